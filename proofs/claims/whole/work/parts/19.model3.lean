theorem fln {a b : Int} (hb : 1 ≤ b) (ha : a < 0) : (b - 1 - a).tdiv b = -(a / b) := by
  rw [Int.tdiv_eq_ediv_of_nonneg (by omega)]
  have h1 := Int.mul_ediv_add_emod a b
  have h2 := Int.emod_nonneg a (show b ≠ 0 by omega)
  have h3 := Int.emod_lt_of_pos a (show 0 < b by omega)
  have e : b - 1 - a = (b - 1 - a % b) + b * (-(a / b)) := by rw [Int.mul_neg]; omega
  rw [e, Int.add_mul_ediv_left _ _ (show b ≠ 0 by omega), Int.ediv_eq_zero_of_lt (by omega) (by omega)]
  omega
set_option maxRecDepth 100000 in
theorem hiX6_make_6 : ∀ w ∈ wsX60, w ∈ wsX6_make := by decide +kernel
set_option maxRecDepth 100000 in
theorem hfX6_make_92 : Cond.fieldLink RX6 92 "KeyGuessModel" "cost" "I" ∈ wsX6_make := by decide +kernel
set_option maxHeartbeats 4000000 in
set_option maxRecDepth 100000 in
/-- make -/
theorem ctX6_make (l : Launch) (g : xG) (o : Nat) (d1 : Nat) (d2 : Nat) (d3 : Nat) (d4 : Nat) (d5 : Nat) (d6 : Nat) (d7 : Nat) (d8 : Nat) (d9 : Nat) (da : Nat) (db : Nat) (dc : Nat) (dd : Nat) (de : Nat) (rn : Int) (e : Int) (nc : Int) (oc : Int) (co : Int) (un : Int) (kn : Int) (lU : Int) (lB : Int) (vn : Int) (lk : Int) (rf : Int → Int) (nw : Int → Int) (ol : Int → Int) (bt : Int → Bool) (uf : Int → Int) (kf : Int → Int) (re : Int → Int) (fw : Int → Int) (pm : Int → Int) (fs : Int → Int) (la : Int → Int) (fk : Int → Int) (us : Int → Int) (bs : Int → Int) (nn : Int) (nf : Int → Int) (hno : NO nn nf rn rf nc nw oc ol) (he : 0 ≤ e ∧ e ≤ 8) : Ct l g yX6_make wsX6_make ({ frames := 6, cells := 0, slots := 0, locals := 144 } : Room) 0 0 [(o, ob 6 [jv rn, .ref d1, jv e, jv nc, .ref d2, jv oc, .ref d3, jv co, .ref d4, jv un, .ref d5, jv kn, .ref d6, .ref d7, .ref d8, Jv lU, Jv lB, jv vn, .ref d9, .ref da, .ref db, .ref dc, .ref dd, .ref de, jv lk]), (d1, ai g 61 rf), (d2, ai g 9 nw), (d3, ai g 9 ol), (d4, az g 64 bt), (d5, ai g 70 uf), (d6, ai g 70 kf), (d7, ai g 70 re), (d8, ai g 71 fw), (d9, ai g 10 pm), (da, ai g 600 fs), (db, ai g 600 la), (dc, ai g 600 fk), (dd, al g 600 us), (de, al g 600 bs)] [.ref o] (fun rV rU => ∃ (km : Int) (v : Int) (uu : Int) (ub : Int) (r1 : Int → Int) (f' : Int → Int) (kg : Int → Int) (re' : Int → Int) (fw' : Int → Int) (pm' : Int → Int) (g0 : Int → Int) (g1 : Int → Int) (g2 : Int → Int) (g3 : Int → Int) (g4 : Int → Int) (bt' : Int → Bool), rV = some (jv (co + nn)) ∧ rU = [(o, ob 6 [jv nn, .ref d1, jv e, jv 0, .ref d2, jv 0, .ref d3, jv (co + nn), .ref d4, jv nn, .ref d5, jv km, .ref d6, .ref d7, .ref d8, Jv uu, Jv ub, jv v, .ref d9, .ref da, .ref db, .ref dc, .ref dd, .ref de, jv lk]), (d1, ai g 61 r1), (d2, ai g 9 nw), (d3, ai g 9 ol), (d4, az g 64 bt'), (d5, ai g 70 f'), (d6, ai g 70 kg), (d7, ai g 70 re'), (d8, ai g 71 fw'), (d9, ai g 10 pm'), (da, ai g 600 g0), (db, ai g 600 g1), (dc, ai g 600 g2), (dd, al g 600 g3), (de, al g 600 g4)] ∧ (Agr nn f' nf ∧ Agr nn r1 nf ∧ LvM nf e nn v pm' g0 g1 g2 g3 g4 ∧ ∀ j : Int, 0 ≤ j → j < 64 → bt' j = mkB nf nn.toNat j)) := by
  refine ct_of (cc := cX6_make) (nL := 1) (ret := (some .int)) (by decide) rfl (Nat.le_of_ble_eq_true rfl) ?_
  intro E C Rt0
  have C : Cx l g E ({ frames := 6, cells := 0, slots := 0, locals := 144 } : Room) RX6 "make" cX6_make wsX6_make 1 := C
  show X l g E ({ frames := 6, cells := 0, slots := 0, locals := 144 } : Room) 1 [(o, ob 6 [jv rn, .ref d1, jv e, jv nc, .ref d2, jv oc, .ref d3, jv co, .ref d4, jv un, .ref d5, jv kn, .ref d6, .ref d7, .ref d8, Jv lU, Jv lB, jv vn, .ref d9, .ref da, .ref db, .ref dc, .ref dd, .ref de, jv lk]), (d1, ai g 61 rf), (d2, ai g 9 nw), (d3, ai g 9 ol), (d4, az g 64 bt), (d5, ai g 70 uf), (d6, ai g 70 kf), (d7, ai g 70 re), (d8, ai g 71 fw), (d9, ai g 10 pm), (da, ai g 600 fs), (db, ai g 600 la), (dc, ai g 600 fk), (dd, al g 600 us), (de, al g 600 bs)] 0 0 [(0, .ref o)] 0 []
  refine x_aload_n (pc := 0) C 0 dX6_make_0 rfl ?_
  refine x_callV (pc := 1) C (n := 0) (q0 := 0) (rest := []) (wr := []) [0, 1, 2, 3, 4, 5, 6, 7, 8, 9, 10, 11, 12, 13, 14] [] (ctX6_makeRow l g o d1 d2 d3 d4 d5 d6 d7 d8 d9 da db dc dd de rn e nc oc co un kn lU lB vn lk rf nw ol bt uf kf re fw pm fs la fk us bs nn nf hno he) gX6_make_X6_makeRow rfl ⟨rfl, rfl⟩ (by decide +kernel) ⟨by decide, by decide⟩ rfl rfl rfl rfl rfl (by decide) (by decide) (by decide) rfl (Nat.le_of_ble_eq_true rfl) dX6_make_1 ⟨by decide, by decide⟩ (fun v_1 u_1 h_1 => ?_)
  rcases h_1 with ⟨km, v, uu, ub, r1, f', kg, re', fw', pm', g0, g1, g2, g3, g4, bt', rfl, rfl, f_1⟩
  refine x_world (ws' := [(o, ob 6 [jv nn, .ref d1, jv e, jv 0, .ref d2, jv 0, .ref d3, jv (co + nn), .ref d4, jv nn, .ref d5, jv km, .ref d6, .ref d7, .ref d8, Jv uu, Jv ub, jv v, .ref d9, .ref da, .ref db, .ref dc, .ref dd, .ref de, jv lk]), (d1, ai g 61 r1), (d2, ai g 9 nw), (d3, ai g 9 ol), (d4, az g 64 bt'), (d5, ai g 70 f'), (d6, ai g 70 kg), (d7, ai g 70 re'), (d8, ai g 71 fw'), (d9, ai g 10 pm'), (da, ai g 600 g0), (db, ai g 600 g1), (dc, ai g 600 g2), (dd, al g 600 g3), (de, al g 600 g4)]) [0, 1, 2, 3, 4, 5, 6, 7, 8, 9, 10, 11, 12, 13, 14] (by decide) rfl ?_
  show X l g E ({ frames := 6, cells := 0, slots := 0, locals := 144 } : Room) 1 [(o, ob 6 [jv nn, .ref d1, jv e, jv 0, .ref d2, jv 0, .ref d3, jv (co + nn), .ref d4, jv nn, .ref d5, jv km, .ref d6, .ref d7, .ref d8, Jv uu, Jv ub, jv v, .ref d9, .ref da, .ref db, .ref dc, .ref dd, .ref de, jv lk]), (d1, ai g 61 r1), (d2, ai g 9 nw), (d3, ai g 9 ol), (d4, az g 64 bt'), (d5, ai g 70 f'), (d6, ai g 70 kg), (d7, ai g 70 re'), (d8, ai g 71 fw'), (d9, ai g 10 pm'), (da, ai g 600 g0), (db, ai g 600 g1), (dc, ai g 600 g2), (dd, al g 600 g3), (de, al g 600 g4)] 0 0 [(0, .ref o)] 4 []
  refine x_aload_n (pc := 4) C 0 dX6_make_4 rfl ?_
  refine x_get (pc := 5) C 0 7 dX6_make_5 hiX6_make_6 hfX6_make_92 rfl rfl rfl (by decide) rfl ?_
  refine x_iret (pc := 8) C Rt0 dX6_make_8 rfl ?_
  refine ⟨_, _, _, _, _, _, _, _, _, _, _, _, _, _, _, _, rfl, rfl, ?_⟩
  exact f_1

set_option maxRecDepth 100000 in
theorem hiX6_slack_6 : ∀ w ∈ wsX60, w ∈ wsX6_slack := by decide +kernel
set_option maxRecDepth 100000 in
theorem hfX6_slack_13 : Cond.fieldLink RX6 13 "KeyGuessModel" "e" "I" ∈ wsX6_slack := by decide +kernel
set_option maxHeartbeats 4000000 in
set_option maxRecDepth 100000 in
/-- slack -/
theorem ctX6_slack (l : Launch) (g : xG) (o : Nat) (d1 : Nat) (d2 : Nat) (d3 : Nat) (d4 : Nat) (d5 : Nat) (d6 : Nat) (d7 : Nat) (d8 : Nat) (d9 : Nat) (da : Nat) (db : Nat) (dc : Nat) (dd : Nat) (de : Nat) (rn : Int) (e : Int) (nc : Int) (oc : Int) (co : Int) (un : Int) (kn : Int) (lU : Int) (lB : Int) (vn : Int) (lk : Int) (rf : Int → Int) (nw : Int → Int) (ol : Int → Int) (bt : Int → Bool) (uf : Int → Int) (kf : Int → Int) (re : Int → Int) (fw : Int → Int) (pm : Int → Int) (fs : Int → Int) (la : Int → Int) (fk : Int → Int) (us : Int → Int) (bs : Int → Int) (nn : Int) (nf : Int → Int) (u : Int) (hno : NO nn nf rn rf nc nw oc ol) (ru : Rg u) : Ct l g yX6_slack wsX6_slack ({ frames := 6, cells := 0, slots := 0, locals := 144 } : Room) 0 0 [(o, ob 6 [jv rn, .ref d1, jv e, jv nc, .ref d2, jv oc, .ref d3, jv co, .ref d4, jv un, .ref d5, jv kn, .ref d6, .ref d7, .ref d8, Jv lU, Jv lB, jv vn, .ref d9, .ref da, .ref db, .ref dc, .ref dd, .ref de, jv lk]), (d1, ai g 61 rf), (d2, ai g 9 nw), (d3, ai g 9 ol), (d4, az g 64 bt), (d5, ai g 70 uf), (d6, ai g 70 kf), (d7, ai g 70 re), (d8, ai g 71 fw), (d9, ai g 10 pm), (da, ai g 600 fs), (db, ai g 600 la), (dc, ai g 600 fk), (dd, al g 600 us), (de, al g 600 bs)] [.ref o, jv u] (fun rV rU => (rV = some (jv (-2)) ∧ rU = [(o, ob 6 [jv rn, .ref d1, jv e, jv nc, .ref d2, jv oc, .ref d3, jv co, .ref d4, jv un, .ref d5, jv kn, .ref d6, .ref d7, .ref d8, Jv lU, Jv lB, jv vn, .ref d9, .ref da, .ref db, .ref dc, .ref dd, .ref de, jv lk]), (d1, ai g 61 rf), (d2, ai g 9 nw), (d3, ai g 9 ol), (d4, az g 64 bt), (d5, ai g 70 uf), (d6, ai g 70 kf), (d7, ai g 70 re), (d8, ai g 71 fw), (d9, ai g 10 pm), (da, ai g 600 fs), (db, ai g 600 la), (dc, ai g 600 fk), (dd, al g 600 us), (de, al g 600 bs)] ∧ (u < 0 ∨ 8 < u)) ∨ (∃ (km : Int) (v : Int) (uu : Int) (ub : Int) (r1 : Int → Int) (f' : Int → Int) (kg : Int → Int) (re' : Int → Int) (fw' : Int → Int) (pm' : Int → Int) (g0 : Int → Int) (g1 : Int → Int) (g2 : Int → Int) (g3 : Int → Int) (g4 : Int → Int) (bt' : Int → Bool), rV = some (jv e) ∧ rU = [(o, ob 6 [jv nn, .ref d1, jv u, jv 0, .ref d2, jv 0, .ref d3, jv (co + nn), .ref d4, jv nn, .ref d5, jv km, .ref d6, .ref d7, .ref d8, Jv uu, Jv ub, jv v, .ref d9, .ref da, .ref db, .ref dc, .ref dd, .ref de, jv lk]), (d1, ai g 61 r1), (d2, ai g 9 nw), (d3, ai g 9 ol), (d4, az g 64 bt'), (d5, ai g 70 f'), (d6, ai g 70 kg), (d7, ai g 70 re'), (d8, ai g 71 fw'), (d9, ai g 10 pm'), (da, ai g 600 g0), (db, ai g 600 g1), (dc, ai g 600 g2), (dd, al g 600 g3), (de, al g 600 g4)] ∧ (0 ≤ u ∧ u ≤ 8 ∧ Agr nn f' nf ∧ Agr nn r1 nf ∧ LvM nf u nn v pm' g0 g1 g2 g3 g4 ∧ ∀ j : Int, 0 ≤ j → j < 64 → bt' j = mkB nf nn.toNat j))) := by
  refine ct_of (cc := cX6_slack) (nL := 3) (ret := (some .int)) (by decide) rfl (Nat.le_of_ble_eq_true rfl) ?_
  intro E C Rt0
  have C : Cx l g E ({ frames := 6, cells := 0, slots := 0, locals := 144 } : Room) RX6 "slack" cX6_slack wsX6_slack 3 := C
  show X l g E ({ frames := 6, cells := 0, slots := 0, locals := 144 } : Room) 3 [(o, ob 6 [jv rn, .ref d1, jv e, jv nc, .ref d2, jv oc, .ref d3, jv co, .ref d4, jv un, .ref d5, jv kn, .ref d6, .ref d7, .ref d8, Jv lU, Jv lB, jv vn, .ref d9, .ref da, .ref db, .ref dc, .ref dd, .ref de, jv lk]), (d1, ai g 61 rf), (d2, ai g 9 nw), (d3, ai g 9 ol), (d4, az g 64 bt), (d5, ai g 70 uf), (d6, ai g 70 kf), (d7, ai g 70 re), (d8, ai g 71 fw), (d9, ai g 10 pm), (da, ai g 600 fs), (db, ai g 600 la), (dc, ai g 600 fk), (dd, al g 600 us), (de, al g 600 bs)] 0 0 [(0, .ref o), (1, jv u)] 0 []
  refine x_iload_n (pc := 0) C 1 dX6_slack_0 rfl ?_
  refine x_iconst (pc := 1) C dX6_slack_1 ?_
  refine x_bipush (pc := 2) C dX6_slack_2 rfl ?_
  refine x_callS (pc := 4) C (n := 3) (rest := []) (wr := [(o, ob 6 [jv rn, .ref d1, jv e, jv nc, .ref d2, jv oc, .ref d3, jv co, .ref d4, jv un, .ref d5, jv kn, .ref d6, .ref d7, .ref d8, Jv lU, Jv lB, jv vn, .ref d9, .ref da, .ref db, .ref dc, .ref dd, .ref de, jv lk]), (d1, ai g 61 rf), (d2, ai g 9 nw), (d3, ai g 9 ol), (d4, az g 64 bt), (d5, ai g 70 uf), (d6, ai g 70 kf), (d7, ai g 70 re), (d8, ai g 71 fw), (d9, ai g 10 pm), (da, ai g 600 fs), (db, ai g 600 la), (dc, ai g 600 fk), (dd, al g 600 us), (de, al g 600 bs)]) [] [0, 1, 2, 3, 4, 5, 6, 7, 8, 9, 10, 11, 12, 13, 14] (ctX6_in l g u 0 8 ru ⟨by omega, by omega⟩ ⟨by omega, by omega⟩) gX6_slack_X6_in rfl (by decide +kernel) ⟨rfl, rfl⟩ ⟨by decide, by decide⟩ rfl rfl rfl (by decide) (by decide) (by decide) rfl (Nat.le_of_ble_eq_true rfl) dX6_slack_4 ⟨by decide, by decide⟩ (fun v_4 u_4 h_4 => ?_)
  rcases h_4 with ⟨rfl, rfl, f_4⟩ | ⟨rfl, rfl, f_4⟩
  · refine x_world (ws' := [(o, ob 6 [jv rn, .ref d1, jv e, jv nc, .ref d2, jv oc, .ref d3, jv co, .ref d4, jv un, .ref d5, jv kn, .ref d6, .ref d7, .ref d8, Jv lU, Jv lB, jv vn, .ref d9, .ref da, .ref db, .ref dc, .ref dd, .ref de, jv lk]), (d1, ai g 61 rf), (d2, ai g 9 nw), (d3, ai g 9 ol), (d4, az g 64 bt), (d5, ai g 70 uf), (d6, ai g 70 kf), (d7, ai g 70 re), (d8, ai g 71 fw), (d9, ai g 10 pm), (da, ai g 600 fs), (db, ai g 600 la), (dc, ai g 600 fk), (dd, al g 600 us), (de, al g 600 bs)]) [0, 1, 2, 3, 4, 5, 6, 7, 8, 9, 10, 11, 12, 13, 14] (by decide) rfl ?_
    show X l g E ({ frames := 6, cells := 0, slots := 0, locals := 144 } : Room) 3 [(o, ob 6 [jv rn, .ref d1, jv e, jv nc, .ref d2, jv oc, .ref d3, jv co, .ref d4, jv un, .ref d5, jv kn, .ref d6, .ref d7, .ref d8, Jv lU, Jv lB, jv vn, .ref d9, .ref da, .ref db, .ref dc, .ref dd, .ref de, jv lk]), (d1, ai g 61 rf), (d2, ai g 9 nw), (d3, ai g 9 ol), (d4, az g 64 bt), (d5, ai g 70 uf), (d6, ai g 70 kf), (d7, ai g 70 re), (d8, ai g 71 fw), (d9, ai g 10 pm), (da, ai g 600 fs), (db, ai g 600 la), (dc, ai g 600 fk), (dd, al g 600 us), (de, al g 600 bs)] 0 0 [(0, .ref o), (1, jv u)] 7 [jv 1]
    refine x_if_ne (pc := 7) C 13 dX6_slack_7 rfl ⟨by decide, by decide⟩ (fun _ => ?_) (fun h => absurd h (by decide))
    refine x_aload_n (pc := 13) C 0 dX6_slack_13 rfl ?_
    refine x_get (pc := 14) C 0 2 dX6_slack_14 hiX6_slack_6 hfX6_slack_13 rfl rfl rfl (by decide) rfl ?_
    refine x_istore_n (pc := 17) C (lv' := [(2, jv e), (0, .ref o), (1, jv u)]) dX6_slack_17 (by decide) rfl ?_
    refine x_aload_n (pc := 18) C 1 dX6_slack_18 rfl ?_
    refine x_iload_n (pc := 19) C 2 dX6_slack_19 rfl ?_
    refine x_put (pc := 20) C (ty := .int) (ws' := [(o, ob 6 [jv rn, .ref d1, jv u, jv nc, .ref d2, jv oc, .ref d3, jv co, .ref d4, jv un, .ref d5, jv kn, .ref d6, .ref d7, .ref d8, Jv lU, Jv lB, jv vn, .ref d9, .ref da, .ref db, .ref dc, .ref dd, .ref de, jv lk]), (d1, ai g 61 rf), (d2, ai g 9 nw), (d3, ai g 9 ol), (d4, az g 64 bt), (d5, ai g 70 uf), (d6, ai g 70 kf), (d7, ai g 70 re), (d8, ai g 71 fw), (d9, ai g 10 pm), (da, ai g 600 fs), (db, ai g 600 la), (dc, ai g 600 fk), (dd, al g 600 us), (de, al g 600 bs)]) tyX6 0 2 dX6_slack_20 hiX6_slack_6 tyX6_ok nmX6 hfX6_slack_13 rfl rfl rfl (by decide) rfl (by decide +kernel) rfl rfl (Nat.le_of_ble_eq_true rfl) rfl ?_
    refine x_aload_n (pc := 23) C 1 dX6_slack_23 rfl ?_
    refine x_callV (pc := 24) C (n := 0) (q0 := 0) (rest := []) (wr := []) [0, 1, 2, 3, 4, 5, 6, 7, 8, 9, 10, 11, 12, 13, 14] [] (ctX6_makeRow l g o d1 d2 d3 d4 d5 d6 d7 d8 d9 da db dc dd de rn u nc oc co un kn lU lB vn lk rf nw ol bt uf kf re fw pm fs la fk us bs nn nf hno ⟨by omega, by omega⟩) gX6_slack_X6_makeRow rfl ⟨rfl, rfl⟩ (by decide +kernel) ⟨by decide, by decide⟩ rfl rfl rfl rfl rfl (by decide) (by decide) (by decide) rfl (Nat.le_of_ble_eq_true rfl) dX6_slack_24 ⟨by decide, by decide⟩ (fun v_24 u_24 h_24 => ?_)
    rcases h_24 with ⟨km, v, uu, ub, r1, f', kg, re', fw', pm', g0, g1, g2, g3, g4, bt', rfl, rfl, f_24⟩
    refine x_world (ws' := [(o, ob 6 [jv nn, .ref d1, jv u, jv 0, .ref d2, jv 0, .ref d3, jv (co + nn), .ref d4, jv nn, .ref d5, jv km, .ref d6, .ref d7, .ref d8, Jv uu, Jv ub, jv v, .ref d9, .ref da, .ref db, .ref dc, .ref dd, .ref de, jv lk]), (d1, ai g 61 r1), (d2, ai g 9 nw), (d3, ai g 9 ol), (d4, az g 64 bt'), (d5, ai g 70 f'), (d6, ai g 70 kg), (d7, ai g 70 re'), (d8, ai g 71 fw'), (d9, ai g 10 pm'), (da, ai g 600 g0), (db, ai g 600 g1), (dc, ai g 600 g2), (dd, al g 600 g3), (de, al g 600 g4)]) [0, 1, 2, 3, 4, 5, 6, 7, 8, 9, 10, 11, 12, 13, 14] (by decide) rfl ?_
    show X l g E ({ frames := 6, cells := 0, slots := 0, locals := 144 } : Room) 3 [(o, ob 6 [jv nn, .ref d1, jv u, jv 0, .ref d2, jv 0, .ref d3, jv (co + nn), .ref d4, jv nn, .ref d5, jv km, .ref d6, .ref d7, .ref d8, Jv uu, Jv ub, jv v, .ref d9, .ref da, .ref db, .ref dc, .ref dd, .ref de, jv lk]), (d1, ai g 61 r1), (d2, ai g 9 nw), (d3, ai g 9 ol), (d4, az g 64 bt'), (d5, ai g 70 f'), (d6, ai g 70 kg), (d7, ai g 70 re'), (d8, ai g 71 fw'), (d9, ai g 10 pm'), (da, ai g 600 g0), (db, ai g 600 g1), (dc, ai g 600 g2), (dd, al g 600 g3), (de, al g 600 g4)] 0 0 [(2, jv e), (0, .ref o), (1, jv u)] 27 []
    refine x_iload_n (pc := 27) C 0 dX6_slack_27 rfl ?_
    refine x_iret (pc := 28) C Rt0 dX6_slack_28 rfl ?_
    refine Or.inr (⟨_, _, _, _, _, _, _, _, _, _, _, _, _, _, _, _, rfl, rfl, ?_⟩)
    exact ⟨by omega, by omega, f_24⟩
  · refine x_world (ws' := [(o, ob 6 [jv rn, .ref d1, jv e, jv nc, .ref d2, jv oc, .ref d3, jv co, .ref d4, jv un, .ref d5, jv kn, .ref d6, .ref d7, .ref d8, Jv lU, Jv lB, jv vn, .ref d9, .ref da, .ref db, .ref dc, .ref dd, .ref de, jv lk]), (d1, ai g 61 rf), (d2, ai g 9 nw), (d3, ai g 9 ol), (d4, az g 64 bt), (d5, ai g 70 uf), (d6, ai g 70 kf), (d7, ai g 70 re), (d8, ai g 71 fw), (d9, ai g 10 pm), (da, ai g 600 fs), (db, ai g 600 la), (dc, ai g 600 fk), (dd, al g 600 us), (de, al g 600 bs)]) [0, 1, 2, 3, 4, 5, 6, 7, 8, 9, 10, 11, 12, 13, 14] (by decide) rfl ?_
    show X l g E ({ frames := 6, cells := 0, slots := 0, locals := 144 } : Room) 3 [(o, ob 6 [jv rn, .ref d1, jv e, jv nc, .ref d2, jv oc, .ref d3, jv co, .ref d4, jv un, .ref d5, jv kn, .ref d6, .ref d7, .ref d8, Jv lU, Jv lB, jv vn, .ref d9, .ref da, .ref db, .ref dc, .ref dd, .ref de, jv lk]), (d1, ai g 61 rf), (d2, ai g 9 nw), (d3, ai g 9 ol), (d4, az g 64 bt), (d5, ai g 70 uf), (d6, ai g 70 kf), (d7, ai g 70 re), (d8, ai g 71 fw), (d9, ai g 10 pm), (da, ai g 600 fs), (db, ai g 600 la), (dc, ai g 600 fk), (dd, al g 600 us), (de, al g 600 bs)] 0 0 [(0, .ref o), (1, jv u)] 7 [jv 0]
    refine x_if_ne (pc := 7) C 13 dX6_slack_7 rfl ⟨by decide, by decide⟩ (fun h => absurd h (by decide)) (fun _ => ?_)
    refine x_bipush (pc := 10) C dX6_slack_10 rfl ?_
    refine x_iret (pc := 12) C Rt0 dX6_slack_12 rfl ?_
    refine Or.inl ⟨rfl, rfl, ?_⟩
    omega

set_option maxRecDepth 100000 in
theorem hiX6_put_6 : ∀ w ∈ wsX60, w ∈ wsX6_put := by decide +kernel
set_option maxRecDepth 100000 in
theorem hfX6_put_66 : Cond.fieldLink RX6 66 "KeyGuessModel" "nowMany" "I" ∈ wsX6_put := by decide +kernel
set_option maxRecDepth 100000 in
theorem hfX6_put_20 : Cond.fieldLink RX6 20 "KeyGuessModel" "olds" "[I" ∈ wsX6_put := by decide +kernel
set_option maxRecDepth 100000 in
theorem hfX6_put_72 : Cond.fieldLink RX6 72 "KeyGuessModel" "oldMany" "I" ∈ wsX6_put := by decide +kernel
set_option maxRecDepth 100000 in
theorem hfX6_put_83 : Cond.fieldLink RX6 83 "KeyGuessModel" "newMany" "I" ∈ wsX6_put := by decide +kernel
set_option maxRecDepth 100000 in
theorem hfX6_put_17 : Cond.fieldLink RX6 17 "KeyGuessModel" "news" "[I" ∈ wsX6_put := by decide +kernel
set_option maxHeartbeats 4000000 in
set_option maxRecDepth 100000 in
/-- put -/
theorem ctX6_put (l : Launch) (g : xG) (o : Nat) (d1 : Nat) (d2 : Nat) (d3 : Nat) (d4 : Nat) (d5 : Nat) (d6 : Nat) (d7 : Nat) (d8 : Nat) (d9 : Nat) (da : Nat) (db : Nat) (dc : Nat) (dd : Nat) (de : Nat) (rn : Int) (e : Int) (nc : Int) (oc : Int) (co : Int) (un : Int) (kn : Int) (lU : Int) (lB : Int) (vn : Int) (lk : Int) (rf : Int → Int) (nw : Int → Int) (ol : Int → Int) (bt : Int → Bool) (uf : Int → Int) (kf : Int → Int) (re : Int → Int) (fw : Int → Int) (pm : Int → Int) (fs : Int → Int) (la : Int → Int) (fk : Int → Int) (us : Int → Int) (bs : Int → Int) (nn : Int) (nf : Int → Int) (u : Int) (hno : NO nn nf rn rf nc nw oc ol) (he : 0 ≤ e ∧ e ≤ 8) (ru : Rg u) : Ct l g yX6_put wsX6_put ({ frames := 6, cells := 0, slots := 0, locals := 144 } : Room) 0 0 [(o, ob 6 [jv rn, .ref d1, jv e, jv nc, .ref d2, jv oc, .ref d3, jv co, .ref d4, jv un, .ref d5, jv kn, .ref d6, .ref d7, .ref d8, Jv lU, Jv lB, jv vn, .ref d9, .ref da, .ref db, .ref dc, .ref dd, .ref de, jv lk]), (d1, ai g 61 rf), (d2, ai g 9 nw), (d3, ai g 9 ol), (d4, az g 64 bt), (d5, ai g 70 uf), (d6, ai g 70 kf), (d7, ai g 70 re), (d8, ai g 71 fw), (d9, ai g 10 pm), (da, ai g 600 fs), (db, ai g 600 la), (dc, ai g 600 fk), (dd, al g 600 us), (de, al g 600 bs)] [.ref o, jv u] (fun rV rU => (rV = some (jv (-2)) ∧ rU = [(o, ob 6 [jv rn, .ref d1, jv e, jv nc, .ref d2, jv oc, .ref d3, jv co, .ref d4, jv un, .ref d5, jv kn, .ref d6, .ref d7, .ref d8, Jv lU, Jv lB, jv vn, .ref d9, .ref da, .ref db, .ref dc, .ref dd, .ref de, jv lk]), (d1, ai g 61 rf), (d2, ai g 9 nw), (d3, ai g 9 ol), (d4, az g 64 bt), (d5, ai g 70 uf), (d6, ai g 70 kf), (d7, ai g 70 re), (d8, ai g 71 fw), (d9, ai g 10 pm), (da, ai g 600 fs), (db, ai g 600 la), (dc, ai g 600 fk), (dd, al g 600 us), (de, al g 600 bs)] ∧ (u < 0 ∨ 1000000 < u)) ∨ (∃ (f1 : Int → Int), rV = some (jv (-3)) ∧ rU = [(o, ob 6 [jv rn, .ref d1, jv e, jv nc, .ref d2, jv oc, .ref d3, jv co, .ref d4, jv nn, .ref d5, jv kn, .ref d6, .ref d7, .ref d8, Jv lU, Jv lB, jv vn, .ref d9, .ref da, .ref db, .ref dc, .ref dd, .ref de, jv lk]), (d1, ai g 61 rf), (d2, ai g 9 nw), (d3, ai g 9 ol), (d4, az g 64 bt), (d5, ai g 70 f1), (d6, ai g 70 kf), (d7, ai g 70 re), (d8, ai g 71 fw), (d9, ai g 10 pm), (da, ai g 600 fs), (db, ai g 600 la), (dc, ai g 600 fk), (dd, al g 600 us), (de, al g 600 bs)] ∧ (0 ≤ u ∧ u ≤ 1000000 ∧ Inr nn nf u)) ∨ (∃ (f1 : Int → Int), rV = some (jv (-4)) ∧ rU = [(o, ob 6 [jv rn, .ref d1, jv e, jv nc, .ref d2, jv oc, .ref d3, jv co, .ref d4, jv nn, .ref d5, jv kn, .ref d6, .ref d7, .ref d8, Jv lU, Jv lB, jv vn, .ref d9, .ref da, .ref db, .ref dc, .ref dd, .ref de, jv lk]), (d1, ai g 61 rf), (d2, ai g 9 nw), (d3, ai g 9 ol), (d4, az g 64 bt), (d5, ai g 70 f1), (d6, ai g 70 kf), (d7, ai g 70 re), (d8, ai g 71 fw), (d9, ai g 10 pm), (da, ai g 600 fs), (db, ai g 600 la), (dc, ai g 600 fk), (dd, al g 600 us), (de, al g 600 bs)] ∧ (0 ≤ u ∧ u ≤ 1000000 ∧ ¬ Inr nn nf u ∧ nn = 60)) ∨ (∃ (f1 : Int → Int) (ol' : Int → Int), rV = some (jv (nn + 1)) ∧ rU = [(o, ob 6 [jv rn, .ref d1, jv e, jv nc, .ref d2, jv (oc - 1), .ref d3, jv co, .ref d4, jv (nn + 1), .ref d5, jv kn, .ref d6, .ref d7, .ref d8, Jv lU, Jv lB, jv vn, .ref d9, .ref da, .ref db, .ref dc, .ref dd, .ref de, jv lk]), (d1, ai g 61 rf), (d2, ai g 9 nw), (d3, ai g 9 ol'), (d4, az g 64 (setB bt u)), (d5, ai g 70 f1), (d6, ai g 70 kf), (d7, ai g 70 re), (d8, ai g 71 fw), (d9, ai g 10 pm), (da, ai g 600 fs), (db, ai g 600 la), (dc, ai g 600 fk), (dd, al g 600 us), (de, al g 600 bs)] ∧ (0 ≤ u ∧ u ≤ 1000000 ∧ ¬ Inr nn nf u ∧ nn < 60 ∧ Inr rn rf u ∧ NO (nn + 1) (insF nf u (belC nn nf u)) rn rf nc nw (oc - 1) ol')) ∨ (∃ (f1 : Int → Int) (nw' : Int → Int), rV = some (jv (nn + 1)) ∧ rU = [(o, ob 6 [jv rn, .ref d1, jv e, jv (nc + 1), .ref d2, jv oc, .ref d3, jv co, .ref d4, jv (nn + 1), .ref d5, jv kn, .ref d6, .ref d7, .ref d8, Jv lU, Jv lB, jv vn, .ref d9, .ref da, .ref db, .ref dc, .ref dd, .ref de, jv lk]), (d1, ai g 61 rf), (d2, ai g 9 nw'), (d3, ai g 9 ol), (d4, az g 64 (setB bt u)), (d5, ai g 70 f1), (d6, ai g 70 kf), (d7, ai g 70 re), (d8, ai g 71 fw), (d9, ai g 10 pm), (da, ai g 600 fs), (db, ai g 600 la), (dc, ai g 600 fk), (dd, al g 600 us), (de, al g 600 bs)] ∧ (0 ≤ u ∧ u ≤ 1000000 ∧ ¬ Inr nn nf u ∧ nn < 60 ∧ ¬ Inr rn rf u ∧ nc + oc < 8 ∧ NO (nn + 1) (insF nf u (belC nn nf u)) rn rf (nc + 1) nw' oc ol)) ∨ (∃ (f2 : Int → Int) (nw' : Int → Int) (km : Int) (v : Int) (uu : Int) (ub : Int) (r1 : Int → Int) (kg : Int → Int) (re' : Int → Int) (fw' : Int → Int) (pm' : Int → Int) (g0 : Int → Int) (g1 : Int → Int) (g2 : Int → Int) (g3 : Int → Int) (g4 : Int → Int) (bt' : Int → Bool), rV = some (jv (nn + 1)) ∧ rU = [(o, ob 6 [jv nn, .ref d1, jv e, jv (0 + 1), .ref d2, jv 0, .ref d3, jv (co + nn), .ref d4, jv (nn + 1), .ref d5, jv km, .ref d6, .ref d7, .ref d8, Jv uu, Jv ub, jv v, .ref d9, .ref da, .ref db, .ref dc, .ref dd, .ref de, jv lk]), (d1, ai g 61 r1), (d2, ai g 9 nw'), (d3, ai g 9 ol), (d4, az g 64 (setB bt' u)), (d5, ai g 70 f2), (d6, ai g 70 kg), (d7, ai g 70 re'), (d8, ai g 71 fw'), (d9, ai g 10 pm'), (da, ai g 600 g0), (db, ai g 600 g1), (dc, ai g 600 g2), (dd, al g 600 g3), (de, al g 600 g4)] ∧ (0 ≤ u ∧ u ≤ 1000000 ∧ ¬ Inr nn nf u ∧ nn < 60 ∧ ¬ Inr rn rf u ∧ nc + oc = 8 ∧ NO (nn + 1) (insF nf u (belC nn nf u)) nn r1 (0 + 1) nw' 0 ol ∧ Agr nn r1 nf ∧ LvM nf e nn v pm' g0 g1 g2 g3 g4 ∧ ∀ j : Int, 0 ≤ j → j < 64 → bt' j = mkB nf nn.toNat j))) := by
  refine ct_of (cc := cX6_put) (nL := 3) (ret := (some .int)) (by decide) rfl (Nat.le_of_ble_eq_true rfl) ?_
  intro E C Rt0
  have C : Cx l g E ({ frames := 6, cells := 0, slots := 0, locals := 144 } : Room) RX6 "put" cX6_put wsX6_put 3 := C
  show X l g E ({ frames := 6, cells := 0, slots := 0, locals := 144 } : Room) 3 [(o, ob 6 [jv rn, .ref d1, jv e, jv nc, .ref d2, jv oc, .ref d3, jv co, .ref d4, jv un, .ref d5, jv kn, .ref d6, .ref d7, .ref d8, Jv lU, Jv lB, jv vn, .ref d9, .ref da, .ref db, .ref dc, .ref dd, .ref de, jv lk]), (d1, ai g 61 rf), (d2, ai g 9 nw), (d3, ai g 9 ol), (d4, az g 64 bt), (d5, ai g 70 uf), (d6, ai g 70 kf), (d7, ai g 70 re), (d8, ai g 71 fw), (d9, ai g 10 pm), (da, ai g 600 fs), (db, ai g 600 la), (dc, ai g 600 fk), (dd, al g 600 us), (de, al g 600 bs)] 0 0 [(0, .ref o), (1, jv u)] 0 []
  have n1 := hno.1
  have nn0 := n1.1
  have nn1 := n1.2.1
  have hc := hno.2.2.1
  have hol := hno.2.2.2.2.1
  refine x_iload_n (pc := 0) C 1 dX6_put_0 rfl ?_
  refine x_callS (pc := 1) C (n := 1) (rest := []) (wr := [(o, ob 6 [jv rn, .ref d1, jv e, jv nc, .ref d2, jv oc, .ref d3, jv co, .ref d4, jv un, .ref d5, jv kn, .ref d6, .ref d7, .ref d8, Jv lU, Jv lB, jv vn, .ref d9, .ref da, .ref db, .ref dc, .ref dd, .ref de, jv lk]), (d1, ai g 61 rf), (d2, ai g 9 nw), (d3, ai g 9 ol), (d4, az g 64 bt), (d5, ai g 70 uf), (d6, ai g 70 kf), (d7, ai g 70 re), (d8, ai g 71 fw), (d9, ai g 10 pm), (da, ai g 600 fs), (db, ai g 600 la), (dc, ai g 600 fk), (dd, al g 600 us), (de, al g 600 bs)]) [] [0, 1, 2, 3, 4, 5, 6, 7, 8, 9, 10, 11, 12, 13, 14] (ctX6_isNumber l g u ru) gX6_put_X6_isNumber rfl (by decide +kernel) ⟨rfl, rfl⟩ ⟨by decide, by decide⟩ rfl rfl rfl (by decide) (by decide) (by decide) rfl (Nat.le_of_ble_eq_true rfl) dX6_put_1 ⟨by decide, by decide⟩ (fun v_1 u_1 h_1 => ?_)
  rcases h_1 with ⟨rfl, rfl, f_1⟩ | ⟨rfl, rfl, f_1⟩
  · refine x_world (ws' := [(o, ob 6 [jv rn, .ref d1, jv e, jv nc, .ref d2, jv oc, .ref d3, jv co, .ref d4, jv un, .ref d5, jv kn, .ref d6, .ref d7, .ref d8, Jv lU, Jv lB, jv vn, .ref d9, .ref da, .ref db, .ref dc, .ref dd, .ref de, jv lk]), (d1, ai g 61 rf), (d2, ai g 9 nw), (d3, ai g 9 ol), (d4, az g 64 bt), (d5, ai g 70 uf), (d6, ai g 70 kf), (d7, ai g 70 re), (d8, ai g 71 fw), (d9, ai g 10 pm), (da, ai g 600 fs), (db, ai g 600 la), (dc, ai g 600 fk), (dd, al g 600 us), (de, al g 600 bs)]) [0, 1, 2, 3, 4, 5, 6, 7, 8, 9, 10, 11, 12, 13, 14] (by decide) rfl ?_
    show X l g E ({ frames := 6, cells := 0, slots := 0, locals := 144 } : Room) 3 [(o, ob 6 [jv rn, .ref d1, jv e, jv nc, .ref d2, jv oc, .ref d3, jv co, .ref d4, jv un, .ref d5, jv kn, .ref d6, .ref d7, .ref d8, Jv lU, Jv lB, jv vn, .ref d9, .ref da, .ref db, .ref dc, .ref dd, .ref de, jv lk]), (d1, ai g 61 rf), (d2, ai g 9 nw), (d3, ai g 9 ol), (d4, az g 64 bt), (d5, ai g 70 uf), (d6, ai g 70 kf), (d7, ai g 70 re), (d8, ai g 71 fw), (d9, ai g 10 pm), (da, ai g 600 fs), (db, ai g 600 la), (dc, ai g 600 fk), (dd, al g 600 us), (de, al g 600 bs)] 0 0 [(0, .ref o), (1, jv u)] 4 [jv 1]
    refine x_if_ne (pc := 4) C 10 dX6_put_4 rfl ⟨by decide, by decide⟩ (fun _ => ?_) (fun h => absurd h (by decide))
    refine x_aload_n (pc := 10) C 0 dX6_put_10 rfl ?_
    refine x_iload_n (pc := 11) C 1 dX6_put_11 rfl ?_
    refine x_callV (pc := 12) C (n := 1) (q0 := 0) (rest := []) (wr := [(d4, az g 64 bt), (d6, ai g 70 kf), (d7, ai g 70 re), (d8, ai g 71 fw), (d9, ai g 10 pm), (da, ai g 600 fs), (db, ai g 600 la), (dc, ai g 600 fk), (dd, al g 600 us), (de, al g 600 bs)]) [0, 1, 2, 3, 5] [4, 6, 7, 8, 9, 10, 11, 12, 13, 14] (ctX6_isThere l g o d1 d2 d3 d4 d5 d6 d7 d8 d9 da db dc dd de rn e nc oc co un kn lU lB vn lk rf nw ol uf nn nf u hno ru) gX6_put_X6_isThere rfl ⟨rfl, rfl⟩ (by decide +kernel) ⟨by decide, by decide⟩ rfl rfl rfl rfl rfl (by decide) (by decide) (by decide) rfl (Nat.le_of_ble_eq_true rfl) dX6_put_12 ⟨by decide, by decide⟩ (fun v_12 u_12 h_12 => ?_)
    rcases h_12 with ⟨fa, rfl, rfl, f_12⟩ | ⟨fa, rfl, rfl, f_12⟩
    · refine x_world (ws' := [(o, ob 6 [jv rn, .ref d1, jv e, jv nc, .ref d2, jv oc, .ref d3, jv co, .ref d4, jv nn, .ref d5, jv kn, .ref d6, .ref d7, .ref d8, Jv lU, Jv lB, jv vn, .ref d9, .ref da, .ref db, .ref dc, .ref dd, .ref de, jv lk]), (d1, ai g 61 rf), (d2, ai g 9 nw), (d3, ai g 9 ol), (d4, az g 64 bt), (d5, ai g 70 fa), (d6, ai g 70 kf), (d7, ai g 70 re), (d8, ai g 71 fw), (d9, ai g 10 pm), (da, ai g 600 fs), (db, ai g 600 la), (dc, ai g 600 fk), (dd, al g 600 us), (de, al g 600 bs)]) [10, 11, 12, 13, 0, 14, 1, 2, 3, 4, 5, 6, 7, 8, 9] (by decide) rfl ?_
      show X l g E ({ frames := 6, cells := 0, slots := 0, locals := 144 } : Room) 3 [(o, ob 6 [jv rn, .ref d1, jv e, jv nc, .ref d2, jv oc, .ref d3, jv co, .ref d4, jv nn, .ref d5, jv kn, .ref d6, .ref d7, .ref d8, Jv lU, Jv lB, jv vn, .ref d9, .ref da, .ref db, .ref dc, .ref dd, .ref de, jv lk]), (d1, ai g 61 rf), (d2, ai g 9 nw), (d3, ai g 9 ol), (d4, az g 64 bt), (d5, ai g 70 fa), (d6, ai g 70 kf), (d7, ai g 70 re), (d8, ai g 71 fw), (d9, ai g 10 pm), (da, ai g 600 fs), (db, ai g 600 la), (dc, ai g 600 fk), (dd, al g 600 us), (de, al g 600 bs)] 0 0 [(0, .ref o), (1, jv u)] 15 [jv 1]
      refine x_if_eq (pc := 15) C 21 dX6_put_15 rfl ⟨by decide, by decide⟩ (fun h => absurd h (by decide)) (fun _ => ?_)
      refine x_bipush (pc := 18) C dX6_put_18 rfl ?_
      refine x_iret (pc := 20) C Rt0 dX6_put_20 rfl ?_
      refine Or.inr (Or.inl ⟨_, rfl, rfl, ?_⟩)
      exact ⟨by omega, by omega, f_12.1⟩
    · refine x_world (ws' := [(o, ob 6 [jv rn, .ref d1, jv e, jv nc, .ref d2, jv oc, .ref d3, jv co, .ref d4, jv nn, .ref d5, jv kn, .ref d6, .ref d7, .ref d8, Jv lU, Jv lB, jv vn, .ref d9, .ref da, .ref db, .ref dc, .ref dd, .ref de, jv lk]), (d1, ai g 61 rf), (d2, ai g 9 nw), (d3, ai g 9 ol), (d4, az g 64 bt), (d5, ai g 70 fa), (d6, ai g 70 kf), (d7, ai g 70 re), (d8, ai g 71 fw), (d9, ai g 10 pm), (da, ai g 600 fs), (db, ai g 600 la), (dc, ai g 600 fk), (dd, al g 600 us), (de, al g 600 bs)]) [10, 11, 12, 13, 0, 14, 1, 2, 3, 4, 5, 6, 7, 8, 9] (by decide) rfl ?_
      show X l g E ({ frames := 6, cells := 0, slots := 0, locals := 144 } : Room) 3 [(o, ob 6 [jv rn, .ref d1, jv e, jv nc, .ref d2, jv oc, .ref d3, jv co, .ref d4, jv nn, .ref d5, jv kn, .ref d6, .ref d7, .ref d8, Jv lU, Jv lB, jv vn, .ref d9, .ref da, .ref db, .ref dc, .ref dd, .ref de, jv lk]), (d1, ai g 61 rf), (d2, ai g 9 nw), (d3, ai g 9 ol), (d4, az g 64 bt), (d5, ai g 70 fa), (d6, ai g 70 kf), (d7, ai g 70 re), (d8, ai g 71 fw), (d9, ai g 10 pm), (da, ai g 600 fs), (db, ai g 600 la), (dc, ai g 600 fk), (dd, al g 600 us), (de, al g 600 bs)] 0 0 [(0, .ref o), (1, jv u)] 15 [jv 0]
      refine x_if_eq (pc := 15) C 21 dX6_put_15 rfl ⟨by decide, by decide⟩ (fun _ => ?_) (fun h => absurd h (by decide))
      refine x_aload_n (pc := 21) C 0 dX6_put_21 rfl ?_
      refine x_get (pc := 22) C 0 9 dX6_put_22 hiX6_put_6 hfX6_put_66 rfl rfl rfl (by decide) rfl ?_
      refine x_bipush (pc := 25) C dX6_put_25 rfl ?_
      refine x_icmp_ne (pc := 27) C 33 dX6_put_27 rfl ⟨by omega, by omega⟩ ⟨by omega, by omega⟩ (fun c_27 => ?_) (fun c_27 => ?_)
      · refine x_aload_n (pc := 33) C 0 dX6_put_33 rfl ?_
        refine x_get (pc := 34) C 0 6 dX6_put_34 hiX6_put_6 hfX6_put_20 rfl rfl rfl (by decide) rfl ?_
        refine x_aload_n (pc := 37) C 0 dX6_put_37 rfl ?_
        refine x_get (pc := 38) C 0 5 dX6_put_38 hiX6_put_6 hfX6_put_72 rfl rfl rfl (by decide) rfl ?_
        refine x_iload_n (pc := 41) C 1 dX6_put_41 rfl ?_
        refine x_callS (pc := 42) C (n := 3) (rest := []) (wr := [(o, ob 6 [jv rn, .ref d1, jv e, jv nc, .ref d2, jv oc, .ref d3, jv co, .ref d4, jv nn, .ref d5, jv kn, .ref d6, .ref d7, .ref d8, Jv lU, Jv lB, jv vn, .ref d9, .ref da, .ref db, .ref dc, .ref dd, .ref de, jv lk]), (d1, ai g 61 rf), (d2, ai g 9 nw), (d4, az g 64 bt), (d5, ai g 70 fa), (d6, ai g 70 kf), (d7, ai g 70 re), (d8, ai g 71 fw), (d9, ai g 10 pm), (da, ai g 600 fs), (db, ai g 600 la), (dc, ai g 600 fk), (dd, al g 600 us), (de, al g 600 bs)]) [3] [0, 1, 2, 4, 5, 6, 7, 8, 9, 10, 11, 12, 13, 14] (ctX6_placeIn l g d3 9 oc u ol ⟨by omega, by omega, by omega⟩ hol ru) gX6_put_X6_placeIn rfl (by decide +kernel) ⟨rfl, rfl⟩ ⟨by decide, by decide⟩ rfl rfl rfl (by decide) (by decide) (by decide) rfl (Nat.le_of_ble_eq_true rfl) dX6_put_42 ⟨by decide, by decide⟩ (fun v_42 u_42 h_42 => ?_)
        rcases h_42 with ⟨k, rfl, rfl, f_42⟩ | ⟨rfl, rfl, f_42⟩
        · refine x_world (ws' := [(o, ob 6 [jv rn, .ref d1, jv e, jv nc, .ref d2, jv oc, .ref d3, jv co, .ref d4, jv nn, .ref d5, jv kn, .ref d6, .ref d7, .ref d8, Jv lU, Jv lB, jv vn, .ref d9, .ref da, .ref db, .ref dc, .ref dd, .ref de, jv lk]), (d1, ai g 61 rf), (d2, ai g 9 nw), (d3, ai g 9 ol), (d4, az g 64 bt), (d5, ai g 70 fa), (d6, ai g 70 kf), (d7, ai g 70 re), (d8, ai g 71 fw), (d9, ai g 10 pm), (da, ai g 600 fs), (db, ai g 600 la), (dc, ai g 600 fk), (dd, al g 600 us), (de, al g 600 bs)]) [0, 1, 2, 14, 3, 4, 5, 6, 7, 8, 9, 10, 11, 12, 13] (by decide) rfl ?_
          show X l g E ({ frames := 6, cells := 0, slots := 0, locals := 144 } : Room) 3 [(o, ob 6 [jv rn, .ref d1, jv e, jv nc, .ref d2, jv oc, .ref d3, jv co, .ref d4, jv nn, .ref d5, jv kn, .ref d6, .ref d7, .ref d8, Jv lU, Jv lB, jv vn, .ref d9, .ref da, .ref db, .ref dc, .ref dd, .ref de, jv lk]), (d1, ai g 61 rf), (d2, ai g 9 nw), (d3, ai g 9 ol), (d4, az g 64 bt), (d5, ai g 70 fa), (d6, ai g 70 kf), (d7, ai g 70 re), (d8, ai g 71 fw), (d9, ai g 10 pm), (da, ai g 600 fs), (db, ai g 600 la), (dc, ai g 600 fk), (dd, al g 600 us), (de, al g 600 bs)] 0 0 [(0, .ref o), (1, jv u)] 45 [jv k]
          refine x_istore_n (pc := 45) C (lv' := [(2, jv k), (0, .ref o), (1, jv u)]) dX6_put_45 (by decide) rfl ?_
          refine x_iload_n (pc := 46) C 0 dX6_put_46 rfl ?_
          refine x_iconst (pc := 47) C dX6_put_47 ?_
          refine x_icmp_eq (pc := 48) C 79 dX6_put_48 rfl ⟨by omega, by omega⟩ ⟨by omega, by omega⟩ (fun c_48 => ?_) (fun c_48 => ?_)
          · omega
          · refine x_aload_n (pc := 51) C 1 dX6_put_51 rfl ?_
            refine x_dup (pc := 52) C dX6_put_52 rfl ?_
            refine x_get (pc := 53) C 0 5 dX6_put_53 hiX6_put_6 hfX6_put_72 rfl rfl rfl (by decide) rfl ?_
            refine x_iconst (pc := 56) C dX6_put_56 ?_
            refine x_isub (pc := 57) C dX6_put_57 ?_
            refine x_put (pc := 58) C (ty := .int) (ws' := [(o, ob 6 [jv rn, .ref d1, jv e, jv nc, .ref d2, jv (oc - 1), .ref d3, jv co, .ref d4, jv nn, .ref d5, jv kn, .ref d6, .ref d7, .ref d8, Jv lU, Jv lB, jv vn, .ref d9, .ref da, .ref db, .ref dc, .ref dd, .ref de, jv lk]), (d1, ai g 61 rf), (d2, ai g 9 nw), (d3, ai g 9 ol), (d4, az g 64 bt), (d5, ai g 70 fa), (d6, ai g 70 kf), (d7, ai g 70 re), (d8, ai g 71 fw), (d9, ai g 10 pm), (da, ai g 600 fs), (db, ai g 600 la), (dc, ai g 600 fk), (dd, al g 600 us), (de, al g 600 bs)]) tyX6 0 5 dX6_put_58 hiX6_put_6 tyX6_ok nmX6 hfX6_put_72 rfl rfl rfl (by decide) rfl (by decide +kernel) rfl rfl (Nat.le_of_ble_eq_true rfl) rfl ?_
            refine x_aload_n (pc := 61) C 1 dX6_put_61 rfl ?_
            refine x_get (pc := 62) C 0 6 dX6_put_62 hiX6_put_6 hfX6_put_20 rfl rfl rfl (by decide) rfl ?_
            refine x_iload_n (pc := 65) C 0 dX6_put_65 rfl ?_
            refine x_aload_n (pc := 66) C 1 dX6_put_66 rfl ?_
            refine x_get (pc := 67) C 0 6 dX6_put_67 hiX6_put_6 hfX6_put_20 rfl rfl rfl (by decide) rfl ?_
            refine x_aload_n (pc := 70) C 1 dX6_put_70 rfl ?_
            refine x_get (pc := 71) C 0 5 dX6_put_71 hiX6_put_6 hfX6_put_72 rfl rfl rfl (by decide) rfl ?_
            refine x_iald (pc := 74) C 3 dX6_put_74 rfl (by omega) (by omega) (by decide) ?_
            refine x_iast (pc := 75) C (ws' := [(o, ob 6 [jv rn, .ref d1, jv e, jv nc, .ref d2, jv (oc - 1), .ref d3, jv co, .ref d4, jv nn, .ref d5, jv kn, .ref d6, .ref d7, .ref d8, Jv lU, Jv lB, jv vn, .ref d9, .ref da, .ref db, .ref dc, .ref dd, .ref de, jv lk]), (d1, ai g 61 rf), (d2, ai g 9 nw), (d3, ai g 9 (up ol k (ol (oc - 1)))), (d4, az g 64 bt), (d5, ai g 70 fa), (d6, ai g 70 kf), (d7, ai g 70 re), (d8, ai g 71 fw), (d9, ai g 10 pm), (da, ai g 600 fs), (db, ai g 600 la), (dc, ai g 600 fk), (dd, al g 600 us), (de, al g 600 bs)]) 3 dX6_put_75 rfl (by omega) (by omega) (by decide) rfl ?_
            refine x_goto (pc := 76) C 117 dX6_put_76 rfl ?_
            refine x_aload_n (pc := 117) C 1 dX6_put_117 rfl ?_
            refine x_iload_n (pc := 118) C 2 dX6_put_118 rfl ?_
            refine x_callV (pc := 119) C (n := 1) (q0 := 0) (rest := []) (wr := [(d1, ai g 61 rf), (d2, ai g 9 nw), (d3, ai g 9 (up ol k (ol (oc - 1)))), (d5, ai g 70 fa), (d6, ai g 70 kf), (d7, ai g 70 re), (d8, ai g 71 fw), (d9, ai g 10 pm), (da, ai g 600 fs), (db, ai g 600 la), (dc, ai g 600 fk), (dd, al g 600 us), (de, al g 600 bs)]) [0, 4] [1, 2, 3, 5, 6, 7, 8, 9, 10, 11, 12, 13, 14] (ctX6_setBits l g o d1 d2 d3 d4 d5 d6 d7 d8 d9 da db dc dd de rn e nc (oc - 1) co nn kn lU lB vn lk bt u ⟨by omega, by omega⟩) gX6_put_X6_setBits rfl ⟨rfl, rfl⟩ (by decide +kernel) ⟨by decide, by decide⟩ rfl rfl rfl rfl rfl (by decide) (by decide) (by decide) rfl (Nat.le_of_ble_eq_true rfl) dX6_put_119 ⟨by decide, by decide⟩ (fun v_119 u_119 h_119 => ?_)
            rcases h_119 with ⟨rfl, rfl, f_119⟩
            refine x_world (ws' := [(o, ob 6 [jv rn, .ref d1, jv e, jv nc, .ref d2, jv (oc - 1), .ref d3, jv co, .ref d4, jv nn, .ref d5, jv kn, .ref d6, .ref d7, .ref d8, Jv lU, Jv lB, jv vn, .ref d9, .ref da, .ref db, .ref dc, .ref dd, .ref de, jv lk]), (d1, ai g 61 rf), (d2, ai g 9 nw), (d3, ai g 9 (up ol k (ol (oc - 1)))), (d4, az g 64 (setB bt u)), (d5, ai g 70 fa), (d6, ai g 70 kf), (d7, ai g 70 re), (d8, ai g 71 fw), (d9, ai g 10 pm), (da, ai g 600 fs), (db, ai g 600 la), (dc, ai g 600 fk), (dd, al g 600 us), (de, al g 600 bs)]) [13, 0, 1, 2, 14, 3, 4, 5, 6, 7, 8, 9, 10, 11, 12] (by decide) rfl ?_
            show X l g E ({ frames := 6, cells := 0, slots := 0, locals := 144 } : Room) 3 [(o, ob 6 [jv rn, .ref d1, jv e, jv nc, .ref d2, jv (oc - 1), .ref d3, jv co, .ref d4, jv nn, .ref d5, jv kn, .ref d6, .ref d7, .ref d8, Jv lU, Jv lB, jv vn, .ref d9, .ref da, .ref db, .ref dc, .ref dd, .ref de, jv lk]), (d1, ai g 61 rf), (d2, ai g 9 nw), (d3, ai g 9 (up ol k (ol (oc - 1)))), (d4, az g 64 (setB bt u)), (d5, ai g 70 fa), (d6, ai g 70 kf), (d7, ai g 70 re), (d8, ai g 71 fw), (d9, ai g 10 pm), (da, ai g 600 fs), (db, ai g 600 la), (dc, ai g 600 fk), (dd, al g 600 us), (de, al g 600 bs)] 0 0 [(2, jv k), (0, .ref o), (1, jv u)] 122 []
            refine x_aload_n (pc := 122) C 1 dX6_put_122 rfl ?_
            refine x_callV (pc := 123) C (n := 0) (q0 := 0) (rest := []) (wr := [(d4, az g 64 (setB bt u)), (d6, ai g 70 kf), (d7, ai g 70 re), (d8, ai g 71 fw), (d9, ai g 10 pm), (da, ai g 600 fs), (db, ai g 600 la), (dc, ai g 600 fk), (dd, al g 600 us), (de, al g 600 bs)]) [0, 1, 2, 3, 5] [4, 6, 7, 8, 9, 10, 11, 12, 13, 14] (ctX6_layNow l g o d1 d2 d3 d4 d5 d6 d7 d8 d9 da db dc dd de rn e nc (oc - 1) co nn kn lU lB vn lk rf nw (up ol k (ol (oc - 1))) fa (nn + 1) (insF nf u (belC nn nf u)) (hno.putOld f_12.1 (by omega) ⟨by omega, by omega⟩ (by omega) (by omega) (by omega))) gX6_put_X6_layNow rfl ⟨rfl, rfl⟩ (by decide +kernel) ⟨by decide, by decide⟩ rfl rfl rfl rfl rfl (by decide) (by decide) (by decide) rfl (Nat.le_of_ble_eq_true rfl) dX6_put_123 ⟨by decide, by decide⟩ (fun v_123 u_123 h_123 => ?_)
            rcases h_123 with ⟨fb, rfl, rfl, f_123⟩
            refine x_world (ws' := [(o, ob 6 [jv rn, .ref d1, jv e, jv nc, .ref d2, jv (oc - 1), .ref d3, jv co, .ref d4, jv (nn + 1), .ref d5, jv kn, .ref d6, .ref d7, .ref d8, Jv lU, Jv lB, jv vn, .ref d9, .ref da, .ref db, .ref dc, .ref dd, .ref de, jv lk]), (d1, ai g 61 rf), (d2, ai g 9 nw), (d3, ai g 9 (up ol k (ol (oc - 1)))), (d4, az g 64 (setB bt u)), (d5, ai g 70 fb), (d6, ai g 70 kf), (d7, ai g 70 re), (d8, ai g 71 fw), (d9, ai g 10 pm), (da, ai g 600 fs), (db, ai g 600 la), (dc, ai g 600 fk), (dd, al g 600 us), (de, al g 600 bs)]) [10, 11, 12, 13, 0, 14, 1, 2, 3, 4, 5, 6, 7, 8, 9] (by decide) rfl ?_
            show X l g E ({ frames := 6, cells := 0, slots := 0, locals := 144 } : Room) 3 [(o, ob 6 [jv rn, .ref d1, jv e, jv nc, .ref d2, jv (oc - 1), .ref d3, jv co, .ref d4, jv (nn + 1), .ref d5, jv kn, .ref d6, .ref d7, .ref d8, Jv lU, Jv lB, jv vn, .ref d9, .ref da, .ref db, .ref dc, .ref dd, .ref de, jv lk]), (d1, ai g 61 rf), (d2, ai g 9 nw), (d3, ai g 9 (up ol k (ol (oc - 1)))), (d4, az g 64 (setB bt u)), (d5, ai g 70 fb), (d6, ai g 70 kf), (d7, ai g 70 re), (d8, ai g 71 fw), (d9, ai g 10 pm), (da, ai g 600 fs), (db, ai g 600 la), (dc, ai g 600 fk), (dd, al g 600 us), (de, al g 600 bs)] 0 0 [(2, jv k), (0, .ref o), (1, jv u)] 126 []
            refine x_aload_n (pc := 126) C 1 dX6_put_126 rfl ?_
            refine x_get (pc := 127) C 0 9 dX6_put_127 hiX6_put_6 hfX6_put_66 rfl rfl rfl (by decide) rfl ?_
            refine x_iret (pc := 130) C Rt0 dX6_put_130 rfl ?_
            refine Or.inr (Or.inr (Or.inr (Or.inl ⟨_, _, rfl, rfl, ?_⟩)))
            exact ⟨by omega, by omega, f_12.1, by omega, (hno.old f_12.1).mpr ⟨k, by omega, by omega, by omega⟩, hno.putOld f_12.1 (by omega) ⟨by omega, by omega⟩ (by omega) (by omega) (by omega)⟩
        · refine x_world (ws' := [(o, ob 6 [jv rn, .ref d1, jv e, jv nc, .ref d2, jv oc, .ref d3, jv co, .ref d4, jv nn, .ref d5, jv kn, .ref d6, .ref d7, .ref d8, Jv lU, Jv lB, jv vn, .ref d9, .ref da, .ref db, .ref dc, .ref dd, .ref de, jv lk]), (d1, ai g 61 rf), (d2, ai g 9 nw), (d3, ai g 9 ol), (d4, az g 64 bt), (d5, ai g 70 fa), (d6, ai g 70 kf), (d7, ai g 70 re), (d8, ai g 71 fw), (d9, ai g 10 pm), (da, ai g 600 fs), (db, ai g 600 la), (dc, ai g 600 fk), (dd, al g 600 us), (de, al g 600 bs)]) [0, 1, 2, 14, 3, 4, 5, 6, 7, 8, 9, 10, 11, 12, 13] (by decide) rfl ?_
          show X l g E ({ frames := 6, cells := 0, slots := 0, locals := 144 } : Room) 3 [(o, ob 6 [jv rn, .ref d1, jv e, jv nc, .ref d2, jv oc, .ref d3, jv co, .ref d4, jv nn, .ref d5, jv kn, .ref d6, .ref d7, .ref d8, Jv lU, Jv lB, jv vn, .ref d9, .ref da, .ref db, .ref dc, .ref dd, .ref de, jv lk]), (d1, ai g 61 rf), (d2, ai g 9 nw), (d3, ai g 9 ol), (d4, az g 64 bt), (d5, ai g 70 fa), (d6, ai g 70 kf), (d7, ai g 70 re), (d8, ai g 71 fw), (d9, ai g 10 pm), (da, ai g 600 fs), (db, ai g 600 la), (dc, ai g 600 fk), (dd, al g 600 us), (de, al g 600 bs)] 0 0 [(0, .ref o), (1, jv u)] 45 [jv (-1)]
          refine x_istore_n (pc := 45) C (lv' := [(2, jv (-1)), (0, .ref o), (1, jv u)]) dX6_put_45 (by decide) rfl ?_
          refine x_iload_n (pc := 46) C 0 dX6_put_46 rfl ?_
          refine x_iconst (pc := 47) C dX6_put_47 ?_
          refine x_icmp_eq (pc := 48) C 79 dX6_put_48 rfl ⟨by decide, by decide⟩ ⟨by decide, by decide⟩ (fun _ => ?_) (fun h => absurd h (by decide))
          refine x_aload_n (pc := 79) C 1 dX6_put_79 rfl ?_
          refine x_get (pc := 80) C 0 3 dX6_put_80 hiX6_put_6 hfX6_put_83 rfl rfl rfl (by decide) rfl ?_
          refine x_aload_n (pc := 83) C 1 dX6_put_83 rfl ?_
          refine x_get (pc := 84) C 0 5 dX6_put_84 hiX6_put_6 hfX6_put_72 rfl rfl rfl (by decide) rfl ?_
          refine x_iadd (pc := 87) C dX6_put_87 ?_
          refine x_bipush (pc := 88) C dX6_put_88 rfl ?_
          refine x_icmp_ne (pc := 90) C 97 dX6_put_90 rfl ⟨by omega, by omega⟩ ⟨by omega, by omega⟩ (fun c_90 => ?_) (fun c_90 => ?_)
          · refine x_aload_n (pc := 97) C 1 dX6_put_97 rfl ?_
            refine x_get (pc := 98) C 0 4 dX6_put_98 hiX6_put_6 hfX6_put_17 rfl rfl rfl (by decide) rfl ?_
            refine x_aload_n (pc := 101) C 1 dX6_put_101 rfl ?_
            refine x_get (pc := 102) C 0 3 dX6_put_102 hiX6_put_6 hfX6_put_83 rfl rfl rfl (by decide) rfl ?_
            refine x_iload_n (pc := 105) C 2 dX6_put_105 rfl ?_
            refine x_iast (pc := 106) C (ws' := [(o, ob 6 [jv rn, .ref d1, jv e, jv nc, .ref d2, jv oc, .ref d3, jv co, .ref d4, jv nn, .ref d5, jv kn, .ref d6, .ref d7, .ref d8, Jv lU, Jv lB, jv vn, .ref d9, .ref da, .ref db, .ref dc, .ref dd, .ref de, jv lk]), (d1, ai g 61 rf), (d2, ai g 9 (up nw nc u)), (d3, ai g 9 ol), (d4, az g 64 bt), (d5, ai g 70 fa), (d6, ai g 70 kf), (d7, ai g 70 re), (d8, ai g 71 fw), (d9, ai g 10 pm), (da, ai g 600 fs), (db, ai g 600 la), (dc, ai g 600 fk), (dd, al g 600 us), (de, al g 600 bs)]) 2 dX6_put_106 rfl (by omega) (by omega) (by decide) rfl ?_
            refine x_aload_n (pc := 107) C 1 dX6_put_107 rfl ?_
            refine x_dup (pc := 108) C dX6_put_108 rfl ?_
            refine x_get (pc := 109) C 0 3 dX6_put_109 hiX6_put_6 hfX6_put_83 rfl rfl rfl (by decide) rfl ?_
            refine x_iconst (pc := 112) C dX6_put_112 ?_
            refine x_iadd (pc := 113) C dX6_put_113 ?_
            refine x_put (pc := 114) C (ty := .int) (ws' := [(o, ob 6 [jv rn, .ref d1, jv e, jv (nc + 1), .ref d2, jv oc, .ref d3, jv co, .ref d4, jv nn, .ref d5, jv kn, .ref d6, .ref d7, .ref d8, Jv lU, Jv lB, jv vn, .ref d9, .ref da, .ref db, .ref dc, .ref dd, .ref de, jv lk]), (d1, ai g 61 rf), (d2, ai g 9 (up nw nc u)), (d3, ai g 9 ol), (d4, az g 64 bt), (d5, ai g 70 fa), (d6, ai g 70 kf), (d7, ai g 70 re), (d8, ai g 71 fw), (d9, ai g 10 pm), (da, ai g 600 fs), (db, ai g 600 la), (dc, ai g 600 fk), (dd, al g 600 us), (de, al g 600 bs)]) tyX6 0 3 dX6_put_114 hiX6_put_6 tyX6_ok nmX6 hfX6_put_83 rfl rfl rfl (by decide) rfl (by decide +kernel) rfl rfl (Nat.le_of_ble_eq_true rfl) rfl ?_
            refine x_aload_n (pc := 117) C 1 dX6_put_117 rfl ?_
            refine x_iload_n (pc := 118) C 2 dX6_put_118 rfl ?_
            refine x_callV (pc := 119) C (n := 1) (q0 := 0) (rest := []) (wr := [(d1, ai g 61 rf), (d2, ai g 9 (up nw nc u)), (d3, ai g 9 ol), (d5, ai g 70 fa), (d6, ai g 70 kf), (d7, ai g 70 re), (d8, ai g 71 fw), (d9, ai g 10 pm), (da, ai g 600 fs), (db, ai g 600 la), (dc, ai g 600 fk), (dd, al g 600 us), (de, al g 600 bs)]) [0, 4] [1, 2, 3, 5, 6, 7, 8, 9, 10, 11, 12, 13, 14] (ctX6_setBits l g o d1 d2 d3 d4 d5 d6 d7 d8 d9 da db dc dd de rn e (nc + 1) oc co nn kn lU lB vn lk bt u ⟨by omega, by omega⟩) gX6_put_X6_setBits rfl ⟨rfl, rfl⟩ (by decide +kernel) ⟨by decide, by decide⟩ rfl rfl rfl rfl rfl (by decide) (by decide) (by decide) rfl (Nat.le_of_ble_eq_true rfl) dX6_put_119 ⟨by decide, by decide⟩ (fun v_119 u_119 h_119 => ?_)
            rcases h_119 with ⟨rfl, rfl, f_119⟩
            refine x_world (ws' := [(o, ob 6 [jv rn, .ref d1, jv e, jv (nc + 1), .ref d2, jv oc, .ref d3, jv co, .ref d4, jv nn, .ref d5, jv kn, .ref d6, .ref d7, .ref d8, Jv lU, Jv lB, jv vn, .ref d9, .ref da, .ref db, .ref dc, .ref dd, .ref de, jv lk]), (d1, ai g 61 rf), (d2, ai g 9 (up nw nc u)), (d3, ai g 9 ol), (d4, az g 64 (setB bt u)), (d5, ai g 70 fa), (d6, ai g 70 kf), (d7, ai g 70 re), (d8, ai g 71 fw), (d9, ai g 10 pm), (da, ai g 600 fs), (db, ai g 600 la), (dc, ai g 600 fk), (dd, al g 600 us), (de, al g 600 bs)]) [13, 0, 1, 2, 14, 3, 4, 5, 6, 7, 8, 9, 10, 11, 12] (by decide) rfl ?_
            show X l g E ({ frames := 6, cells := 0, slots := 0, locals := 144 } : Room) 3 [(o, ob 6 [jv rn, .ref d1, jv e, jv (nc + 1), .ref d2, jv oc, .ref d3, jv co, .ref d4, jv nn, .ref d5, jv kn, .ref d6, .ref d7, .ref d8, Jv lU, Jv lB, jv vn, .ref d9, .ref da, .ref db, .ref dc, .ref dd, .ref de, jv lk]), (d1, ai g 61 rf), (d2, ai g 9 (up nw nc u)), (d3, ai g 9 ol), (d4, az g 64 (setB bt u)), (d5, ai g 70 fa), (d6, ai g 70 kf), (d7, ai g 70 re), (d8, ai g 71 fw), (d9, ai g 10 pm), (da, ai g 600 fs), (db, ai g 600 la), (dc, ai g 600 fk), (dd, al g 600 us), (de, al g 600 bs)] 0 0 [(2, jv (-1)), (0, .ref o), (1, jv u)] 122 []
            refine x_aload_n (pc := 122) C 1 dX6_put_122 rfl ?_
            refine x_callV (pc := 123) C (n := 0) (q0 := 0) (rest := []) (wr := [(d4, az g 64 (setB bt u)), (d6, ai g 70 kf), (d7, ai g 70 re), (d8, ai g 71 fw), (d9, ai g 10 pm), (da, ai g 600 fs), (db, ai g 600 la), (dc, ai g 600 fk), (dd, al g 600 us), (de, al g 600 bs)]) [0, 1, 2, 3, 5] [4, 6, 7, 8, 9, 10, 11, 12, 13, 14] (ctX6_layNow l g o d1 d2 d3 d4 d5 d6 d7 d8 d9 da db dc dd de rn e (nc + 1) oc co nn kn lU lB vn lk rf (up nw nc u) ol fa (nn + 1) (insF nf u (belC nn nf u)) (hno.putNew f_12.1 (by omega) ⟨by omega, by omega⟩ f_42 (by omega))) gX6_put_X6_layNow rfl ⟨rfl, rfl⟩ (by decide +kernel) ⟨by decide, by decide⟩ rfl rfl rfl rfl rfl (by decide) (by decide) (by decide) rfl (Nat.le_of_ble_eq_true rfl) dX6_put_123 ⟨by decide, by decide⟩ (fun v_123 u_123 h_123 => ?_)
            rcases h_123 with ⟨fb, rfl, rfl, f_123⟩
            refine x_world (ws' := [(o, ob 6 [jv rn, .ref d1, jv e, jv (nc + 1), .ref d2, jv oc, .ref d3, jv co, .ref d4, jv (nn + 1), .ref d5, jv kn, .ref d6, .ref d7, .ref d8, Jv lU, Jv lB, jv vn, .ref d9, .ref da, .ref db, .ref dc, .ref dd, .ref de, jv lk]), (d1, ai g 61 rf), (d2, ai g 9 (up nw nc u)), (d3, ai g 9 ol), (d4, az g 64 (setB bt u)), (d5, ai g 70 fb), (d6, ai g 70 kf), (d7, ai g 70 re), (d8, ai g 71 fw), (d9, ai g 10 pm), (da, ai g 600 fs), (db, ai g 600 la), (dc, ai g 600 fk), (dd, al g 600 us), (de, al g 600 bs)]) [10, 11, 12, 13, 0, 14, 1, 2, 3, 4, 5, 6, 7, 8, 9] (by decide) rfl ?_
            show X l g E ({ frames := 6, cells := 0, slots := 0, locals := 144 } : Room) 3 [(o, ob 6 [jv rn, .ref d1, jv e, jv (nc + 1), .ref d2, jv oc, .ref d3, jv co, .ref d4, jv (nn + 1), .ref d5, jv kn, .ref d6, .ref d7, .ref d8, Jv lU, Jv lB, jv vn, .ref d9, .ref da, .ref db, .ref dc, .ref dd, .ref de, jv lk]), (d1, ai g 61 rf), (d2, ai g 9 (up nw nc u)), (d3, ai g 9 ol), (d4, az g 64 (setB bt u)), (d5, ai g 70 fb), (d6, ai g 70 kf), (d7, ai g 70 re), (d8, ai g 71 fw), (d9, ai g 10 pm), (da, ai g 600 fs), (db, ai g 600 la), (dc, ai g 600 fk), (dd, al g 600 us), (de, al g 600 bs)] 0 0 [(2, jv (-1)), (0, .ref o), (1, jv u)] 126 []
            refine x_aload_n (pc := 126) C 1 dX6_put_126 rfl ?_
            refine x_get (pc := 127) C 0 9 dX6_put_127 hiX6_put_6 hfX6_put_66 rfl rfl rfl (by decide) rfl ?_
            refine x_iret (pc := 130) C Rt0 dX6_put_130 rfl ?_
            refine Or.inr (Or.inr (Or.inr (Or.inr (Or.inl ⟨_, _, rfl, rfl, ?_⟩))))
            exact ⟨by omega, by omega, f_12.1, by omega, fun q => f_42 ((hno.old f_12.1).mp q), by omega, hno.putNew f_12.1 (by omega) ⟨by omega, by omega⟩ f_42 (by omega)⟩
          · refine x_aload_n (pc := 93) C 1 dX6_put_93 rfl ?_
            refine x_callV (pc := 94) C (n := 0) (q0 := 0) (rest := []) (wr := []) [0, 1, 2, 3, 4, 5, 6, 7, 8, 9, 10, 11, 12, 13, 14] [] (ctX6_makeRow l g o d1 d2 d3 d4 d5 d6 d7 d8 d9 da db dc dd de rn e nc oc co nn kn lU lB vn lk rf nw ol bt fa kf re fw pm fs la fk us bs nn nf hno he) gX6_put_X6_makeRow rfl ⟨rfl, rfl⟩ (by decide +kernel) ⟨by decide, by decide⟩ rfl rfl rfl rfl rfl (by decide) (by decide) (by decide) rfl (Nat.le_of_ble_eq_true rfl) dX6_put_94 ⟨by decide, by decide⟩ (fun v_94 u_94 h_94 => ?_)
            rcases h_94 with ⟨km, v, uu, ub, r1, f', kg, re', fw', pm', g0, g1, g2, g3, g4, bt', rfl, rfl, f_94⟩
            refine x_world (ws' := [(o, ob 6 [jv nn, .ref d1, jv e, jv 0, .ref d2, jv 0, .ref d3, jv (co + nn), .ref d4, jv nn, .ref d5, jv km, .ref d6, .ref d7, .ref d8, Jv uu, Jv ub, jv v, .ref d9, .ref da, .ref db, .ref dc, .ref dd, .ref de, jv lk]), (d1, ai g 61 r1), (d2, ai g 9 nw), (d3, ai g 9 ol), (d4, az g 64 bt'), (d5, ai g 70 f'), (d6, ai g 70 kg), (d7, ai g 70 re'), (d8, ai g 71 fw'), (d9, ai g 10 pm'), (da, ai g 600 g0), (db, ai g 600 g1), (dc, ai g 600 g2), (dd, al g 600 g3), (de, al g 600 g4)]) [0, 1, 2, 3, 4, 5, 6, 7, 8, 9, 10, 11, 12, 13, 14] (by decide) rfl ?_
            show X l g E ({ frames := 6, cells := 0, slots := 0, locals := 144 } : Room) 3 [(o, ob 6 [jv nn, .ref d1, jv e, jv 0, .ref d2, jv 0, .ref d3, jv (co + nn), .ref d4, jv nn, .ref d5, jv km, .ref d6, .ref d7, .ref d8, Jv uu, Jv ub, jv v, .ref d9, .ref da, .ref db, .ref dc, .ref dd, .ref de, jv lk]), (d1, ai g 61 r1), (d2, ai g 9 nw), (d3, ai g 9 ol), (d4, az g 64 bt'), (d5, ai g 70 f'), (d6, ai g 70 kg), (d7, ai g 70 re'), (d8, ai g 71 fw'), (d9, ai g 10 pm'), (da, ai g 600 g0), (db, ai g 600 g1), (dc, ai g 600 g2), (dd, al g 600 g3), (de, al g 600 g4)] 0 0 [(2, jv (-1)), (0, .ref o), (1, jv u)] 97 []
            refine x_aload_n (pc := 97) C 1 dX6_put_97 rfl ?_
            refine x_get (pc := 98) C 0 4 dX6_put_98 hiX6_put_6 hfX6_put_17 rfl rfl rfl (by decide) rfl ?_
            refine x_aload_n (pc := 101) C 1 dX6_put_101 rfl ?_
            refine x_get (pc := 102) C 0 3 dX6_put_102 hiX6_put_6 hfX6_put_83 rfl rfl rfl (by decide) rfl ?_
            refine x_iload_n (pc := 105) C 2 dX6_put_105 rfl ?_
            refine x_iast (pc := 106) C (ws' := [(o, ob 6 [jv nn, .ref d1, jv e, jv 0, .ref d2, jv 0, .ref d3, jv (co + nn), .ref d4, jv nn, .ref d5, jv km, .ref d6, .ref d7, .ref d8, Jv uu, Jv ub, jv v, .ref d9, .ref da, .ref db, .ref dc, .ref dd, .ref de, jv lk]), (d1, ai g 61 r1), (d2, ai g 9 (up nw 0 u)), (d3, ai g 9 ol), (d4, az g 64 bt'), (d5, ai g 70 f'), (d6, ai g 70 kg), (d7, ai g 70 re'), (d8, ai g 71 fw'), (d9, ai g 10 pm'), (da, ai g 600 g0), (db, ai g 600 g1), (dc, ai g 600 g2), (dd, al g 600 g3), (de, al g 600 g4)]) 2 dX6_put_106 rfl (by omega) (by omega) (by decide) rfl ?_
            refine x_aload_n (pc := 107) C 1 dX6_put_107 rfl ?_
            refine x_dup (pc := 108) C dX6_put_108 rfl ?_
            refine x_get (pc := 109) C 0 3 dX6_put_109 hiX6_put_6 hfX6_put_83 rfl rfl rfl (by decide) rfl ?_
            refine x_iconst (pc := 112) C dX6_put_112 ?_
            refine x_iadd (pc := 113) C dX6_put_113 ?_
            refine x_put (pc := 114) C (ty := .int) (ws' := [(o, ob 6 [jv nn, .ref d1, jv e, jv (0 + 1), .ref d2, jv 0, .ref d3, jv (co + nn), .ref d4, jv nn, .ref d5, jv km, .ref d6, .ref d7, .ref d8, Jv uu, Jv ub, jv v, .ref d9, .ref da, .ref db, .ref dc, .ref dd, .ref de, jv lk]), (d1, ai g 61 r1), (d2, ai g 9 (up nw 0 u)), (d3, ai g 9 ol), (d4, az g 64 bt'), (d5, ai g 70 f'), (d6, ai g 70 kg), (d7, ai g 70 re'), (d8, ai g 71 fw'), (d9, ai g 10 pm'), (da, ai g 600 g0), (db, ai g 600 g1), (dc, ai g 600 g2), (dd, al g 600 g3), (de, al g 600 g4)]) tyX6 0 3 dX6_put_114 hiX6_put_6 tyX6_ok nmX6 hfX6_put_83 rfl rfl rfl (by decide) rfl (by decide +kernel) rfl rfl (Nat.le_of_ble_eq_true rfl) rfl ?_
            refine x_aload_n (pc := 117) C 1 dX6_put_117 rfl ?_
            refine x_iload_n (pc := 118) C 2 dX6_put_118 rfl ?_
            refine x_callV (pc := 119) C (n := 1) (q0 := 0) (rest := []) (wr := [(d1, ai g 61 r1), (d2, ai g 9 (up nw 0 u)), (d3, ai g 9 ol), (d5, ai g 70 f'), (d6, ai g 70 kg), (d7, ai g 70 re'), (d8, ai g 71 fw'), (d9, ai g 10 pm'), (da, ai g 600 g0), (db, ai g 600 g1), (dc, ai g 600 g2), (dd, al g 600 g3), (de, al g 600 g4)]) [0, 4] [1, 2, 3, 5, 6, 7, 8, 9, 10, 11, 12, 13, 14] (ctX6_setBits l g o d1 d2 d3 d4 d5 d6 d7 d8 d9 da db dc dd de nn e (0 + 1) 0 (co + nn) nn km uu ub v lk bt' u ⟨by omega, by omega⟩) gX6_put_X6_setBits rfl ⟨rfl, rfl⟩ (by decide +kernel) ⟨by decide, by decide⟩ rfl rfl rfl rfl rfl (by decide) (by decide) (by decide) rfl (Nat.le_of_ble_eq_true rfl) dX6_put_119 ⟨by decide, by decide⟩ (fun v_119 u_119 h_119 => ?_)
            rcases h_119 with ⟨rfl, rfl, f_119⟩
            refine x_world (ws' := [(o, ob 6 [jv nn, .ref d1, jv e, jv (0 + 1), .ref d2, jv 0, .ref d3, jv (co + nn), .ref d4, jv nn, .ref d5, jv km, .ref d6, .ref d7, .ref d8, Jv uu, Jv ub, jv v, .ref d9, .ref da, .ref db, .ref dc, .ref dd, .ref de, jv lk]), (d1, ai g 61 r1), (d2, ai g 9 (up nw 0 u)), (d3, ai g 9 ol), (d4, az g 64 (setB bt' u)), (d5, ai g 70 f'), (d6, ai g 70 kg), (d7, ai g 70 re'), (d8, ai g 71 fw'), (d9, ai g 10 pm'), (da, ai g 600 g0), (db, ai g 600 g1), (dc, ai g 600 g2), (dd, al g 600 g3), (de, al g 600 g4)]) [13, 0, 1, 2, 14, 3, 4, 5, 6, 7, 8, 9, 10, 11, 12] (by decide) rfl ?_
            show X l g E ({ frames := 6, cells := 0, slots := 0, locals := 144 } : Room) 3 [(o, ob 6 [jv nn, .ref d1, jv e, jv (0 + 1), .ref d2, jv 0, .ref d3, jv (co + nn), .ref d4, jv nn, .ref d5, jv km, .ref d6, .ref d7, .ref d8, Jv uu, Jv ub, jv v, .ref d9, .ref da, .ref db, .ref dc, .ref dd, .ref de, jv lk]), (d1, ai g 61 r1), (d2, ai g 9 (up nw 0 u)), (d3, ai g 9 ol), (d4, az g 64 (setB bt' u)), (d5, ai g 70 f'), (d6, ai g 70 kg), (d7, ai g 70 re'), (d8, ai g 71 fw'), (d9, ai g 10 pm'), (da, ai g 600 g0), (db, ai g 600 g1), (dc, ai g 600 g2), (dd, al g 600 g3), (de, al g 600 g4)] 0 0 [(2, jv (-1)), (0, .ref o), (1, jv u)] 122 []
            refine x_aload_n (pc := 122) C 1 dX6_put_122 rfl ?_
            refine x_callV (pc := 123) C (n := 0) (q0 := 0) (rest := []) (wr := [(d4, az g 64 (setB bt' u)), (d6, ai g 70 kg), (d7, ai g 70 re'), (d8, ai g 71 fw'), (d9, ai g 10 pm'), (da, ai g 600 g0), (db, ai g 600 g1), (dc, ai g 600 g2), (dd, al g 600 g3), (de, al g 600 g4)]) [0, 1, 2, 3, 5] [4, 6, 7, 8, 9, 10, 11, 12, 13, 14] (ctX6_layNow l g o d1 d2 d3 d4 d5 d6 d7 d8 d9 da db dc dd de nn e (0 + 1) 0 (co + nn) nn km uu ub v lk r1 (up nw 0 u) ol f' (nn + 1) (insF nf u (belC nn nf u)) ((NO.mk n1 f_94.2.1).putNew f_12.1 (by omega) ⟨by omega, by omega⟩ (fun ⟨i, i0, i1, _⟩ => by omega) (by omega))) gX6_put_X6_layNow rfl ⟨rfl, rfl⟩ (by decide +kernel) ⟨by decide, by decide⟩ rfl rfl rfl rfl rfl (by decide) (by decide) (by decide) rfl (Nat.le_of_ble_eq_true rfl) dX6_put_123 ⟨by decide, by decide⟩ (fun v_123 u_123 h_123 => ?_)
            rcases h_123 with ⟨fb, rfl, rfl, f_123⟩
            refine x_world (ws' := [(o, ob 6 [jv nn, .ref d1, jv e, jv (0 + 1), .ref d2, jv 0, .ref d3, jv (co + nn), .ref d4, jv (nn + 1), .ref d5, jv km, .ref d6, .ref d7, .ref d8, Jv uu, Jv ub, jv v, .ref d9, .ref da, .ref db, .ref dc, .ref dd, .ref de, jv lk]), (d1, ai g 61 r1), (d2, ai g 9 (up nw 0 u)), (d3, ai g 9 ol), (d4, az g 64 (setB bt' u)), (d5, ai g 70 fb), (d6, ai g 70 kg), (d7, ai g 70 re'), (d8, ai g 71 fw'), (d9, ai g 10 pm'), (da, ai g 600 g0), (db, ai g 600 g1), (dc, ai g 600 g2), (dd, al g 600 g3), (de, al g 600 g4)]) [10, 11, 12, 13, 0, 14, 1, 2, 3, 4, 5, 6, 7, 8, 9] (by decide) rfl ?_
            show X l g E ({ frames := 6, cells := 0, slots := 0, locals := 144 } : Room) 3 [(o, ob 6 [jv nn, .ref d1, jv e, jv (0 + 1), .ref d2, jv 0, .ref d3, jv (co + nn), .ref d4, jv (nn + 1), .ref d5, jv km, .ref d6, .ref d7, .ref d8, Jv uu, Jv ub, jv v, .ref d9, .ref da, .ref db, .ref dc, .ref dd, .ref de, jv lk]), (d1, ai g 61 r1), (d2, ai g 9 (up nw 0 u)), (d3, ai g 9 ol), (d4, az g 64 (setB bt' u)), (d5, ai g 70 fb), (d6, ai g 70 kg), (d7, ai g 70 re'), (d8, ai g 71 fw'), (d9, ai g 10 pm'), (da, ai g 600 g0), (db, ai g 600 g1), (dc, ai g 600 g2), (dd, al g 600 g3), (de, al g 600 g4)] 0 0 [(2, jv (-1)), (0, .ref o), (1, jv u)] 126 []
            refine x_aload_n (pc := 126) C 1 dX6_put_126 rfl ?_
            refine x_get (pc := 127) C 0 9 dX6_put_127 hiX6_put_6 hfX6_put_66 rfl rfl rfl (by decide) rfl ?_
            refine x_iret (pc := 130) C Rt0 dX6_put_130 rfl ?_
            refine Or.inr (Or.inr (Or.inr (Or.inr (Or.inr (⟨_, _, _, _, _, _, _, _, _, _, _, _, _, _, _, _, _, rfl, rfl, ?_⟩)))))
            exact ⟨by omega, by omega, f_12.1, by omega, fun q => f_42 ((hno.old f_12.1).mp q), by omega, (NO.mk n1 f_94.2.1).putNew f_12.1 (by omega) ⟨by omega, by omega⟩ (fun ⟨i, i0, i1, _⟩ => by omega) (by omega), f_94.2⟩
      · refine x_bipush (pc := 30) C dX6_put_30 rfl ?_
        refine x_iret (pc := 32) C Rt0 dX6_put_32 rfl ?_
        refine Or.inr (Or.inr (Or.inl ⟨_, rfl, rfl, ?_⟩))
        exact ⟨by omega, by omega, f_12.1, by omega⟩
  · refine x_world (ws' := [(o, ob 6 [jv rn, .ref d1, jv e, jv nc, .ref d2, jv oc, .ref d3, jv co, .ref d4, jv un, .ref d5, jv kn, .ref d6, .ref d7, .ref d8, Jv lU, Jv lB, jv vn, .ref d9, .ref da, .ref db, .ref dc, .ref dd, .ref de, jv lk]), (d1, ai g 61 rf), (d2, ai g 9 nw), (d3, ai g 9 ol), (d4, az g 64 bt), (d5, ai g 70 uf), (d6, ai g 70 kf), (d7, ai g 70 re), (d8, ai g 71 fw), (d9, ai g 10 pm), (da, ai g 600 fs), (db, ai g 600 la), (dc, ai g 600 fk), (dd, al g 600 us), (de, al g 600 bs)]) [0, 1, 2, 3, 4, 5, 6, 7, 8, 9, 10, 11, 12, 13, 14] (by decide) rfl ?_
    show X l g E ({ frames := 6, cells := 0, slots := 0, locals := 144 } : Room) 3 [(o, ob 6 [jv rn, .ref d1, jv e, jv nc, .ref d2, jv oc, .ref d3, jv co, .ref d4, jv un, .ref d5, jv kn, .ref d6, .ref d7, .ref d8, Jv lU, Jv lB, jv vn, .ref d9, .ref da, .ref db, .ref dc, .ref dd, .ref de, jv lk]), (d1, ai g 61 rf), (d2, ai g 9 nw), (d3, ai g 9 ol), (d4, az g 64 bt), (d5, ai g 70 uf), (d6, ai g 70 kf), (d7, ai g 70 re), (d8, ai g 71 fw), (d9, ai g 10 pm), (da, ai g 600 fs), (db, ai g 600 la), (dc, ai g 600 fk), (dd, al g 600 us), (de, al g 600 bs)] 0 0 [(0, .ref o), (1, jv u)] 4 [jv 0]
    refine x_if_ne (pc := 4) C 10 dX6_put_4 rfl ⟨by decide, by decide⟩ (fun h => absurd h (by decide)) (fun _ => ?_)
    refine x_bipush (pc := 7) C dX6_put_7 rfl ?_
    refine x_iret (pc := 9) C Rt0 dX6_put_9 rfl ?_
    refine Or.inl ⟨rfl, rfl, ?_⟩
    omega

set_option maxRecDepth 100000 in
theorem hiX6_take_6 : ∀ w ∈ wsX60, w ∈ wsX6_take := by decide +kernel
set_option maxRecDepth 100000 in
theorem hfX6_take_17 : Cond.fieldLink RX6 17 "KeyGuessModel" "news" "[I" ∈ wsX6_take := by decide +kernel
set_option maxRecDepth 100000 in
theorem hfX6_take_83 : Cond.fieldLink RX6 83 "KeyGuessModel" "newMany" "I" ∈ wsX6_take := by decide +kernel
set_option maxRecDepth 100000 in
theorem hfX6_take_66 : Cond.fieldLink RX6 66 "KeyGuessModel" "nowMany" "I" ∈ wsX6_take := by decide +kernel
set_option maxRecDepth 100000 in
theorem hfX6_take_72 : Cond.fieldLink RX6 72 "KeyGuessModel" "oldMany" "I" ∈ wsX6_take := by decide +kernel
set_option maxRecDepth 100000 in
theorem hfX6_take_20 : Cond.fieldLink RX6 20 "KeyGuessModel" "olds" "[I" ∈ wsX6_take := by decide +kernel
set_option maxHeartbeats 4000000 in
set_option maxRecDepth 100000 in
/-- take -/
theorem ctX6_take (l : Launch) (g : xG) (o : Nat) (d1 : Nat) (d2 : Nat) (d3 : Nat) (d4 : Nat) (d5 : Nat) (d6 : Nat) (d7 : Nat) (d8 : Nat) (d9 : Nat) (da : Nat) (db : Nat) (dc : Nat) (dd : Nat) (de : Nat) (rn : Int) (e : Int) (nc : Int) (oc : Int) (co : Int) (un : Int) (kn : Int) (lU : Int) (lB : Int) (vn : Int) (lk : Int) (rf : Int → Int) (nw : Int → Int) (ol : Int → Int) (bt : Int → Bool) (uf : Int → Int) (kf : Int → Int) (re : Int → Int) (fw : Int → Int) (pm : Int → Int) (fs : Int → Int) (la : Int → Int) (fk : Int → Int) (us : Int → Int) (bs : Int → Int) (nn : Int) (nf : Int → Int) (u : Int) (hno : NO nn nf rn rf nc nw oc ol) (he : 0 ≤ e ∧ e ≤ 8) (ru : Rg u) : Ct l g yX6_take wsX6_take ({ frames := 6, cells := 0, slots := 0, locals := 144 } : Room) 0 0 [(o, ob 6 [jv rn, .ref d1, jv e, jv nc, .ref d2, jv oc, .ref d3, jv co, .ref d4, jv un, .ref d5, jv kn, .ref d6, .ref d7, .ref d8, Jv lU, Jv lB, jv vn, .ref d9, .ref da, .ref db, .ref dc, .ref dd, .ref de, jv lk]), (d1, ai g 61 rf), (d2, ai g 9 nw), (d3, ai g 9 ol), (d4, az g 64 bt), (d5, ai g 70 uf), (d6, ai g 70 kf), (d7, ai g 70 re), (d8, ai g 71 fw), (d9, ai g 10 pm), (da, ai g 600 fs), (db, ai g 600 la), (dc, ai g 600 fk), (dd, al g 600 us), (de, al g 600 bs)] [.ref o, jv u] (fun rV rU => (rV = some (jv (-2)) ∧ rU = [(o, ob 6 [jv rn, .ref d1, jv e, jv nc, .ref d2, jv oc, .ref d3, jv co, .ref d4, jv un, .ref d5, jv kn, .ref d6, .ref d7, .ref d8, Jv lU, Jv lB, jv vn, .ref d9, .ref da, .ref db, .ref dc, .ref dd, .ref de, jv lk]), (d1, ai g 61 rf), (d2, ai g 9 nw), (d3, ai g 9 ol), (d4, az g 64 bt), (d5, ai g 70 uf), (d6, ai g 70 kf), (d7, ai g 70 re), (d8, ai g 71 fw), (d9, ai g 10 pm), (da, ai g 600 fs), (db, ai g 600 la), (dc, ai g 600 fk), (dd, al g 600 us), (de, al g 600 bs)] ∧ (u < 0 ∨ 1000000 < u)) ∨ (∃ (f1 : Int → Int), rV = some (jv (-3)) ∧ rU = [(o, ob 6 [jv rn, .ref d1, jv e, jv nc, .ref d2, jv oc, .ref d3, jv co, .ref d4, jv nn, .ref d5, jv kn, .ref d6, .ref d7, .ref d8, Jv lU, Jv lB, jv vn, .ref d9, .ref da, .ref db, .ref dc, .ref dd, .ref de, jv lk]), (d1, ai g 61 rf), (d2, ai g 9 nw), (d3, ai g 9 ol), (d4, az g 64 bt), (d5, ai g 70 f1), (d6, ai g 70 kf), (d7, ai g 70 re), (d8, ai g 71 fw), (d9, ai g 10 pm), (da, ai g 600 fs), (db, ai g 600 la), (dc, ai g 600 fk), (dd, al g 600 us), (de, al g 600 bs)] ∧ (0 ≤ u ∧ u ≤ 1000000 ∧ ¬ Inr nn nf u)) ∨ (∃ (f1 : Int → Int) (nw' : Int → Int), rV = some (jv (nn - 1)) ∧ rU = [(o, ob 6 [jv rn, .ref d1, jv e, jv (nc - 1), .ref d2, jv oc, .ref d3, jv co, .ref d4, jv (nn - 1), .ref d5, jv kn, .ref d6, .ref d7, .ref d8, Jv lU, Jv lB, jv vn, .ref d9, .ref da, .ref db, .ref dc, .ref dd, .ref de, jv lk]), (d1, ai g 61 rf), (d2, ai g 9 nw'), (d3, ai g 9 ol), (d4, az g 64 bt), (d5, ai g 70 f1), (d6, ai g 70 kf), (d7, ai g 70 re), (d8, ai g 71 fw), (d9, ai g 10 pm), (da, ai g 600 fs), (db, ai g 600 la), (dc, ai g 600 fk), (dd, al g 600 us), (de, al g 600 bs)] ∧ (0 ≤ u ∧ u ≤ 1000000 ∧ Inr nn nf u ∧ ¬ Inr rn rf u ∧ NO (nn - 1) (delF nf (belC nn nf u)) rn rf (nc - 1) nw' oc ol)) ∨ (∃ (f1 : Int → Int) (ol' : Int → Int), rV = some (jv (nn - 1)) ∧ rU = [(o, ob 6 [jv rn, .ref d1, jv e, jv nc, .ref d2, jv (oc + 1), .ref d3, jv co, .ref d4, jv (nn - 1), .ref d5, jv kn, .ref d6, .ref d7, .ref d8, Jv lU, Jv lB, jv vn, .ref d9, .ref da, .ref db, .ref dc, .ref dd, .ref de, jv lk]), (d1, ai g 61 rf), (d2, ai g 9 nw), (d3, ai g 9 ol'), (d4, az g 64 bt), (d5, ai g 70 f1), (d6, ai g 70 kf), (d7, ai g 70 re), (d8, ai g 71 fw), (d9, ai g 10 pm), (da, ai g 600 fs), (db, ai g 600 la), (dc, ai g 600 fk), (dd, al g 600 us), (de, al g 600 bs)] ∧ (0 ≤ u ∧ u ≤ 1000000 ∧ Inr nn nf u ∧ Inr rn rf u ∧ nc + oc < 8 ∧ NO (nn - 1) (delF nf (belC nn nf u)) rn rf nc nw (oc + 1) ol')) ∨ (∃ (f2 : Int → Int) (ol' : Int → Int) (km : Int) (v : Int) (uu : Int) (ub : Int) (r1 : Int → Int) (kg : Int → Int) (re' : Int → Int) (fw' : Int → Int) (pm' : Int → Int) (g0 : Int → Int) (g1 : Int → Int) (g2 : Int → Int) (g3 : Int → Int) (g4 : Int → Int) (bt' : Int → Bool), rV = some (jv (nn - 1)) ∧ rU = [(o, ob 6 [jv nn, .ref d1, jv e, jv 0, .ref d2, jv (0 + 1), .ref d3, jv (co + nn), .ref d4, jv (nn - 1), .ref d5, jv km, .ref d6, .ref d7, .ref d8, Jv uu, Jv ub, jv v, .ref d9, .ref da, .ref db, .ref dc, .ref dd, .ref de, jv lk]), (d1, ai g 61 r1), (d2, ai g 9 nw), (d3, ai g 9 ol'), (d4, az g 64 bt'), (d5, ai g 70 f2), (d6, ai g 70 kg), (d7, ai g 70 re'), (d8, ai g 71 fw'), (d9, ai g 10 pm'), (da, ai g 600 g0), (db, ai g 600 g1), (dc, ai g 600 g2), (dd, al g 600 g3), (de, al g 600 g4)] ∧ (0 ≤ u ∧ u ≤ 1000000 ∧ Inr nn nf u ∧ Inr rn rf u ∧ nc + oc = 8 ∧ NO (nn - 1) (delF nf (belC nn nf u)) nn r1 0 nw (0 + 1) ol' ∧ Agr nn r1 nf ∧ LvM nf e nn v pm' g0 g1 g2 g3 g4 ∧ ∀ j : Int, 0 ≤ j → j < 64 → bt' j = mkB nf nn.toNat j))) := by
  refine ct_of (cc := cX6_take) (nL := 3) (ret := (some .int)) (by decide) rfl (Nat.le_of_ble_eq_true rfl) ?_
  intro E C Rt0
  have C : Cx l g E ({ frames := 6, cells := 0, slots := 0, locals := 144 } : Room) RX6 "take" cX6_take wsX6_take 3 := C
  show X l g E ({ frames := 6, cells := 0, slots := 0, locals := 144 } : Room) 3 [(o, ob 6 [jv rn, .ref d1, jv e, jv nc, .ref d2, jv oc, .ref d3, jv co, .ref d4, jv un, .ref d5, jv kn, .ref d6, .ref d7, .ref d8, Jv lU, Jv lB, jv vn, .ref d9, .ref da, .ref db, .ref dc, .ref dd, .ref de, jv lk]), (d1, ai g 61 rf), (d2, ai g 9 nw), (d3, ai g 9 ol), (d4, az g 64 bt), (d5, ai g 70 uf), (d6, ai g 70 kf), (d7, ai g 70 re), (d8, ai g 71 fw), (d9, ai g 10 pm), (da, ai g 600 fs), (db, ai g 600 la), (dc, ai g 600 fk), (dd, al g 600 us), (de, al g 600 bs)] 0 0 [(0, .ref o), (1, jv u)] 0 []
  have n1 := hno.1
  have nn0 := n1.1
  have nn1 := n1.2.1
  have hc := hno.2.2.1
  have hnw := hno.2.2.2.1
  refine x_iload_n (pc := 0) C 1 dX6_take_0 rfl ?_
  refine x_callS (pc := 1) C (n := 1) (rest := []) (wr := [(o, ob 6 [jv rn, .ref d1, jv e, jv nc, .ref d2, jv oc, .ref d3, jv co, .ref d4, jv un, .ref d5, jv kn, .ref d6, .ref d7, .ref d8, Jv lU, Jv lB, jv vn, .ref d9, .ref da, .ref db, .ref dc, .ref dd, .ref de, jv lk]), (d1, ai g 61 rf), (d2, ai g 9 nw), (d3, ai g 9 ol), (d4, az g 64 bt), (d5, ai g 70 uf), (d6, ai g 70 kf), (d7, ai g 70 re), (d8, ai g 71 fw), (d9, ai g 10 pm), (da, ai g 600 fs), (db, ai g 600 la), (dc, ai g 600 fk), (dd, al g 600 us), (de, al g 600 bs)]) [] [0, 1, 2, 3, 4, 5, 6, 7, 8, 9, 10, 11, 12, 13, 14] (ctX6_isNumber l g u ru) gX6_take_X6_isNumber rfl (by decide +kernel) ⟨rfl, rfl⟩ ⟨by decide, by decide⟩ rfl rfl rfl (by decide) (by decide) (by decide) rfl (Nat.le_of_ble_eq_true rfl) dX6_take_1 ⟨by decide, by decide⟩ (fun v_1 u_1 h_1 => ?_)
  rcases h_1 with ⟨rfl, rfl, f_1⟩ | ⟨rfl, rfl, f_1⟩
  · refine x_world (ws' := [(o, ob 6 [jv rn, .ref d1, jv e, jv nc, .ref d2, jv oc, .ref d3, jv co, .ref d4, jv un, .ref d5, jv kn, .ref d6, .ref d7, .ref d8, Jv lU, Jv lB, jv vn, .ref d9, .ref da, .ref db, .ref dc, .ref dd, .ref de, jv lk]), (d1, ai g 61 rf), (d2, ai g 9 nw), (d3, ai g 9 ol), (d4, az g 64 bt), (d5, ai g 70 uf), (d6, ai g 70 kf), (d7, ai g 70 re), (d8, ai g 71 fw), (d9, ai g 10 pm), (da, ai g 600 fs), (db, ai g 600 la), (dc, ai g 600 fk), (dd, al g 600 us), (de, al g 600 bs)]) [0, 1, 2, 3, 4, 5, 6, 7, 8, 9, 10, 11, 12, 13, 14] (by decide) rfl ?_
    show X l g E ({ frames := 6, cells := 0, slots := 0, locals := 144 } : Room) 3 [(o, ob 6 [jv rn, .ref d1, jv e, jv nc, .ref d2, jv oc, .ref d3, jv co, .ref d4, jv un, .ref d5, jv kn, .ref d6, .ref d7, .ref d8, Jv lU, Jv lB, jv vn, .ref d9, .ref da, .ref db, .ref dc, .ref dd, .ref de, jv lk]), (d1, ai g 61 rf), (d2, ai g 9 nw), (d3, ai g 9 ol), (d4, az g 64 bt), (d5, ai g 70 uf), (d6, ai g 70 kf), (d7, ai g 70 re), (d8, ai g 71 fw), (d9, ai g 10 pm), (da, ai g 600 fs), (db, ai g 600 la), (dc, ai g 600 fk), (dd, al g 600 us), (de, al g 600 bs)] 0 0 [(0, .ref o), (1, jv u)] 4 [jv 1]
    refine x_if_ne (pc := 4) C 10 dX6_take_4 rfl ⟨by decide, by decide⟩ (fun _ => ?_) (fun h => absurd h (by decide))
    refine x_aload_n (pc := 10) C 0 dX6_take_10 rfl ?_
    refine x_iload_n (pc := 11) C 1 dX6_take_11 rfl ?_
    refine x_callV (pc := 12) C (n := 1) (q0 := 0) (rest := []) (wr := [(d4, az g 64 bt), (d6, ai g 70 kf), (d7, ai g 70 re), (d8, ai g 71 fw), (d9, ai g 10 pm), (da, ai g 600 fs), (db, ai g 600 la), (dc, ai g 600 fk), (dd, al g 600 us), (de, al g 600 bs)]) [0, 1, 2, 3, 5] [4, 6, 7, 8, 9, 10, 11, 12, 13, 14] (ctX6_isThere l g o d1 d2 d3 d4 d5 d6 d7 d8 d9 da db dc dd de rn e nc oc co un kn lU lB vn lk rf nw ol uf nn nf u hno ru) gX6_take_X6_isThere rfl ⟨rfl, rfl⟩ (by decide +kernel) ⟨by decide, by decide⟩ rfl rfl rfl rfl rfl (by decide) (by decide) (by decide) rfl (Nat.le_of_ble_eq_true rfl) dX6_take_12 ⟨by decide, by decide⟩ (fun v_12 u_12 h_12 => ?_)
    rcases h_12 with ⟨fa, rfl, rfl, f_12⟩ | ⟨fa, rfl, rfl, f_12⟩
    · refine x_world (ws' := [(o, ob 6 [jv rn, .ref d1, jv e, jv nc, .ref d2, jv oc, .ref d3, jv co, .ref d4, jv nn, .ref d5, jv kn, .ref d6, .ref d7, .ref d8, Jv lU, Jv lB, jv vn, .ref d9, .ref da, .ref db, .ref dc, .ref dd, .ref de, jv lk]), (d1, ai g 61 rf), (d2, ai g 9 nw), (d3, ai g 9 ol), (d4, az g 64 bt), (d5, ai g 70 fa), (d6, ai g 70 kf), (d7, ai g 70 re), (d8, ai g 71 fw), (d9, ai g 10 pm), (da, ai g 600 fs), (db, ai g 600 la), (dc, ai g 600 fk), (dd, al g 600 us), (de, al g 600 bs)]) [10, 11, 12, 13, 0, 14, 1, 2, 3, 4, 5, 6, 7, 8, 9] (by decide) rfl ?_
      show X l g E ({ frames := 6, cells := 0, slots := 0, locals := 144 } : Room) 3 [(o, ob 6 [jv rn, .ref d1, jv e, jv nc, .ref d2, jv oc, .ref d3, jv co, .ref d4, jv nn, .ref d5, jv kn, .ref d6, .ref d7, .ref d8, Jv lU, Jv lB, jv vn, .ref d9, .ref da, .ref db, .ref dc, .ref dd, .ref de, jv lk]), (d1, ai g 61 rf), (d2, ai g 9 nw), (d3, ai g 9 ol), (d4, az g 64 bt), (d5, ai g 70 fa), (d6, ai g 70 kf), (d7, ai g 70 re), (d8, ai g 71 fw), (d9, ai g 10 pm), (da, ai g 600 fs), (db, ai g 600 la), (dc, ai g 600 fk), (dd, al g 600 us), (de, al g 600 bs)] 0 0 [(0, .ref o), (1, jv u)] 15 [jv 1]
      refine x_if_ne (pc := 15) C 21 dX6_take_15 rfl ⟨by decide, by decide⟩ (fun _ => ?_) (fun h => absurd h (by decide))
      refine x_aload_n (pc := 21) C 0 dX6_take_21 rfl ?_
      refine x_get (pc := 22) C 0 4 dX6_take_22 hiX6_take_6 hfX6_take_17 rfl rfl rfl (by decide) rfl ?_
      refine x_aload_n (pc := 25) C 0 dX6_take_25 rfl ?_
      refine x_get (pc := 26) C 0 3 dX6_take_26 hiX6_take_6 hfX6_take_83 rfl rfl rfl (by decide) rfl ?_
      refine x_iload_n (pc := 29) C 1 dX6_take_29 rfl ?_
      refine x_callS (pc := 30) C (n := 3) (rest := []) (wr := [(o, ob 6 [jv rn, .ref d1, jv e, jv nc, .ref d2, jv oc, .ref d3, jv co, .ref d4, jv nn, .ref d5, jv kn, .ref d6, .ref d7, .ref d8, Jv lU, Jv lB, jv vn, .ref d9, .ref da, .ref db, .ref dc, .ref dd, .ref de, jv lk]), (d1, ai g 61 rf), (d3, ai g 9 ol), (d4, az g 64 bt), (d5, ai g 70 fa), (d6, ai g 70 kf), (d7, ai g 70 re), (d8, ai g 71 fw), (d9, ai g 10 pm), (da, ai g 600 fs), (db, ai g 600 la), (dc, ai g 600 fk), (dd, al g 600 us), (de, al g 600 bs)]) [2] [0, 1, 3, 4, 5, 6, 7, 8, 9, 10, 11, 12, 13, 14] (ctX6_placeIn l g d2 9 nc u nw ⟨by omega, by omega, by omega⟩ hnw ru) gX6_take_X6_placeIn rfl (by decide +kernel) ⟨rfl, rfl⟩ ⟨by decide, by decide⟩ rfl rfl rfl (by decide) (by decide) (by decide) rfl (Nat.le_of_ble_eq_true rfl) dX6_take_30 ⟨by decide, by decide⟩ (fun v_30 u_30 h_30 => ?_)
      rcases h_30 with ⟨k, rfl, rfl, f_30⟩ | ⟨rfl, rfl, f_30⟩
      · refine x_world (ws' := [(o, ob 6 [jv rn, .ref d1, jv e, jv nc, .ref d2, jv oc, .ref d3, jv co, .ref d4, jv nn, .ref d5, jv kn, .ref d6, .ref d7, .ref d8, Jv lU, Jv lB, jv vn, .ref d9, .ref da, .ref db, .ref dc, .ref dd, .ref de, jv lk]), (d1, ai g 61 rf), (d2, ai g 9 nw), (d3, ai g 9 ol), (d4, az g 64 bt), (d5, ai g 70 fa), (d6, ai g 70 kf), (d7, ai g 70 re), (d8, ai g 71 fw), (d9, ai g 10 pm), (da, ai g 600 fs), (db, ai g 600 la), (dc, ai g 600 fk), (dd, al g 600 us), (de, al g 600 bs)]) [0, 1, 14, 2, 3, 4, 5, 6, 7, 8, 9, 10, 11, 12, 13] (by decide) rfl ?_
        show X l g E ({ frames := 6, cells := 0, slots := 0, locals := 144 } : Room) 3 [(o, ob 6 [jv rn, .ref d1, jv e, jv nc, .ref d2, jv oc, .ref d3, jv co, .ref d4, jv nn, .ref d5, jv kn, .ref d6, .ref d7, .ref d8, Jv lU, Jv lB, jv vn, .ref d9, .ref da, .ref db, .ref dc, .ref dd, .ref de, jv lk]), (d1, ai g 61 rf), (d2, ai g 9 nw), (d3, ai g 9 ol), (d4, az g 64 bt), (d5, ai g 70 fa), (d6, ai g 70 kf), (d7, ai g 70 re), (d8, ai g 71 fw), (d9, ai g 10 pm), (da, ai g 600 fs), (db, ai g 600 la), (dc, ai g 600 fk), (dd, al g 600 us), (de, al g 600 bs)] 0 0 [(0, .ref o), (1, jv u)] 33 [jv k]
        refine x_istore_n (pc := 33) C (lv' := [(2, jv k), (0, .ref o), (1, jv u)]) dX6_take_33 (by decide) rfl ?_
        refine x_iload_n (pc := 34) C 0 dX6_take_34 rfl ?_
        refine x_iconst (pc := 35) C dX6_take_35 ?_
        refine x_icmp_eq (pc := 36) C 67 dX6_take_36 rfl ⟨by omega, by omega⟩ ⟨by omega, by omega⟩ (fun c_36 => ?_) (fun c_36 => ?_)
        · omega
        · refine x_aload_n (pc := 39) C 1 dX6_take_39 rfl ?_
          refine x_dup (pc := 40) C dX6_take_40 rfl ?_
          refine x_get (pc := 41) C 0 3 dX6_take_41 hiX6_take_6 hfX6_take_83 rfl rfl rfl (by decide) rfl ?_
          refine x_iconst (pc := 44) C dX6_take_44 ?_
          refine x_isub (pc := 45) C dX6_take_45 ?_
          refine x_put (pc := 46) C (ty := .int) (ws' := [(o, ob 6 [jv rn, .ref d1, jv e, jv (nc - 1), .ref d2, jv oc, .ref d3, jv co, .ref d4, jv nn, .ref d5, jv kn, .ref d6, .ref d7, .ref d8, Jv lU, Jv lB, jv vn, .ref d9, .ref da, .ref db, .ref dc, .ref dd, .ref de, jv lk]), (d1, ai g 61 rf), (d2, ai g 9 nw), (d3, ai g 9 ol), (d4, az g 64 bt), (d5, ai g 70 fa), (d6, ai g 70 kf), (d7, ai g 70 re), (d8, ai g 71 fw), (d9, ai g 10 pm), (da, ai g 600 fs), (db, ai g 600 la), (dc, ai g 600 fk), (dd, al g 600 us), (de, al g 600 bs)]) tyX6 0 3 dX6_take_46 hiX6_take_6 tyX6_ok nmX6 hfX6_take_83 rfl rfl rfl (by decide) rfl (by decide +kernel) rfl rfl (Nat.le_of_ble_eq_true rfl) rfl ?_
          refine x_aload_n (pc := 49) C 1 dX6_take_49 rfl ?_
          refine x_get (pc := 50) C 0 4 dX6_take_50 hiX6_take_6 hfX6_take_17 rfl rfl rfl (by decide) rfl ?_
          refine x_iload_n (pc := 53) C 0 dX6_take_53 rfl ?_
          refine x_aload_n (pc := 54) C 1 dX6_take_54 rfl ?_
          refine x_get (pc := 55) C 0 4 dX6_take_55 hiX6_take_6 hfX6_take_17 rfl rfl rfl (by decide) rfl ?_
          refine x_aload_n (pc := 58) C 1 dX6_take_58 rfl ?_
          refine x_get (pc := 59) C 0 3 dX6_take_59 hiX6_take_6 hfX6_take_83 rfl rfl rfl (by decide) rfl ?_
          refine x_iald (pc := 62) C 2 dX6_take_62 rfl (by omega) (by omega) (by decide) ?_
          refine x_iast (pc := 63) C (ws' := [(o, ob 6 [jv rn, .ref d1, jv e, jv (nc - 1), .ref d2, jv oc, .ref d3, jv co, .ref d4, jv nn, .ref d5, jv kn, .ref d6, .ref d7, .ref d8, Jv lU, Jv lB, jv vn, .ref d9, .ref da, .ref db, .ref dc, .ref dd, .ref de, jv lk]), (d1, ai g 61 rf), (d2, ai g 9 (up nw k (nw (nc - 1)))), (d3, ai g 9 ol), (d4, az g 64 bt), (d5, ai g 70 fa), (d6, ai g 70 kf), (d7, ai g 70 re), (d8, ai g 71 fw), (d9, ai g 10 pm), (da, ai g 600 fs), (db, ai g 600 la), (dc, ai g 600 fk), (dd, al g 600 us), (de, al g 600 bs)]) 2 dX6_take_63 rfl (by omega) (by omega) (by decide) rfl ?_
          refine x_goto (pc := 64) C 105 dX6_take_64 rfl ?_
          refine x_aload_n (pc := 105) C 1 dX6_take_105 rfl ?_
          refine x_callV (pc := 106) C (n := 0) (q0 := 0) (rest := []) (wr := [(d4, az g 64 bt), (d6, ai g 70 kf), (d7, ai g 70 re), (d8, ai g 71 fw), (d9, ai g 10 pm), (da, ai g 600 fs), (db, ai g 600 la), (dc, ai g 600 fk), (dd, al g 600 us), (de, al g 600 bs)]) [0, 1, 2, 3, 5] [4, 6, 7, 8, 9, 10, 11, 12, 13, 14] (ctX6_layNow l g o d1 d2 d3 d4 d5 d6 d7 d8 d9 da db dc dd de rn e (nc - 1) oc co nn kn lU lB vn lk rf (up nw k (nw (nc - 1))) ol fa (nn - 1) (delF nf (belC nn nf u)) (hno.takeNew f_12.1 (by omega) (by omega) (by omega))) gX6_take_X6_layNow rfl ⟨rfl, rfl⟩ (by decide +kernel) ⟨by decide, by decide⟩ rfl rfl rfl rfl rfl (by decide) (by decide) (by decide) rfl (Nat.le_of_ble_eq_true rfl) dX6_take_106 ⟨by decide, by decide⟩ (fun v_106 u_106 h_106 => ?_)
          rcases h_106 with ⟨fb, rfl, rfl, f_106⟩
          refine x_world (ws' := [(o, ob 6 [jv rn, .ref d1, jv e, jv (nc - 1), .ref d2, jv oc, .ref d3, jv co, .ref d4, jv (nn - 1), .ref d5, jv kn, .ref d6, .ref d7, .ref d8, Jv lU, Jv lB, jv vn, .ref d9, .ref da, .ref db, .ref dc, .ref dd, .ref de, jv lk]), (d1, ai g 61 rf), (d2, ai g 9 (up nw k (nw (nc - 1)))), (d3, ai g 9 ol), (d4, az g 64 bt), (d5, ai g 70 fb), (d6, ai g 70 kf), (d7, ai g 70 re), (d8, ai g 71 fw), (d9, ai g 10 pm), (da, ai g 600 fs), (db, ai g 600 la), (dc, ai g 600 fk), (dd, al g 600 us), (de, al g 600 bs)]) [10, 11, 12, 13, 0, 14, 1, 2, 3, 4, 5, 6, 7, 8, 9] (by decide) rfl ?_
          show X l g E ({ frames := 6, cells := 0, slots := 0, locals := 144 } : Room) 3 [(o, ob 6 [jv rn, .ref d1, jv e, jv (nc - 1), .ref d2, jv oc, .ref d3, jv co, .ref d4, jv (nn - 1), .ref d5, jv kn, .ref d6, .ref d7, .ref d8, Jv lU, Jv lB, jv vn, .ref d9, .ref da, .ref db, .ref dc, .ref dd, .ref de, jv lk]), (d1, ai g 61 rf), (d2, ai g 9 (up nw k (nw (nc - 1)))), (d3, ai g 9 ol), (d4, az g 64 bt), (d5, ai g 70 fb), (d6, ai g 70 kf), (d7, ai g 70 re), (d8, ai g 71 fw), (d9, ai g 10 pm), (da, ai g 600 fs), (db, ai g 600 la), (dc, ai g 600 fk), (dd, al g 600 us), (de, al g 600 bs)] 0 0 [(2, jv k), (0, .ref o), (1, jv u)] 109 []
          refine x_aload_n (pc := 109) C 1 dX6_take_109 rfl ?_
          refine x_get (pc := 110) C 0 9 dX6_take_110 hiX6_take_6 hfX6_take_66 rfl rfl rfl (by decide) rfl ?_
          refine x_iret (pc := 113) C Rt0 dX6_take_113 rfl ?_
          refine Or.inr (Or.inr (Or.inl ⟨_, _, rfl, rfl, ?_⟩))
          exact ⟨by omega, by omega, f_12.1, (hno.new f_12.1).mpr ⟨k, by omega, by omega, by omega⟩, hno.takeNew f_12.1 (by omega) (by omega) (by omega)⟩
      · refine x_world (ws' := [(o, ob 6 [jv rn, .ref d1, jv e, jv nc, .ref d2, jv oc, .ref d3, jv co, .ref d4, jv nn, .ref d5, jv kn, .ref d6, .ref d7, .ref d8, Jv lU, Jv lB, jv vn, .ref d9, .ref da, .ref db, .ref dc, .ref dd, .ref de, jv lk]), (d1, ai g 61 rf), (d2, ai g 9 nw), (d3, ai g 9 ol), (d4, az g 64 bt), (d5, ai g 70 fa), (d6, ai g 70 kf), (d7, ai g 70 re), (d8, ai g 71 fw), (d9, ai g 10 pm), (da, ai g 600 fs), (db, ai g 600 la), (dc, ai g 600 fk), (dd, al g 600 us), (de, al g 600 bs)]) [0, 1, 14, 2, 3, 4, 5, 6, 7, 8, 9, 10, 11, 12, 13] (by decide) rfl ?_
        show X l g E ({ frames := 6, cells := 0, slots := 0, locals := 144 } : Room) 3 [(o, ob 6 [jv rn, .ref d1, jv e, jv nc, .ref d2, jv oc, .ref d3, jv co, .ref d4, jv nn, .ref d5, jv kn, .ref d6, .ref d7, .ref d8, Jv lU, Jv lB, jv vn, .ref d9, .ref da, .ref db, .ref dc, .ref dd, .ref de, jv lk]), (d1, ai g 61 rf), (d2, ai g 9 nw), (d3, ai g 9 ol), (d4, az g 64 bt), (d5, ai g 70 fa), (d6, ai g 70 kf), (d7, ai g 70 re), (d8, ai g 71 fw), (d9, ai g 10 pm), (da, ai g 600 fs), (db, ai g 600 la), (dc, ai g 600 fk), (dd, al g 600 us), (de, al g 600 bs)] 0 0 [(0, .ref o), (1, jv u)] 33 [jv (-1)]
        refine x_istore_n (pc := 33) C (lv' := [(2, jv (-1)), (0, .ref o), (1, jv u)]) dX6_take_33 (by decide) rfl ?_
        refine x_iload_n (pc := 34) C 0 dX6_take_34 rfl ?_
        refine x_iconst (pc := 35) C dX6_take_35 ?_
        refine x_icmp_eq (pc := 36) C 67 dX6_take_36 rfl ⟨by decide, by decide⟩ ⟨by decide, by decide⟩ (fun _ => ?_) (fun h => absurd h (by decide))
        refine x_aload_n (pc := 67) C 1 dX6_take_67 rfl ?_
        refine x_get (pc := 68) C 0 3 dX6_take_68 hiX6_take_6 hfX6_take_83 rfl rfl rfl (by decide) rfl ?_
        refine x_aload_n (pc := 71) C 1 dX6_take_71 rfl ?_
        refine x_get (pc := 72) C 0 5 dX6_take_72 hiX6_take_6 hfX6_take_72 rfl rfl rfl (by decide) rfl ?_
        refine x_iadd (pc := 75) C dX6_take_75 ?_
        refine x_bipush (pc := 76) C dX6_take_76 rfl ?_
        refine x_icmp_ne (pc := 78) C 85 dX6_take_78 rfl ⟨by omega, by omega⟩ ⟨by omega, by omega⟩ (fun c_78 => ?_) (fun c_78 => ?_)
        · refine x_aload_n (pc := 85) C 1 dX6_take_85 rfl ?_
          refine x_get (pc := 86) C 0 6 dX6_take_86 hiX6_take_6 hfX6_take_20 rfl rfl rfl (by decide) rfl ?_
          refine x_aload_n (pc := 89) C 1 dX6_take_89 rfl ?_
          refine x_get (pc := 90) C 0 5 dX6_take_90 hiX6_take_6 hfX6_take_72 rfl rfl rfl (by decide) rfl ?_
          refine x_iload_n (pc := 93) C 2 dX6_take_93 rfl ?_
          refine x_iast (pc := 94) C (ws' := [(o, ob 6 [jv rn, .ref d1, jv e, jv nc, .ref d2, jv oc, .ref d3, jv co, .ref d4, jv nn, .ref d5, jv kn, .ref d6, .ref d7, .ref d8, Jv lU, Jv lB, jv vn, .ref d9, .ref da, .ref db, .ref dc, .ref dd, .ref de, jv lk]), (d1, ai g 61 rf), (d2, ai g 9 nw), (d3, ai g 9 (up ol oc u)), (d4, az g 64 bt), (d5, ai g 70 fa), (d6, ai g 70 kf), (d7, ai g 70 re), (d8, ai g 71 fw), (d9, ai g 10 pm), (da, ai g 600 fs), (db, ai g 600 la), (dc, ai g 600 fk), (dd, al g 600 us), (de, al g 600 bs)]) 3 dX6_take_94 rfl (by omega) (by omega) (by decide) rfl ?_
          refine x_aload_n (pc := 95) C 1 dX6_take_95 rfl ?_
          refine x_dup (pc := 96) C dX6_take_96 rfl ?_
          refine x_get (pc := 97) C 0 5 dX6_take_97 hiX6_take_6 hfX6_take_72 rfl rfl rfl (by decide) rfl ?_
          refine x_iconst (pc := 100) C dX6_take_100 ?_
          refine x_iadd (pc := 101) C dX6_take_101 ?_
          refine x_put (pc := 102) C (ty := .int) (ws' := [(o, ob 6 [jv rn, .ref d1, jv e, jv nc, .ref d2, jv (oc + 1), .ref d3, jv co, .ref d4, jv nn, .ref d5, jv kn, .ref d6, .ref d7, .ref d8, Jv lU, Jv lB, jv vn, .ref d9, .ref da, .ref db, .ref dc, .ref dd, .ref de, jv lk]), (d1, ai g 61 rf), (d2, ai g 9 nw), (d3, ai g 9 (up ol oc u)), (d4, az g 64 bt), (d5, ai g 70 fa), (d6, ai g 70 kf), (d7, ai g 70 re), (d8, ai g 71 fw), (d9, ai g 10 pm), (da, ai g 600 fs), (db, ai g 600 la), (dc, ai g 600 fk), (dd, al g 600 us), (de, al g 600 bs)]) tyX6 0 5 dX6_take_102 hiX6_take_6 tyX6_ok nmX6 hfX6_take_72 rfl rfl rfl (by decide) rfl (by decide +kernel) rfl rfl (Nat.le_of_ble_eq_true rfl) rfl ?_
          refine x_aload_n (pc := 105) C 1 dX6_take_105 rfl ?_
          refine x_callV (pc := 106) C (n := 0) (q0 := 0) (rest := []) (wr := [(d4, az g 64 bt), (d6, ai g 70 kf), (d7, ai g 70 re), (d8, ai g 71 fw), (d9, ai g 10 pm), (da, ai g 600 fs), (db, ai g 600 la), (dc, ai g 600 fk), (dd, al g 600 us), (de, al g 600 bs)]) [0, 1, 2, 3, 5] [4, 6, 7, 8, 9, 10, 11, 12, 13, 14] (ctX6_layNow l g o d1 d2 d3 d4 d5 d6 d7 d8 d9 da db dc dd de rn e nc (oc + 1) co nn kn lU lB vn lk rf nw (up ol oc u) fa (nn - 1) (delF nf (belC nn nf u)) (hno.takeOld f_12.1 f_30 (by omega))) gX6_take_X6_layNow rfl ⟨rfl, rfl⟩ (by decide +kernel) ⟨by decide, by decide⟩ rfl rfl rfl rfl rfl (by decide) (by decide) (by decide) rfl (Nat.le_of_ble_eq_true rfl) dX6_take_106 ⟨by decide, by decide⟩ (fun v_106 u_106 h_106 => ?_)
          rcases h_106 with ⟨fb, rfl, rfl, f_106⟩
          refine x_world (ws' := [(o, ob 6 [jv rn, .ref d1, jv e, jv nc, .ref d2, jv (oc + 1), .ref d3, jv co, .ref d4, jv (nn - 1), .ref d5, jv kn, .ref d6, .ref d7, .ref d8, Jv lU, Jv lB, jv vn, .ref d9, .ref da, .ref db, .ref dc, .ref dd, .ref de, jv lk]), (d1, ai g 61 rf), (d2, ai g 9 nw), (d3, ai g 9 (up ol oc u)), (d4, az g 64 bt), (d5, ai g 70 fb), (d6, ai g 70 kf), (d7, ai g 70 re), (d8, ai g 71 fw), (d9, ai g 10 pm), (da, ai g 600 fs), (db, ai g 600 la), (dc, ai g 600 fk), (dd, al g 600 us), (de, al g 600 bs)]) [10, 11, 12, 13, 0, 14, 1, 2, 3, 4, 5, 6, 7, 8, 9] (by decide) rfl ?_
          show X l g E ({ frames := 6, cells := 0, slots := 0, locals := 144 } : Room) 3 [(o, ob 6 [jv rn, .ref d1, jv e, jv nc, .ref d2, jv (oc + 1), .ref d3, jv co, .ref d4, jv (nn - 1), .ref d5, jv kn, .ref d6, .ref d7, .ref d8, Jv lU, Jv lB, jv vn, .ref d9, .ref da, .ref db, .ref dc, .ref dd, .ref de, jv lk]), (d1, ai g 61 rf), (d2, ai g 9 nw), (d3, ai g 9 (up ol oc u)), (d4, az g 64 bt), (d5, ai g 70 fb), (d6, ai g 70 kf), (d7, ai g 70 re), (d8, ai g 71 fw), (d9, ai g 10 pm), (da, ai g 600 fs), (db, ai g 600 la), (dc, ai g 600 fk), (dd, al g 600 us), (de, al g 600 bs)] 0 0 [(2, jv (-1)), (0, .ref o), (1, jv u)] 109 []
          refine x_aload_n (pc := 109) C 1 dX6_take_109 rfl ?_
          refine x_get (pc := 110) C 0 9 dX6_take_110 hiX6_take_6 hfX6_take_66 rfl rfl rfl (by decide) rfl ?_
          refine x_iret (pc := 113) C Rt0 dX6_take_113 rfl ?_
          refine Or.inr (Or.inr (Or.inr (Or.inl ⟨_, _, rfl, rfl, ?_⟩)))
          exact ⟨by omega, by omega, f_12.1, Classical.byContradiction fun q => f_30 ((hno.new f_12.1).mp q), by omega, hno.takeOld f_12.1 f_30 (by omega)⟩
        · refine x_aload_n (pc := 81) C 1 dX6_take_81 rfl ?_
          refine x_callV (pc := 82) C (n := 0) (q0 := 0) (rest := []) (wr := []) [0, 1, 2, 3, 4, 5, 6, 7, 8, 9, 10, 11, 12, 13, 14] [] (ctX6_makeRow l g o d1 d2 d3 d4 d5 d6 d7 d8 d9 da db dc dd de rn e nc oc co nn kn lU lB vn lk rf nw ol bt fa kf re fw pm fs la fk us bs nn nf hno he) gX6_take_X6_makeRow rfl ⟨rfl, rfl⟩ (by decide +kernel) ⟨by decide, by decide⟩ rfl rfl rfl rfl rfl (by decide) (by decide) (by decide) rfl (Nat.le_of_ble_eq_true rfl) dX6_take_82 ⟨by decide, by decide⟩ (fun v_82 u_82 h_82 => ?_)
          rcases h_82 with ⟨km, v, uu, ub, r1, f', kg, re', fw', pm', g0, g1, g2, g3, g4, bt', rfl, rfl, f_82⟩
          refine x_world (ws' := [(o, ob 6 [jv nn, .ref d1, jv e, jv 0, .ref d2, jv 0, .ref d3, jv (co + nn), .ref d4, jv nn, .ref d5, jv km, .ref d6, .ref d7, .ref d8, Jv uu, Jv ub, jv v, .ref d9, .ref da, .ref db, .ref dc, .ref dd, .ref de, jv lk]), (d1, ai g 61 r1), (d2, ai g 9 nw), (d3, ai g 9 ol), (d4, az g 64 bt'), (d5, ai g 70 f'), (d6, ai g 70 kg), (d7, ai g 70 re'), (d8, ai g 71 fw'), (d9, ai g 10 pm'), (da, ai g 600 g0), (db, ai g 600 g1), (dc, ai g 600 g2), (dd, al g 600 g3), (de, al g 600 g4)]) [0, 1, 2, 3, 4, 5, 6, 7, 8, 9, 10, 11, 12, 13, 14] (by decide) rfl ?_
          show X l g E ({ frames := 6, cells := 0, slots := 0, locals := 144 } : Room) 3 [(o, ob 6 [jv nn, .ref d1, jv e, jv 0, .ref d2, jv 0, .ref d3, jv (co + nn), .ref d4, jv nn, .ref d5, jv km, .ref d6, .ref d7, .ref d8, Jv uu, Jv ub, jv v, .ref d9, .ref da, .ref db, .ref dc, .ref dd, .ref de, jv lk]), (d1, ai g 61 r1), (d2, ai g 9 nw), (d3, ai g 9 ol), (d4, az g 64 bt'), (d5, ai g 70 f'), (d6, ai g 70 kg), (d7, ai g 70 re'), (d8, ai g 71 fw'), (d9, ai g 10 pm'), (da, ai g 600 g0), (db, ai g 600 g1), (dc, ai g 600 g2), (dd, al g 600 g3), (de, al g 600 g4)] 0 0 [(2, jv (-1)), (0, .ref o), (1, jv u)] 85 []
          refine x_aload_n (pc := 85) C 1 dX6_take_85 rfl ?_
          refine x_get (pc := 86) C 0 6 dX6_take_86 hiX6_take_6 hfX6_take_20 rfl rfl rfl (by decide) rfl ?_
          refine x_aload_n (pc := 89) C 1 dX6_take_89 rfl ?_
          refine x_get (pc := 90) C 0 5 dX6_take_90 hiX6_take_6 hfX6_take_72 rfl rfl rfl (by decide) rfl ?_
          refine x_iload_n (pc := 93) C 2 dX6_take_93 rfl ?_
          refine x_iast (pc := 94) C (ws' := [(o, ob 6 [jv nn, .ref d1, jv e, jv 0, .ref d2, jv 0, .ref d3, jv (co + nn), .ref d4, jv nn, .ref d5, jv km, .ref d6, .ref d7, .ref d8, Jv uu, Jv ub, jv v, .ref d9, .ref da, .ref db, .ref dc, .ref dd, .ref de, jv lk]), (d1, ai g 61 r1), (d2, ai g 9 nw), (d3, ai g 9 (up ol 0 u)), (d4, az g 64 bt'), (d5, ai g 70 f'), (d6, ai g 70 kg), (d7, ai g 70 re'), (d8, ai g 71 fw'), (d9, ai g 10 pm'), (da, ai g 600 g0), (db, ai g 600 g1), (dc, ai g 600 g2), (dd, al g 600 g3), (de, al g 600 g4)]) 3 dX6_take_94 rfl (by omega) (by omega) (by decide) rfl ?_
          refine x_aload_n (pc := 95) C 1 dX6_take_95 rfl ?_
          refine x_dup (pc := 96) C dX6_take_96 rfl ?_
          refine x_get (pc := 97) C 0 5 dX6_take_97 hiX6_take_6 hfX6_take_72 rfl rfl rfl (by decide) rfl ?_
          refine x_iconst (pc := 100) C dX6_take_100 ?_
          refine x_iadd (pc := 101) C dX6_take_101 ?_
          refine x_put (pc := 102) C (ty := .int) (ws' := [(o, ob 6 [jv nn, .ref d1, jv e, jv 0, .ref d2, jv (0 + 1), .ref d3, jv (co + nn), .ref d4, jv nn, .ref d5, jv km, .ref d6, .ref d7, .ref d8, Jv uu, Jv ub, jv v, .ref d9, .ref da, .ref db, .ref dc, .ref dd, .ref de, jv lk]), (d1, ai g 61 r1), (d2, ai g 9 nw), (d3, ai g 9 (up ol 0 u)), (d4, az g 64 bt'), (d5, ai g 70 f'), (d6, ai g 70 kg), (d7, ai g 70 re'), (d8, ai g 71 fw'), (d9, ai g 10 pm'), (da, ai g 600 g0), (db, ai g 600 g1), (dc, ai g 600 g2), (dd, al g 600 g3), (de, al g 600 g4)]) tyX6 0 5 dX6_take_102 hiX6_take_6 tyX6_ok nmX6 hfX6_take_72 rfl rfl rfl (by decide) rfl (by decide +kernel) rfl rfl (Nat.le_of_ble_eq_true rfl) rfl ?_
          refine x_aload_n (pc := 105) C 1 dX6_take_105 rfl ?_
          refine x_callV (pc := 106) C (n := 0) (q0 := 0) (rest := []) (wr := [(d4, az g 64 bt'), (d6, ai g 70 kg), (d7, ai g 70 re'), (d8, ai g 71 fw'), (d9, ai g 10 pm'), (da, ai g 600 g0), (db, ai g 600 g1), (dc, ai g 600 g2), (dd, al g 600 g3), (de, al g 600 g4)]) [0, 1, 2, 3, 5] [4, 6, 7, 8, 9, 10, 11, 12, 13, 14] (ctX6_layNow l g o d1 d2 d3 d4 d5 d6 d7 d8 d9 da db dc dd de nn e 0 (0 + 1) (co + nn) nn km uu ub v lk r1 nw (up ol 0 u) f' (nn - 1) (delF nf (belC nn nf u)) ((NO.mk n1 f_82.2.1).takeOld f_12.1 (fun ⟨i, i0, i1, _⟩ => by omega) (by omega))) gX6_take_X6_layNow rfl ⟨rfl, rfl⟩ (by decide +kernel) ⟨by decide, by decide⟩ rfl rfl rfl rfl rfl (by decide) (by decide) (by decide) rfl (Nat.le_of_ble_eq_true rfl) dX6_take_106 ⟨by decide, by decide⟩ (fun v_106 u_106 h_106 => ?_)
          rcases h_106 with ⟨fb, rfl, rfl, f_106⟩
          refine x_world (ws' := [(o, ob 6 [jv nn, .ref d1, jv e, jv 0, .ref d2, jv (0 + 1), .ref d3, jv (co + nn), .ref d4, jv (nn - 1), .ref d5, jv km, .ref d6, .ref d7, .ref d8, Jv uu, Jv ub, jv v, .ref d9, .ref da, .ref db, .ref dc, .ref dd, .ref de, jv lk]), (d1, ai g 61 r1), (d2, ai g 9 nw), (d3, ai g 9 (up ol 0 u)), (d4, az g 64 bt'), (d5, ai g 70 fb), (d6, ai g 70 kg), (d7, ai g 70 re'), (d8, ai g 71 fw'), (d9, ai g 10 pm'), (da, ai g 600 g0), (db, ai g 600 g1), (dc, ai g 600 g2), (dd, al g 600 g3), (de, al g 600 g4)]) [10, 11, 12, 13, 0, 14, 1, 2, 3, 4, 5, 6, 7, 8, 9] (by decide) rfl ?_
          show X l g E ({ frames := 6, cells := 0, slots := 0, locals := 144 } : Room) 3 [(o, ob 6 [jv nn, .ref d1, jv e, jv 0, .ref d2, jv (0 + 1), .ref d3, jv (co + nn), .ref d4, jv (nn - 1), .ref d5, jv km, .ref d6, .ref d7, .ref d8, Jv uu, Jv ub, jv v, .ref d9, .ref da, .ref db, .ref dc, .ref dd, .ref de, jv lk]), (d1, ai g 61 r1), (d2, ai g 9 nw), (d3, ai g 9 (up ol 0 u)), (d4, az g 64 bt'), (d5, ai g 70 fb), (d6, ai g 70 kg), (d7, ai g 70 re'), (d8, ai g 71 fw'), (d9, ai g 10 pm'), (da, ai g 600 g0), (db, ai g 600 g1), (dc, ai g 600 g2), (dd, al g 600 g3), (de, al g 600 g4)] 0 0 [(2, jv (-1)), (0, .ref o), (1, jv u)] 109 []
          refine x_aload_n (pc := 109) C 1 dX6_take_109 rfl ?_
          refine x_get (pc := 110) C 0 9 dX6_take_110 hiX6_take_6 hfX6_take_66 rfl rfl rfl (by decide) rfl ?_
          refine x_iret (pc := 113) C Rt0 dX6_take_113 rfl ?_
          refine Or.inr (Or.inr (Or.inr (Or.inr (⟨_, _, _, _, _, _, _, _, _, _, _, _, _, _, _, _, _, rfl, rfl, ?_⟩))))
          exact ⟨by omega, by omega, f_12.1, Classical.byContradiction fun q => f_30 ((hno.new f_12.1).mp q), by omega, (NO.mk n1 f_82.2.1).takeOld f_12.1 (fun ⟨i, i0, i1, _⟩ => by omega) (by omega), f_82.2⟩
    · refine x_world (ws' := [(o, ob 6 [jv rn, .ref d1, jv e, jv nc, .ref d2, jv oc, .ref d3, jv co, .ref d4, jv nn, .ref d5, jv kn, .ref d6, .ref d7, .ref d8, Jv lU, Jv lB, jv vn, .ref d9, .ref da, .ref db, .ref dc, .ref dd, .ref de, jv lk]), (d1, ai g 61 rf), (d2, ai g 9 nw), (d3, ai g 9 ol), (d4, az g 64 bt), (d5, ai g 70 fa), (d6, ai g 70 kf), (d7, ai g 70 re), (d8, ai g 71 fw), (d9, ai g 10 pm), (da, ai g 600 fs), (db, ai g 600 la), (dc, ai g 600 fk), (dd, al g 600 us), (de, al g 600 bs)]) [10, 11, 12, 13, 0, 14, 1, 2, 3, 4, 5, 6, 7, 8, 9] (by decide) rfl ?_
      show X l g E ({ frames := 6, cells := 0, slots := 0, locals := 144 } : Room) 3 [(o, ob 6 [jv rn, .ref d1, jv e, jv nc, .ref d2, jv oc, .ref d3, jv co, .ref d4, jv nn, .ref d5, jv kn, .ref d6, .ref d7, .ref d8, Jv lU, Jv lB, jv vn, .ref d9, .ref da, .ref db, .ref dc, .ref dd, .ref de, jv lk]), (d1, ai g 61 rf), (d2, ai g 9 nw), (d3, ai g 9 ol), (d4, az g 64 bt), (d5, ai g 70 fa), (d6, ai g 70 kf), (d7, ai g 70 re), (d8, ai g 71 fw), (d9, ai g 10 pm), (da, ai g 600 fs), (db, ai g 600 la), (dc, ai g 600 fk), (dd, al g 600 us), (de, al g 600 bs)] 0 0 [(0, .ref o), (1, jv u)] 15 [jv 0]
      refine x_if_ne (pc := 15) C 21 dX6_take_15 rfl ⟨by decide, by decide⟩ (fun h => absurd h (by decide)) (fun _ => ?_)
      refine x_bipush (pc := 18) C dX6_take_18 rfl ?_
      refine x_iret (pc := 20) C Rt0 dX6_take_20 rfl ?_
      refine Or.inr (Or.inl ⟨_, rfl, rfl, ?_⟩)
      exact ⟨by omega, by omega, f_12.1⟩
  · refine x_world (ws' := [(o, ob 6 [jv rn, .ref d1, jv e, jv nc, .ref d2, jv oc, .ref d3, jv co, .ref d4, jv un, .ref d5, jv kn, .ref d6, .ref d7, .ref d8, Jv lU, Jv lB, jv vn, .ref d9, .ref da, .ref db, .ref dc, .ref dd, .ref de, jv lk]), (d1, ai g 61 rf), (d2, ai g 9 nw), (d3, ai g 9 ol), (d4, az g 64 bt), (d5, ai g 70 uf), (d6, ai g 70 kf), (d7, ai g 70 re), (d8, ai g 71 fw), (d9, ai g 10 pm), (da, ai g 600 fs), (db, ai g 600 la), (dc, ai g 600 fk), (dd, al g 600 us), (de, al g 600 bs)]) [0, 1, 2, 3, 4, 5, 6, 7, 8, 9, 10, 11, 12, 13, 14] (by decide) rfl ?_
    show X l g E ({ frames := 6, cells := 0, slots := 0, locals := 144 } : Room) 3 [(o, ob 6 [jv rn, .ref d1, jv e, jv nc, .ref d2, jv oc, .ref d3, jv co, .ref d4, jv un, .ref d5, jv kn, .ref d6, .ref d7, .ref d8, Jv lU, Jv lB, jv vn, .ref d9, .ref da, .ref db, .ref dc, .ref dd, .ref de, jv lk]), (d1, ai g 61 rf), (d2, ai g 9 nw), (d3, ai g 9 ol), (d4, az g 64 bt), (d5, ai g 70 uf), (d6, ai g 70 kf), (d7, ai g 70 re), (d8, ai g 71 fw), (d9, ai g 10 pm), (da, ai g 600 fs), (db, ai g 600 la), (dc, ai g 600 fk), (dd, al g 600 us), (de, al g 600 bs)] 0 0 [(0, .ref o), (1, jv u)] 4 [jv 0]
    refine x_if_ne (pc := 4) C 10 dX6_take_4 rfl ⟨by decide, by decide⟩ (fun h => absurd h (by decide)) (fun _ => ?_)
    refine x_bipush (pc := 7) C dX6_take_7 rfl ?_
    refine x_iret (pc := 9) C Rt0 dX6_take_9 rfl ?_
    refine Or.inl ⟨rfl, rfl, ?_⟩
    omega

set_option maxRecDepth 100000 in
theorem hiX6_place_6 : ∀ w ∈ wsX60, w ∈ wsX6_place := by decide +kernel
set_option maxRecDepth 100000 in
theorem hfX6_place_27 : Cond.fieldLink RX6 27 "KeyGuessModel" "now" "[I" ∈ wsX6_place := by decide +kernel
set_option maxRecDepth 100000 in
theorem hfX6_place_66 : Cond.fieldLink RX6 66 "KeyGuessModel" "nowMany" "I" ∈ wsX6_place := by decide +kernel
set_option maxHeartbeats 4000000 in
set_option maxRecDepth 100000 in
/-- place -/
theorem ctX6_place (l : Launch) (g : xG) (o : Nat) (d1 : Nat) (d2 : Nat) (d3 : Nat) (d4 : Nat) (d5 : Nat) (d6 : Nat) (d7 : Nat) (d8 : Nat) (d9 : Nat) (da : Nat) (db : Nat) (dc : Nat) (dd : Nat) (de : Nat) (rn : Int) (e : Int) (nc : Int) (oc : Int) (co : Int) (un : Int) (kn : Int) (lU : Int) (lB : Int) (vn : Int) (lk : Int) (rf : Int → Int) (nw : Int → Int) (ol : Int → Int) (bt : Int → Bool) (uf : Int → Int) (kf : Int → Int) (re : Int → Int) (fw : Int → Int) (pm : Int → Int) (fs : Int → Int) (la : Int → Int) (fk : Int → Int) (us : Int → Int) (bs : Int → Int) (nn : Int) (nf : Int → Int) (u : Int) (hno : NO nn nf rn rf nc nw oc ol) (ru : Rg u) : Ct l g yX6_place wsX6_place ({ frames := 2, cells := 0, slots := 0, locals := 44 } : Room) 0 0 [(o, ob 6 [jv rn, .ref d1, jv e, jv nc, .ref d2, jv oc, .ref d3, jv co, .ref d4, jv un, .ref d5, jv kn, .ref d6, .ref d7, .ref d8, Jv lU, Jv lB, jv vn, .ref d9, .ref da, .ref db, .ref dc, .ref dd, .ref de, jv lk]), (d1, ai g 61 rf), (d2, ai g 9 nw), (d3, ai g 9 ol), (d4, az g 64 bt), (d5, ai g 70 uf), (d6, ai g 70 kf), (d7, ai g 70 re), (d8, ai g 71 fw), (d9, ai g 10 pm), (da, ai g 600 fs), (db, ai g 600 la), (dc, ai g 600 fk), (dd, al g 600 us), (de, al g 600 bs)] [.ref o, jv u] (fun rV rU => (rV = some (jv (-2)) ∧ rU = [(o, ob 6 [jv rn, .ref d1, jv e, jv nc, .ref d2, jv oc, .ref d3, jv co, .ref d4, jv un, .ref d5, jv kn, .ref d6, .ref d7, .ref d8, Jv lU, Jv lB, jv vn, .ref d9, .ref da, .ref db, .ref dc, .ref dd, .ref de, jv lk]), (d1, ai g 61 rf), (d2, ai g 9 nw), (d3, ai g 9 ol), (d4, az g 64 bt), (d5, ai g 70 uf), (d6, ai g 70 kf), (d7, ai g 70 re), (d8, ai g 71 fw), (d9, ai g 10 pm), (da, ai g 600 fs), (db, ai g 600 la), (dc, ai g 600 fk), (dd, al g 600 us), (de, al g 600 bs)] ∧ (u < 0 ∨ 1000000 < u)) ∨ (∃ (f1 : Int → Int), rV = some (jv (-1)) ∧ rU = [(o, ob 6 [jv rn, .ref d1, jv e, jv nc, .ref d2, jv oc, .ref d3, jv co, .ref d4, jv nn, .ref d5, jv kn, .ref d6, .ref d7, .ref d8, Jv lU, Jv lB, jv vn, .ref d9, .ref da, .ref db, .ref dc, .ref dd, .ref de, jv lk]), (d1, ai g 61 rf), (d2, ai g 9 nw), (d3, ai g 9 ol), (d4, az g 64 bt), (d5, ai g 70 f1), (d6, ai g 70 kf), (d7, ai g 70 re), (d8, ai g 71 fw), (d9, ai g 10 pm), (da, ai g 600 fs), (db, ai g 600 la), (dc, ai g 600 fk), (dd, al g 600 us), (de, al g 600 bs)] ∧ (0 ≤ u ∧ u ≤ 1000000 ∧ ¬ Inr nn nf u)) ∨ (∃ (k : Int) (f1 : Int → Int), rV = some (jv k) ∧ rU = [(o, ob 6 [jv rn, .ref d1, jv e, jv nc, .ref d2, jv oc, .ref d3, jv co, .ref d4, jv nn, .ref d5, jv kn, .ref d6, .ref d7, .ref d8, Jv lU, Jv lB, jv vn, .ref d9, .ref da, .ref db, .ref dc, .ref dd, .ref de, jv lk]), (d1, ai g 61 rf), (d2, ai g 9 nw), (d3, ai g 9 ol), (d4, az g 64 bt), (d5, ai g 70 f1), (d6, ai g 70 kf), (d7, ai g 70 re), (d8, ai g 71 fw), (d9, ai g 10 pm), (da, ai g 600 fs), (db, ai g 600 la), (dc, ai g 600 fk), (dd, al g 600 us), (de, al g 600 bs)] ∧ (0 ≤ u ∧ u ≤ 1000000 ∧ 0 ≤ k ∧ k < nn ∧ nf k = u))) := by
  refine ct_of (cc := cX6_place) (nL := 2) (ret := (some .int)) (by decide) rfl (Nat.le_of_ble_eq_true rfl) ?_
  intro E C Rt0
  have C : Cx l g E ({ frames := 2, cells := 0, slots := 0, locals := 44 } : Room) RX6 "place" cX6_place wsX6_place 2 := C
  show X l g E ({ frames := 2, cells := 0, slots := 0, locals := 44 } : Room) 2 [(o, ob 6 [jv rn, .ref d1, jv e, jv nc, .ref d2, jv oc, .ref d3, jv co, .ref d4, jv un, .ref d5, jv kn, .ref d6, .ref d7, .ref d8, Jv lU, Jv lB, jv vn, .ref d9, .ref da, .ref db, .ref dc, .ref dd, .ref de, jv lk]), (d1, ai g 61 rf), (d2, ai g 9 nw), (d3, ai g 9 ol), (d4, az g 64 bt), (d5, ai g 70 uf), (d6, ai g 70 kf), (d7, ai g 70 re), (d8, ai g 71 fw), (d9, ai g 10 pm), (da, ai g 600 fs), (db, ai g 600 la), (dc, ai g 600 fk), (dd, al g 600 us), (de, al g 600 bs)] 0 0 [(0, .ref o), (1, jv u)] 0 []
  have n1 := hno.1
  have nn0 := n1.1
  have nn1 := n1.2.1
  refine x_iload_n (pc := 0) C 1 dX6_place_0 rfl ?_
  refine x_callS (pc := 1) C (n := 1) (rest := []) (wr := [(o, ob 6 [jv rn, .ref d1, jv e, jv nc, .ref d2, jv oc, .ref d3, jv co, .ref d4, jv un, .ref d5, jv kn, .ref d6, .ref d7, .ref d8, Jv lU, Jv lB, jv vn, .ref d9, .ref da, .ref db, .ref dc, .ref dd, .ref de, jv lk]), (d1, ai g 61 rf), (d2, ai g 9 nw), (d3, ai g 9 ol), (d4, az g 64 bt), (d5, ai g 70 uf), (d6, ai g 70 kf), (d7, ai g 70 re), (d8, ai g 71 fw), (d9, ai g 10 pm), (da, ai g 600 fs), (db, ai g 600 la), (dc, ai g 600 fk), (dd, al g 600 us), (de, al g 600 bs)]) [] [0, 1, 2, 3, 4, 5, 6, 7, 8, 9, 10, 11, 12, 13, 14] (ctX6_isNumber l g u ru) gX6_place_X6_isNumber rfl (by decide +kernel) ⟨rfl, rfl⟩ ⟨by decide, by decide⟩ rfl rfl rfl (by decide) (by decide) (by decide) rfl (Nat.le_of_ble_eq_true rfl) dX6_place_1 ⟨by decide, by decide⟩ (fun v_1 u_1 h_1 => ?_)
  rcases h_1 with ⟨rfl, rfl, f_1⟩ | ⟨rfl, rfl, f_1⟩
  · refine x_world (ws' := [(o, ob 6 [jv rn, .ref d1, jv e, jv nc, .ref d2, jv oc, .ref d3, jv co, .ref d4, jv un, .ref d5, jv kn, .ref d6, .ref d7, .ref d8, Jv lU, Jv lB, jv vn, .ref d9, .ref da, .ref db, .ref dc, .ref dd, .ref de, jv lk]), (d1, ai g 61 rf), (d2, ai g 9 nw), (d3, ai g 9 ol), (d4, az g 64 bt), (d5, ai g 70 uf), (d6, ai g 70 kf), (d7, ai g 70 re), (d8, ai g 71 fw), (d9, ai g 10 pm), (da, ai g 600 fs), (db, ai g 600 la), (dc, ai g 600 fk), (dd, al g 600 us), (de, al g 600 bs)]) [0, 1, 2, 3, 4, 5, 6, 7, 8, 9, 10, 11, 12, 13, 14] (by decide) rfl ?_
    show X l g E ({ frames := 2, cells := 0, slots := 0, locals := 44 } : Room) 2 [(o, ob 6 [jv rn, .ref d1, jv e, jv nc, .ref d2, jv oc, .ref d3, jv co, .ref d4, jv un, .ref d5, jv kn, .ref d6, .ref d7, .ref d8, Jv lU, Jv lB, jv vn, .ref d9, .ref da, .ref db, .ref dc, .ref dd, .ref de, jv lk]), (d1, ai g 61 rf), (d2, ai g 9 nw), (d3, ai g 9 ol), (d4, az g 64 bt), (d5, ai g 70 uf), (d6, ai g 70 kf), (d7, ai g 70 re), (d8, ai g 71 fw), (d9, ai g 10 pm), (da, ai g 600 fs), (db, ai g 600 la), (dc, ai g 600 fk), (dd, al g 600 us), (de, al g 600 bs)] 0 0 [(0, .ref o), (1, jv u)] 4 [jv 1]
    refine x_if_ne (pc := 4) C 10 dX6_place_4 rfl ⟨by decide, by decide⟩ (fun _ => ?_) (fun h => absurd h (by decide))
    refine x_aload_n (pc := 10) C 0 dX6_place_10 rfl ?_
    refine x_callV (pc := 11) C (n := 0) (q0 := 0) (rest := []) (wr := [(d4, az g 64 bt), (d6, ai g 70 kf), (d7, ai g 70 re), (d8, ai g 71 fw), (d9, ai g 10 pm), (da, ai g 600 fs), (db, ai g 600 la), (dc, ai g 600 fk), (dd, al g 600 us), (de, al g 600 bs)]) [0, 1, 2, 3, 5] [4, 6, 7, 8, 9, 10, 11, 12, 13, 14] (ctX6_layNow l g o d1 d2 d3 d4 d5 d6 d7 d8 d9 da db dc dd de rn e nc oc co un kn lU lB vn lk rf nw ol uf nn nf hno) gX6_place_X6_layNow rfl ⟨rfl, rfl⟩ (by decide +kernel) ⟨by decide, by decide⟩ rfl rfl rfl rfl rfl (by decide) (by decide) (by decide) rfl (Nat.le_of_ble_eq_true rfl) dX6_place_11 ⟨by decide, by decide⟩ (fun v_11 u_11 h_11 => ?_)
    rcases h_11 with ⟨f1, rfl, rfl, f_11⟩
    refine x_world (ws' := [(o, ob 6 [jv rn, .ref d1, jv e, jv nc, .ref d2, jv oc, .ref d3, jv co, .ref d4, jv nn, .ref d5, jv kn, .ref d6, .ref d7, .ref d8, Jv lU, Jv lB, jv vn, .ref d9, .ref da, .ref db, .ref dc, .ref dd, .ref de, jv lk]), (d1, ai g 61 rf), (d2, ai g 9 nw), (d3, ai g 9 ol), (d4, az g 64 bt), (d5, ai g 70 f1), (d6, ai g 70 kf), (d7, ai g 70 re), (d8, ai g 71 fw), (d9, ai g 10 pm), (da, ai g 600 fs), (db, ai g 600 la), (dc, ai g 600 fk), (dd, al g 600 us), (de, al g 600 bs)]) [10, 11, 12, 13, 0, 14, 1, 2, 3, 4, 5, 6, 7, 8, 9] (by decide) rfl ?_
    show X l g E ({ frames := 2, cells := 0, slots := 0, locals := 44 } : Room) 2 [(o, ob 6 [jv rn, .ref d1, jv e, jv nc, .ref d2, jv oc, .ref d3, jv co, .ref d4, jv nn, .ref d5, jv kn, .ref d6, .ref d7, .ref d8, Jv lU, Jv lB, jv vn, .ref d9, .ref da, .ref db, .ref dc, .ref dd, .ref de, jv lk]), (d1, ai g 61 rf), (d2, ai g 9 nw), (d3, ai g 9 ol), (d4, az g 64 bt), (d5, ai g 70 f1), (d6, ai g 70 kf), (d7, ai g 70 re), (d8, ai g 71 fw), (d9, ai g 10 pm), (da, ai g 600 fs), (db, ai g 600 la), (dc, ai g 600 fk), (dd, al g 600 us), (de, al g 600 bs)] 0 0 [(0, .ref o), (1, jv u)] 14 []
    have hku : Kr nn f1 := n1.congr f_11.symm
    refine x_aload_n (pc := 14) C 0 dX6_place_14 rfl ?_
    refine x_get (pc := 15) C 0 10 dX6_place_15 hiX6_place_6 hfX6_place_27 rfl rfl rfl (by decide) rfl ?_
    refine x_aload_n (pc := 18) C 0 dX6_place_18 rfl ?_
    refine x_get (pc := 19) C 0 9 dX6_place_19 hiX6_place_6 hfX6_place_66 rfl rfl rfl (by decide) rfl ?_
    refine x_iload_n (pc := 22) C 1 dX6_place_22 rfl ?_
    refine x_callS (pc := 23) C (n := 3) (rest := []) (wr := [(o, ob 6 [jv rn, .ref d1, jv e, jv nc, .ref d2, jv oc, .ref d3, jv co, .ref d4, jv nn, .ref d5, jv kn, .ref d6, .ref d7, .ref d8, Jv lU, Jv lB, jv vn, .ref d9, .ref da, .ref db, .ref dc, .ref dd, .ref de, jv lk]), (d1, ai g 61 rf), (d2, ai g 9 nw), (d3, ai g 9 ol), (d4, az g 64 bt), (d6, ai g 70 kf), (d7, ai g 70 re), (d8, ai g 71 fw), (d9, ai g 10 pm), (da, ai g 600 fs), (db, ai g 600 la), (dc, ai g 600 fk), (dd, al g 600 us), (de, al g 600 bs)]) [5] [0, 1, 2, 3, 4, 6, 7, 8, 9, 10, 11, 12, 13, 14] (ctX6_placeIn l g d5 70 nn u f1 ⟨by omega, by omega, by omega⟩ hku.2.2.1 ru) gX6_place_X6_placeIn rfl (by decide +kernel) ⟨rfl, rfl⟩ ⟨by decide, by decide⟩ rfl rfl rfl (by decide) (by decide) (by decide) rfl (Nat.le_of_ble_eq_true rfl) dX6_place_23 ⟨by decide, by decide⟩ (fun v_23 u_23 h_23 => ?_)
    rcases h_23 with ⟨k, rfl, rfl, f_23⟩ | ⟨rfl, rfl, f_23⟩
    · refine x_world (ws' := [(o, ob 6 [jv rn, .ref d1, jv e, jv nc, .ref d2, jv oc, .ref d3, jv co, .ref d4, jv nn, .ref d5, jv kn, .ref d6, .ref d7, .ref d8, Jv lU, Jv lB, jv vn, .ref d9, .ref da, .ref db, .ref dc, .ref dd, .ref de, jv lk]), (d1, ai g 61 rf), (d2, ai g 9 nw), (d3, ai g 9 ol), (d4, az g 64 bt), (d5, ai g 70 f1), (d6, ai g 70 kf), (d7, ai g 70 re), (d8, ai g 71 fw), (d9, ai g 10 pm), (da, ai g 600 fs), (db, ai g 600 la), (dc, ai g 600 fk), (dd, al g 600 us), (de, al g 600 bs)]) [0, 1, 2, 3, 4, 14, 5, 6, 7, 8, 9, 10, 11, 12, 13] (by decide) rfl ?_
      show X l g E ({ frames := 2, cells := 0, slots := 0, locals := 44 } : Room) 2 [(o, ob 6 [jv rn, .ref d1, jv e, jv nc, .ref d2, jv oc, .ref d3, jv co, .ref d4, jv nn, .ref d5, jv kn, .ref d6, .ref d7, .ref d8, Jv lU, Jv lB, jv vn, .ref d9, .ref da, .ref db, .ref dc, .ref dd, .ref de, jv lk]), (d1, ai g 61 rf), (d2, ai g 9 nw), (d3, ai g 9 ol), (d4, az g 64 bt), (d5, ai g 70 f1), (d6, ai g 70 kf), (d7, ai g 70 re), (d8, ai g 71 fw), (d9, ai g 10 pm), (da, ai g 600 fs), (db, ai g 600 la), (dc, ai g 600 fk), (dd, al g 600 us), (de, al g 600 bs)] 0 0 [(0, .ref o), (1, jv u)] 26 [jv k]
      refine x_iret (pc := 26) C Rt0 dX6_place_26 rfl ?_
      refine Or.inr (Or.inr (⟨_, _, rfl, rfl, ?_⟩))
      exact ⟨by omega, by omega, by omega, by omega, by rw [← f_11 k (by omega) (by omega)]; omega⟩
    · refine x_world (ws' := [(o, ob 6 [jv rn, .ref d1, jv e, jv nc, .ref d2, jv oc, .ref d3, jv co, .ref d4, jv nn, .ref d5, jv kn, .ref d6, .ref d7, .ref d8, Jv lU, Jv lB, jv vn, .ref d9, .ref da, .ref db, .ref dc, .ref dd, .ref de, jv lk]), (d1, ai g 61 rf), (d2, ai g 9 nw), (d3, ai g 9 ol), (d4, az g 64 bt), (d5, ai g 70 f1), (d6, ai g 70 kf), (d7, ai g 70 re), (d8, ai g 71 fw), (d9, ai g 10 pm), (da, ai g 600 fs), (db, ai g 600 la), (dc, ai g 600 fk), (dd, al g 600 us), (de, al g 600 bs)]) [0, 1, 2, 3, 4, 14, 5, 6, 7, 8, 9, 10, 11, 12, 13] (by decide) rfl ?_
      show X l g E ({ frames := 2, cells := 0, slots := 0, locals := 44 } : Room) 2 [(o, ob 6 [jv rn, .ref d1, jv e, jv nc, .ref d2, jv oc, .ref d3, jv co, .ref d4, jv nn, .ref d5, jv kn, .ref d6, .ref d7, .ref d8, Jv lU, Jv lB, jv vn, .ref d9, .ref da, .ref db, .ref dc, .ref dd, .ref de, jv lk]), (d1, ai g 61 rf), (d2, ai g 9 nw), (d3, ai g 9 ol), (d4, az g 64 bt), (d5, ai g 70 f1), (d6, ai g 70 kf), (d7, ai g 70 re), (d8, ai g 71 fw), (d9, ai g 10 pm), (da, ai g 600 fs), (db, ai g 600 la), (dc, ai g 600 fk), (dd, al g 600 us), (de, al g 600 bs)] 0 0 [(0, .ref o), (1, jv u)] 26 [jv (-1)]
      refine x_iret (pc := 26) C Rt0 dX6_place_26 rfl ?_
      refine Or.inr (Or.inl ⟨_, rfl, rfl, ?_⟩)
      exact ⟨by omega, by omega, fun q => f_23 (q.congr f_11.symm)⟩
  · refine x_world (ws' := [(o, ob 6 [jv rn, .ref d1, jv e, jv nc, .ref d2, jv oc, .ref d3, jv co, .ref d4, jv un, .ref d5, jv kn, .ref d6, .ref d7, .ref d8, Jv lU, Jv lB, jv vn, .ref d9, .ref da, .ref db, .ref dc, .ref dd, .ref de, jv lk]), (d1, ai g 61 rf), (d2, ai g 9 nw), (d3, ai g 9 ol), (d4, az g 64 bt), (d5, ai g 70 uf), (d6, ai g 70 kf), (d7, ai g 70 re), (d8, ai g 71 fw), (d9, ai g 10 pm), (da, ai g 600 fs), (db, ai g 600 la), (dc, ai g 600 fk), (dd, al g 600 us), (de, al g 600 bs)]) [0, 1, 2, 3, 4, 5, 6, 7, 8, 9, 10, 11, 12, 13, 14] (by decide) rfl ?_
    show X l g E ({ frames := 2, cells := 0, slots := 0, locals := 44 } : Room) 2 [(o, ob 6 [jv rn, .ref d1, jv e, jv nc, .ref d2, jv oc, .ref d3, jv co, .ref d4, jv un, .ref d5, jv kn, .ref d6, .ref d7, .ref d8, Jv lU, Jv lB, jv vn, .ref d9, .ref da, .ref db, .ref dc, .ref dd, .ref de, jv lk]), (d1, ai g 61 rf), (d2, ai g 9 nw), (d3, ai g 9 ol), (d4, az g 64 bt), (d5, ai g 70 uf), (d6, ai g 70 kf), (d7, ai g 70 re), (d8, ai g 71 fw), (d9, ai g 10 pm), (da, ai g 600 fs), (db, ai g 600 la), (dc, ai g 600 fk), (dd, al g 600 us), (de, al g 600 bs)] 0 0 [(0, .ref o), (1, jv u)] 4 [jv 0]
    refine x_if_ne (pc := 4) C 10 dX6_place_4 rfl ⟨by decide, by decide⟩ (fun h => absurd h (by decide)) (fun _ => ?_)
    refine x_bipush (pc := 7) C dX6_place_7 rfl ?_
    refine x_iret (pc := 9) C Rt0 dX6_place_9 rfl ?_
    refine Or.inl ⟨rfl, rfl, ?_⟩
    omega

set_option maxRecDepth 100000 in
theorem hiX6_at_6 : ∀ w ∈ wsX60, w ∈ wsX6_at := by decide +kernel
set_option maxRecDepth 100000 in
theorem hfX6_at_66 : Cond.fieldLink RX6 66 "KeyGuessModel" "nowMany" "I" ∈ wsX6_at := by decide +kernel
set_option maxRecDepth 100000 in
theorem hfX6_at_27 : Cond.fieldLink RX6 27 "KeyGuessModel" "now" "[I" ∈ wsX6_at := by decide +kernel
set_option maxHeartbeats 4000000 in
set_option maxRecDepth 100000 in
/-- at -/
theorem ctX6_at (l : Launch) (g : xG) (o : Nat) (d1 : Nat) (d2 : Nat) (d3 : Nat) (d4 : Nat) (d5 : Nat) (d6 : Nat) (d7 : Nat) (d8 : Nat) (d9 : Nat) (da : Nat) (db : Nat) (dc : Nat) (dd : Nat) (de : Nat) (rn : Int) (e : Int) (nc : Int) (oc : Int) (co : Int) (un : Int) (kn : Int) (lU : Int) (lB : Int) (vn : Int) (lk : Int) (rf : Int → Int) (nw : Int → Int) (ol : Int → Int) (bt : Int → Bool) (uf : Int → Int) (kf : Int → Int) (re : Int → Int) (fw : Int → Int) (pm : Int → Int) (fs : Int → Int) (la : Int → Int) (fk : Int → Int) (us : Int → Int) (bs : Int → Int) (nn : Int) (nf : Int → Int) (u : Int) (hno : NO nn nf rn rf nc nw oc ol) (ru : Rg u) : Ct l g yX6_at wsX6_at ({ frames := 2, cells := 0, slots := 0, locals := 44 } : Room) 0 0 [(o, ob 6 [jv rn, .ref d1, jv e, jv nc, .ref d2, jv oc, .ref d3, jv co, .ref d4, jv un, .ref d5, jv kn, .ref d6, .ref d7, .ref d8, Jv lU, Jv lB, jv vn, .ref d9, .ref da, .ref db, .ref dc, .ref dd, .ref de, jv lk]), (d1, ai g 61 rf), (d2, ai g 9 nw), (d3, ai g 9 ol), (d4, az g 64 bt), (d5, ai g 70 uf), (d6, ai g 70 kf), (d7, ai g 70 re), (d8, ai g 71 fw), (d9, ai g 10 pm), (da, ai g 600 fs), (db, ai g 600 la), (dc, ai g 600 fk), (dd, al g 600 us), (de, al g 600 bs)] [.ref o, jv u] (fun rV rU => (∃ (f1 : Int → Int), rV = some (jv (-2)) ∧ rU = [(o, ob 6 [jv rn, .ref d1, jv e, jv nc, .ref d2, jv oc, .ref d3, jv co, .ref d4, jv nn, .ref d5, jv kn, .ref d6, .ref d7, .ref d8, Jv lU, Jv lB, jv vn, .ref d9, .ref da, .ref db, .ref dc, .ref dd, .ref de, jv lk]), (d1, ai g 61 rf), (d2, ai g 9 nw), (d3, ai g 9 ol), (d4, az g 64 bt), (d5, ai g 70 f1), (d6, ai g 70 kf), (d7, ai g 70 re), (d8, ai g 71 fw), (d9, ai g 10 pm), (da, ai g 600 fs), (db, ai g 600 la), (dc, ai g 600 fk), (dd, al g 600 us), (de, al g 600 bs)] ∧ (u < 0 ∨ nn ≤ u)) ∨ (∃ (r : Int) (f1 : Int → Int), rV = some (jv r) ∧ rU = [(o, ob 6 [jv rn, .ref d1, jv e, jv nc, .ref d2, jv oc, .ref d3, jv co, .ref d4, jv nn, .ref d5, jv kn, .ref d6, .ref d7, .ref d8, Jv lU, Jv lB, jv vn, .ref d9, .ref da, .ref db, .ref dc, .ref dd, .ref de, jv lk]), (d1, ai g 61 rf), (d2, ai g 9 nw), (d3, ai g 9 ol), (d4, az g 64 bt), (d5, ai g 70 f1), (d6, ai g 70 kf), (d7, ai g 70 re), (d8, ai g 71 fw), (d9, ai g 10 pm), (da, ai g 600 fs), (db, ai g 600 la), (dc, ai g 600 fk), (dd, al g 600 us), (de, al g 600 bs)] ∧ (0 ≤ u ∧ u < nn ∧ r = nf u))) := by
  refine ct_of (cc := cX6_at) (nL := 2) (ret := (some .int)) (by decide) rfl (Nat.le_of_ble_eq_true rfl) ?_
  intro E C Rt0
  have C : Cx l g E ({ frames := 2, cells := 0, slots := 0, locals := 44 } : Room) RX6 "at" cX6_at wsX6_at 2 := C
  show X l g E ({ frames := 2, cells := 0, slots := 0, locals := 44 } : Room) 2 [(o, ob 6 [jv rn, .ref d1, jv e, jv nc, .ref d2, jv oc, .ref d3, jv co, .ref d4, jv un, .ref d5, jv kn, .ref d6, .ref d7, .ref d8, Jv lU, Jv lB, jv vn, .ref d9, .ref da, .ref db, .ref dc, .ref dd, .ref de, jv lk]), (d1, ai g 61 rf), (d2, ai g 9 nw), (d3, ai g 9 ol), (d4, az g 64 bt), (d5, ai g 70 uf), (d6, ai g 70 kf), (d7, ai g 70 re), (d8, ai g 71 fw), (d9, ai g 10 pm), (da, ai g 600 fs), (db, ai g 600 la), (dc, ai g 600 fk), (dd, al g 600 us), (de, al g 600 bs)] 0 0 [(0, .ref o), (1, jv u)] 0 []
  have n1 := hno.1
  have nn0 := n1.1
  have nn1 := n1.2.1
  refine x_aload_n (pc := 0) C 0 dX6_at_0 rfl ?_
  refine x_callV (pc := 1) C (n := 0) (q0 := 0) (rest := []) (wr := [(d4, az g 64 bt), (d6, ai g 70 kf), (d7, ai g 70 re), (d8, ai g 71 fw), (d9, ai g 10 pm), (da, ai g 600 fs), (db, ai g 600 la), (dc, ai g 600 fk), (dd, al g 600 us), (de, al g 600 bs)]) [0, 1, 2, 3, 5] [4, 6, 7, 8, 9, 10, 11, 12, 13, 14] (ctX6_layNow l g o d1 d2 d3 d4 d5 d6 d7 d8 d9 da db dc dd de rn e nc oc co un kn lU lB vn lk rf nw ol uf nn nf hno) gX6_at_X6_layNow rfl ⟨rfl, rfl⟩ (by decide +kernel) ⟨by decide, by decide⟩ rfl rfl rfl rfl rfl (by decide) (by decide) (by decide) rfl (Nat.le_of_ble_eq_true rfl) dX6_at_1 ⟨by decide, by decide⟩ (fun v_1 u_1 h_1 => ?_)
  rcases h_1 with ⟨f1, rfl, rfl, f_1⟩
  refine x_world (ws' := [(o, ob 6 [jv rn, .ref d1, jv e, jv nc, .ref d2, jv oc, .ref d3, jv co, .ref d4, jv nn, .ref d5, jv kn, .ref d6, .ref d7, .ref d8, Jv lU, Jv lB, jv vn, .ref d9, .ref da, .ref db, .ref dc, .ref dd, .ref de, jv lk]), (d1, ai g 61 rf), (d2, ai g 9 nw), (d3, ai g 9 ol), (d4, az g 64 bt), (d5, ai g 70 f1), (d6, ai g 70 kf), (d7, ai g 70 re), (d8, ai g 71 fw), (d9, ai g 10 pm), (da, ai g 600 fs), (db, ai g 600 la), (dc, ai g 600 fk), (dd, al g 600 us), (de, al g 600 bs)]) [10, 11, 12, 13, 0, 14, 1, 2, 3, 4, 5, 6, 7, 8, 9] (by decide) rfl ?_
  show X l g E ({ frames := 2, cells := 0, slots := 0, locals := 44 } : Room) 2 [(o, ob 6 [jv rn, .ref d1, jv e, jv nc, .ref d2, jv oc, .ref d3, jv co, .ref d4, jv nn, .ref d5, jv kn, .ref d6, .ref d7, .ref d8, Jv lU, Jv lB, jv vn, .ref d9, .ref da, .ref db, .ref dc, .ref dd, .ref de, jv lk]), (d1, ai g 61 rf), (d2, ai g 9 nw), (d3, ai g 9 ol), (d4, az g 64 bt), (d5, ai g 70 f1), (d6, ai g 70 kf), (d7, ai g 70 re), (d8, ai g 71 fw), (d9, ai g 10 pm), (da, ai g 600 fs), (db, ai g 600 la), (dc, ai g 600 fk), (dd, al g 600 us), (de, al g 600 bs)] 0 0 [(0, .ref o), (1, jv u)] 4 []
  refine x_iload_n (pc := 4) C 1 dX6_at_4 rfl ?_
  refine x_iconst (pc := 5) C dX6_at_5 ?_
  refine x_aload_n (pc := 6) C 0 dX6_at_6 rfl ?_
  refine x_get (pc := 7) C 0 9 dX6_at_7 hiX6_at_6 hfX6_at_66 rfl rfl rfl (by decide) rfl ?_
  refine x_iconst (pc := 10) C dX6_at_10 ?_
  refine x_isub (pc := 11) C dX6_at_11 ?_
  refine x_callS (pc := 12) C (n := 3) (rest := []) (wr := [(o, ob 6 [jv rn, .ref d1, jv e, jv nc, .ref d2, jv oc, .ref d3, jv co, .ref d4, jv nn, .ref d5, jv kn, .ref d6, .ref d7, .ref d8, Jv lU, Jv lB, jv vn, .ref d9, .ref da, .ref db, .ref dc, .ref dd, .ref de, jv lk]), (d1, ai g 61 rf), (d2, ai g 9 nw), (d3, ai g 9 ol), (d4, az g 64 bt), (d5, ai g 70 f1), (d6, ai g 70 kf), (d7, ai g 70 re), (d8, ai g 71 fw), (d9, ai g 10 pm), (da, ai g 600 fs), (db, ai g 600 la), (dc, ai g 600 fk), (dd, al g 600 us), (de, al g 600 bs)]) [] [0, 1, 2, 3, 4, 5, 6, 7, 8, 9, 10, 11, 12, 13, 14] (ctX6_in l g u 0 (nn - 1) ru ⟨by omega, by omega⟩ ⟨by omega, by omega⟩) gX6_at_X6_in rfl (by decide +kernel) ⟨rfl, rfl⟩ ⟨by decide, by decide⟩ rfl rfl rfl (by decide) (by decide) (by decide) rfl (Nat.le_of_ble_eq_true rfl) dX6_at_12 ⟨by decide, by decide⟩ (fun v_12 u_12 h_12 => ?_)
  rcases h_12 with ⟨rfl, rfl, f_12⟩ | ⟨rfl, rfl, f_12⟩
  · refine x_world (ws' := [(o, ob 6 [jv rn, .ref d1, jv e, jv nc, .ref d2, jv oc, .ref d3, jv co, .ref d4, jv nn, .ref d5, jv kn, .ref d6, .ref d7, .ref d8, Jv lU, Jv lB, jv vn, .ref d9, .ref da, .ref db, .ref dc, .ref dd, .ref de, jv lk]), (d1, ai g 61 rf), (d2, ai g 9 nw), (d3, ai g 9 ol), (d4, az g 64 bt), (d5, ai g 70 f1), (d6, ai g 70 kf), (d7, ai g 70 re), (d8, ai g 71 fw), (d9, ai g 10 pm), (da, ai g 600 fs), (db, ai g 600 la), (dc, ai g 600 fk), (dd, al g 600 us), (de, al g 600 bs)]) [0, 1, 2, 3, 4, 5, 6, 7, 8, 9, 10, 11, 12, 13, 14] (by decide) rfl ?_
    show X l g E ({ frames := 2, cells := 0, slots := 0, locals := 44 } : Room) 2 [(o, ob 6 [jv rn, .ref d1, jv e, jv nc, .ref d2, jv oc, .ref d3, jv co, .ref d4, jv nn, .ref d5, jv kn, .ref d6, .ref d7, .ref d8, Jv lU, Jv lB, jv vn, .ref d9, .ref da, .ref db, .ref dc, .ref dd, .ref de, jv lk]), (d1, ai g 61 rf), (d2, ai g 9 nw), (d3, ai g 9 ol), (d4, az g 64 bt), (d5, ai g 70 f1), (d6, ai g 70 kf), (d7, ai g 70 re), (d8, ai g 71 fw), (d9, ai g 10 pm), (da, ai g 600 fs), (db, ai g 600 la), (dc, ai g 600 fk), (dd, al g 600 us), (de, al g 600 bs)] 0 0 [(0, .ref o), (1, jv u)] 15 [jv 1]
    refine x_if_eq (pc := 15) C 27 dX6_at_15 rfl ⟨by decide, by decide⟩ (fun h => absurd h (by decide)) (fun _ => ?_)
    refine x_aload_n (pc := 18) C 0 dX6_at_18 rfl ?_
    refine x_get (pc := 19) C 0 10 dX6_at_19 hiX6_at_6 hfX6_at_27 rfl rfl rfl (by decide) rfl ?_
    refine x_iload_n (pc := 22) C 1 dX6_at_22 rfl ?_
    refine x_iald (pc := 23) C 5 dX6_at_23 rfl (by omega) (by omega) (by decide) ?_
    refine x_goto (pc := 24) C 29 dX6_at_24 rfl ?_
    refine x_iret (pc := 29) C Rt0 dX6_at_29 rfl ?_
    refine Or.inr (⟨_, _, rfl, rfl, ?_⟩)
    exact ⟨by omega, by omega, f_1 u (by omega) (by omega)⟩
  · refine x_world (ws' := [(o, ob 6 [jv rn, .ref d1, jv e, jv nc, .ref d2, jv oc, .ref d3, jv co, .ref d4, jv nn, .ref d5, jv kn, .ref d6, .ref d7, .ref d8, Jv lU, Jv lB, jv vn, .ref d9, .ref da, .ref db, .ref dc, .ref dd, .ref de, jv lk]), (d1, ai g 61 rf), (d2, ai g 9 nw), (d3, ai g 9 ol), (d4, az g 64 bt), (d5, ai g 70 f1), (d6, ai g 70 kf), (d7, ai g 70 re), (d8, ai g 71 fw), (d9, ai g 10 pm), (da, ai g 600 fs), (db, ai g 600 la), (dc, ai g 600 fk), (dd, al g 600 us), (de, al g 600 bs)]) [0, 1, 2, 3, 4, 5, 6, 7, 8, 9, 10, 11, 12, 13, 14] (by decide) rfl ?_
    show X l g E ({ frames := 2, cells := 0, slots := 0, locals := 44 } : Room) 2 [(o, ob 6 [jv rn, .ref d1, jv e, jv nc, .ref d2, jv oc, .ref d3, jv co, .ref d4, jv nn, .ref d5, jv kn, .ref d6, .ref d7, .ref d8, Jv lU, Jv lB, jv vn, .ref d9, .ref da, .ref db, .ref dc, .ref dd, .ref de, jv lk]), (d1, ai g 61 rf), (d2, ai g 9 nw), (d3, ai g 9 ol), (d4, az g 64 bt), (d5, ai g 70 f1), (d6, ai g 70 kf), (d7, ai g 70 re), (d8, ai g 71 fw), (d9, ai g 10 pm), (da, ai g 600 fs), (db, ai g 600 la), (dc, ai g 600 fk), (dd, al g 600 us), (de, al g 600 bs)] 0 0 [(0, .ref o), (1, jv u)] 15 [jv 0]
    refine x_if_eq (pc := 15) C 27 dX6_at_15 rfl ⟨by decide, by decide⟩ (fun _ => ?_) (fun h => absurd h (by decide))
    refine x_bipush (pc := 27) C dX6_at_27 rfl ?_
    refine x_iret (pc := 29) C Rt0 dX6_at_29 rfl ?_
    refine Or.inl ⟨_, rfl, rfl, ?_⟩
    omega

set_option maxRecDepth 100000 in
theorem hiX6_range_6 : ∀ w ∈ wsX60, w ∈ wsX6_range := by decide +kernel
set_option maxRecDepth 100000 in
theorem hfX6_range_66 : Cond.fieldLink RX6 66 "KeyGuessModel" "nowMany" "I" ∈ wsX6_range := by decide +kernel
set_option maxRecDepth 100000 in
theorem hfX6_range_27 : Cond.fieldLink RX6 27 "KeyGuessModel" "now" "[I" ∈ wsX6_range := by decide +kernel
set_option maxHeartbeats 4000000 in
set_option maxRecDepth 100000 in
/-- range -/
theorem ctX6_range (l : Launch) (g : xG) (o : Nat) (d1 : Nat) (d2 : Nat) (d3 : Nat) (d4 : Nat) (d5 : Nat) (d6 : Nat) (d7 : Nat) (d8 : Nat) (d9 : Nat) (da : Nat) (db : Nat) (dc : Nat) (dd : Nat) (de : Nat) (rn : Int) (e : Int) (nc : Int) (oc : Int) (co : Int) (un : Int) (kn : Int) (lU : Int) (lB : Int) (vn : Int) (lk : Int) (rf : Int → Int) (nw : Int → Int) (ol : Int → Int) (bt : Int → Bool) (uf : Int → Int) (kf : Int → Int) (re : Int → Int) (fw : Int → Int) (pm : Int → Int) (fs : Int → Int) (la : Int → Int) (fk : Int → Int) (us : Int → Int) (bs : Int → Int) (nn : Int) (nf : Int → Int) (u : Int) (v : Int) (hno : NO nn nf rn rf nc nw oc ol) (ru : Rg u) (rv : Rg v) : Ct l g yX6_range wsX6_range ({ frames := 3, cells := 0, slots := 0, locals := 63 } : Room) 0 0 [(o, ob 6 [jv rn, .ref d1, jv e, jv nc, .ref d2, jv oc, .ref d3, jv co, .ref d4, jv un, .ref d5, jv kn, .ref d6, .ref d7, .ref d8, Jv lU, Jv lB, jv vn, .ref d9, .ref da, .ref db, .ref dc, .ref dd, .ref de, jv lk]), (d1, ai g 61 rf), (d2, ai g 9 nw), (d3, ai g 9 ol), (d4, az g 64 bt), (d5, ai g 70 uf), (d6, ai g 70 kf), (d7, ai g 70 re), (d8, ai g 71 fw), (d9, ai g 10 pm), (da, ai g 600 fs), (db, ai g 600 la), (dc, ai g 600 fk), (dd, al g 600 us), (de, al g 600 bs)] [.ref o, jv u, jv v] (fun rV rU => (rV = some (jv (-2)) ∧ rU = [(o, ob 6 [jv rn, .ref d1, jv e, jv nc, .ref d2, jv oc, .ref d3, jv co, .ref d4, jv un, .ref d5, jv kn, .ref d6, .ref d7, .ref d8, Jv lU, Jv lB, jv vn, .ref d9, .ref da, .ref db, .ref dc, .ref dd, .ref de, jv lk]), (d1, ai g 61 rf), (d2, ai g 9 nw), (d3, ai g 9 ol), (d4, az g 64 bt), (d5, ai g 70 uf), (d6, ai g 70 kf), (d7, ai g 70 re), (d8, ai g 71 fw), (d9, ai g 10 pm), (da, ai g 600 fs), (db, ai g 600 la), (dc, ai g 600 fk), (dd, al g 600 us), (de, al g 600 bs)] ∧ (u < 0 ∨ 1000000 < u ∨ v < 0 ∨ 1000000 < v ∨ v < u)) ∨ (∃ (r : Int) (f1 : Int → Int), rV = some (jv r) ∧ rU = [(o, ob 6 [jv rn, .ref d1, jv e, jv nc, .ref d2, jv oc, .ref d3, jv co, .ref d4, jv nn, .ref d5, jv kn, .ref d6, .ref d7, .ref d8, Jv lU, Jv lB, jv vn, .ref d9, .ref da, .ref db, .ref dc, .ref dd, .ref de, jv lk]), (d1, ai g 61 rf), (d2, ai g 9 nw), (d3, ai g 9 ol), (d4, az g 64 bt), (d5, ai g 70 f1), (d6, ai g 70 kf), (d7, ai g 70 re), (d8, ai g 71 fw), (d9, ai g 10 pm), (da, ai g 600 fs), (db, ai g 600 la), (dc, ai g 600 fk), (dd, al g 600 us), (de, al g 600 bs)] ∧ (0 ≤ u ∧ u ≤ v ∧ v ≤ 1000000 ∧ r = cnt (inab nf u v) nn.toNat))) := by
  refine ct_of (cc := cX6_range) (nL := 5) (ret := (some .int)) (by decide) rfl (Nat.le_of_ble_eq_true rfl) ?_
  intro E C Rt0
  have C : Cx l g E ({ frames := 3, cells := 0, slots := 0, locals := 63 } : Room) RX6 "range" cX6_range wsX6_range 5 := C
  show X l g E ({ frames := 3, cells := 0, slots := 0, locals := 63 } : Room) 5 [(o, ob 6 [jv rn, .ref d1, jv e, jv nc, .ref d2, jv oc, .ref d3, jv co, .ref d4, jv un, .ref d5, jv kn, .ref d6, .ref d7, .ref d8, Jv lU, Jv lB, jv vn, .ref d9, .ref da, .ref db, .ref dc, .ref dd, .ref de, jv lk]), (d1, ai g 61 rf), (d2, ai g 9 nw), (d3, ai g 9 ol), (d4, az g 64 bt), (d5, ai g 70 uf), (d6, ai g 70 kf), (d7, ai g 70 re), (d8, ai g 71 fw), (d9, ai g 10 pm), (da, ai g 600 fs), (db, ai g 600 la), (dc, ai g 600 fk), (dd, al g 600 us), (de, al g 600 bs)] 0 0 [(0, .ref o), (1, jv u), (2, jv v)] 0 []
  have n1 := hno.1
  have nn0 := n1.1
  have nn1 := n1.2.1
  have ru1 := ru.1
  have ru2 := ru.2
  have rv1 := rv.1
  have rv2 := rv.2
  refine x_iload_n (pc := 0) C 1 dX6_range_0 rfl ?_
  refine x_iload_n (pc := 1) C 2 dX6_range_1 rfl ?_
  refine x_callS (pc := 2) C (n := 2) (rest := []) (wr := [(o, ob 6 [jv rn, .ref d1, jv e, jv nc, .ref d2, jv oc, .ref d3, jv co, .ref d4, jv un, .ref d5, jv kn, .ref d6, .ref d7, .ref d8, Jv lU, Jv lB, jv vn, .ref d9, .ref da, .ref db, .ref dc, .ref dd, .ref de, jv lk]), (d1, ai g 61 rf), (d2, ai g 9 nw), (d3, ai g 9 ol), (d4, az g 64 bt), (d5, ai g 70 uf), (d6, ai g 70 kf), (d7, ai g 70 re), (d8, ai g 71 fw), (d9, ai g 10 pm), (da, ai g 600 fs), (db, ai g 600 la), (dc, ai g 600 fk), (dd, al g 600 us), (de, al g 600 bs)]) [] [0, 1, 2, 3, 4, 5, 6, 7, 8, 9, 10, 11, 12, 13, 14] (ctX6_isSpan l g u v ru rv) gX6_range_X6_isSpan rfl (by decide +kernel) ⟨rfl, rfl⟩ ⟨by decide, by decide⟩ rfl rfl rfl (by decide) (by decide) (by decide) rfl (Nat.le_of_ble_eq_true rfl) dX6_range_2 ⟨by decide, by decide⟩ (fun v_2 u_2 h_2 => ?_)
  rcases h_2 with ⟨rfl, rfl, f_2⟩ | ⟨rfl, rfl, f_2⟩
  · refine x_world (ws' := [(o, ob 6 [jv rn, .ref d1, jv e, jv nc, .ref d2, jv oc, .ref d3, jv co, .ref d4, jv un, .ref d5, jv kn, .ref d6, .ref d7, .ref d8, Jv lU, Jv lB, jv vn, .ref d9, .ref da, .ref db, .ref dc, .ref dd, .ref de, jv lk]), (d1, ai g 61 rf), (d2, ai g 9 nw), (d3, ai g 9 ol), (d4, az g 64 bt), (d5, ai g 70 uf), (d6, ai g 70 kf), (d7, ai g 70 re), (d8, ai g 71 fw), (d9, ai g 10 pm), (da, ai g 600 fs), (db, ai g 600 la), (dc, ai g 600 fk), (dd, al g 600 us), (de, al g 600 bs)]) [0, 1, 2, 3, 4, 5, 6, 7, 8, 9, 10, 11, 12, 13, 14] (by decide) rfl ?_
    show X l g E ({ frames := 3, cells := 0, slots := 0, locals := 63 } : Room) 5 [(o, ob 6 [jv rn, .ref d1, jv e, jv nc, .ref d2, jv oc, .ref d3, jv co, .ref d4, jv un, .ref d5, jv kn, .ref d6, .ref d7, .ref d8, Jv lU, Jv lB, jv vn, .ref d9, .ref da, .ref db, .ref dc, .ref dd, .ref de, jv lk]), (d1, ai g 61 rf), (d2, ai g 9 nw), (d3, ai g 9 ol), (d4, az g 64 bt), (d5, ai g 70 uf), (d6, ai g 70 kf), (d7, ai g 70 re), (d8, ai g 71 fw), (d9, ai g 10 pm), (da, ai g 600 fs), (db, ai g 600 la), (dc, ai g 600 fk), (dd, al g 600 us), (de, al g 600 bs)] 0 0 [(0, .ref o), (1, jv u), (2, jv v)] 5 [jv 1]
    refine x_if_ne (pc := 5) C 11 dX6_range_5 rfl ⟨by decide, by decide⟩ (fun _ => ?_) (fun h => absurd h (by decide))
    refine x_aload_n (pc := 11) C 0 dX6_range_11 rfl ?_
    refine x_callV (pc := 12) C (n := 0) (q0 := 0) (rest := []) (wr := [(d4, az g 64 bt), (d6, ai g 70 kf), (d7, ai g 70 re), (d8, ai g 71 fw), (d9, ai g 10 pm), (da, ai g 600 fs), (db, ai g 600 la), (dc, ai g 600 fk), (dd, al g 600 us), (de, al g 600 bs)]) [0, 1, 2, 3, 5] [4, 6, 7, 8, 9, 10, 11, 12, 13, 14] (ctX6_layNow l g o d1 d2 d3 d4 d5 d6 d7 d8 d9 da db dc dd de rn e nc oc co un kn lU lB vn lk rf nw ol uf nn nf hno) gX6_range_X6_layNow rfl ⟨rfl, rfl⟩ (by decide +kernel) ⟨by decide, by decide⟩ rfl rfl rfl rfl rfl (by decide) (by decide) (by decide) rfl (Nat.le_of_ble_eq_true rfl) dX6_range_12 ⟨by decide, by decide⟩ (fun v_12 u_12 h_12 => ?_)
    rcases h_12 with ⟨f1, rfl, rfl, f_12⟩
    refine x_world (ws' := [(o, ob 6 [jv rn, .ref d1, jv e, jv nc, .ref d2, jv oc, .ref d3, jv co, .ref d4, jv nn, .ref d5, jv kn, .ref d6, .ref d7, .ref d8, Jv lU, Jv lB, jv vn, .ref d9, .ref da, .ref db, .ref dc, .ref dd, .ref de, jv lk]), (d1, ai g 61 rf), (d2, ai g 9 nw), (d3, ai g 9 ol), (d4, az g 64 bt), (d5, ai g 70 f1), (d6, ai g 70 kf), (d7, ai g 70 re), (d8, ai g 71 fw), (d9, ai g 10 pm), (da, ai g 600 fs), (db, ai g 600 la), (dc, ai g 600 fk), (dd, al g 600 us), (de, al g 600 bs)]) [10, 11, 12, 13, 0, 14, 1, 2, 3, 4, 5, 6, 7, 8, 9] (by decide) rfl ?_
    show X l g E ({ frames := 3, cells := 0, slots := 0, locals := 63 } : Room) 5 [(o, ob 6 [jv rn, .ref d1, jv e, jv nc, .ref d2, jv oc, .ref d3, jv co, .ref d4, jv nn, .ref d5, jv kn, .ref d6, .ref d7, .ref d8, Jv lU, Jv lB, jv vn, .ref d9, .ref da, .ref db, .ref dc, .ref dd, .ref de, jv lk]), (d1, ai g 61 rf), (d2, ai g 9 nw), (d3, ai g 9 ol), (d4, az g 64 bt), (d5, ai g 70 f1), (d6, ai g 70 kf), (d7, ai g 70 re), (d8, ai g 71 fw), (d9, ai g 10 pm), (da, ai g 600 fs), (db, ai g 600 la), (dc, ai g 600 fk), (dd, al g 600 us), (de, al g 600 bs)] 0 0 [(0, .ref o), (1, jv u), (2, jv v)] 15 []
    have hku : Kr nn f1 := n1.congr f_12.symm
    refine x_iconst (pc := 15) C dX6_range_15 ?_
    refine x_istore_n (pc := 16) C (lv' := [(3, jv 0), (0, .ref o), (1, jv u), (2, jv v)]) dX6_range_16 (by decide) rfl ?_
    refine x_iconst (pc := 17) C dX6_range_17 ?_
    refine x_istore (pc := 18) C (lv' := [(4, jv 0), (3, jv 0), (0, .ref o), (1, jv u), (2, jv v)]) dX6_range_18 (by decide) rfl ?_
    have L20 : ∀ (kμ : Nat) (j : Int) (k : Int), (nn - k).toNat < kμ → (0 ≤ k ∧ k ≤ nn) → (j = cnt (inab nf u v) k.toNat) → X l g E ({ frames := 3, cells := 0, slots := 0, locals := 63 } : Room) 5 [(o, ob 6 [jv rn, .ref d1, jv e, jv nc, .ref d2, jv oc, .ref d3, jv co, .ref d4, jv nn, .ref d5, jv kn, .ref d6, .ref d7, .ref d8, Jv lU, Jv lB, jv vn, .ref d9, .ref da, .ref db, .ref dc, .ref dd, .ref de, jv lk]), (d1, ai g 61 rf), (d2, ai g 9 nw), (d3, ai g 9 ol), (d4, az g 64 bt), (d5, ai g 70 f1), (d6, ai g 70 kf), (d7, ai g 70 re), (d8, ai g 71 fw), (d9, ai g 10 pm), (da, ai g 600 fs), (db, ai g 600 la), (dc, ai g 600 fk), (dd, al g 600 us), (de, al g 600 bs)] 0 0 [(0, .ref o), (1, jv u), (2, jv v), (3, jv j), (4, jv k)] 20 [] := by
      intro kμ
      induction kμ with
      | zero => intro j k hμ; exact absurd hμ (Nat.not_lt_zero _)
      | succ kμ ih20 =>
        intro j k hμ hk hj
        refine x_iload (pc := 20) C 4 dX6_range_20 rfl ?_
        refine x_aload_n (pc := 22) C 0 dX6_range_22 rfl ?_
        refine x_get (pc := 23) C 0 9 dX6_range_23 hiX6_range_6 hfX6_range_66 rfl rfl rfl (by decide) rfl ?_
        refine x_icmp_ge (pc := 26) C 58 dX6_range_26 rfl ⟨by omega, by omega⟩ ⟨by omega, by omega⟩ (fun c_26 => ?_) (fun c_26 => ?_)
        · refine x_iload_n (pc := 58) C 3 dX6_range_58 rfl ?_
          refine x_iret (pc := 59) C Rt0 dX6_range_59 rfl ?_
          refine Or.inr (⟨_, _, rfl, rfl, ?_⟩)
          exact ⟨by omega, by omega, by omega, by rw [hj, show nn = k by omega]⟩
        · refine x_iload_n (pc := 29) C 3 dX6_range_29 rfl ?_
          refine x_aload_n (pc := 30) C 0 dX6_range_30 rfl ?_
          refine x_get (pc := 31) C 0 10 dX6_range_31 hiX6_range_6 hfX6_range_27 rfl rfl rfl (by decide) rfl ?_
          refine x_iload (pc := 34) C 4 dX6_range_34 rfl ?_
          refine x_iald (pc := 36) C 5 dX6_range_36 rfl (by omega) (by omega) (by decide) ?_
          have hb := hku.2.2.1 k (by omega) (by omega)
          have hbe := f_12 k (by omega) (by omega)
          refine x_iload_n (pc := 37) C 1 dX6_range_37 rfl ?_
          refine x_iload_n (pc := 38) C 2 dX6_range_38 rfl ?_
          refine x_callS (pc := 39) C (n := 3) (rest := [jv j]) (wr := [(o, ob 6 [jv rn, .ref d1, jv e, jv nc, .ref d2, jv oc, .ref d3, jv co, .ref d4, jv nn, .ref d5, jv kn, .ref d6, .ref d7, .ref d8, Jv lU, Jv lB, jv vn, .ref d9, .ref da, .ref db, .ref dc, .ref dd, .ref de, jv lk]), (d1, ai g 61 rf), (d2, ai g 9 nw), (d3, ai g 9 ol), (d4, az g 64 bt), (d5, ai g 70 f1), (d6, ai g 70 kf), (d7, ai g 70 re), (d8, ai g 71 fw), (d9, ai g 10 pm), (da, ai g 600 fs), (db, ai g 600 la), (dc, ai g 600 fk), (dd, al g 600 us), (de, al g 600 bs)]) [] [0, 1, 2, 3, 4, 5, 6, 7, 8, 9, 10, 11, 12, 13, 14] (ctX6_in l g (f1 k) u v ⟨by omega, by omega⟩ ru rv) gX6_range_X6_in rfl (by decide +kernel) ⟨rfl, rfl⟩ ⟨by decide, by decide⟩ rfl rfl rfl (by decide) (by decide) (by decide) rfl (Nat.le_of_ble_eq_true rfl) dX6_range_39 ⟨by decide, by decide⟩ (fun v_39 u_39 h_39 => ?_)
          rcases h_39 with ⟨rfl, rfl, f_39⟩ | ⟨rfl, rfl, f_39⟩
          · refine x_world (ws' := [(o, ob 6 [jv rn, .ref d1, jv e, jv nc, .ref d2, jv oc, .ref d3, jv co, .ref d4, jv nn, .ref d5, jv kn, .ref d6, .ref d7, .ref d8, Jv lU, Jv lB, jv vn, .ref d9, .ref da, .ref db, .ref dc, .ref dd, .ref de, jv lk]), (d1, ai g 61 rf), (d2, ai g 9 nw), (d3, ai g 9 ol), (d4, az g 64 bt), (d5, ai g 70 f1), (d6, ai g 70 kf), (d7, ai g 70 re), (d8, ai g 71 fw), (d9, ai g 10 pm), (da, ai g 600 fs), (db, ai g 600 la), (dc, ai g 600 fk), (dd, al g 600 us), (de, al g 600 bs)]) [0, 1, 2, 3, 4, 5, 6, 7, 8, 9, 10, 11, 12, 13, 14] (by decide) rfl ?_
            show X l g E ({ frames := 3, cells := 0, slots := 0, locals := 63 } : Room) 5 [(o, ob 6 [jv rn, .ref d1, jv e, jv nc, .ref d2, jv oc, .ref d3, jv co, .ref d4, jv nn, .ref d5, jv kn, .ref d6, .ref d7, .ref d8, Jv lU, Jv lB, jv vn, .ref d9, .ref da, .ref db, .ref dc, .ref dd, .ref de, jv lk]), (d1, ai g 61 rf), (d2, ai g 9 nw), (d3, ai g 9 ol), (d4, az g 64 bt), (d5, ai g 70 f1), (d6, ai g 70 kf), (d7, ai g 70 re), (d8, ai g 71 fw), (d9, ai g 10 pm), (da, ai g 600 fs), (db, ai g 600 la), (dc, ai g 600 fk), (dd, al g 600 us), (de, al g 600 bs)] 0 0 [(0, .ref o), (1, jv u), (2, jv v), (3, jv j), (4, jv k)] 42 [jv 1, jv j]
            refine x_if_eq (pc := 42) C 49 dX6_range_42 rfl ⟨by decide, by decide⟩ (fun h => absurd h (by decide)) (fun _ => ?_)
            refine x_iconst (pc := 45) C dX6_range_45 ?_
            refine x_goto (pc := 46) C 50 dX6_range_46 rfl ?_
            refine x_iadd (pc := 50) C dX6_range_50 ?_
            refine x_istore_n (pc := 51) C (lv' := [(3, jv (j + 1)), (0, .ref o), (1, jv u), (2, jv v), (4, jv k)]) dX6_range_51 (by decide) rfl ?_
            refine x_iinc (pc := 52) C (lv' := [(4, jv (k + 1)), (3, jv (j + 1)), (0, .ref o), (1, jv u), (2, jv v)]) 4 dX6_range_52 rfl (by decide) rfl ?_
            refine x_goto (pc := 55) C 20 dX6_range_55 rfl ?_
            refine x_locals (lv' := [(0, .ref o), (1, jv u), (2, jv v), (3, jv (j + 1)), (4, jv (k + 1))]) [2, 3, 4, 1, 0] rfl ?_
            refine ih20 _ _ ?_ ?_ ?_
            · omega
            · omega
            · rw [cnt_s _ hk.1, ← hj]
              rw [if_pos (by simp only [inab, decide_eq_true_eq]; omega)]
          · refine x_world (ws' := [(o, ob 6 [jv rn, .ref d1, jv e, jv nc, .ref d2, jv oc, .ref d3, jv co, .ref d4, jv nn, .ref d5, jv kn, .ref d6, .ref d7, .ref d8, Jv lU, Jv lB, jv vn, .ref d9, .ref da, .ref db, .ref dc, .ref dd, .ref de, jv lk]), (d1, ai g 61 rf), (d2, ai g 9 nw), (d3, ai g 9 ol), (d4, az g 64 bt), (d5, ai g 70 f1), (d6, ai g 70 kf), (d7, ai g 70 re), (d8, ai g 71 fw), (d9, ai g 10 pm), (da, ai g 600 fs), (db, ai g 600 la), (dc, ai g 600 fk), (dd, al g 600 us), (de, al g 600 bs)]) [0, 1, 2, 3, 4, 5, 6, 7, 8, 9, 10, 11, 12, 13, 14] (by decide) rfl ?_
            show X l g E ({ frames := 3, cells := 0, slots := 0, locals := 63 } : Room) 5 [(o, ob 6 [jv rn, .ref d1, jv e, jv nc, .ref d2, jv oc, .ref d3, jv co, .ref d4, jv nn, .ref d5, jv kn, .ref d6, .ref d7, .ref d8, Jv lU, Jv lB, jv vn, .ref d9, .ref da, .ref db, .ref dc, .ref dd, .ref de, jv lk]), (d1, ai g 61 rf), (d2, ai g 9 nw), (d3, ai g 9 ol), (d4, az g 64 bt), (d5, ai g 70 f1), (d6, ai g 70 kf), (d7, ai g 70 re), (d8, ai g 71 fw), (d9, ai g 10 pm), (da, ai g 600 fs), (db, ai g 600 la), (dc, ai g 600 fk), (dd, al g 600 us), (de, al g 600 bs)] 0 0 [(0, .ref o), (1, jv u), (2, jv v), (3, jv j), (4, jv k)] 42 [jv 0, jv j]
            refine x_if_eq (pc := 42) C 49 dX6_range_42 rfl ⟨by decide, by decide⟩ (fun _ => ?_) (fun h => absurd h (by decide))
            refine x_iconst (pc := 49) C dX6_range_49 ?_
            refine x_iadd (pc := 50) C dX6_range_50 ?_
            refine x_istore_n (pc := 51) C (lv' := [(3, jv (j + 0)), (0, .ref o), (1, jv u), (2, jv v), (4, jv k)]) dX6_range_51 (by decide) rfl ?_
            refine x_iinc (pc := 52) C (lv' := [(4, jv (k + 1)), (3, jv (j + 0)), (0, .ref o), (1, jv u), (2, jv v)]) 4 dX6_range_52 rfl (by decide) rfl ?_
            refine x_goto (pc := 55) C 20 dX6_range_55 rfl ?_
            refine x_locals (lv' := [(0, .ref o), (1, jv u), (2, jv v), (3, jv (j + 0)), (4, jv (k + 1))]) [2, 3, 4, 1, 0] rfl ?_
            refine ih20 _ _ ?_ ?_ ?_
            · omega
            · omega
            · rw [cnt_s _ hk.1, ← hj]
              rw [if_neg (by simp only [inab, decide_eq_true_eq]; omega)]
    refine x_locals (lv' := [(0, .ref o), (1, jv u), (2, jv v), (3, jv 0), (4, jv 0)]) [2, 3, 4, 1, 0] rfl ?_
    refine L20 _ _ _ (Nat.lt_succ_self _) ?_ ?_
    · omega
    · rfl
  · refine x_world (ws' := [(o, ob 6 [jv rn, .ref d1, jv e, jv nc, .ref d2, jv oc, .ref d3, jv co, .ref d4, jv un, .ref d5, jv kn, .ref d6, .ref d7, .ref d8, Jv lU, Jv lB, jv vn, .ref d9, .ref da, .ref db, .ref dc, .ref dd, .ref de, jv lk]), (d1, ai g 61 rf), (d2, ai g 9 nw), (d3, ai g 9 ol), (d4, az g 64 bt), (d5, ai g 70 uf), (d6, ai g 70 kf), (d7, ai g 70 re), (d8, ai g 71 fw), (d9, ai g 10 pm), (da, ai g 600 fs), (db, ai g 600 la), (dc, ai g 600 fk), (dd, al g 600 us), (de, al g 600 bs)]) [0, 1, 2, 3, 4, 5, 6, 7, 8, 9, 10, 11, 12, 13, 14] (by decide) rfl ?_
    show X l g E ({ frames := 3, cells := 0, slots := 0, locals := 63 } : Room) 5 [(o, ob 6 [jv rn, .ref d1, jv e, jv nc, .ref d2, jv oc, .ref d3, jv co, .ref d4, jv un, .ref d5, jv kn, .ref d6, .ref d7, .ref d8, Jv lU, Jv lB, jv vn, .ref d9, .ref da, .ref db, .ref dc, .ref dd, .ref de, jv lk]), (d1, ai g 61 rf), (d2, ai g 9 nw), (d3, ai g 9 ol), (d4, az g 64 bt), (d5, ai g 70 uf), (d6, ai g 70 kf), (d7, ai g 70 re), (d8, ai g 71 fw), (d9, ai g 10 pm), (da, ai g 600 fs), (db, ai g 600 la), (dc, ai g 600 fk), (dd, al g 600 us), (de, al g 600 bs)] 0 0 [(0, .ref o), (1, jv u), (2, jv v)] 5 [jv 0]
    refine x_if_ne (pc := 5) C 11 dX6_range_5 rfl ⟨by decide, by decide⟩ (fun h => absurd h (by decide)) (fun _ => ?_)
    refine x_bipush (pc := 8) C dX6_range_8 rfl ?_
    refine x_iret (pc := 10) C Rt0 dX6_range_10 rfl ?_
    refine Or.inl ⟨rfl, rfl, ?_⟩
    omega

set_option maxRecDepth 100000 in
theorem hiX6_sum_6 : ∀ w ∈ wsX60, w ∈ wsX6_sum := by decide +kernel
set_option maxRecDepth 100000 in
theorem hfX6_sum_66 : Cond.fieldLink RX6 66 "KeyGuessModel" "nowMany" "I" ∈ wsX6_sum := by decide +kernel
set_option maxRecDepth 100000 in
theorem hfX6_sum_27 : Cond.fieldLink RX6 27 "KeyGuessModel" "now" "[I" ∈ wsX6_sum := by decide +kernel
set_option maxHeartbeats 4000000 in
set_option maxRecDepth 100000 in
/-- sum -/
theorem ctX6_sum (l : Launch) (g : xG) (o : Nat) (d1 : Nat) (d2 : Nat) (d3 : Nat) (d4 : Nat) (d5 : Nat) (d6 : Nat) (d7 : Nat) (d8 : Nat) (d9 : Nat) (da : Nat) (db : Nat) (dc : Nat) (dd : Nat) (de : Nat) (rn : Int) (e : Int) (nc : Int) (oc : Int) (co : Int) (un : Int) (kn : Int) (lU : Int) (lB : Int) (vn : Int) (lk : Int) (rf : Int → Int) (nw : Int → Int) (ol : Int → Int) (bt : Int → Bool) (uf : Int → Int) (kf : Int → Int) (re : Int → Int) (fw : Int → Int) (pm : Int → Int) (fs : Int → Int) (la : Int → Int) (fk : Int → Int) (us : Int → Int) (bs : Int → Int) (nn : Int) (nf : Int → Int) (u : Int) (v : Int) (hno : NO nn nf rn rf nc nw oc ol) (ru : Rg u) (rv : Rg v) : Ct l g yX6_sum wsX6_sum ({ frames := 3, cells := 0, slots := 0, locals := 63 } : Room) 0 0 [(o, ob 6 [jv rn, .ref d1, jv e, jv nc, .ref d2, jv oc, .ref d3, jv co, .ref d4, jv un, .ref d5, jv kn, .ref d6, .ref d7, .ref d8, Jv lU, Jv lB, jv vn, .ref d9, .ref da, .ref db, .ref dc, .ref dd, .ref de, jv lk]), (d1, ai g 61 rf), (d2, ai g 9 nw), (d3, ai g 9 ol), (d4, az g 64 bt), (d5, ai g 70 uf), (d6, ai g 70 kf), (d7, ai g 70 re), (d8, ai g 71 fw), (d9, ai g 10 pm), (da, ai g 600 fs), (db, ai g 600 la), (dc, ai g 600 fk), (dd, al g 600 us), (de, al g 600 bs)] [.ref o, jv u, jv v] (fun rV rU => (rV = some (Jv (-2)) ∧ rU = [(o, ob 6 [jv rn, .ref d1, jv e, jv nc, .ref d2, jv oc, .ref d3, jv co, .ref d4, jv un, .ref d5, jv kn, .ref d6, .ref d7, .ref d8, Jv lU, Jv lB, jv vn, .ref d9, .ref da, .ref db, .ref dc, .ref dd, .ref de, jv lk]), (d1, ai g 61 rf), (d2, ai g 9 nw), (d3, ai g 9 ol), (d4, az g 64 bt), (d5, ai g 70 uf), (d6, ai g 70 kf), (d7, ai g 70 re), (d8, ai g 71 fw), (d9, ai g 10 pm), (da, ai g 600 fs), (db, ai g 600 la), (dc, ai g 600 fk), (dd, al g 600 us), (de, al g 600 bs)] ∧ (u < 0 ∨ 1000000 < u ∨ v < 0 ∨ 1000000 < v ∨ v < u)) ∨ (∃ (r : Int) (f1 : Int → Int), rV = some (Jv r) ∧ rU = [(o, ob 6 [jv rn, .ref d1, jv e, jv nc, .ref d2, jv oc, .ref d3, jv co, .ref d4, jv nn, .ref d5, jv kn, .ref d6, .ref d7, .ref d8, Jv lU, Jv lB, jv vn, .ref d9, .ref da, .ref db, .ref dc, .ref dd, .ref de, jv lk]), (d1, ai g 61 rf), (d2, ai g 9 nw), (d3, ai g 9 ol), (d4, az g 64 bt), (d5, ai g 70 f1), (d6, ai g 70 kf), (d7, ai g 70 re), (d8, ai g 71 fw), (d9, ai g 10 pm), (da, ai g 600 fs), (db, ai g 600 la), (dc, ai g 600 fk), (dd, al g 600 us), (de, al g 600 bs)] ∧ (0 ≤ u ∧ u ≤ v ∧ v ≤ 1000000 ∧ r = smm (inab nf u v) nf nn.toNat))) := by
  refine ct_of (cc := cX6_sum) (nL := 6) (ret := (some .long)) (by decide) rfl (Nat.le_of_ble_eq_true rfl) ?_
  intro E C Rt0
  have C : Cx l g E ({ frames := 3, cells := 0, slots := 0, locals := 63 } : Room) RX6 "sum" cX6_sum wsX6_sum 6 := C
  show X l g E ({ frames := 3, cells := 0, slots := 0, locals := 63 } : Room) 6 [(o, ob 6 [jv rn, .ref d1, jv e, jv nc, .ref d2, jv oc, .ref d3, jv co, .ref d4, jv un, .ref d5, jv kn, .ref d6, .ref d7, .ref d8, Jv lU, Jv lB, jv vn, .ref d9, .ref da, .ref db, .ref dc, .ref dd, .ref de, jv lk]), (d1, ai g 61 rf), (d2, ai g 9 nw), (d3, ai g 9 ol), (d4, az g 64 bt), (d5, ai g 70 uf), (d6, ai g 70 kf), (d7, ai g 70 re), (d8, ai g 71 fw), (d9, ai g 10 pm), (da, ai g 600 fs), (db, ai g 600 la), (dc, ai g 600 fk), (dd, al g 600 us), (de, al g 600 bs)] 0 0 [(0, .ref o), (1, jv u), (2, jv v)] 0 []
  have n1 := hno.1
  have nn0 := n1.1
  have nn1 := n1.2.1
  have ru1 := ru.1
  have ru2 := ru.2
  have rv1 := rv.1
  have rv2 := rv.2
  refine x_iload_n (pc := 0) C 1 dX6_sum_0 rfl ?_
  refine x_iload_n (pc := 1) C 2 dX6_sum_1 rfl ?_
  refine x_callS (pc := 2) C (n := 2) (rest := []) (wr := [(o, ob 6 [jv rn, .ref d1, jv e, jv nc, .ref d2, jv oc, .ref d3, jv co, .ref d4, jv un, .ref d5, jv kn, .ref d6, .ref d7, .ref d8, Jv lU, Jv lB, jv vn, .ref d9, .ref da, .ref db, .ref dc, .ref dd, .ref de, jv lk]), (d1, ai g 61 rf), (d2, ai g 9 nw), (d3, ai g 9 ol), (d4, az g 64 bt), (d5, ai g 70 uf), (d6, ai g 70 kf), (d7, ai g 70 re), (d8, ai g 71 fw), (d9, ai g 10 pm), (da, ai g 600 fs), (db, ai g 600 la), (dc, ai g 600 fk), (dd, al g 600 us), (de, al g 600 bs)]) [] [0, 1, 2, 3, 4, 5, 6, 7, 8, 9, 10, 11, 12, 13, 14] (ctX6_isSpan l g u v ru rv) gX6_sum_X6_isSpan rfl (by decide +kernel) ⟨rfl, rfl⟩ ⟨by decide, by decide⟩ rfl rfl rfl (by decide) (by decide) (by decide) rfl (Nat.le_of_ble_eq_true rfl) dX6_sum_2 ⟨by decide, by decide⟩ (fun v_2 u_2 h_2 => ?_)
  rcases h_2 with ⟨rfl, rfl, f_2⟩ | ⟨rfl, rfl, f_2⟩
  · refine x_world (ws' := [(o, ob 6 [jv rn, .ref d1, jv e, jv nc, .ref d2, jv oc, .ref d3, jv co, .ref d4, jv un, .ref d5, jv kn, .ref d6, .ref d7, .ref d8, Jv lU, Jv lB, jv vn, .ref d9, .ref da, .ref db, .ref dc, .ref dd, .ref de, jv lk]), (d1, ai g 61 rf), (d2, ai g 9 nw), (d3, ai g 9 ol), (d4, az g 64 bt), (d5, ai g 70 uf), (d6, ai g 70 kf), (d7, ai g 70 re), (d8, ai g 71 fw), (d9, ai g 10 pm), (da, ai g 600 fs), (db, ai g 600 la), (dc, ai g 600 fk), (dd, al g 600 us), (de, al g 600 bs)]) [0, 1, 2, 3, 4, 5, 6, 7, 8, 9, 10, 11, 12, 13, 14] (by decide) rfl ?_
    show X l g E ({ frames := 3, cells := 0, slots := 0, locals := 63 } : Room) 6 [(o, ob 6 [jv rn, .ref d1, jv e, jv nc, .ref d2, jv oc, .ref d3, jv co, .ref d4, jv un, .ref d5, jv kn, .ref d6, .ref d7, .ref d8, Jv lU, Jv lB, jv vn, .ref d9, .ref da, .ref db, .ref dc, .ref dd, .ref de, jv lk]), (d1, ai g 61 rf), (d2, ai g 9 nw), (d3, ai g 9 ol), (d4, az g 64 bt), (d5, ai g 70 uf), (d6, ai g 70 kf), (d7, ai g 70 re), (d8, ai g 71 fw), (d9, ai g 10 pm), (da, ai g 600 fs), (db, ai g 600 la), (dc, ai g 600 fk), (dd, al g 600 us), (de, al g 600 bs)] 0 0 [(0, .ref o), (1, jv u), (2, jv v)] 5 [jv 1]
    refine x_if_ne (pc := 5) C 12 dX6_sum_5 rfl ⟨by decide, by decide⟩ (fun _ => ?_) (fun h => absurd h (by decide))
    refine x_aload_n (pc := 12) C 0 dX6_sum_12 rfl ?_
    refine x_callV (pc := 13) C (n := 0) (q0 := 0) (rest := []) (wr := [(d4, az g 64 bt), (d6, ai g 70 kf), (d7, ai g 70 re), (d8, ai g 71 fw), (d9, ai g 10 pm), (da, ai g 600 fs), (db, ai g 600 la), (dc, ai g 600 fk), (dd, al g 600 us), (de, al g 600 bs)]) [0, 1, 2, 3, 5] [4, 6, 7, 8, 9, 10, 11, 12, 13, 14] (ctX6_layNow l g o d1 d2 d3 d4 d5 d6 d7 d8 d9 da db dc dd de rn e nc oc co un kn lU lB vn lk rf nw ol uf nn nf hno) gX6_sum_X6_layNow rfl ⟨rfl, rfl⟩ (by decide +kernel) ⟨by decide, by decide⟩ rfl rfl rfl rfl rfl (by decide) (by decide) (by decide) rfl (Nat.le_of_ble_eq_true rfl) dX6_sum_13 ⟨by decide, by decide⟩ (fun v_13 u_13 h_13 => ?_)
    rcases h_13 with ⟨f1, rfl, rfl, f_13⟩
    refine x_world (ws' := [(o, ob 6 [jv rn, .ref d1, jv e, jv nc, .ref d2, jv oc, .ref d3, jv co, .ref d4, jv nn, .ref d5, jv kn, .ref d6, .ref d7, .ref d8, Jv lU, Jv lB, jv vn, .ref d9, .ref da, .ref db, .ref dc, .ref dd, .ref de, jv lk]), (d1, ai g 61 rf), (d2, ai g 9 nw), (d3, ai g 9 ol), (d4, az g 64 bt), (d5, ai g 70 f1), (d6, ai g 70 kf), (d7, ai g 70 re), (d8, ai g 71 fw), (d9, ai g 10 pm), (da, ai g 600 fs), (db, ai g 600 la), (dc, ai g 600 fk), (dd, al g 600 us), (de, al g 600 bs)]) [10, 11, 12, 13, 0, 14, 1, 2, 3, 4, 5, 6, 7, 8, 9] (by decide) rfl ?_
    show X l g E ({ frames := 3, cells := 0, slots := 0, locals := 63 } : Room) 6 [(o, ob 6 [jv rn, .ref d1, jv e, jv nc, .ref d2, jv oc, .ref d3, jv co, .ref d4, jv nn, .ref d5, jv kn, .ref d6, .ref d7, .ref d8, Jv lU, Jv lB, jv vn, .ref d9, .ref da, .ref db, .ref dc, .ref dd, .ref de, jv lk]), (d1, ai g 61 rf), (d2, ai g 9 nw), (d3, ai g 9 ol), (d4, az g 64 bt), (d5, ai g 70 f1), (d6, ai g 70 kf), (d7, ai g 70 re), (d8, ai g 71 fw), (d9, ai g 10 pm), (da, ai g 600 fs), (db, ai g 600 la), (dc, ai g 600 fk), (dd, al g 600 us), (de, al g 600 bs)] 0 0 [(0, .ref o), (1, jv u), (2, jv v)] 16 []
    have hku : Kr nn f1 := n1.congr f_13.symm
    refine x_lconst (pc := 16) C (z := 0) dX6_sum_16 rfl ?_
    refine x_lstore_n (pc := 17) C (lv' := [(3, Jv 0), (0, .ref o), (1, jv u), (2, jv v)]) dX6_sum_17 (by decide) rfl ?_
    refine x_iconst (pc := 18) C dX6_sum_18 ?_
    refine x_istore (pc := 19) C (lv' := [(5, jv 0), (3, Jv 0), (0, .ref o), (1, jv u), (2, jv v)]) dX6_sum_19 (by decide) rfl ?_
    have L21 : ∀ (kμ : Nat) (j : Int) (k : Int), (nn - k).toNat < kμ → (0 ≤ k ∧ k ≤ nn) → (j = smm (inab nf u v) nf k.toNat) → X l g E ({ frames := 3, cells := 0, slots := 0, locals := 63 } : Room) 6 [(o, ob 6 [jv rn, .ref d1, jv e, jv nc, .ref d2, jv oc, .ref d3, jv co, .ref d4, jv nn, .ref d5, jv kn, .ref d6, .ref d7, .ref d8, Jv lU, Jv lB, jv vn, .ref d9, .ref da, .ref db, .ref dc, .ref dd, .ref de, jv lk]), (d1, ai g 61 rf), (d2, ai g 9 nw), (d3, ai g 9 ol), (d4, az g 64 bt), (d5, ai g 70 f1), (d6, ai g 70 kf), (d7, ai g 70 re), (d8, ai g 71 fw), (d9, ai g 10 pm), (da, ai g 600 fs), (db, ai g 600 la), (dc, ai g 600 fk), (dd, al g 600 us), (de, al g 600 bs)] 0 0 [(0, .ref o), (1, jv u), (2, jv v), (3, Jv j), (5, jv k)] 21 [] := by
      intro kμ
      induction kμ with
      | zero => intro j k hμ; exact absurd hμ (Nat.not_lt_zero _)
      | succ kμ ih21 =>
        intro j k hμ hk hj
        refine x_iload (pc := 21) C 4 dX6_sum_21 rfl ?_
        refine x_aload_n (pc := 23) C 0 dX6_sum_23 rfl ?_
        refine x_get (pc := 24) C 0 9 dX6_sum_24 hiX6_sum_6 hfX6_sum_66 rfl rfl rfl (by decide) rfl ?_
        refine x_icmp_ge (pc := 27) C 66 dX6_sum_27 rfl ⟨by omega, by omega⟩ ⟨by omega, by omega⟩ (fun c_27 => ?_) (fun c_27 => ?_)
        · refine x_lload_n (pc := 66) C 3 dX6_sum_66 rfl ?_
          show X l g E ({ frames := 3, cells := 0, slots := 0, locals := 63 } : Room) 6 [(o, ob 6 [jv rn, .ref d1, jv e, jv nc, .ref d2, jv oc, .ref d3, jv co, .ref d4, jv nn, .ref d5, jv kn, .ref d6, .ref d7, .ref d8, Jv lU, Jv lB, jv vn, .ref d9, .ref da, .ref db, .ref dc, .ref dd, .ref de, jv lk]), (d1, ai g 61 rf), (d2, ai g 9 nw), (d3, ai g 9 ol), (d4, az g 64 bt), (d5, ai g 70 f1), (d6, ai g 70 kf), (d7, ai g 70 re), (d8, ai g 71 fw), (d9, ai g 10 pm), (da, ai g 600 fs), (db, ai g 600 la), (dc, ai g 600 fk), (dd, al g 600 us), (de, al g 600 bs)] 0 0 [(0, .ref o), (1, jv u), (2, jv v), (3, Jv j), (5, jv k)] 67 [.long (lI j)]
          refine x_lret (pc := 67) C Rt0 dX6_sum_67 rfl ?_
          refine Or.inr (⟨_, _, rfl, rfl, ?_⟩)
          exact ⟨by omega, by omega, by omega, by rw [hj, show nn = k by omega]⟩
        · refine x_lload_n (pc := 30) C 3 dX6_sum_30 rfl ?_
          refine x_aload_n (pc := 31) C 0 dX6_sum_31 rfl ?_
          refine x_get (pc := 32) C 0 10 dX6_sum_32 hiX6_sum_6 hfX6_sum_27 rfl rfl rfl (by decide) rfl ?_
          refine x_iload (pc := 35) C 4 dX6_sum_35 rfl ?_
          refine x_iald (pc := 37) C 5 dX6_sum_37 rfl (by omega) (by omega) (by decide) ?_
          have hb := hku.2.2.1 k (by omega) (by omega)
          have hbe := f_13 k (by omega) (by omega)
          refine x_iload_n (pc := 38) C 1 dX6_sum_38 rfl ?_
          refine x_iload_n (pc := 39) C 2 dX6_sum_39 rfl ?_
          refine x_callS (pc := 40) C (n := 3) (rest := [Jv j]) (wr := [(o, ob 6 [jv rn, .ref d1, jv e, jv nc, .ref d2, jv oc, .ref d3, jv co, .ref d4, jv nn, .ref d5, jv kn, .ref d6, .ref d7, .ref d8, Jv lU, Jv lB, jv vn, .ref d9, .ref da, .ref db, .ref dc, .ref dd, .ref de, jv lk]), (d1, ai g 61 rf), (d2, ai g 9 nw), (d3, ai g 9 ol), (d4, az g 64 bt), (d5, ai g 70 f1), (d6, ai g 70 kf), (d7, ai g 70 re), (d8, ai g 71 fw), (d9, ai g 10 pm), (da, ai g 600 fs), (db, ai g 600 la), (dc, ai g 600 fk), (dd, al g 600 us), (de, al g 600 bs)]) [] [0, 1, 2, 3, 4, 5, 6, 7, 8, 9, 10, 11, 12, 13, 14] (ctX6_in l g (f1 k) u v ⟨by omega, by omega⟩ ru rv) gX6_sum_X6_in rfl (by decide +kernel) ⟨rfl, rfl⟩ ⟨by decide, by decide⟩ rfl rfl rfl (by decide) (by decide) (by decide) rfl (Nat.le_of_ble_eq_true rfl) dX6_sum_40 ⟨by decide, by decide⟩ (fun v_40 u_40 h_40 => ?_)
          rcases h_40 with ⟨rfl, rfl, f_40⟩ | ⟨rfl, rfl, f_40⟩
          · refine x_world (ws' := [(o, ob 6 [jv rn, .ref d1, jv e, jv nc, .ref d2, jv oc, .ref d3, jv co, .ref d4, jv nn, .ref d5, jv kn, .ref d6, .ref d7, .ref d8, Jv lU, Jv lB, jv vn, .ref d9, .ref da, .ref db, .ref dc, .ref dd, .ref de, jv lk]), (d1, ai g 61 rf), (d2, ai g 9 nw), (d3, ai g 9 ol), (d4, az g 64 bt), (d5, ai g 70 f1), (d6, ai g 70 kf), (d7, ai g 70 re), (d8, ai g 71 fw), (d9, ai g 10 pm), (da, ai g 600 fs), (db, ai g 600 la), (dc, ai g 600 fk), (dd, al g 600 us), (de, al g 600 bs)]) [0, 1, 2, 3, 4, 5, 6, 7, 8, 9, 10, 11, 12, 13, 14] (by decide) rfl ?_
            show X l g E ({ frames := 3, cells := 0, slots := 0, locals := 63 } : Room) 6 [(o, ob 6 [jv rn, .ref d1, jv e, jv nc, .ref d2, jv oc, .ref d3, jv co, .ref d4, jv nn, .ref d5, jv kn, .ref d6, .ref d7, .ref d8, Jv lU, Jv lB, jv vn, .ref d9, .ref da, .ref db, .ref dc, .ref dd, .ref de, jv lk]), (d1, ai g 61 rf), (d2, ai g 9 nw), (d3, ai g 9 ol), (d4, az g 64 bt), (d5, ai g 70 f1), (d6, ai g 70 kf), (d7, ai g 70 re), (d8, ai g 71 fw), (d9, ai g 10 pm), (da, ai g 600 fs), (db, ai g 600 la), (dc, ai g 600 fk), (dd, al g 600 us), (de, al g 600 bs)] 0 0 [(0, .ref o), (1, jv u), (2, jv v), (3, Jv j), (5, jv k)] 43 [jv 1, Jv j]
            refine x_if_eq (pc := 43) C 57 dX6_sum_43 rfl ⟨by decide, by decide⟩ (fun h => absurd h (by decide)) (fun _ => ?_)
            refine x_aload_n (pc := 46) C 0 dX6_sum_46 rfl ?_
            refine x_get (pc := 47) C 0 10 dX6_sum_47 hiX6_sum_6 hfX6_sum_27 rfl rfl rfl (by decide) rfl ?_
            refine x_iload (pc := 50) C 4 dX6_sum_50 rfl ?_
            refine x_iald (pc := 52) C 5 dX6_sum_52 rfl (by omega) (by omega) (by decide) ?_
            refine x_i2l (pc := 53) C dX6_sum_53 ⟨by omega, by omega⟩ ?_
            refine x_goto (pc := 54) C 58 dX6_sum_54 rfl ?_
            refine x_ladd (pc := 58) C dX6_sum_58 ?_
            refine x_lstore_n (pc := 59) C (lv' := [(3, Jv (j + (f1 k))), (0, .ref o), (1, jv u), (2, jv v), (5, jv k)]) dX6_sum_59 (by decide) rfl ?_
            refine x_iinc (pc := 60) C (lv' := [(5, jv (k + 1)), (3, Jv (j + (f1 k))), (0, .ref o), (1, jv u), (2, jv v)]) 4 dX6_sum_60 rfl (by decide) rfl ?_
            refine x_goto (pc := 63) C 21 dX6_sum_63 rfl ?_
            refine x_locals (lv' := [(0, .ref o), (1, jv u), (2, jv v), (3, Jv (j + (f1 k))), (5, jv (k + 1))]) [2, 3, 4, 1, 0] rfl ?_
            refine ih21 _ _ ?_ ?_ ?_
            · omega
            · omega
            · rw [smm_s _ _ hk.1, ← hj]
              rw [if_pos (by simp only [inab, decide_eq_true_eq]; omega)]; omega
          · refine x_world (ws' := [(o, ob 6 [jv rn, .ref d1, jv e, jv nc, .ref d2, jv oc, .ref d3, jv co, .ref d4, jv nn, .ref d5, jv kn, .ref d6, .ref d7, .ref d8, Jv lU, Jv lB, jv vn, .ref d9, .ref da, .ref db, .ref dc, .ref dd, .ref de, jv lk]), (d1, ai g 61 rf), (d2, ai g 9 nw), (d3, ai g 9 ol), (d4, az g 64 bt), (d5, ai g 70 f1), (d6, ai g 70 kf), (d7, ai g 70 re), (d8, ai g 71 fw), (d9, ai g 10 pm), (da, ai g 600 fs), (db, ai g 600 la), (dc, ai g 600 fk), (dd, al g 600 us), (de, al g 600 bs)]) [0, 1, 2, 3, 4, 5, 6, 7, 8, 9, 10, 11, 12, 13, 14] (by decide) rfl ?_
            show X l g E ({ frames := 3, cells := 0, slots := 0, locals := 63 } : Room) 6 [(o, ob 6 [jv rn, .ref d1, jv e, jv nc, .ref d2, jv oc, .ref d3, jv co, .ref d4, jv nn, .ref d5, jv kn, .ref d6, .ref d7, .ref d8, Jv lU, Jv lB, jv vn, .ref d9, .ref da, .ref db, .ref dc, .ref dd, .ref de, jv lk]), (d1, ai g 61 rf), (d2, ai g 9 nw), (d3, ai g 9 ol), (d4, az g 64 bt), (d5, ai g 70 f1), (d6, ai g 70 kf), (d7, ai g 70 re), (d8, ai g 71 fw), (d9, ai g 10 pm), (da, ai g 600 fs), (db, ai g 600 la), (dc, ai g 600 fk), (dd, al g 600 us), (de, al g 600 bs)] 0 0 [(0, .ref o), (1, jv u), (2, jv v), (3, Jv j), (5, jv k)] 43 [jv 0, Jv j]
            refine x_if_eq (pc := 43) C 57 dX6_sum_43 rfl ⟨by decide, by decide⟩ (fun _ => ?_) (fun h => absurd h (by decide))
            refine x_lconst (pc := 57) C (z := 0) dX6_sum_57 rfl ?_
            refine x_ladd (pc := 58) C dX6_sum_58 ?_
            refine x_lstore_n (pc := 59) C (lv' := [(3, Jv (j + 0)), (0, .ref o), (1, jv u), (2, jv v), (5, jv k)]) dX6_sum_59 (by decide) rfl ?_
            refine x_iinc (pc := 60) C (lv' := [(5, jv (k + 1)), (3, Jv (j + 0)), (0, .ref o), (1, jv u), (2, jv v)]) 4 dX6_sum_60 rfl (by decide) rfl ?_
            refine x_goto (pc := 63) C 21 dX6_sum_63 rfl ?_
            refine x_locals (lv' := [(0, .ref o), (1, jv u), (2, jv v), (3, Jv (j + 0)), (5, jv (k + 1))]) [2, 3, 4, 1, 0] rfl ?_
            refine ih21 _ _ ?_ ?_ ?_
            · omega
            · omega
            · rw [smm_s _ _ hk.1, ← hj]
              rw [if_neg (by simp only [inab, decide_eq_true_eq]; omega)]
    refine x_locals (lv' := [(0, .ref o), (1, jv u), (2, jv v), (3, Jv 0), (5, jv 0)]) [2, 3, 4, 1, 0] rfl ?_
    refine L21 _ _ _ (Nat.lt_succ_self _) ?_ ?_
    · omega
    · rfl
  · refine x_world (ws' := [(o, ob 6 [jv rn, .ref d1, jv e, jv nc, .ref d2, jv oc, .ref d3, jv co, .ref d4, jv un, .ref d5, jv kn, .ref d6, .ref d7, .ref d8, Jv lU, Jv lB, jv vn, .ref d9, .ref da, .ref db, .ref dc, .ref dd, .ref de, jv lk]), (d1, ai g 61 rf), (d2, ai g 9 nw), (d3, ai g 9 ol), (d4, az g 64 bt), (d5, ai g 70 uf), (d6, ai g 70 kf), (d7, ai g 70 re), (d8, ai g 71 fw), (d9, ai g 10 pm), (da, ai g 600 fs), (db, ai g 600 la), (dc, ai g 600 fk), (dd, al g 600 us), (de, al g 600 bs)]) [0, 1, 2, 3, 4, 5, 6, 7, 8, 9, 10, 11, 12, 13, 14] (by decide) rfl ?_
    show X l g E ({ frames := 3, cells := 0, slots := 0, locals := 63 } : Room) 6 [(o, ob 6 [jv rn, .ref d1, jv e, jv nc, .ref d2, jv oc, .ref d3, jv co, .ref d4, jv un, .ref d5, jv kn, .ref d6, .ref d7, .ref d8, Jv lU, Jv lB, jv vn, .ref d9, .ref da, .ref db, .ref dc, .ref dd, .ref de, jv lk]), (d1, ai g 61 rf), (d2, ai g 9 nw), (d3, ai g 9 ol), (d4, az g 64 bt), (d5, ai g 70 uf), (d6, ai g 70 kf), (d7, ai g 70 re), (d8, ai g 71 fw), (d9, ai g 10 pm), (da, ai g 600 fs), (db, ai g 600 la), (dc, ai g 600 fk), (dd, al g 600 us), (de, al g 600 bs)] 0 0 [(0, .ref o), (1, jv u), (2, jv v)] 5 [jv 0]
    refine x_if_ne (pc := 5) C 12 dX6_sum_5 rfl ⟨by decide, by decide⟩ (fun h => absurd h (by decide)) (fun _ => ?_)
    refine x_ldc2 (pc := 8) C (z := -2) dX6_sum_8 (fun h => h (.constantLong RX6 109 (-2)) (by decide +kernel)) rfl ?_
    show X l g E ({ frames := 3, cells := 0, slots := 0, locals := 63 } : Room) 6 [(o, ob 6 [jv rn, .ref d1, jv e, jv nc, .ref d2, jv oc, .ref d3, jv co, .ref d4, jv un, .ref d5, jv kn, .ref d6, .ref d7, .ref d8, Jv lU, Jv lB, jv vn, .ref d9, .ref da, .ref db, .ref dc, .ref dd, .ref de, jv lk]), (d1, ai g 61 rf), (d2, ai g 9 nw), (d3, ai g 9 ol), (d4, az g 64 bt), (d5, ai g 70 uf), (d6, ai g 70 kf), (d7, ai g 70 re), (d8, ai g 71 fw), (d9, ai g 10 pm), (da, ai g 600 fs), (db, ai g 600 la), (dc, ai g 600 fk), (dd, al g 600 us), (de, al g 600 bs)] 0 0 [(0, .ref o), (1, jv u), (2, jv v)] 11 [.long (lI (-2))]
    refine x_lret (pc := 11) C Rt0 dX6_sum_11 rfl ?_
    refine Or.inl ⟨rfl, rfl, ?_⟩
    omega

set_option maxRecDepth 100000 in
theorem hiX6_piecesAt_6 : ∀ w ∈ wsX60, w ∈ wsX6_piecesAt := by decide +kernel
set_option maxRecDepth 100000 in
theorem hfX6_piecesAt_139 : Cond.fieldLink RX6 139 "KeyGuessModel" "levelMany" "I" ∈ wsX6_piecesAt := by decide +kernel
set_option maxRecDepth 100000 in
theorem hfX6_piecesAt_39 : Cond.fieldLink RX6 39 "KeyGuessModel" "pieceMany" "[I" ∈ wsX6_piecesAt := by decide +kernel
set_option maxHeartbeats 4000000 in
set_option maxRecDepth 100000 in
/-- piecesAt -/
theorem ctX6_piecesAt (l : Launch) (g : xG) (o : Nat) (d1 : Nat) (d2 : Nat) (d3 : Nat) (d4 : Nat) (d5 : Nat) (d6 : Nat) (d7 : Nat) (d8 : Nat) (d9 : Nat) (da : Nat) (db : Nat) (dc : Nat) (dd : Nat) (de : Nat) (rn : Int) (e : Int) (nc : Int) (oc : Int) (co : Int) (un : Int) (kn : Int) (lU : Int) (lB : Int) (vn : Int) (lk : Int) (rf : Int → Int) (nw : Int → Int) (ol : Int → Int) (bt : Int → Bool) (uf : Int → Int) (kf : Int → Int) (re : Int → Int) (fw : Int → Int) (pm : Int → Int) (fs : Int → Int) (la : Int → Int) (fk : Int → Int) (us : Int → Int) (bs : Int → Int) (t : Int) (y : Int → Int) (he : 0 ≤ e ∧ e ≤ 8) (hL : LvM y e rn vn pm fs la fk us bs) (ht : 0 ≤ t ∧ t < 10) : Ct l g yX6_piecesAt wsX6_piecesAt ({ frames := 0, cells := 0, slots := 0, locals := 0 } : Room) 0 0 [(o, ob 6 [jv rn, .ref d1, jv e, jv nc, .ref d2, jv oc, .ref d3, jv co, .ref d4, jv un, .ref d5, jv kn, .ref d6, .ref d7, .ref d8, Jv lU, Jv lB, jv vn, .ref d9, .ref da, .ref db, .ref dc, .ref dd, .ref de, jv lk]), (d1, ai g 61 rf), (d2, ai g 9 nw), (d3, ai g 9 ol), (d4, az g 64 bt), (d5, ai g 70 uf), (d6, ai g 70 kf), (d7, ai g 70 re), (d8, ai g 71 fw), (d9, ai g 10 pm), (da, ai g 600 fs), (db, ai g 600 la), (dc, ai g 600 fk), (dd, al g 600 us), (de, al g 600 bs)] [.ref o, jv t] (fun rV rU => (∃ (r : Int), rV = some (jv r) ∧ rU = [(o, ob 6 [jv rn, .ref d1, jv e, jv nc, .ref d2, jv oc, .ref d3, jv co, .ref d4, jv un, .ref d5, jv kn, .ref d6, .ref d7, .ref d8, Jv lU, Jv lB, jv vn, .ref d9, .ref da, .ref db, .ref dc, .ref dd, .ref de, jv lk]), (d1, ai g 61 rf), (d2, ai g 9 nw), (d3, ai g 9 ol), (d4, az g 64 bt), (d5, ai g 70 uf), (d6, ai g 70 kf), (d7, ai g 70 re), (d8, ai g 71 fw), (d9, ai g 10 pm), (da, ai g 600 fs), (db, ai g 600 la), (dc, ai g 600 fk), (dd, al g 600 us), (de, al g 600 bs)] ∧ (0 ≤ t ∧ t < vn ∧ r = PM (lvl y e rn t.toNat).1 e (lvl y e rn t.toNat).2 ∧ 1 ≤ r ∧ r ≤ 60)) ∨ (rV = some (jv 0) ∧ rU = [(o, ob 6 [jv rn, .ref d1, jv e, jv nc, .ref d2, jv oc, .ref d3, jv co, .ref d4, jv un, .ref d5, jv kn, .ref d6, .ref d7, .ref d8, Jv lU, Jv lB, jv vn, .ref d9, .ref da, .ref db, .ref dc, .ref dd, .ref de, jv lk]), (d1, ai g 61 rf), (d2, ai g 9 nw), (d3, ai g 9 ol), (d4, az g 64 bt), (d5, ai g 70 uf), (d6, ai g 70 kf), (d7, ai g 70 re), (d8, ai g 71 fw), (d9, ai g 10 pm), (da, ai g 600 fs), (db, ai g 600 la), (dc, ai g 600 fk), (dd, al g 600 us), (de, al g 600 bs)] ∧ (vn ≤ t))) := by
  refine ct_of (cc := cX6_piecesAt) (nL := 2) (ret := (some .int)) (by decide) rfl (Nat.le_of_ble_eq_true rfl) ?_
  intro E C Rt0
  have C : Cx l g E ({ frames := 0, cells := 0, slots := 0, locals := 0 } : Room) RX6 "piecesAt" cX6_piecesAt wsX6_piecesAt 2 := C
  show X l g E ({ frames := 0, cells := 0, slots := 0, locals := 0 } : Room) 2 [(o, ob 6 [jv rn, .ref d1, jv e, jv nc, .ref d2, jv oc, .ref d3, jv co, .ref d4, jv un, .ref d5, jv kn, .ref d6, .ref d7, .ref d8, Jv lU, Jv lB, jv vn, .ref d9, .ref da, .ref db, .ref dc, .ref dd, .ref de, jv lk]), (d1, ai g 61 rf), (d2, ai g 9 nw), (d3, ai g 9 ol), (d4, az g 64 bt), (d5, ai g 70 uf), (d6, ai g 70 kf), (d7, ai g 70 re), (d8, ai g 71 fw), (d9, ai g 10 pm), (da, ai g 600 fs), (db, ai g 600 la), (dc, ai g 600 fk), (dd, al g 600 us), (de, al g 600 bs)] 0 0 [(0, .ref o), (1, jv t)] 0 []
  have hv6 := hL.2.2.1
  have hv0 := hL.2.1
  refine x_iload_n (pc := 0) C 1 dX6_piecesAt_0 rfl ?_
  refine x_aload_n (pc := 1) C 0 dX6_piecesAt_1 rfl ?_
  refine x_get (pc := 2) C 0 17 dX6_piecesAt_2 hiX6_piecesAt_6 hfX6_piecesAt_139 rfl rfl rfl (by decide) rfl ?_
  refine x_icmp_ge (pc := 5) C 17 dX6_piecesAt_5 rfl ⟨by omega, by omega⟩ ⟨by omega, by omega⟩ (fun c_5 => ?_) (fun c_5 => ?_)
  · refine x_iconst (pc := 17) C dX6_piecesAt_17 ?_
    refine x_iret (pc := 18) C Rt0 dX6_piecesAt_18 rfl ?_
    refine Or.inr (⟨rfl, rfl, ?_⟩)
    omega
  · refine x_aload_n (pc := 8) C 0 dX6_piecesAt_8 rfl ?_
    refine x_get (pc := 9) C 0 18 dX6_piecesAt_9 hiX6_piecesAt_6 hfX6_piecesAt_39 rfl rfl rfl (by decide) rfl ?_
    refine x_iload_n (pc := 12) C 1 dX6_piecesAt_12 rfl ?_
    refine x_iald (pc := 13) C 9 dX6_piecesAt_13 rfl (by omega) (by omega) (by decide) ?_
    refine x_goto (pc := 14) C 18 dX6_piecesAt_14 rfl ?_
    refine x_iret (pc := 18) C Rt0 dX6_piecesAt_18 rfl ?_
    refine Or.inl ⟨_, rfl, rfl, ?_⟩
    have q := hL.2.2.2 t.toNat (by omega)
    have p := q.1.pm he.1
    have n60 := q.1.1.2.1
    have z := q.2.1
    rw [show ((t.toNat : Nat) : Int) = t by omega] at z
    exact ⟨by omega, by omega, z, by rw [z]; omega, by rw [z]; omega⟩

set_option maxHeartbeats 4000000 in
set_option maxRecDepth 100000 in
/-- pieces -/
theorem ctX6_pieces (l : Launch) (g : xG) (o : Nat) (d1 : Nat) (d2 : Nat) (d3 : Nat) (d4 : Nat) (d5 : Nat) (d6 : Nat) (d7 : Nat) (d8 : Nat) (d9 : Nat) (da : Nat) (db : Nat) (dc : Nat) (dd : Nat) (de : Nat) (rn : Int) (e : Int) (nc : Int) (oc : Int) (co : Int) (un : Int) (kn : Int) (lU : Int) (lB : Int) (vn : Int) (lk : Int) (rf : Int → Int) (nw : Int → Int) (ol : Int → Int) (bt : Int → Bool) (uf : Int → Int) (kf : Int → Int) (re : Int → Int) (fw : Int → Int) (pm : Int → Int) (fs : Int → Int) (la : Int → Int) (fk : Int → Int) (us : Int → Int) (bs : Int → Int) (u : Int) (y : Int → Int) (he : 0 ≤ e ∧ e ≤ 8) (hL : LvM y e rn vn pm fs la fk us bs) (ru : Rg u) : Ct l g yX6_pieces wsX6_pieces ({ frames := 1, cells := 0, slots := 0, locals := 22 } : Room) 0 0 [(o, ob 6 [jv rn, .ref d1, jv e, jv nc, .ref d2, jv oc, .ref d3, jv co, .ref d4, jv un, .ref d5, jv kn, .ref d6, .ref d7, .ref d8, Jv lU, Jv lB, jv vn, .ref d9, .ref da, .ref db, .ref dc, .ref dd, .ref de, jv lk]), (d1, ai g 61 rf), (d2, ai g 9 nw), (d3, ai g 9 ol), (d4, az g 64 bt), (d5, ai g 70 uf), (d6, ai g 70 kf), (d7, ai g 70 re), (d8, ai g 71 fw), (d9, ai g 10 pm), (da, ai g 600 fs), (db, ai g 600 la), (dc, ai g 600 fk), (dd, al g 600 us), (de, al g 600 bs)] [.ref o, jv u] (fun rV rU => (rV = some (jv (-2)) ∧ rU = [(o, ob 6 [jv rn, .ref d1, jv e, jv nc, .ref d2, jv oc, .ref d3, jv co, .ref d4, jv un, .ref d5, jv kn, .ref d6, .ref d7, .ref d8, Jv lU, Jv lB, jv vn, .ref d9, .ref da, .ref db, .ref dc, .ref dd, .ref de, jv lk]), (d1, ai g 61 rf), (d2, ai g 9 nw), (d3, ai g 9 ol), (d4, az g 64 bt), (d5, ai g 70 uf), (d6, ai g 70 kf), (d7, ai g 70 re), (d8, ai g 71 fw), (d9, ai g 10 pm), (da, ai g 600 fs), (db, ai g 600 la), (dc, ai g 600 fk), (dd, al g 600 us), (de, al g 600 bs)] ∧ (u < 0 ∨ 10 ≤ u)) ∨ (rV = some (jv 0) ∧ rU = [(o, ob 6 [jv rn, .ref d1, jv e, jv nc, .ref d2, jv oc, .ref d3, jv co, .ref d4, jv un, .ref d5, jv kn, .ref d6, .ref d7, .ref d8, Jv lU, Jv lB, jv vn, .ref d9, .ref da, .ref db, .ref dc, .ref dd, .ref de, jv lk]), (d1, ai g 61 rf), (d2, ai g 9 nw), (d3, ai g 9 ol), (d4, az g 64 bt), (d5, ai g 70 uf), (d6, ai g 70 kf), (d7, ai g 70 re), (d8, ai g 71 fw), (d9, ai g 10 pm), (da, ai g 600 fs), (db, ai g 600 la), (dc, ai g 600 fk), (dd, al g 600 us), (de, al g 600 bs)] ∧ (0 ≤ u ∧ u < 10 ∧ vn ≤ u)) ∨ (∃ (r : Int), rV = some (jv r) ∧ rU = [(o, ob 6 [jv rn, .ref d1, jv e, jv nc, .ref d2, jv oc, .ref d3, jv co, .ref d4, jv un, .ref d5, jv kn, .ref d6, .ref d7, .ref d8, Jv lU, Jv lB, jv vn, .ref d9, .ref da, .ref db, .ref dc, .ref dd, .ref de, jv lk]), (d1, ai g 61 rf), (d2, ai g 9 nw), (d3, ai g 9 ol), (d4, az g 64 bt), (d5, ai g 70 uf), (d6, ai g 70 kf), (d7, ai g 70 re), (d8, ai g 71 fw), (d9, ai g 10 pm), (da, ai g 600 fs), (db, ai g 600 la), (dc, ai g 600 fk), (dd, al g 600 us), (de, al g 600 bs)] ∧ (0 ≤ u ∧ u < vn ∧ r = PM (lvl y e rn u.toNat).1 e (lvl y e rn u.toNat).2))) := by
  refine ct_of (cc := cX6_pieces) (nL := 2) (ret := (some .int)) (by decide) rfl (Nat.le_of_ble_eq_true rfl) ?_
  intro E C Rt0
  have C : Cx l g E ({ frames := 1, cells := 0, slots := 0, locals := 22 } : Room) RX6 "pieces" cX6_pieces wsX6_pieces 2 := C
  show X l g E ({ frames := 1, cells := 0, slots := 0, locals := 22 } : Room) 2 [(o, ob 6 [jv rn, .ref d1, jv e, jv nc, .ref d2, jv oc, .ref d3, jv co, .ref d4, jv un, .ref d5, jv kn, .ref d6, .ref d7, .ref d8, Jv lU, Jv lB, jv vn, .ref d9, .ref da, .ref db, .ref dc, .ref dd, .ref de, jv lk]), (d1, ai g 61 rf), (d2, ai g 9 nw), (d3, ai g 9 ol), (d4, az g 64 bt), (d5, ai g 70 uf), (d6, ai g 70 kf), (d7, ai g 70 re), (d8, ai g 71 fw), (d9, ai g 10 pm), (da, ai g 600 fs), (db, ai g 600 la), (dc, ai g 600 fk), (dd, al g 600 us), (de, al g 600 bs)] 0 0 [(0, .ref o), (1, jv u)] 0 []
  have hv6 := hL.2.2.1
  have hv0 := hL.2.1
  refine x_iload_n (pc := 0) C 1 dX6_pieces_0 rfl ?_
  refine x_iconst (pc := 1) C dX6_pieces_1 ?_
  refine x_bipush (pc := 2) C dX6_pieces_2 rfl ?_
  refine x_callS (pc := 4) C (n := 3) (rest := []) (wr := [(o, ob 6 [jv rn, .ref d1, jv e, jv nc, .ref d2, jv oc, .ref d3, jv co, .ref d4, jv un, .ref d5, jv kn, .ref d6, .ref d7, .ref d8, Jv lU, Jv lB, jv vn, .ref d9, .ref da, .ref db, .ref dc, .ref dd, .ref de, jv lk]), (d1, ai g 61 rf), (d2, ai g 9 nw), (d3, ai g 9 ol), (d4, az g 64 bt), (d5, ai g 70 uf), (d6, ai g 70 kf), (d7, ai g 70 re), (d8, ai g 71 fw), (d9, ai g 10 pm), (da, ai g 600 fs), (db, ai g 600 la), (dc, ai g 600 fk), (dd, al g 600 us), (de, al g 600 bs)]) [] [0, 1, 2, 3, 4, 5, 6, 7, 8, 9, 10, 11, 12, 13, 14] (ctX6_in l g u 0 9 ru ⟨by omega, by omega⟩ ⟨by omega, by omega⟩) gX6_pieces_X6_in rfl (by decide +kernel) ⟨rfl, rfl⟩ ⟨by decide, by decide⟩ rfl rfl rfl (by decide) (by decide) (by decide) rfl (Nat.le_of_ble_eq_true rfl) dX6_pieces_4 ⟨by decide, by decide⟩ (fun v_4 u_4 h_4 => ?_)
  rcases h_4 with ⟨rfl, rfl, f_4⟩ | ⟨rfl, rfl, f_4⟩
  · refine x_world (ws' := [(o, ob 6 [jv rn, .ref d1, jv e, jv nc, .ref d2, jv oc, .ref d3, jv co, .ref d4, jv un, .ref d5, jv kn, .ref d6, .ref d7, .ref d8, Jv lU, Jv lB, jv vn, .ref d9, .ref da, .ref db, .ref dc, .ref dd, .ref de, jv lk]), (d1, ai g 61 rf), (d2, ai g 9 nw), (d3, ai g 9 ol), (d4, az g 64 bt), (d5, ai g 70 uf), (d6, ai g 70 kf), (d7, ai g 70 re), (d8, ai g 71 fw), (d9, ai g 10 pm), (da, ai g 600 fs), (db, ai g 600 la), (dc, ai g 600 fk), (dd, al g 600 us), (de, al g 600 bs)]) [0, 1, 2, 3, 4, 5, 6, 7, 8, 9, 10, 11, 12, 13, 14] (by decide) rfl ?_
    show X l g E ({ frames := 1, cells := 0, slots := 0, locals := 22 } : Room) 2 [(o, ob 6 [jv rn, .ref d1, jv e, jv nc, .ref d2, jv oc, .ref d3, jv co, .ref d4, jv un, .ref d5, jv kn, .ref d6, .ref d7, .ref d8, Jv lU, Jv lB, jv vn, .ref d9, .ref da, .ref db, .ref dc, .ref dd, .ref de, jv lk]), (d1, ai g 61 rf), (d2, ai g 9 nw), (d3, ai g 9 ol), (d4, az g 64 bt), (d5, ai g 70 uf), (d6, ai g 70 kf), (d7, ai g 70 re), (d8, ai g 71 fw), (d9, ai g 10 pm), (da, ai g 600 fs), (db, ai g 600 la), (dc, ai g 600 fk), (dd, al g 600 us), (de, al g 600 bs)] 0 0 [(0, .ref o), (1, jv u)] 7 [jv 1]
    refine x_if_eq (pc := 7) C 18 dX6_pieces_7 rfl ⟨by decide, by decide⟩ (fun h => absurd h (by decide)) (fun _ => ?_)
    refine x_aload_n (pc := 10) C 0 dX6_pieces_10 rfl ?_
    refine x_iload_n (pc := 11) C 1 dX6_pieces_11 rfl ?_
    refine x_callV (pc := 12) C (n := 1) (q0 := 0) (rest := []) (wr := []) [0, 1, 2, 3, 4, 5, 6, 7, 8, 9, 10, 11, 12, 13, 14] [] (ctX6_piecesAt l g o d1 d2 d3 d4 d5 d6 d7 d8 d9 da db dc dd de rn e nc oc co un kn lU lB vn lk rf nw ol bt uf kf re fw pm fs la fk us bs u y he hL ⟨by omega, by omega⟩) gX6_pieces_X6_piecesAt rfl ⟨rfl, rfl⟩ (by decide +kernel) ⟨by decide, by decide⟩ rfl rfl rfl rfl rfl (by decide) (by decide) (by decide) rfl (Nat.le_of_ble_eq_true rfl) dX6_pieces_12 ⟨by decide, by decide⟩ (fun v_12 u_12 h_12 => ?_)
    rcases h_12 with ⟨r, rfl, rfl, f_12⟩ | ⟨rfl, rfl, f_12⟩
    · refine x_world (ws' := [(o, ob 6 [jv rn, .ref d1, jv e, jv nc, .ref d2, jv oc, .ref d3, jv co, .ref d4, jv un, .ref d5, jv kn, .ref d6, .ref d7, .ref d8, Jv lU, Jv lB, jv vn, .ref d9, .ref da, .ref db, .ref dc, .ref dd, .ref de, jv lk]), (d1, ai g 61 rf), (d2, ai g 9 nw), (d3, ai g 9 ol), (d4, az g 64 bt), (d5, ai g 70 uf), (d6, ai g 70 kf), (d7, ai g 70 re), (d8, ai g 71 fw), (d9, ai g 10 pm), (da, ai g 600 fs), (db, ai g 600 la), (dc, ai g 600 fk), (dd, al g 600 us), (de, al g 600 bs)]) [0, 1, 2, 3, 4, 5, 6, 7, 8, 9, 10, 11, 12, 13, 14] (by decide) rfl ?_
      show X l g E ({ frames := 1, cells := 0, slots := 0, locals := 22 } : Room) 2 [(o, ob 6 [jv rn, .ref d1, jv e, jv nc, .ref d2, jv oc, .ref d3, jv co, .ref d4, jv un, .ref d5, jv kn, .ref d6, .ref d7, .ref d8, Jv lU, Jv lB, jv vn, .ref d9, .ref da, .ref db, .ref dc, .ref dd, .ref de, jv lk]), (d1, ai g 61 rf), (d2, ai g 9 nw), (d3, ai g 9 ol), (d4, az g 64 bt), (d5, ai g 70 uf), (d6, ai g 70 kf), (d7, ai g 70 re), (d8, ai g 71 fw), (d9, ai g 10 pm), (da, ai g 600 fs), (db, ai g 600 la), (dc, ai g 600 fk), (dd, al g 600 us), (de, al g 600 bs)] 0 0 [(0, .ref o), (1, jv u)] 15 [jv r]
      refine x_goto (pc := 15) C 20 dX6_pieces_15 rfl ?_
      refine x_iret (pc := 20) C Rt0 dX6_pieces_20 rfl ?_
      refine Or.inr (Or.inr (⟨_, rfl, rfl, ?_⟩))
      exact ⟨by omega, by omega, f_12.2.2.1⟩
    · refine x_world (ws' := [(o, ob 6 [jv rn, .ref d1, jv e, jv nc, .ref d2, jv oc, .ref d3, jv co, .ref d4, jv un, .ref d5, jv kn, .ref d6, .ref d7, .ref d8, Jv lU, Jv lB, jv vn, .ref d9, .ref da, .ref db, .ref dc, .ref dd, .ref de, jv lk]), (d1, ai g 61 rf), (d2, ai g 9 nw), (d3, ai g 9 ol), (d4, az g 64 bt), (d5, ai g 70 uf), (d6, ai g 70 kf), (d7, ai g 70 re), (d8, ai g 71 fw), (d9, ai g 10 pm), (da, ai g 600 fs), (db, ai g 600 la), (dc, ai g 600 fk), (dd, al g 600 us), (de, al g 600 bs)]) [0, 1, 2, 3, 4, 5, 6, 7, 8, 9, 10, 11, 12, 13, 14] (by decide) rfl ?_
      show X l g E ({ frames := 1, cells := 0, slots := 0, locals := 22 } : Room) 2 [(o, ob 6 [jv rn, .ref d1, jv e, jv nc, .ref d2, jv oc, .ref d3, jv co, .ref d4, jv un, .ref d5, jv kn, .ref d6, .ref d7, .ref d8, Jv lU, Jv lB, jv vn, .ref d9, .ref da, .ref db, .ref dc, .ref dd, .ref de, jv lk]), (d1, ai g 61 rf), (d2, ai g 9 nw), (d3, ai g 9 ol), (d4, az g 64 bt), (d5, ai g 70 uf), (d6, ai g 70 kf), (d7, ai g 70 re), (d8, ai g 71 fw), (d9, ai g 10 pm), (da, ai g 600 fs), (db, ai g 600 la), (dc, ai g 600 fk), (dd, al g 600 us), (de, al g 600 bs)] 0 0 [(0, .ref o), (1, jv u)] 15 [jv 0]
      refine x_goto (pc := 15) C 20 dX6_pieces_15 rfl ?_
      refine x_iret (pc := 20) C Rt0 dX6_pieces_20 rfl ?_
      refine Or.inr (Or.inl ⟨rfl, rfl, ?_⟩)
      omega
  · refine x_world (ws' := [(o, ob 6 [jv rn, .ref d1, jv e, jv nc, .ref d2, jv oc, .ref d3, jv co, .ref d4, jv un, .ref d5, jv kn, .ref d6, .ref d7, .ref d8, Jv lU, Jv lB, jv vn, .ref d9, .ref da, .ref db, .ref dc, .ref dd, .ref de, jv lk]), (d1, ai g 61 rf), (d2, ai g 9 nw), (d3, ai g 9 ol), (d4, az g 64 bt), (d5, ai g 70 uf), (d6, ai g 70 kf), (d7, ai g 70 re), (d8, ai g 71 fw), (d9, ai g 10 pm), (da, ai g 600 fs), (db, ai g 600 la), (dc, ai g 600 fk), (dd, al g 600 us), (de, al g 600 bs)]) [0, 1, 2, 3, 4, 5, 6, 7, 8, 9, 10, 11, 12, 13, 14] (by decide) rfl ?_
    show X l g E ({ frames := 1, cells := 0, slots := 0, locals := 22 } : Room) 2 [(o, ob 6 [jv rn, .ref d1, jv e, jv nc, .ref d2, jv oc, .ref d3, jv co, .ref d4, jv un, .ref d5, jv kn, .ref d6, .ref d7, .ref d8, Jv lU, Jv lB, jv vn, .ref d9, .ref da, .ref db, .ref dc, .ref dd, .ref de, jv lk]), (d1, ai g 61 rf), (d2, ai g 9 nw), (d3, ai g 9 ol), (d4, az g 64 bt), (d5, ai g 70 uf), (d6, ai g 70 kf), (d7, ai g 70 re), (d8, ai g 71 fw), (d9, ai g 10 pm), (da, ai g 600 fs), (db, ai g 600 la), (dc, ai g 600 fk), (dd, al g 600 us), (de, al g 600 bs)] 0 0 [(0, .ref o), (1, jv u)] 7 [jv 0]
    refine x_if_eq (pc := 7) C 18 dX6_pieces_7 rfl ⟨by decide, by decide⟩ (fun _ => ?_) (fun h => absurd h (by decide))
    refine x_bipush (pc := 18) C dX6_pieces_18 rfl ?_
    refine x_iret (pc := 20) C Rt0 dX6_pieces_20 rfl ?_
    refine Or.inl ⟨rfl, rfl, ?_⟩
    omega

set_option maxRecDepth 100000 in
theorem hiX6_piece_6 : ∀ w ∈ wsX60, w ∈ wsX6_piece := by decide +kernel
set_option maxRecDepth 100000 in
theorem hfX6_piece_42 : Cond.fieldLink RX6 42 "KeyGuessModel" "firsts" "[I" ∈ wsX6_piece := by decide +kernel
set_option maxRecDepth 100000 in
theorem hfX6_piece_45 : Cond.fieldLink RX6 45 "KeyGuessModel" "lasts" "[I" ∈ wsX6_piece := by decide +kernel
set_option maxRecDepth 100000 in
theorem hfX6_piece_48 : Cond.fieldLink RX6 48 "KeyGuessModel" "firstKeys" "[I" ∈ wsX6_piece := by decide +kernel
set_option maxRecDepth 100000 in
theorem hfX6_piece_51 : Cond.fieldLink RX6 51 "KeyGuessModel" "ups" "[J" ∈ wsX6_piece := by decide +kernel
set_option maxRecDepth 100000 in
theorem hfX6_piece_55 : Cond.fieldLink RX6 55 "KeyGuessModel" "belows" "[J" ∈ wsX6_piece := by decide +kernel
set_option maxHeartbeats 4000000 in
set_option maxRecDepth 100000 in
/-- piece -/
theorem ctX6_piece (l : Launch) (g : xG) (o : Nat) (d1 : Nat) (d2 : Nat) (d3 : Nat) (d4 : Nat) (d5 : Nat) (d6 : Nat) (d7 : Nat) (d8 : Nat) (d9 : Nat) (da : Nat) (db : Nat) (dc : Nat) (dd : Nat) (de : Nat) (rn : Int) (e : Int) (nc : Int) (oc : Int) (co : Int) (un : Int) (kn : Int) (lU : Int) (lB : Int) (vn : Int) (lk : Int) (rf : Int → Int) (nw : Int → Int) (ol : Int → Int) (bt : Int → Bool) (uf : Int → Int) (kf : Int → Int) (re : Int → Int) (fw : Int → Int) (pm : Int → Int) (fs : Int → Int) (la : Int → Int) (fk : Int → Int) (us : Int → Int) (bs : Int → Int) (u : Int) (k : Int) (w : Int) (y : Int → Int) (he : 0 ≤ e ∧ e ≤ 8) (hL : LvM y e rn vn pm fs la fk us bs) (ru : Rg u) (rk : Rg k) (rw : Rg w) : Ct l g yX6_piece wsX6_piece ({ frames := 1, cells := 0, slots := 0, locals := 22 } : Room) 0 0 [(o, ob 6 [jv rn, .ref d1, jv e, jv nc, .ref d2, jv oc, .ref d3, jv co, .ref d4, jv un, .ref d5, jv kn, .ref d6, .ref d7, .ref d8, Jv lU, Jv lB, jv vn, .ref d9, .ref da, .ref db, .ref dc, .ref dd, .ref de, jv lk]), (d1, ai g 61 rf), (d2, ai g 9 nw), (d3, ai g 9 ol), (d4, az g 64 bt), (d5, ai g 70 uf), (d6, ai g 70 kf), (d7, ai g 70 re), (d8, ai g 71 fw), (d9, ai g 10 pm), (da, ai g 600 fs), (db, ai g 600 la), (dc, ai g 600 fk), (dd, al g 600 us), (de, al g 600 bs)] [.ref o, jv u, jv k, jv w] (fun rV rU => (rV = some (jv (-2)) ∧ rU = [(o, ob 6 [jv rn, .ref d1, jv e, jv nc, .ref d2, jv oc, .ref d3, jv co, .ref d4, jv un, .ref d5, jv kn, .ref d6, .ref d7, .ref d8, Jv lU, Jv lB, jv vn, .ref d9, .ref da, .ref db, .ref dc, .ref dd, .ref de, jv lk]), (d1, ai g 61 rf), (d2, ai g 9 nw), (d3, ai g 9 ol), (d4, az g 64 bt), (d5, ai g 70 uf), (d6, ai g 70 kf), (d7, ai g 70 re), (d8, ai g 71 fw), (d9, ai g 10 pm), (da, ai g 600 fs), (db, ai g 600 la), (dc, ai g 600 fk), (dd, al g 600 us), (de, al g 600 bs)] ∧ (u < 0 ∨ vn ≤ u ∨ k < 0 ∨ (0 ≤ u ∧ u < vn ∧ PM (lvl y e rn u.toNat).1 e (lvl y e rn u.toNat).2 ≤ k) ∨ w < 0 ∨ 4 < w)) ∨ (∃ (r : Int), rV = some (jv r) ∧ rU = [(o, ob 6 [jv rn, .ref d1, jv e, jv nc, .ref d2, jv oc, .ref d3, jv co, .ref d4, jv un, .ref d5, jv kn, .ref d6, .ref d7, .ref d8, Jv lU, Jv lB, jv vn, .ref d9, .ref da, .ref db, .ref dc, .ref dd, .ref de, jv lk]), (d1, ai g 61 rf), (d2, ai g 9 nw), (d3, ai g 9 ol), (d4, az g 64 bt), (d5, ai g 70 uf), (d6, ai g 70 kf), (d7, ai g 70 re), (d8, ai g 71 fw), (d9, ai g 10 pm), (da, ai g 600 fs), (db, ai g 600 la), (dc, ai g 600 fk), (dd, al g 600 us), (de, al g 600 bs)] ∧ (w = 0 ∧ 0 ≤ u ∧ u < vn ∧ 0 ≤ k ∧ k < PM (lvl y e rn u.toNat).1 e (lvl y e rn u.toNat).2 ∧ r = P0 (lvl y e rn u.toNat).1 e (lvl y e rn u.toNat).2 k)) ∨ (∃ (r : Int), rV = some (jv r) ∧ rU = [(o, ob 6 [jv rn, .ref d1, jv e, jv nc, .ref d2, jv oc, .ref d3, jv co, .ref d4, jv un, .ref d5, jv kn, .ref d6, .ref d7, .ref d8, Jv lU, Jv lB, jv vn, .ref d9, .ref da, .ref db, .ref dc, .ref dd, .ref de, jv lk]), (d1, ai g 61 rf), (d2, ai g 9 nw), (d3, ai g 9 ol), (d4, az g 64 bt), (d5, ai g 70 uf), (d6, ai g 70 kf), (d7, ai g 70 re), (d8, ai g 71 fw), (d9, ai g 10 pm), (da, ai g 600 fs), (db, ai g 600 la), (dc, ai g 600 fk), (dd, al g 600 us), (de, al g 600 bs)] ∧ (w = 1 ∧ 0 ≤ u ∧ u < vn ∧ 0 ≤ k ∧ k < PM (lvl y e rn u.toNat).1 e (lvl y e rn u.toNat).2 ∧ r = P1 (lvl y e rn u.toNat).1 e (lvl y e rn u.toNat).2 k)) ∨ (∃ (r : Int), rV = some (jv r) ∧ rU = [(o, ob 6 [jv rn, .ref d1, jv e, jv nc, .ref d2, jv oc, .ref d3, jv co, .ref d4, jv un, .ref d5, jv kn, .ref d6, .ref d7, .ref d8, Jv lU, Jv lB, jv vn, .ref d9, .ref da, .ref db, .ref dc, .ref dd, .ref de, jv lk]), (d1, ai g 61 rf), (d2, ai g 9 nw), (d3, ai g 9 ol), (d4, az g 64 bt), (d5, ai g 70 uf), (d6, ai g 70 kf), (d7, ai g 70 re), (d8, ai g 71 fw), (d9, ai g 10 pm), (da, ai g 600 fs), (db, ai g 600 la), (dc, ai g 600 fk), (dd, al g 600 us), (de, al g 600 bs)] ∧ (w = 2 ∧ 0 ≤ u ∧ u < vn ∧ 0 ≤ k ∧ k < PM (lvl y e rn u.toNat).1 e (lvl y e rn u.toNat).2 ∧ r = P2 (lvl y e rn u.toNat).1 e (lvl y e rn u.toNat).2 k)) ∨ (∃ (r : Int), rV = some (jv r) ∧ rU = [(o, ob 6 [jv rn, .ref d1, jv e, jv nc, .ref d2, jv oc, .ref d3, jv co, .ref d4, jv un, .ref d5, jv kn, .ref d6, .ref d7, .ref d8, Jv lU, Jv lB, jv vn, .ref d9, .ref da, .ref db, .ref dc, .ref dd, .ref de, jv lk]), (d1, ai g 61 rf), (d2, ai g 9 nw), (d3, ai g 9 ol), (d4, az g 64 bt), (d5, ai g 70 uf), (d6, ai g 70 kf), (d7, ai g 70 re), (d8, ai g 71 fw), (d9, ai g 10 pm), (da, ai g 600 fs), (db, ai g 600 la), (dc, ai g 600 fk), (dd, al g 600 us), (de, al g 600 bs)] ∧ (w = 3 ∧ 0 ≤ u ∧ u < vn ∧ 0 ≤ k ∧ k < PM (lvl y e rn u.toNat).1 e (lvl y e rn u.toNat).2 ∧ r = P3 (lvl y e rn u.toNat).1 e (lvl y e rn u.toNat).2 k)) ∨ (∃ (r : Int), rV = some (jv r) ∧ rU = [(o, ob 6 [jv rn, .ref d1, jv e, jv nc, .ref d2, jv oc, .ref d3, jv co, .ref d4, jv un, .ref d5, jv kn, .ref d6, .ref d7, .ref d8, Jv lU, Jv lB, jv vn, .ref d9, .ref da, .ref db, .ref dc, .ref dd, .ref de, jv lk]), (d1, ai g 61 rf), (d2, ai g 9 nw), (d3, ai g 9 ol), (d4, az g 64 bt), (d5, ai g 70 uf), (d6, ai g 70 kf), (d7, ai g 70 re), (d8, ai g 71 fw), (d9, ai g 10 pm), (da, ai g 600 fs), (db, ai g 600 la), (dc, ai g 600 fk), (dd, al g 600 us), (de, al g 600 bs)] ∧ (w = 4 ∧ 0 ≤ u ∧ u < vn ∧ 0 ≤ k ∧ k < PM (lvl y e rn u.toNat).1 e (lvl y e rn u.toNat).2 ∧ r = P4 (lvl y e rn u.toNat).1 e (lvl y e rn u.toNat).2 k))) := by
  refine ct_of (cc := cX6_piece) (nL := 5) (ret := (some .int)) (by decide) rfl (Nat.le_of_ble_eq_true rfl) ?_
  intro E C Rt0
  have C : Cx l g E ({ frames := 1, cells := 0, slots := 0, locals := 22 } : Room) RX6 "piece" cX6_piece wsX6_piece 5 := C
  show X l g E ({ frames := 1, cells := 0, slots := 0, locals := 22 } : Room) 5 [(o, ob 6 [jv rn, .ref d1, jv e, jv nc, .ref d2, jv oc, .ref d3, jv co, .ref d4, jv un, .ref d5, jv kn, .ref d6, .ref d7, .ref d8, Jv lU, Jv lB, jv vn, .ref d9, .ref da, .ref db, .ref dc, .ref dd, .ref de, jv lk]), (d1, ai g 61 rf), (d2, ai g 9 nw), (d3, ai g 9 ol), (d4, az g 64 bt), (d5, ai g 70 uf), (d6, ai g 70 kf), (d7, ai g 70 re), (d8, ai g 71 fw), (d9, ai g 10 pm), (da, ai g 600 fs), (db, ai g 600 la), (dc, ai g 600 fk), (dd, al g 600 us), (de, al g 600 bs)] 0 0 [(0, .ref o), (1, jv u), (2, jv k), (3, jv w)] 0 []
  have hv6 := hL.2.2.1
  have hv0 := hL.2.1
  have ru1 := ru.1
  have ru2 := ru.2
  have rk1 := rk.1
  have rk2 := rk.2
  have rw1 := rw.1
  have rw2 := rw.2
  refine x_iload_n (pc := 0) C 1 dX6_piece_0 rfl ?_
  refine x_iconst (pc := 1) C dX6_piece_1 ?_
  refine x_bipush (pc := 2) C dX6_piece_2 rfl ?_
  refine x_callS (pc := 4) C (n := 3) (rest := []) (wr := [(o, ob 6 [jv rn, .ref d1, jv e, jv nc, .ref d2, jv oc, .ref d3, jv co, .ref d4, jv un, .ref d5, jv kn, .ref d6, .ref d7, .ref d8, Jv lU, Jv lB, jv vn, .ref d9, .ref da, .ref db, .ref dc, .ref dd, .ref de, jv lk]), (d1, ai g 61 rf), (d2, ai g 9 nw), (d3, ai g 9 ol), (d4, az g 64 bt), (d5, ai g 70 uf), (d6, ai g 70 kf), (d7, ai g 70 re), (d8, ai g 71 fw), (d9, ai g 10 pm), (da, ai g 600 fs), (db, ai g 600 la), (dc, ai g 600 fk), (dd, al g 600 us), (de, al g 600 bs)]) [] [0, 1, 2, 3, 4, 5, 6, 7, 8, 9, 10, 11, 12, 13, 14] (ctX6_in l g u 0 9 ru ⟨by omega, by omega⟩ ⟨by omega, by omega⟩) gX6_piece_X6_in rfl (by decide +kernel) ⟨rfl, rfl⟩ ⟨by decide, by decide⟩ rfl rfl rfl (by decide) (by decide) (by decide) rfl (Nat.le_of_ble_eq_true rfl) dX6_piece_4 ⟨by decide, by decide⟩ (fun v_4 u_4 h_4 => ?_)
  rcases h_4 with ⟨rfl, rfl, f_4⟩ | ⟨rfl, rfl, f_4⟩
  · refine x_world (ws' := [(o, ob 6 [jv rn, .ref d1, jv e, jv nc, .ref d2, jv oc, .ref d3, jv co, .ref d4, jv un, .ref d5, jv kn, .ref d6, .ref d7, .ref d8, Jv lU, Jv lB, jv vn, .ref d9, .ref da, .ref db, .ref dc, .ref dd, .ref de, jv lk]), (d1, ai g 61 rf), (d2, ai g 9 nw), (d3, ai g 9 ol), (d4, az g 64 bt), (d5, ai g 70 uf), (d6, ai g 70 kf), (d7, ai g 70 re), (d8, ai g 71 fw), (d9, ai g 10 pm), (da, ai g 600 fs), (db, ai g 600 la), (dc, ai g 600 fk), (dd, al g 600 us), (de, al g 600 bs)]) [0, 1, 2, 3, 4, 5, 6, 7, 8, 9, 10, 11, 12, 13, 14] (by decide) rfl ?_
    show X l g E ({ frames := 1, cells := 0, slots := 0, locals := 22 } : Room) 5 [(o, ob 6 [jv rn, .ref d1, jv e, jv nc, .ref d2, jv oc, .ref d3, jv co, .ref d4, jv un, .ref d5, jv kn, .ref d6, .ref d7, .ref d8, Jv lU, Jv lB, jv vn, .ref d9, .ref da, .ref db, .ref dc, .ref dd, .ref de, jv lk]), (d1, ai g 61 rf), (d2, ai g 9 nw), (d3, ai g 9 ol), (d4, az g 64 bt), (d5, ai g 70 uf), (d6, ai g 70 kf), (d7, ai g 70 re), (d8, ai g 71 fw), (d9, ai g 10 pm), (da, ai g 600 fs), (db, ai g 600 la), (dc, ai g 600 fk), (dd, al g 600 us), (de, al g 600 bs)] 0 0 [(0, .ref o), (1, jv u), (2, jv k), (3, jv w)] 7 [jv 1]
    refine x_if_eq (pc := 7) C 25 dX6_piece_7 rfl ⟨by decide, by decide⟩ (fun h => absurd h (by decide)) (fun _ => ?_)
    refine x_iload_n (pc := 10) C 2 dX6_piece_10 rfl ?_
    refine x_iconst (pc := 11) C dX6_piece_11 ?_
    refine x_aload_n (pc := 12) C 0 dX6_piece_12 rfl ?_
    refine x_iload_n (pc := 13) C 1 dX6_piece_13 rfl ?_
    refine x_callV (pc := 14) C (n := 1) (q0 := 0) (rest := [jv 0, jv k]) (wr := []) [0, 1, 2, 3, 4, 5, 6, 7, 8, 9, 10, 11, 12, 13, 14] [] (ctX6_piecesAt l g o d1 d2 d3 d4 d5 d6 d7 d8 d9 da db dc dd de rn e nc oc co un kn lU lB vn lk rf nw ol bt uf kf re fw pm fs la fk us bs u y he hL ⟨by omega, by omega⟩) gX6_piece_X6_piecesAt rfl ⟨rfl, rfl⟩ (by decide +kernel) ⟨by decide, by decide⟩ rfl rfl rfl rfl rfl (by decide) (by decide) (by decide) rfl (Nat.le_of_ble_eq_true rfl) dX6_piece_14 ⟨by decide, by decide⟩ (fun v_14 u_14 h_14 => ?_)
    rcases h_14 with ⟨m, rfl, rfl, f_14⟩ | ⟨rfl, rfl, f_14⟩
    · refine x_world (ws' := [(o, ob 6 [jv rn, .ref d1, jv e, jv nc, .ref d2, jv oc, .ref d3, jv co, .ref d4, jv un, .ref d5, jv kn, .ref d6, .ref d7, .ref d8, Jv lU, Jv lB, jv vn, .ref d9, .ref da, .ref db, .ref dc, .ref dd, .ref de, jv lk]), (d1, ai g 61 rf), (d2, ai g 9 nw), (d3, ai g 9 ol), (d4, az g 64 bt), (d5, ai g 70 uf), (d6, ai g 70 kf), (d7, ai g 70 re), (d8, ai g 71 fw), (d9, ai g 10 pm), (da, ai g 600 fs), (db, ai g 600 la), (dc, ai g 600 fk), (dd, al g 600 us), (de, al g 600 bs)]) [0, 1, 2, 3, 4, 5, 6, 7, 8, 9, 10, 11, 12, 13, 14] (by decide) rfl ?_
      show X l g E ({ frames := 1, cells := 0, slots := 0, locals := 22 } : Room) 5 [(o, ob 6 [jv rn, .ref d1, jv e, jv nc, .ref d2, jv oc, .ref d3, jv co, .ref d4, jv un, .ref d5, jv kn, .ref d6, .ref d7, .ref d8, Jv lU, Jv lB, jv vn, .ref d9, .ref da, .ref db, .ref dc, .ref dd, .ref de, jv lk]), (d1, ai g 61 rf), (d2, ai g 9 nw), (d3, ai g 9 ol), (d4, az g 64 bt), (d5, ai g 70 uf), (d6, ai g 70 kf), (d7, ai g 70 re), (d8, ai g 71 fw), (d9, ai g 10 pm), (da, ai g 600 fs), (db, ai g 600 la), (dc, ai g 600 fk), (dd, al g 600 us), (de, al g 600 bs)] 0 0 [(0, .ref o), (1, jv u), (2, jv k), (3, jv w)] 17 [jv m, jv 0, jv k]
      refine x_iconst (pc := 17) C dX6_piece_17 ?_
      refine x_isub (pc := 18) C dX6_piece_18 ?_
      refine x_callS (pc := 19) C (n := 3) (rest := []) (wr := [(o, ob 6 [jv rn, .ref d1, jv e, jv nc, .ref d2, jv oc, .ref d3, jv co, .ref d4, jv un, .ref d5, jv kn, .ref d6, .ref d7, .ref d8, Jv lU, Jv lB, jv vn, .ref d9, .ref da, .ref db, .ref dc, .ref dd, .ref de, jv lk]), (d1, ai g 61 rf), (d2, ai g 9 nw), (d3, ai g 9 ol), (d4, az g 64 bt), (d5, ai g 70 uf), (d6, ai g 70 kf), (d7, ai g 70 re), (d8, ai g 71 fw), (d9, ai g 10 pm), (da, ai g 600 fs), (db, ai g 600 la), (dc, ai g 600 fk), (dd, al g 600 us), (de, al g 600 bs)]) [] [0, 1, 2, 3, 4, 5, 6, 7, 8, 9, 10, 11, 12, 13, 14] (ctX6_in l g k 0 (m - 1) rk ⟨by omega, by omega⟩ ⟨by omega, by omega⟩) gX6_piece_X6_in rfl (by decide +kernel) ⟨rfl, rfl⟩ ⟨by decide, by decide⟩ rfl rfl rfl (by decide) (by decide) (by decide) rfl (Nat.le_of_ble_eq_true rfl) dX6_piece_19 ⟨by decide, by decide⟩ (fun v_19 u_19 h_19 => ?_)
      rcases h_19 with ⟨rfl, rfl, f_19⟩ | ⟨rfl, rfl, f_19⟩
      · refine x_world (ws' := [(o, ob 6 [jv rn, .ref d1, jv e, jv nc, .ref d2, jv oc, .ref d3, jv co, .ref d4, jv un, .ref d5, jv kn, .ref d6, .ref d7, .ref d8, Jv lU, Jv lB, jv vn, .ref d9, .ref da, .ref db, .ref dc, .ref dd, .ref de, jv lk]), (d1, ai g 61 rf), (d2, ai g 9 nw), (d3, ai g 9 ol), (d4, az g 64 bt), (d5, ai g 70 uf), (d6, ai g 70 kf), (d7, ai g 70 re), (d8, ai g 71 fw), (d9, ai g 10 pm), (da, ai g 600 fs), (db, ai g 600 la), (dc, ai g 600 fk), (dd, al g 600 us), (de, al g 600 bs)]) [0, 1, 2, 3, 4, 5, 6, 7, 8, 9, 10, 11, 12, 13, 14] (by decide) rfl ?_
        show X l g E ({ frames := 1, cells := 0, slots := 0, locals := 22 } : Room) 5 [(o, ob 6 [jv rn, .ref d1, jv e, jv nc, .ref d2, jv oc, .ref d3, jv co, .ref d4, jv un, .ref d5, jv kn, .ref d6, .ref d7, .ref d8, Jv lU, Jv lB, jv vn, .ref d9, .ref da, .ref db, .ref dc, .ref dd, .ref de, jv lk]), (d1, ai g 61 rf), (d2, ai g 9 nw), (d3, ai g 9 ol), (d4, az g 64 bt), (d5, ai g 70 uf), (d6, ai g 70 kf), (d7, ai g 70 re), (d8, ai g 71 fw), (d9, ai g 10 pm), (da, ai g 600 fs), (db, ai g 600 la), (dc, ai g 600 fk), (dd, al g 600 us), (de, al g 600 bs)] 0 0 [(0, .ref o), (1, jv u), (2, jv k), (3, jv w)] 22 [jv 1]
        refine x_if_ne (pc := 22) C 28 dX6_piece_22 rfl ⟨by decide, by decide⟩ (fun _ => ?_) (fun h => absurd h (by decide))
        have hq := hL.2.2.2 u.toNat (by omega)
        have hpw : k < PM (lvl y e rn u.toNat).1 e (lvl y e rn u.toNat).2 := by rw [← f_14.2.2.1]; omega
        have hz := hq.2.2 k (by omega) hpw
        rw [show 60 * ((u.toNat : Nat) : Int) + k = 60 * u + k by omega] at hz
        refine x_bipush (pc := 28) C dX6_piece_28 rfl ?_
        refine x_iload_n (pc := 30) C 1 dX6_piece_30 rfl ?_
        refine x_imul (pc := 31) C dX6_piece_31 ?_
        refine x_iload_n (pc := 32) C 2 dX6_piece_32 rfl ?_
        refine x_iadd (pc := 33) C dX6_piece_33 ?_
        refine x_istore (pc := 34) C (lv' := [(4, jv ((60 * u) + k)), (0, .ref o), (1, jv u), (2, jv k), (3, jv w)]) dX6_piece_34 (by decide) rfl ?_
        refine x_iload_n (pc := 36) C 4 dX6_piece_36 rfl ?_
        by_cases sw_37 : w < 0 ∨ 4 < w
        · refine x_tableOut (pc := 37) C 114 dX6_piece_37 ⟨by omega, by omega⟩ sw_37 rfl ?_
          refine x_bipush (pc := 114) C dX6_piece_114 rfl ?_
          refine x_iret (pc := 116) C Rt0 dX6_piece_116 rfl ?_
          refine Or.inl ⟨rfl, rfl, ?_⟩
          omega
        have sv_37 : w = 0 ∨ w = 1 ∨ w = 2 ∨ w = 3 ∨ w = 4 := by omega
        rcases sv_37 with sv_37 | sv_37 | sv_37 | sv_37 | sv_37
        · refine x_tableIn (pc := 37) C 72 dX6_piece_37 ⟨by omega, by omega⟩ (by omega) (by omega) (by rw [sv_37]; rfl) rfl ?_
          refine x_aload_n (pc := 72) C 1 dX6_piece_72 rfl ?_
          refine x_get (pc := 73) C 0 19 dX6_piece_73 hiX6_piece_6 hfX6_piece_42 rfl rfl rfl (by decide) rfl ?_
          refine x_iload (pc := 76) C 0 dX6_piece_76 rfl ?_
          refine x_iald (pc := 78) C 10 dX6_piece_78 rfl (by omega) (by omega) (by decide) ?_
          refine x_iret (pc := 79) C Rt0 dX6_piece_79 rfl ?_
          refine Or.inr (Or.inl ⟨_, rfl, rfl, ?_⟩)
          exact ⟨by omega, by omega, by omega, by omega, hpw, hz.1⟩
        · refine x_tableIn (pc := 37) C 80 dX6_piece_37 ⟨by omega, by omega⟩ (by omega) (by omega) (by rw [sv_37]; rfl) rfl ?_
          refine x_aload_n (pc := 80) C 1 dX6_piece_80 rfl ?_
          refine x_get (pc := 81) C 0 20 dX6_piece_81 hiX6_piece_6 hfX6_piece_45 rfl rfl rfl (by decide) rfl ?_
          refine x_iload (pc := 84) C 0 dX6_piece_84 rfl ?_
          refine x_iald (pc := 86) C 11 dX6_piece_86 rfl (by omega) (by omega) (by decide) ?_
          refine x_iret (pc := 87) C Rt0 dX6_piece_87 rfl ?_
          refine Or.inr (Or.inr (Or.inl ⟨_, rfl, rfl, ?_⟩))
          exact ⟨by omega, by omega, by omega, by omega, hpw, hz.2.1⟩
        · refine x_tableIn (pc := 37) C 88 dX6_piece_37 ⟨by omega, by omega⟩ (by omega) (by omega) (by rw [sv_37]; rfl) rfl ?_
          refine x_aload_n (pc := 88) C 1 dX6_piece_88 rfl ?_
          refine x_get (pc := 89) C 0 21 dX6_piece_89 hiX6_piece_6 hfX6_piece_48 rfl rfl rfl (by decide) rfl ?_
          refine x_iload (pc := 92) C 0 dX6_piece_92 rfl ?_
          refine x_iald (pc := 94) C 12 dX6_piece_94 rfl (by omega) (by omega) (by decide) ?_
          refine x_iret (pc := 95) C Rt0 dX6_piece_95 rfl ?_
          refine Or.inr (Or.inr (Or.inr (Or.inl ⟨_, rfl, rfl, ?_⟩)))
          exact ⟨by omega, by omega, by omega, by omega, hpw, hz.2.2.1⟩
        · refine x_tableIn (pc := 37) C 96 dX6_piece_37 ⟨by omega, by omega⟩ (by omega) (by omega) (by rw [sv_37]; rfl) rfl ?_
          refine x_aload_n (pc := 96) C 1 dX6_piece_96 rfl ?_
          refine x_get (pc := 97) C 0 22 dX6_piece_97 hiX6_piece_6 hfX6_piece_51 rfl rfl rfl (by decide) rfl ?_
          refine x_iload (pc := 100) C 0 dX6_piece_100 rfl ?_
          refine x_lald (pc := 102) C 13 dX6_piece_102 rfl (by omega) (by omega) (by decide) ?_
          refine x_l2i (pc := 103) C dX6_piece_103 ?_
          refine x_iret (pc := 104) C Rt0 dX6_piece_104 rfl ?_
          refine Or.inr (Or.inr (Or.inr (Or.inr (Or.inl ⟨_, rfl, rfl, ?_⟩))))
          exact ⟨by omega, by omega, by omega, by omega, hpw, hz.2.2.2.1⟩
        · refine x_tableIn (pc := 37) C 105 dX6_piece_37 ⟨by omega, by omega⟩ (by omega) (by omega) (by rw [sv_37]; rfl) rfl ?_
          refine x_aload_n (pc := 105) C 1 dX6_piece_105 rfl ?_
          refine x_get (pc := 106) C 0 23 dX6_piece_106 hiX6_piece_6 hfX6_piece_55 rfl rfl rfl (by decide) rfl ?_
          refine x_iload (pc := 109) C 0 dX6_piece_109 rfl ?_
          refine x_lald (pc := 111) C 14 dX6_piece_111 rfl (by omega) (by omega) (by decide) ?_
          refine x_l2i (pc := 112) C dX6_piece_112 ?_
          refine x_iret (pc := 113) C Rt0 dX6_piece_113 rfl ?_
          refine Or.inr (Or.inr (Or.inr (Or.inr (Or.inr (⟨_, rfl, rfl, ?_⟩)))))
          exact ⟨by omega, by omega, by omega, by omega, hpw, hz.2.2.2.2⟩
      · refine x_world (ws' := [(o, ob 6 [jv rn, .ref d1, jv e, jv nc, .ref d2, jv oc, .ref d3, jv co, .ref d4, jv un, .ref d5, jv kn, .ref d6, .ref d7, .ref d8, Jv lU, Jv lB, jv vn, .ref d9, .ref da, .ref db, .ref dc, .ref dd, .ref de, jv lk]), (d1, ai g 61 rf), (d2, ai g 9 nw), (d3, ai g 9 ol), (d4, az g 64 bt), (d5, ai g 70 uf), (d6, ai g 70 kf), (d7, ai g 70 re), (d8, ai g 71 fw), (d9, ai g 10 pm), (da, ai g 600 fs), (db, ai g 600 la), (dc, ai g 600 fk), (dd, al g 600 us), (de, al g 600 bs)]) [0, 1, 2, 3, 4, 5, 6, 7, 8, 9, 10, 11, 12, 13, 14] (by decide) rfl ?_
        show X l g E ({ frames := 1, cells := 0, slots := 0, locals := 22 } : Room) 5 [(o, ob 6 [jv rn, .ref d1, jv e, jv nc, .ref d2, jv oc, .ref d3, jv co, .ref d4, jv un, .ref d5, jv kn, .ref d6, .ref d7, .ref d8, Jv lU, Jv lB, jv vn, .ref d9, .ref da, .ref db, .ref dc, .ref dd, .ref de, jv lk]), (d1, ai g 61 rf), (d2, ai g 9 nw), (d3, ai g 9 ol), (d4, az g 64 bt), (d5, ai g 70 uf), (d6, ai g 70 kf), (d7, ai g 70 re), (d8, ai g 71 fw), (d9, ai g 10 pm), (da, ai g 600 fs), (db, ai g 600 la), (dc, ai g 600 fk), (dd, al g 600 us), (de, al g 600 bs)] 0 0 [(0, .ref o), (1, jv u), (2, jv k), (3, jv w)] 22 [jv 0]
        refine x_if_ne (pc := 22) C 28 dX6_piece_22 rfl ⟨by decide, by decide⟩ (fun h => absurd h (by decide)) (fun _ => ?_)
        refine x_bipush (pc := 25) C dX6_piece_25 rfl ?_
        refine x_iret (pc := 27) C Rt0 dX6_piece_27 rfl ?_
        refine Or.inl ⟨rfl, rfl, ?_⟩
        rw [← f_14.2.2.1]; omega
    · refine x_world (ws' := [(o, ob 6 [jv rn, .ref d1, jv e, jv nc, .ref d2, jv oc, .ref d3, jv co, .ref d4, jv un, .ref d5, jv kn, .ref d6, .ref d7, .ref d8, Jv lU, Jv lB, jv vn, .ref d9, .ref da, .ref db, .ref dc, .ref dd, .ref de, jv lk]), (d1, ai g 61 rf), (d2, ai g 9 nw), (d3, ai g 9 ol), (d4, az g 64 bt), (d5, ai g 70 uf), (d6, ai g 70 kf), (d7, ai g 70 re), (d8, ai g 71 fw), (d9, ai g 10 pm), (da, ai g 600 fs), (db, ai g 600 la), (dc, ai g 600 fk), (dd, al g 600 us), (de, al g 600 bs)]) [0, 1, 2, 3, 4, 5, 6, 7, 8, 9, 10, 11, 12, 13, 14] (by decide) rfl ?_
      show X l g E ({ frames := 1, cells := 0, slots := 0, locals := 22 } : Room) 5 [(o, ob 6 [jv rn, .ref d1, jv e, jv nc, .ref d2, jv oc, .ref d3, jv co, .ref d4, jv un, .ref d5, jv kn, .ref d6, .ref d7, .ref d8, Jv lU, Jv lB, jv vn, .ref d9, .ref da, .ref db, .ref dc, .ref dd, .ref de, jv lk]), (d1, ai g 61 rf), (d2, ai g 9 nw), (d3, ai g 9 ol), (d4, az g 64 bt), (d5, ai g 70 uf), (d6, ai g 70 kf), (d7, ai g 70 re), (d8, ai g 71 fw), (d9, ai g 10 pm), (da, ai g 600 fs), (db, ai g 600 la), (dc, ai g 600 fk), (dd, al g 600 us), (de, al g 600 bs)] 0 0 [(0, .ref o), (1, jv u), (2, jv k), (3, jv w)] 17 [jv 0, jv 0, jv k]
      refine x_iconst (pc := 17) C dX6_piece_17 ?_
      refine x_isub (pc := 18) C dX6_piece_18 ?_
      refine x_callS (pc := 19) C (n := 3) (rest := []) (wr := [(o, ob 6 [jv rn, .ref d1, jv e, jv nc, .ref d2, jv oc, .ref d3, jv co, .ref d4, jv un, .ref d5, jv kn, .ref d6, .ref d7, .ref d8, Jv lU, Jv lB, jv vn, .ref d9, .ref da, .ref db, .ref dc, .ref dd, .ref de, jv lk]), (d1, ai g 61 rf), (d2, ai g 9 nw), (d3, ai g 9 ol), (d4, az g 64 bt), (d5, ai g 70 uf), (d6, ai g 70 kf), (d7, ai g 70 re), (d8, ai g 71 fw), (d9, ai g 10 pm), (da, ai g 600 fs), (db, ai g 600 la), (dc, ai g 600 fk), (dd, al g 600 us), (de, al g 600 bs)]) [] [0, 1, 2, 3, 4, 5, 6, 7, 8, 9, 10, 11, 12, 13, 14] (ctX6_in l g k 0 (0 - 1) rk ⟨by omega, by omega⟩ ⟨by omega, by omega⟩) gX6_piece_X6_in rfl (by decide +kernel) ⟨rfl, rfl⟩ ⟨by decide, by decide⟩ rfl rfl rfl (by decide) (by decide) (by decide) rfl (Nat.le_of_ble_eq_true rfl) dX6_piece_19 ⟨by decide, by decide⟩ (fun v_19 u_19 h_19 => ?_)
      rcases h_19 with ⟨rfl, rfl, f_19⟩ | ⟨rfl, rfl, f_19⟩
      · refine x_world (ws' := [(o, ob 6 [jv rn, .ref d1, jv e, jv nc, .ref d2, jv oc, .ref d3, jv co, .ref d4, jv un, .ref d5, jv kn, .ref d6, .ref d7, .ref d8, Jv lU, Jv lB, jv vn, .ref d9, .ref da, .ref db, .ref dc, .ref dd, .ref de, jv lk]), (d1, ai g 61 rf), (d2, ai g 9 nw), (d3, ai g 9 ol), (d4, az g 64 bt), (d5, ai g 70 uf), (d6, ai g 70 kf), (d7, ai g 70 re), (d8, ai g 71 fw), (d9, ai g 10 pm), (da, ai g 600 fs), (db, ai g 600 la), (dc, ai g 600 fk), (dd, al g 600 us), (de, al g 600 bs)]) [0, 1, 2, 3, 4, 5, 6, 7, 8, 9, 10, 11, 12, 13, 14] (by decide) rfl ?_
        show X l g E ({ frames := 1, cells := 0, slots := 0, locals := 22 } : Room) 5 [(o, ob 6 [jv rn, .ref d1, jv e, jv nc, .ref d2, jv oc, .ref d3, jv co, .ref d4, jv un, .ref d5, jv kn, .ref d6, .ref d7, .ref d8, Jv lU, Jv lB, jv vn, .ref d9, .ref da, .ref db, .ref dc, .ref dd, .ref de, jv lk]), (d1, ai g 61 rf), (d2, ai g 9 nw), (d3, ai g 9 ol), (d4, az g 64 bt), (d5, ai g 70 uf), (d6, ai g 70 kf), (d7, ai g 70 re), (d8, ai g 71 fw), (d9, ai g 10 pm), (da, ai g 600 fs), (db, ai g 600 la), (dc, ai g 600 fk), (dd, al g 600 us), (de, al g 600 bs)] 0 0 [(0, .ref o), (1, jv u), (2, jv k), (3, jv w)] 22 [jv 1]
        refine x_if_ne (pc := 22) C 28 dX6_piece_22 rfl ⟨by decide, by decide⟩ (fun _ => ?_) (fun h => absurd h (by decide))
        omega
      · refine x_world (ws' := [(o, ob 6 [jv rn, .ref d1, jv e, jv nc, .ref d2, jv oc, .ref d3, jv co, .ref d4, jv un, .ref d5, jv kn, .ref d6, .ref d7, .ref d8, Jv lU, Jv lB, jv vn, .ref d9, .ref da, .ref db, .ref dc, .ref dd, .ref de, jv lk]), (d1, ai g 61 rf), (d2, ai g 9 nw), (d3, ai g 9 ol), (d4, az g 64 bt), (d5, ai g 70 uf), (d6, ai g 70 kf), (d7, ai g 70 re), (d8, ai g 71 fw), (d9, ai g 10 pm), (da, ai g 600 fs), (db, ai g 600 la), (dc, ai g 600 fk), (dd, al g 600 us), (de, al g 600 bs)]) [0, 1, 2, 3, 4, 5, 6, 7, 8, 9, 10, 11, 12, 13, 14] (by decide) rfl ?_
        show X l g E ({ frames := 1, cells := 0, slots := 0, locals := 22 } : Room) 5 [(o, ob 6 [jv rn, .ref d1, jv e, jv nc, .ref d2, jv oc, .ref d3, jv co, .ref d4, jv un, .ref d5, jv kn, .ref d6, .ref d7, .ref d8, Jv lU, Jv lB, jv vn, .ref d9, .ref da, .ref db, .ref dc, .ref dd, .ref de, jv lk]), (d1, ai g 61 rf), (d2, ai g 9 nw), (d3, ai g 9 ol), (d4, az g 64 bt), (d5, ai g 70 uf), (d6, ai g 70 kf), (d7, ai g 70 re), (d8, ai g 71 fw), (d9, ai g 10 pm), (da, ai g 600 fs), (db, ai g 600 la), (dc, ai g 600 fk), (dd, al g 600 us), (de, al g 600 bs)] 0 0 [(0, .ref o), (1, jv u), (2, jv k), (3, jv w)] 22 [jv 0]
        refine x_if_ne (pc := 22) C 28 dX6_piece_22 rfl ⟨by decide, by decide⟩ (fun h => absurd h (by decide)) (fun _ => ?_)
        refine x_bipush (pc := 25) C dX6_piece_25 rfl ?_
        refine x_iret (pc := 27) C Rt0 dX6_piece_27 rfl ?_
        refine Or.inl ⟨rfl, rfl, ?_⟩
        omega
  · refine x_world (ws' := [(o, ob 6 [jv rn, .ref d1, jv e, jv nc, .ref d2, jv oc, .ref d3, jv co, .ref d4, jv un, .ref d5, jv kn, .ref d6, .ref d7, .ref d8, Jv lU, Jv lB, jv vn, .ref d9, .ref da, .ref db, .ref dc, .ref dd, .ref de, jv lk]), (d1, ai g 61 rf), (d2, ai g 9 nw), (d3, ai g 9 ol), (d4, az g 64 bt), (d5, ai g 70 uf), (d6, ai g 70 kf), (d7, ai g 70 re), (d8, ai g 71 fw), (d9, ai g 10 pm), (da, ai g 600 fs), (db, ai g 600 la), (dc, ai g 600 fk), (dd, al g 600 us), (de, al g 600 bs)]) [0, 1, 2, 3, 4, 5, 6, 7, 8, 9, 10, 11, 12, 13, 14] (by decide) rfl ?_
    show X l g E ({ frames := 1, cells := 0, slots := 0, locals := 22 } : Room) 5 [(o, ob 6 [jv rn, .ref d1, jv e, jv nc, .ref d2, jv oc, .ref d3, jv co, .ref d4, jv un, .ref d5, jv kn, .ref d6, .ref d7, .ref d8, Jv lU, Jv lB, jv vn, .ref d9, .ref da, .ref db, .ref dc, .ref dd, .ref de, jv lk]), (d1, ai g 61 rf), (d2, ai g 9 nw), (d3, ai g 9 ol), (d4, az g 64 bt), (d5, ai g 70 uf), (d6, ai g 70 kf), (d7, ai g 70 re), (d8, ai g 71 fw), (d9, ai g 10 pm), (da, ai g 600 fs), (db, ai g 600 la), (dc, ai g 600 fk), (dd, al g 600 us), (de, al g 600 bs)] 0 0 [(0, .ref o), (1, jv u), (2, jv k), (3, jv w)] 7 [jv 0]
    refine x_if_eq (pc := 7) C 25 dX6_piece_7 rfl ⟨by decide, by decide⟩ (fun _ => ?_) (fun h => absurd h (by decide))
    refine x_bipush (pc := 25) C dX6_piece_25 rfl ?_
    refine x_iret (pc := 27) C Rt0 dX6_piece_27 rfl ?_
    refine Or.inl ⟨rfl, rfl, ?_⟩
    omega

set_option maxRecDepth 100000 in
theorem hiX6_levels_6 : ∀ w ∈ wsX60, w ∈ wsX6_levels := by decide +kernel
set_option maxRecDepth 100000 in
theorem hfX6_levels_139 : Cond.fieldLink RX6 139 "KeyGuessModel" "levelMany" "I" ∈ wsX6_levels := by decide +kernel
set_option maxHeartbeats 4000000 in
set_option maxRecDepth 100000 in
/-- levels -/
theorem ctX6_levels (l : Launch) (g : xG) (o : Nat) (d1 : Nat) (d2 : Nat) (d3 : Nat) (d4 : Nat) (d5 : Nat) (d6 : Nat) (d7 : Nat) (d8 : Nat) (d9 : Nat) (da : Nat) (db : Nat) (dc : Nat) (dd : Nat) (de : Nat) (rn : Int) (e : Int) (nc : Int) (oc : Int) (co : Int) (un : Int) (kn : Int) (lU : Int) (lB : Int) (vn : Int) (lk : Int) (rf : Int → Int) (nw : Int → Int) (ol : Int → Int) (bt : Int → Bool) (uf : Int → Int) (kf : Int → Int) (re : Int → Int) (fw : Int → Int) (pm : Int → Int) (fs : Int → Int) (la : Int → Int) (fk : Int → Int) (us : Int → Int) (bs : Int → Int)  : Ct l g yX6_levels wsX6_levels ({ frames := 0, cells := 0, slots := 0, locals := 0 } : Room) 0 0 [(o, ob 6 [jv rn, .ref d1, jv e, jv nc, .ref d2, jv oc, .ref d3, jv co, .ref d4, jv un, .ref d5, jv kn, .ref d6, .ref d7, .ref d8, Jv lU, Jv lB, jv vn, .ref d9, .ref da, .ref db, .ref dc, .ref dd, .ref de, jv lk]), (d1, ai g 61 rf), (d2, ai g 9 nw), (d3, ai g 9 ol), (d4, az g 64 bt), (d5, ai g 70 uf), (d6, ai g 70 kf), (d7, ai g 70 re), (d8, ai g 71 fw), (d9, ai g 10 pm), (da, ai g 600 fs), (db, ai g 600 la), (dc, ai g 600 fk), (dd, al g 600 us), (de, al g 600 bs)] [.ref o] (fun rV rU => rV = some (jv vn) ∧ rU = [(o, ob 6 [jv rn, .ref d1, jv e, jv nc, .ref d2, jv oc, .ref d3, jv co, .ref d4, jv un, .ref d5, jv kn, .ref d6, .ref d7, .ref d8, Jv lU, Jv lB, jv vn, .ref d9, .ref da, .ref db, .ref dc, .ref dd, .ref de, jv lk]), (d1, ai g 61 rf), (d2, ai g 9 nw), (d3, ai g 9 ol), (d4, az g 64 bt), (d5, ai g 70 uf), (d6, ai g 70 kf), (d7, ai g 70 re), (d8, ai g 71 fw), (d9, ai g 10 pm), (da, ai g 600 fs), (db, ai g 600 la), (dc, ai g 600 fk), (dd, al g 600 us), (de, al g 600 bs)] ∧ (True)) := by
  refine ct_of (cc := cX6_levels) (nL := 1) (ret := (some .int)) (by decide) rfl (Nat.le_of_ble_eq_true rfl) ?_
  intro E C Rt0
  have C : Cx l g E ({ frames := 0, cells := 0, slots := 0, locals := 0 } : Room) RX6 "levels" cX6_levels wsX6_levels 1 := C
  show X l g E ({ frames := 0, cells := 0, slots := 0, locals := 0 } : Room) 1 [(o, ob 6 [jv rn, .ref d1, jv e, jv nc, .ref d2, jv oc, .ref d3, jv co, .ref d4, jv un, .ref d5, jv kn, .ref d6, .ref d7, .ref d8, Jv lU, Jv lB, jv vn, .ref d9, .ref da, .ref db, .ref dc, .ref dd, .ref de, jv lk]), (d1, ai g 61 rf), (d2, ai g 9 nw), (d3, ai g 9 ol), (d4, az g 64 bt), (d5, ai g 70 uf), (d6, ai g 70 kf), (d7, ai g 70 re), (d8, ai g 71 fw), (d9, ai g 10 pm), (da, ai g 600 fs), (db, ai g 600 la), (dc, ai g 600 fk), (dd, al g 600 us), (de, al g 600 bs)] 0 0 [(0, .ref o)] 0 []
  refine x_aload_n (pc := 0) C 0 dX6_levels_0 rfl ?_
  refine x_get (pc := 1) C 0 17 dX6_levels_1 hiX6_levels_6 hfX6_levels_139 rfl rfl rfl (by decide) rfl ?_
  refine x_iret (pc := 4) C Rt0 dX6_levels_4 rfl ?_
  refine ⟨rfl, rfl, ?_⟩
  trivial

set_option maxRecDepth 100000 in
theorem hiX6_pieceFor_6 : ∀ w ∈ wsX60, w ∈ wsX6_pieceFor := by decide +kernel
set_option maxRecDepth 100000 in
theorem hfX6_pieceFor_48 : Cond.fieldLink RX6 48 "KeyGuessModel" "firstKeys" "[I" ∈ wsX6_pieceFor := by decide +kernel
set_option maxHeartbeats 4000000 in
set_option maxRecDepth 100000 in
/-- pieceFor -/
theorem ctX6_pieceFor (l : Launch) (g : xG) (o : Nat) (d1 : Nat) (d2 : Nat) (d3 : Nat) (d4 : Nat) (d5 : Nat) (d6 : Nat) (d7 : Nat) (d8 : Nat) (d9 : Nat) (da : Nat) (db : Nat) (dc : Nat) (dd : Nat) (de : Nat) (rn : Int) (e : Int) (nc : Int) (oc : Int) (co : Int) (un : Int) (kn : Int) (lU : Int) (lB : Int) (vn : Int) (lk : Int) (rf : Int → Int) (nw : Int → Int) (ol : Int → Int) (bt : Int → Bool) (uf : Int → Int) (kf : Int → Int) (re : Int → Int) (fw : Int → Int) (pm : Int → Int) (fs : Int → Int) (la : Int → Int) (fk : Int → Int) (us : Int → Int) (bs : Int → Int) (x : Int) (y : Int → Int) (he : 0 ≤ e ∧ e ≤ 8) (hL : LvM y e rn vn pm fs la fk us bs) (h1 : 1 ≤ vn) (hx : 0 ≤ x ∧ x ≤ 1000000) : Ct l g yX6_pieceFor wsX6_pieceFor ({ frames := 1, cells := 0, slots := 0, locals := 21 } : Room) 0 0 [(o, ob 6 [jv rn, .ref d1, jv e, jv nc, .ref d2, jv oc, .ref d3, jv co, .ref d4, jv un, .ref d5, jv kn, .ref d6, .ref d7, .ref d8, Jv lU, Jv lB, jv vn, .ref d9, .ref da, .ref db, .ref dc, .ref dd, .ref de, jv lk]), (d1, ai g 61 rf), (d2, ai g 9 nw), (d3, ai g 9 ol), (d4, az g 64 bt), (d5, ai g 70 uf), (d6, ai g 70 kf), (d7, ai g 70 re), (d8, ai g 71 fw), (d9, ai g 10 pm), (da, ai g 600 fs), (db, ai g 600 la), (dc, ai g 600 fk), (dd, al g 600 us), (de, al g 600 bs)] [.ref o, jv x] (fun rV rU => ∃ (p : Int), rV = some (jv p) ∧ rU = [(o, ob 6 [jv rn, .ref d1, jv e, jv nc, .ref d2, jv oc, .ref d3, jv co, .ref d4, jv un, .ref d5, jv kn, .ref d6, .ref d7, .ref d8, Jv lU, Jv lB, jv vn, .ref d9, .ref da, .ref db, .ref dc, .ref dd, .ref de, jv lk]), (d1, ai g 61 rf), (d2, ai g 9 nw), (d3, ai g 9 ol), (d4, az g 64 bt), (d5, ai g 70 uf), (d6, ai g 70 kf), (d7, ai g 70 re), (d8, ai g 71 fw), (d9, ai g 10 pm), (da, ai g 600 fs), (db, ai g 600 la), (dc, ai g 600 fk), (dd, al g 600 us), (de, al g 600 bs)] ∧ (Pf (PM y e rn) (P2 y e rn) x p)) := by
  refine ct_of (cc := cX6_pieceFor) (nL := 4) (ret := (some .int)) (by decide) rfl (Nat.le_of_ble_eq_true rfl) ?_
  intro E C Rt0
  have C : Cx l g E ({ frames := 1, cells := 0, slots := 0, locals := 21 } : Room) RX6 "pieceFor" cX6_pieceFor wsX6_pieceFor 4 := C
  show X l g E ({ frames := 1, cells := 0, slots := 0, locals := 21 } : Room) 4 [(o, ob 6 [jv rn, .ref d1, jv e, jv nc, .ref d2, jv oc, .ref d3, jv co, .ref d4, jv un, .ref d5, jv kn, .ref d6, .ref d7, .ref d8, Jv lU, Jv lB, jv vn, .ref d9, .ref da, .ref db, .ref dc, .ref dd, .ref de, jv lk]), (d1, ai g 61 rf), (d2, ai g 9 nw), (d3, ai g 9 ol), (d4, az g 64 bt), (d5, ai g 70 uf), (d6, ai g 70 kf), (d7, ai g 70 re), (d8, ai g 71 fw), (d9, ai g 10 pm), (da, ai g 600 fs), (db, ai g 600 la), (dc, ai g 600 fk), (dd, al g 600 us), (de, al g 600 bs)] 0 0 [(0, .ref o), (1, jv x)] 0 []
  obtain ⟨hok, hp0, hA⟩ := hL.l0 h1
  have hpm := hok.pm he.1
  have hn1 := hok.1.2.1
  have hv6 := hL.2.2.1
  refine x_iconst (pc := 0) C dX6_pieceFor_0 ?_
  refine x_istore_n (pc := 1) C (lv' := [(2, jv 0), (0, .ref o), (1, jv x)]) dX6_pieceFor_1 (by decide) rfl ?_
  refine x_iconst (pc := 2) C dX6_pieceFor_2 ?_
  refine x_istore_n (pc := 3) C (lv' := [(3, jv 1), (2, jv 0), (0, .ref o), (1, jv x)]) dX6_pieceFor_3 (by decide) rfl ?_
  have L4 : ∀ (kμ : Nat) (p : Int) (k : Int), (PM y e rn - k).toNat < kμ → (0 ≤ p ∧ p < k ∧ 1 ≤ k ∧ k ≤ PM y e rn) → (∀ q : Int, 1 ≤ q → q ≤ p → P2 y e rn q ≤ x) → (∀ q : Int, p < q → q < k → x < P2 y e rn q) → X l g E ({ frames := 1, cells := 0, slots := 0, locals := 21 } : Room) 4 [(o, ob 6 [jv rn, .ref d1, jv e, jv nc, .ref d2, jv oc, .ref d3, jv co, .ref d4, jv un, .ref d5, jv kn, .ref d6, .ref d7, .ref d8, Jv lU, Jv lB, jv vn, .ref d9, .ref da, .ref db, .ref dc, .ref dd, .ref de, jv lk]), (d1, ai g 61 rf), (d2, ai g 9 nw), (d3, ai g 9 ol), (d4, az g 64 bt), (d5, ai g 70 uf), (d6, ai g 70 kf), (d7, ai g 70 re), (d8, ai g 71 fw), (d9, ai g 10 pm), (da, ai g 600 fs), (db, ai g 600 la), (dc, ai g 600 fk), (dd, al g 600 us), (de, al g 600 bs)] 0 0 [(0, .ref o), (1, jv x), (2, jv p), (3, jv k)] 4 [] := by
    intro kμ
    induction kμ with
    | zero => intro p k hμ; exact absurd hμ (Nat.not_lt_zero _)
    | succ kμ ih4 =>
      intro p k hμ hp hlo hhi
      refine x_iload_n (pc := 4) C 3 dX6_pieceFor_4 rfl ?_
      refine x_aload_n (pc := 5) C 0 dX6_pieceFor_5 rfl ?_
      refine x_iconst (pc := 6) C dX6_pieceFor_6 ?_
      refine x_callV (pc := 7) C (n := 1) (q0 := 0) (rest := [jv k]) (wr := []) [0, 1, 2, 3, 4, 5, 6, 7, 8, 9, 10, 11, 12, 13, 14] [] (ctX6_piecesAt l g o d1 d2 d3 d4 d5 d6 d7 d8 d9 da db dc dd de rn e nc oc co un kn lU lB vn lk rf nw ol bt uf kf re fw pm fs la fk us bs 0 y he hL ⟨by omega, by omega⟩) gX6_pieceFor_X6_piecesAt rfl ⟨rfl, rfl⟩ (by decide +kernel) ⟨by decide, by decide⟩ rfl rfl rfl rfl rfl (by decide) (by decide) (by decide) rfl (Nat.le_of_ble_eq_true rfl) dX6_pieceFor_7 ⟨by decide, by decide⟩ (fun v_7 u_7 h_7 => ?_)
      rcases h_7 with ⟨m, rfl, rfl, f_7⟩ | ⟨rfl, rfl, f_7⟩
      · refine x_world (ws' := [(o, ob 6 [jv rn, .ref d1, jv e, jv nc, .ref d2, jv oc, .ref d3, jv co, .ref d4, jv un, .ref d5, jv kn, .ref d6, .ref d7, .ref d8, Jv lU, Jv lB, jv vn, .ref d9, .ref da, .ref db, .ref dc, .ref dd, .ref de, jv lk]), (d1, ai g 61 rf), (d2, ai g 9 nw), (d3, ai g 9 ol), (d4, az g 64 bt), (d5, ai g 70 uf), (d6, ai g 70 kf), (d7, ai g 70 re), (d8, ai g 71 fw), (d9, ai g 10 pm), (da, ai g 600 fs), (db, ai g 600 la), (dc, ai g 600 fk), (dd, al g 600 us), (de, al g 600 bs)]) [0, 1, 2, 3, 4, 5, 6, 7, 8, 9, 10, 11, 12, 13, 14] (by decide) rfl ?_
        show X l g E ({ frames := 1, cells := 0, slots := 0, locals := 21 } : Room) 4 [(o, ob 6 [jv rn, .ref d1, jv e, jv nc, .ref d2, jv oc, .ref d3, jv co, .ref d4, jv un, .ref d5, jv kn, .ref d6, .ref d7, .ref d8, Jv lU, Jv lB, jv vn, .ref d9, .ref da, .ref db, .ref dc, .ref dd, .ref de, jv lk]), (d1, ai g 61 rf), (d2, ai g 9 nw), (d3, ai g 9 ol), (d4, az g 64 bt), (d5, ai g 70 uf), (d6, ai g 70 kf), (d7, ai g 70 re), (d8, ai g 71 fw), (d9, ai g 10 pm), (da, ai g 600 fs), (db, ai g 600 la), (dc, ai g 600 fk), (dd, al g 600 us), (de, al g 600 bs)] 0 0 [(0, .ref o), (1, jv x), (2, jv p), (3, jv k)] 10 [jv m, jv k]
        have hm : m = PM y e rn := f_7.2.2.1
        refine x_icmp_ge (pc := 10) C 35 dX6_pieceFor_10 rfl ⟨by omega, by omega⟩ ⟨by omega, by omega⟩ (fun c_10 => ?_) (fun c_10 => ?_)
        · refine x_iload_n (pc := 35) C 2 dX6_pieceFor_35 rfl ?_
          refine x_iret (pc := 36) C Rt0 dX6_pieceFor_36 rfl ?_
          refine ⟨_, rfl, rfl, ?_⟩
          exact ⟨hp.1, by omega, hlo, fun q q1 q2 => hhi q q1 (by omega)⟩
        · refine x_aload_n (pc := 13) C 0 dX6_pieceFor_13 rfl ?_
          refine x_get (pc := 14) C 0 21 dX6_pieceFor_14 hiX6_pieceFor_6 hfX6_pieceFor_48 rfl rfl rfl (by decide) rfl ?_
          refine x_iload_n (pc := 17) C 3 dX6_pieceFor_17 rfl ?_
          refine x_iald (pc := 18) C 12 dX6_pieceFor_18 rfl (by omega) (by omega) (by decide) ?_
          have ha := (hA k (by omega) (by omega)).2.2.1
          have hb := hok.p he.1 (k := k) (by omega) (by omega)
          refine x_iload_n (pc := 19) C 1 dX6_pieceFor_19 rfl ?_
          refine x_icmp_gt (pc := 20) C 27 dX6_pieceFor_20 rfl ⟨by omega, by omega⟩ ⟨by omega, by omega⟩ (fun c_20 => ?_) (fun c_20 => ?_)
          · refine x_iload_n (pc := 27) C 2 dX6_pieceFor_27 rfl ?_
            refine x_istore_n (pc := 28) C (lv' := [(2, jv p), (0, .ref o), (1, jv x), (3, jv k)]) dX6_pieceFor_28 (by decide) rfl ?_
            refine x_iinc (pc := 29) C (lv' := [(3, jv (k + 1)), (2, jv p), (0, .ref o), (1, jv x)]) 3 dX6_pieceFor_29 rfl (by decide) rfl ?_
            refine x_goto (pc := 32) C 4 dX6_pieceFor_32 rfl ?_
            refine x_locals (lv' := [(0, .ref o), (1, jv x), (2, jv p), (3, jv (k + 1))]) [2, 3, 1, 0] rfl ?_
            refine ih4 _ _ ?_ ?_ ?_ ?_
            · omega
            · omega
            · exact hlo
            · intro q q1 q2
              by_cases z : q = k
              · rw [z]; omega
              · exact hhi q q1 (by omega)
          · refine x_iload_n (pc := 23) C 3 dX6_pieceFor_23 rfl ?_
            refine x_goto (pc := 24) C 28 dX6_pieceFor_24 rfl ?_
            refine x_istore_n (pc := 28) C (lv' := [(2, jv k), (0, .ref o), (1, jv x), (3, jv k)]) dX6_pieceFor_28 (by decide) rfl ?_
            refine x_iinc (pc := 29) C (lv' := [(3, jv (k + 1)), (2, jv k), (0, .ref o), (1, jv x)]) 3 dX6_pieceFor_29 rfl (by decide) rfl ?_
            refine x_goto (pc := 32) C 4 dX6_pieceFor_32 rfl ?_
            refine x_locals (lv' := [(0, .ref o), (1, jv x), (2, jv k), (3, jv (k + 1))]) [2, 3, 1, 0] rfl ?_
            refine ih4 _ _ ?_ ?_ ?_ ?_
            · omega
            · omega
            · intro q q1 q2
              have := (hok.next he.1).le (i := q) (j := k) (by omega) (by omega) (by omega)
              omega
            · exact fun q q1 q2 => absurd q1 (by omega)
      · refine x_world (ws' := [(o, ob 6 [jv rn, .ref d1, jv e, jv nc, .ref d2, jv oc, .ref d3, jv co, .ref d4, jv un, .ref d5, jv kn, .ref d6, .ref d7, .ref d8, Jv lU, Jv lB, jv vn, .ref d9, .ref da, .ref db, .ref dc, .ref dd, .ref de, jv lk]), (d1, ai g 61 rf), (d2, ai g 9 nw), (d3, ai g 9 ol), (d4, az g 64 bt), (d5, ai g 70 uf), (d6, ai g 70 kf), (d7, ai g 70 re), (d8, ai g 71 fw), (d9, ai g 10 pm), (da, ai g 600 fs), (db, ai g 600 la), (dc, ai g 600 fk), (dd, al g 600 us), (de, al g 600 bs)]) [0, 1, 2, 3, 4, 5, 6, 7, 8, 9, 10, 11, 12, 13, 14] (by decide) rfl ?_
        show X l g E ({ frames := 1, cells := 0, slots := 0, locals := 21 } : Room) 4 [(o, ob 6 [jv rn, .ref d1, jv e, jv nc, .ref d2, jv oc, .ref d3, jv co, .ref d4, jv un, .ref d5, jv kn, .ref d6, .ref d7, .ref d8, Jv lU, Jv lB, jv vn, .ref d9, .ref da, .ref db, .ref dc, .ref dd, .ref de, jv lk]), (d1, ai g 61 rf), (d2, ai g 9 nw), (d3, ai g 9 ol), (d4, az g 64 bt), (d5, ai g 70 uf), (d6, ai g 70 kf), (d7, ai g 70 re), (d8, ai g 71 fw), (d9, ai g 10 pm), (da, ai g 600 fs), (db, ai g 600 la), (dc, ai g 600 fk), (dd, al g 600 us), (de, al g 600 bs)] 0 0 [(0, .ref o), (1, jv x), (2, jv p), (3, jv k)] 10 [jv 0, jv k]
        omega
  refine x_locals (lv' := [(0, .ref o), (1, jv x), (2, jv 0), (3, jv 1)]) [2, 3, 1, 0] rfl ?_
  refine L4 _ _ _ (Nat.lt_succ_self _) ?_ ?_ ?_
  · omega
  · exact fun q q1 q2 => absurd q1 (by omega)
  · exact fun q q1 q2 => absurd q1 (by omega)

set_option maxRecDepth 100000 in
theorem hiX6_guessBy_6 : ∀ w ∈ wsX60, w ∈ wsX6_guessBy := by decide +kernel
set_option maxRecDepth 100000 in
theorem hfX6_guessBy_51 : Cond.fieldLink RX6 51 "KeyGuessModel" "ups" "[J" ∈ wsX6_guessBy := by decide +kernel
set_option maxRecDepth 100000 in
theorem hfX6_guessBy_48 : Cond.fieldLink RX6 48 "KeyGuessModel" "firstKeys" "[I" ∈ wsX6_guessBy := by decide +kernel
set_option maxRecDepth 100000 in
theorem hfX6_guessBy_42 : Cond.fieldLink RX6 42 "KeyGuessModel" "firsts" "[I" ∈ wsX6_guessBy := by decide +kernel
set_option maxRecDepth 100000 in
theorem hfX6_guessBy_45 : Cond.fieldLink RX6 45 "KeyGuessModel" "lasts" "[I" ∈ wsX6_guessBy := by decide +kernel
set_option maxRecDepth 100000 in
theorem hfX6_guessBy_55 : Cond.fieldLink RX6 55 "KeyGuessModel" "belows" "[J" ∈ wsX6_guessBy := by decide +kernel
set_option maxHeartbeats 4000000 in
set_option maxRecDepth 100000 in
/-- guessBy -/
theorem ctX6_guessBy (l : Launch) (g : xG) (o : Nat) (d1 : Nat) (d2 : Nat) (d3 : Nat) (d4 : Nat) (d5 : Nat) (d6 : Nat) (d7 : Nat) (d8 : Nat) (d9 : Nat) (da : Nat) (db : Nat) (dc : Nat) (dd : Nat) (de : Nat) (rn : Int) (e : Int) (nc : Int) (oc : Int) (co : Int) (un : Int) (kn : Int) (lU : Int) (lB : Int) (vn : Int) (lk : Int) (rf : Int → Int) (nw : Int → Int) (ol : Int → Int) (bt : Int → Bool) (uf : Int → Int) (kf : Int → Int) (re : Int → Int) (fw : Int → Int) (pm : Int → Int) (fs : Int → Int) (la : Int → Int) (fk : Int → Int) (us : Int → Int) (bs : Int → Int) (p : Int) (x : Int) (y : Int → Int) (he : 0 ≤ e ∧ e ≤ 8) (hL : LvM y e rn vn pm fs la fk us bs) (h1 : 1 ≤ vn) (hp : 0 ≤ p ∧ p < PM y e rn) (hx : 0 ≤ x ∧ x ≤ 1000000) : Ct l g yX6_guessBy wsX6_guessBy ({ frames := 0, cells := 0, slots := 0, locals := 0 } : Room) 0 0 [(o, ob 6 [jv rn, .ref d1, jv e, jv nc, .ref d2, jv oc, .ref d3, jv co, .ref d4, jv un, .ref d5, jv kn, .ref d6, .ref d7, .ref d8, Jv lU, Jv lB, jv vn, .ref d9, .ref da, .ref db, .ref dc, .ref dd, .ref de, jv lk]), (d1, ai g 61 rf), (d2, ai g 9 nw), (d3, ai g 9 ol), (d4, az g 64 bt), (d5, ai g 70 uf), (d6, ai g 70 kf), (d7, ai g 70 re), (d8, ai g 71 fw), (d9, ai g 10 pm), (da, ai g 600 fs), (db, ai g 600 la), (dc, ai g 600 fk), (dd, al g 600 us), (de, al g 600 bs)] [.ref o, jv p, jv x] (fun rV rU => ∃ (r : Int), rV = some (jv r) ∧ rU = [(o, ob 6 [jv rn, .ref d1, jv e, jv nc, .ref d2, jv oc, .ref d3, jv co, .ref d4, jv un, .ref d5, jv kn, .ref d6, .ref d7, .ref d8, Jv lU, Jv lB, jv vn, .ref d9, .ref da, .ref db, .ref dc, .ref dd, .ref de, jv lk]), (d1, ai g 61 rf), (d2, ai g 9 nw), (d3, ai g 9 ol), (d4, az g 64 bt), (d5, ai g 70 uf), (d6, ai g 70 kf), (d7, ai g 70 re), (d8, ai g 71 fw), (d9, ai g 10 pm), (da, ai g 600 fs), (db, ai g 600 la), (dc, ai g 600 fk), (dd, al g 600 us), (de, al g 600 bs)] ∧ (r = gs y e rn p x)) := by
  refine ct_of (cc := cX6_guessBy) (nL := 9) (ret := (some .int)) (by decide) rfl (Nat.le_of_ble_eq_true rfl) ?_
  intro E C Rt0
  have C : Cx l g E ({ frames := 0, cells := 0, slots := 0, locals := 0 } : Room) RX6 "guessBy" cX6_guessBy wsX6_guessBy 9 := C
  show X l g E ({ frames := 0, cells := 0, slots := 0, locals := 0 } : Room) 9 [(o, ob 6 [jv rn, .ref d1, jv e, jv nc, .ref d2, jv oc, .ref d3, jv co, .ref d4, jv un, .ref d5, jv kn, .ref d6, .ref d7, .ref d8, Jv lU, Jv lB, jv vn, .ref d9, .ref da, .ref db, .ref dc, .ref dd, .ref de, jv lk]), (d1, ai g 61 rf), (d2, ai g 9 nw), (d3, ai g 9 ol), (d4, az g 64 bt), (d5, ai g 70 uf), (d6, ai g 70 kf), (d7, ai g 70 re), (d8, ai g 71 fw), (d9, ai g 10 pm), (da, ai g 600 fs), (db, ai g 600 la), (dc, ai g 600 fk), (dd, al g 600 us), (de, al g 600 bs)] 0 0 [(0, .ref o), (1, jv p), (2, jv x)] 0 []
  obtain ⟨hok, hp0, hA⟩ := hL.l0 h1
  have hpm := hok.pm he.1
  have hn1 := hok.1.2.1
  have hv6 := hL.2.2.1
  obtain ⟨a0, a1, a2, a3, a4⟩ := hA p hp.1 hp.2
  obtain ⟨b0, b1, b2, b3, b4, b5, b6, b7, b8⟩ := hok.p he.1 hp.1 hp.2
  have hmb : -100000000 ≤ us p * (x - fk p) ∧ us p * (x - fk p) ≤ 100000000 := by
    rw [a3, a2]; exact mrs (by omega) (by omega)
  have hdb : -100000000 ≤ us p * (x - fk p) / bs p ∧ us p * (x - fk p) / bs p ≤ 100000000 := dvb (by omega) hmb
  have hgs : gs y e rn p x = max (fs p) (min (la p) (fs p + us p * (x - fk p) / bs p)) := by
    rw [a0, a1, a2, a3, a4]; rfl
  refine x_aload_n (pc := 0) C 0 dX6_guessBy_0 rfl ?_
  refine x_get (pc := 1) C 0 22 dX6_guessBy_1 hiX6_guessBy_6 hfX6_guessBy_51 rfl rfl rfl (by decide) rfl ?_
  refine x_iload_n (pc := 4) C 1 dX6_guessBy_4 rfl ?_
  refine x_lald (pc := 5) C 13 dX6_guessBy_5 rfl (by omega) (by omega) (by decide) ?_
  refine x_iload_n (pc := 6) C 2 dX6_guessBy_6 rfl ?_
  refine x_aload_n (pc := 7) C 0 dX6_guessBy_7 rfl ?_
  refine x_get (pc := 8) C 0 21 dX6_guessBy_8 hiX6_guessBy_6 hfX6_guessBy_48 rfl rfl rfl (by decide) rfl ?_
  refine x_iload_n (pc := 11) C 1 dX6_guessBy_11 rfl ?_
  refine x_iald (pc := 12) C 12 dX6_guessBy_12 rfl (by omega) (by omega) (by decide) ?_
  refine x_isub (pc := 13) C dX6_guessBy_13 ?_
  refine x_i2l (pc := 14) C dX6_guessBy_14 ⟨by omega, by omega⟩ ?_
  refine x_lmul (pc := 15) C dX6_guessBy_15 ?_
  refine x_lstore_n (pc := 16) C (lv' := [(3, Jv ((us p) * (x - (fk p)))), (0, .ref o), (1, jv p), (2, jv x)]) dX6_guessBy_16 (by decide) rfl ?_
  have L52 : ∀ (s : Int), (s = us p * (x - fk p) / bs p) → X l g E ({ frames := 0, cells := 0, slots := 0, locals := 0 } : Room) 9 [(o, ob 6 [jv rn, .ref d1, jv e, jv nc, .ref d2, jv oc, .ref d3, jv co, .ref d4, jv un, .ref d5, jv kn, .ref d6, .ref d7, .ref d8, Jv lU, Jv lB, jv vn, .ref d9, .ref da, .ref db, .ref dc, .ref dd, .ref de, jv lk]), (d1, ai g 61 rf), (d2, ai g 9 nw), (d3, ai g 9 ol), (d4, az g 64 bt), (d5, ai g 70 uf), (d6, ai g 70 kf), (d7, ai g 70 re), (d8, ai g 71 fw), (d9, ai g 10 pm), (da, ai g 600 fs), (db, ai g 600 la), (dc, ai g 600 fk), (dd, al g 600 us), (de, al g 600 bs)] 0 0 [(0, .ref o), (1, jv p), (2, jv x)] 52 [Jv s] := by
    intro s hs
    refine x_lstore (pc := 52) C (lv' := [(5, Jv s), (0, .ref o), (1, jv p), (2, jv x)]) dX6_guessBy_52 (by decide) rfl ?_
    refine x_aload_n (pc := 54) C 1 dX6_guessBy_54 rfl ?_
    refine x_get (pc := 55) C 0 19 dX6_guessBy_55 hiX6_guessBy_6 hfX6_guessBy_42 rfl rfl rfl (by decide) rfl ?_
    refine x_iload_n (pc := 58) C 2 dX6_guessBy_58 rfl ?_
    refine x_iald (pc := 59) C 10 dX6_guessBy_59 rfl (by omega) (by omega) (by decide) ?_
    refine x_i2l (pc := 60) C dX6_guessBy_60 ⟨by omega, by omega⟩ ?_
    refine x_lload (pc := 61) C 0 dX6_guessBy_61 rfl ?_
    refine x_ladd (pc := 63) C dX6_guessBy_63 ?_
    refine x_lstore (pc := 64) C (lv' := [(7, Jv ((fs p) + s)), (5, Jv s), (0, .ref o), (1, jv p), (2, jv x)]) dX6_guessBy_64 (by decide) rfl ?_
    refine x_lload (pc := 66) C 0 dX6_guessBy_66 rfl ?_
    refine x_aload_n (pc := 68) C 2 dX6_guessBy_68 rfl ?_
    refine x_get (pc := 69) C 0 19 dX6_guessBy_69 hiX6_guessBy_6 hfX6_guessBy_42 rfl rfl rfl (by decide) rfl ?_
    refine x_iload_n (pc := 72) C 3 dX6_guessBy_72 rfl ?_
    refine x_iald (pc := 73) C 10 dX6_guessBy_73 rfl (by omega) (by omega) (by decide) ?_
    refine x_i2l (pc := 74) C dX6_guessBy_74 ⟨by omega, by omega⟩ ?_
    refine x_lcmp (pc := 75) C dX6_guessBy_75 ⟨by omega, by omega⟩ ⟨by omega, by omega⟩ (fun c_75 => ?_) (fun c_75 => ?_) (fun c_75 => ?_)
    · refine x_if_ge (pc := 76) C 88 dX6_guessBy_76 rfl ⟨by decide, by decide⟩ (fun h => absurd h (by decide)) (fun _ => ?_)
      refine x_aload_n (pc := 79) C 2 dX6_guessBy_79 rfl ?_
      refine x_get (pc := 80) C 0 19 dX6_guessBy_80 hiX6_guessBy_6 hfX6_guessBy_42 rfl rfl rfl (by decide) rfl ?_
      refine x_iload_n (pc := 83) C 3 dX6_guessBy_83 rfl ?_
      refine x_iald (pc := 84) C 10 dX6_guessBy_84 rfl (by omega) (by omega) (by decide) ?_
      refine x_goto (pc := 85) C 113 dX6_guessBy_85 rfl ?_
      refine x_iret (pc := 113) C Rt0 dX6_guessBy_113 rfl ?_
      refine ⟨_, rfl, rfl, ?_⟩
      rw [hgs]; omega
    · refine x_if_ge (pc := 76) C 88 dX6_guessBy_76 rfl ⟨by decide, by decide⟩ (fun _ => ?_) (fun h => absurd h (by decide))
      refine x_lload (pc := 88) C 0 dX6_guessBy_88 rfl ?_
      refine x_aload_n (pc := 90) C 2 dX6_guessBy_90 rfl ?_
      refine x_get (pc := 91) C 0 20 dX6_guessBy_91 hiX6_guessBy_6 hfX6_guessBy_45 rfl rfl rfl (by decide) rfl ?_
      refine x_iload_n (pc := 94) C 3 dX6_guessBy_94 rfl ?_
      refine x_iald (pc := 95) C 11 dX6_guessBy_95 rfl (by omega) (by omega) (by decide) ?_
      refine x_i2l (pc := 96) C dX6_guessBy_96 ⟨by omega, by omega⟩ ?_
      refine x_lcmp (pc := 97) C dX6_guessBy_97 ⟨by omega, by omega⟩ ⟨by omega, by omega⟩ (fun c_97 => ?_) (fun c_97 => ?_) (fun c_97 => ?_)
      · refine x_if_le (pc := 98) C 110 dX6_guessBy_98 rfl ⟨by decide, by decide⟩ (fun _ => ?_) (fun h => absurd h (by decide))
        refine x_lload (pc := 110) C 0 dX6_guessBy_110 rfl ?_
        refine x_l2i (pc := 112) C dX6_guessBy_112 ?_
        refine x_iret (pc := 113) C Rt0 dX6_guessBy_113 rfl ?_
        refine ⟨_, rfl, rfl, ?_⟩
        rw [hgs]; omega
      · refine x_if_le (pc := 98) C 110 dX6_guessBy_98 rfl ⟨by decide, by decide⟩ (fun _ => ?_) (fun h => absurd h (by decide))
        refine x_lload (pc := 110) C 0 dX6_guessBy_110 rfl ?_
        refine x_l2i (pc := 112) C dX6_guessBy_112 ?_
        refine x_iret (pc := 113) C Rt0 dX6_guessBy_113 rfl ?_
        refine ⟨_, rfl, rfl, ?_⟩
        rw [hgs]; omega
      · refine x_if_le (pc := 98) C 110 dX6_guessBy_98 rfl ⟨by decide, by decide⟩ (fun h => absurd h (by decide)) (fun _ => ?_)
        refine x_aload_n (pc := 101) C 2 dX6_guessBy_101 rfl ?_
        refine x_get (pc := 102) C 0 20 dX6_guessBy_102 hiX6_guessBy_6 hfX6_guessBy_45 rfl rfl rfl (by decide) rfl ?_
        refine x_iload_n (pc := 105) C 3 dX6_guessBy_105 rfl ?_
        refine x_iald (pc := 106) C 11 dX6_guessBy_106 rfl (by omega) (by omega) (by decide) ?_
        refine x_goto (pc := 107) C 113 dX6_guessBy_107 rfl ?_
        refine x_iret (pc := 113) C Rt0 dX6_guessBy_113 rfl ?_
        refine ⟨_, rfl, rfl, ?_⟩
        rw [hgs]; omega
    · refine x_if_ge (pc := 76) C 88 dX6_guessBy_76 rfl ⟨by decide, by decide⟩ (fun _ => ?_) (fun h => absurd h (by decide))
      refine x_lload (pc := 88) C 0 dX6_guessBy_88 rfl ?_
      refine x_aload_n (pc := 90) C 2 dX6_guessBy_90 rfl ?_
      refine x_get (pc := 91) C 0 20 dX6_guessBy_91 hiX6_guessBy_6 hfX6_guessBy_45 rfl rfl rfl (by decide) rfl ?_
      refine x_iload_n (pc := 94) C 3 dX6_guessBy_94 rfl ?_
      refine x_iald (pc := 95) C 11 dX6_guessBy_95 rfl (by omega) (by omega) (by decide) ?_
      refine x_i2l (pc := 96) C dX6_guessBy_96 ⟨by omega, by omega⟩ ?_
      refine x_lcmp (pc := 97) C dX6_guessBy_97 ⟨by omega, by omega⟩ ⟨by omega, by omega⟩ (fun c_97 => ?_) (fun c_97 => ?_) (fun c_97 => ?_)
      · refine x_if_le (pc := 98) C 110 dX6_guessBy_98 rfl ⟨by decide, by decide⟩ (fun _ => ?_) (fun h => absurd h (by decide))
        refine x_lload (pc := 110) C 0 dX6_guessBy_110 rfl ?_
        refine x_l2i (pc := 112) C dX6_guessBy_112 ?_
        refine x_iret (pc := 113) C Rt0 dX6_guessBy_113 rfl ?_
        refine ⟨_, rfl, rfl, ?_⟩
        rw [hgs]; omega
      · refine x_if_le (pc := 98) C 110 dX6_guessBy_98 rfl ⟨by decide, by decide⟩ (fun _ => ?_) (fun h => absurd h (by decide))
        refine x_lload (pc := 110) C 0 dX6_guessBy_110 rfl ?_
        refine x_l2i (pc := 112) C dX6_guessBy_112 ?_
        refine x_iret (pc := 113) C Rt0 dX6_guessBy_113 rfl ?_
        refine ⟨_, rfl, rfl, ?_⟩
        rw [hgs]; omega
      · refine x_if_le (pc := 98) C 110 dX6_guessBy_98 rfl ⟨by decide, by decide⟩ (fun h => absurd h (by decide)) (fun _ => ?_)
        refine x_aload_n (pc := 101) C 2 dX6_guessBy_101 rfl ?_
        refine x_get (pc := 102) C 0 20 dX6_guessBy_102 hiX6_guessBy_6 hfX6_guessBy_45 rfl rfl rfl (by decide) rfl ?_
        refine x_iload_n (pc := 105) C 3 dX6_guessBy_105 rfl ?_
        refine x_iald (pc := 106) C 11 dX6_guessBy_106 rfl (by omega) (by omega) (by decide) ?_
        refine x_goto (pc := 107) C 113 dX6_guessBy_107 rfl ?_
        refine x_iret (pc := 113) C Rt0 dX6_guessBy_113 rfl ?_
        refine ⟨_, rfl, rfl, ?_⟩
        rw [hgs]; omega
  refine x_lload_n (pc := 17) C 0 dX6_guessBy_17 rfl ?_
  refine x_lconst (pc := 18) C (z := 0) dX6_guessBy_18 rfl ?_
  refine x_lcmp (pc := 19) C dX6_guessBy_19 ⟨by omega, by omega⟩ ⟨by decide, by decide⟩ (fun c_19 => ?_) (fun c_19 => ?_) (fun c_19 => ?_)
  · refine x_if_lt (pc := 20) C 34 dX6_guessBy_20 rfl ⟨by decide, by decide⟩ (fun _ => ?_) (fun h => absurd h (by decide))
    refine x_aload_n (pc := 34) C 1 dX6_guessBy_34 rfl ?_
    refine x_get (pc := 35) C 0 23 dX6_guessBy_35 hiX6_guessBy_6 hfX6_guessBy_55 rfl rfl rfl (by decide) rfl ?_
    refine x_iload_n (pc := 38) C 2 dX6_guessBy_38 rfl ?_
    refine x_lald (pc := 39) C 14 dX6_guessBy_39 rfl (by omega) (by omega) (by decide) ?_
    refine x_lconst (pc := 40) C (z := 1) dX6_guessBy_40 rfl ?_
    refine x_lsub (pc := 41) C dX6_guessBy_41 ?_
    refine x_lload_n (pc := 42) C 0 dX6_guessBy_42 rfl ?_
    refine x_lsub (pc := 43) C dX6_guessBy_43 ?_
    refine x_aload_n (pc := 44) C 1 dX6_guessBy_44 rfl ?_
    refine x_get (pc := 45) C 0 23 dX6_guessBy_45 hiX6_guessBy_6 hfX6_guessBy_55 rfl rfl rfl (by decide) rfl ?_
    refine x_iload_n (pc := 48) C 2 dX6_guessBy_48 rfl ?_
    refine x_lald (pc := 49) C 14 dX6_guessBy_49 rfl (by omega) (by omega) (by decide) ?_
    refine x_ldiv (pc := 50) C dX6_guessBy_50 ⟨by omega, by omega⟩ ⟨by omega, by omega⟩ (by first | decide | omega) ?_
    rw [show (((bs p) - 1) - ((us p) * (x - (fk p)))).tdiv (bs p) = -(us p * (x - fk p) / bs p) from (fln (by omega) (by omega))]
    refine x_lneg (pc := 51) C dX6_guessBy_51 ?_
    refine x_locals (lv' := [(0, .ref o), (1, jv p), (2, jv x)]) [1, 2, 3] rfl ?_
    refine L52 _ ?_
    · omega
  · refine x_if_lt (pc := 20) C 34 dX6_guessBy_20 rfl ⟨by decide, by decide⟩ (fun h => absurd h (by decide)) (fun _ => ?_)
    refine x_lload_n (pc := 23) C 0 dX6_guessBy_23 rfl ?_
    refine x_aload_n (pc := 24) C 1 dX6_guessBy_24 rfl ?_
    refine x_get (pc := 25) C 0 23 dX6_guessBy_25 hiX6_guessBy_6 hfX6_guessBy_55 rfl rfl rfl (by decide) rfl ?_
    refine x_iload_n (pc := 28) C 2 dX6_guessBy_28 rfl ?_
    refine x_lald (pc := 29) C 14 dX6_guessBy_29 rfl (by omega) (by omega) (by decide) ?_
    refine x_ldiv (pc := 30) C dX6_guessBy_30 ⟨by omega, by omega⟩ ⟨by omega, by omega⟩ (by first | decide | omega) ?_
    rw [show ((us p) * (x - (fk p))).tdiv (bs p) = us p * (x - fk p) / bs p from (Int.tdiv_eq_ediv_of_nonneg (by omega))]
    refine x_goto (pc := 31) C 52 dX6_guessBy_31 rfl ?_
    refine x_locals (lv' := [(0, .ref o), (1, jv p), (2, jv x)]) [1, 2, 3] rfl ?_
    refine L52 _ ?_
    · omega
  · refine x_if_lt (pc := 20) C 34 dX6_guessBy_20 rfl ⟨by decide, by decide⟩ (fun h => absurd h (by decide)) (fun _ => ?_)
    refine x_lload_n (pc := 23) C 0 dX6_guessBy_23 rfl ?_
    refine x_aload_n (pc := 24) C 1 dX6_guessBy_24 rfl ?_
    refine x_get (pc := 25) C 0 23 dX6_guessBy_25 hiX6_guessBy_6 hfX6_guessBy_55 rfl rfl rfl (by decide) rfl ?_
    refine x_iload_n (pc := 28) C 2 dX6_guessBy_28 rfl ?_
    refine x_lald (pc := 29) C 14 dX6_guessBy_29 rfl (by omega) (by omega) (by decide) ?_
    refine x_ldiv (pc := 30) C dX6_guessBy_30 ⟨by omega, by omega⟩ ⟨by omega, by omega⟩ (by first | decide | omega) ?_
    rw [show ((us p) * (x - (fk p))).tdiv (bs p) = us p * (x - fk p) / bs p from (Int.tdiv_eq_ediv_of_nonneg (by omega))]
    refine x_goto (pc := 31) C 52 dX6_guessBy_31 rfl ?_
    refine x_locals (lv' := [(0, .ref o), (1, jv p), (2, jv x)]) [1, 2, 3] rfl ?_
    refine L52 _ ?_
    · omega

set_option maxRecDepth 100000 in
theorem hiX6_guess_6 : ∀ w ∈ wsX60, w ∈ wsX6_guess := by decide +kernel
set_option maxRecDepth 100000 in
theorem hfX6_guess_69 : Cond.fieldLink RX6 69 "KeyGuessModel" "rowMany" "I" ∈ wsX6_guess := by decide +kernel
set_option maxHeartbeats 4000000 in
set_option maxRecDepth 100000 in
/-- guess -/
theorem ctX6_guess (l : Launch) (g : xG) (o : Nat) (d1 : Nat) (d2 : Nat) (d3 : Nat) (d4 : Nat) (d5 : Nat) (d6 : Nat) (d7 : Nat) (d8 : Nat) (d9 : Nat) (da : Nat) (db : Nat) (dc : Nat) (dd : Nat) (de : Nat) (rn : Int) (e : Int) (nc : Int) (oc : Int) (co : Int) (un : Int) (kn : Int) (lU : Int) (lB : Int) (vn : Int) (lk : Int) (rf : Int → Int) (nw : Int → Int) (ol : Int → Int) (bt : Int → Bool) (uf : Int → Int) (kf : Int → Int) (re : Int → Int) (fw : Int → Int) (pm : Int → Int) (fs : Int → Int) (la : Int → Int) (fk : Int → Int) (us : Int → Int) (bs : Int → Int) (u : Int) (y : Int → Int) (he : 0 ≤ e ∧ e ≤ 8) (hL : LvM y e rn vn pm fs la fk us bs) (hrn : 0 ≤ rn ∧ rn ≤ 60) (ru : Rg u) : Ct l g yX6_guess wsX6_guess ({ frames := 2, cells := 0, slots := 0, locals := 44 } : Room) 0 0 [(o, ob 6 [jv rn, .ref d1, jv e, jv nc, .ref d2, jv oc, .ref d3, jv co, .ref d4, jv un, .ref d5, jv kn, .ref d6, .ref d7, .ref d8, Jv lU, Jv lB, jv vn, .ref d9, .ref da, .ref db, .ref dc, .ref dd, .ref de, jv lk]), (d1, ai g 61 rf), (d2, ai g 9 nw), (d3, ai g 9 ol), (d4, az g 64 bt), (d5, ai g 70 uf), (d6, ai g 70 kf), (d7, ai g 70 re), (d8, ai g 71 fw), (d9, ai g 10 pm), (da, ai g 600 fs), (db, ai g 600 la), (dc, ai g 600 fk), (dd, al g 600 us), (de, al g 600 bs)] [.ref o, jv u] (fun rV rU => (rV = some (jv (-2)) ∧ rU = [(o, ob 6 [jv rn, .ref d1, jv e, jv nc, .ref d2, jv oc, .ref d3, jv co, .ref d4, jv un, .ref d5, jv kn, .ref d6, .ref d7, .ref d8, Jv lU, Jv lB, jv vn, .ref d9, .ref da, .ref db, .ref dc, .ref dd, .ref de, jv lk]), (d1, ai g 61 rf), (d2, ai g 9 nw), (d3, ai g 9 ol), (d4, az g 64 bt), (d5, ai g 70 uf), (d6, ai g 70 kf), (d7, ai g 70 re), (d8, ai g 71 fw), (d9, ai g 10 pm), (da, ai g 600 fs), (db, ai g 600 la), (dc, ai g 600 fk), (dd, al g 600 us), (de, al g 600 bs)] ∧ (u < 0 ∨ 1000000 < u)) ∨ (rV = some (jv (-1)) ∧ rU = [(o, ob 6 [jv rn, .ref d1, jv e, jv nc, .ref d2, jv oc, .ref d3, jv co, .ref d4, jv un, .ref d5, jv kn, .ref d6, .ref d7, .ref d8, Jv lU, Jv lB, jv vn, .ref d9, .ref da, .ref db, .ref dc, .ref dd, .ref de, jv lk]), (d1, ai g 61 rf), (d2, ai g 9 nw), (d3, ai g 9 ol), (d4, az g 64 bt), (d5, ai g 70 uf), (d6, ai g 70 kf), (d7, ai g 70 re), (d8, ai g 71 fw), (d9, ai g 10 pm), (da, ai g 600 fs), (db, ai g 600 la), (dc, ai g 600 fk), (dd, al g 600 us), (de, al g 600 bs)] ∧ (0 ≤ u ∧ u ≤ 1000000 ∧ rn = 0)) ∨ (∃ (r : Int) (p : Int), rV = some (jv r) ∧ rU = [(o, ob 6 [jv rn, .ref d1, jv e, jv nc, .ref d2, jv oc, .ref d3, jv co, .ref d4, jv un, .ref d5, jv kn, .ref d6, .ref d7, .ref d8, Jv lU, Jv lB, jv vn, .ref d9, .ref da, .ref db, .ref dc, .ref dd, .ref de, jv lk]), (d1, ai g 61 rf), (d2, ai g 9 nw), (d3, ai g 9 ol), (d4, az g 64 bt), (d5, ai g 70 uf), (d6, ai g 70 kf), (d7, ai g 70 re), (d8, ai g 71 fw), (d9, ai g 10 pm), (da, ai g 600 fs), (db, ai g 600 la), (dc, ai g 600 fk), (dd, al g 600 us), (de, al g 600 bs)] ∧ (0 ≤ u ∧ u ≤ 1000000 ∧ 1 ≤ rn ∧ Pf (PM y e rn) (P2 y e rn) u p ∧ r = gs y e rn p u))) := by
  refine ct_of (cc := cX6_guess) (nL := 2) (ret := (some .int)) (by decide) rfl (Nat.le_of_ble_eq_true rfl) ?_
  intro E C Rt0
  have C : Cx l g E ({ frames := 2, cells := 0, slots := 0, locals := 44 } : Room) RX6 "guess" cX6_guess wsX6_guess 2 := C
  show X l g E ({ frames := 2, cells := 0, slots := 0, locals := 44 } : Room) 2 [(o, ob 6 [jv rn, .ref d1, jv e, jv nc, .ref d2, jv oc, .ref d3, jv co, .ref d4, jv un, .ref d5, jv kn, .ref d6, .ref d7, .ref d8, Jv lU, Jv lB, jv vn, .ref d9, .ref da, .ref db, .ref dc, .ref dd, .ref de, jv lk]), (d1, ai g 61 rf), (d2, ai g 9 nw), (d3, ai g 9 ol), (d4, az g 64 bt), (d5, ai g 70 uf), (d6, ai g 70 kf), (d7, ai g 70 re), (d8, ai g 71 fw), (d9, ai g 10 pm), (da, ai g 600 fs), (db, ai g 600 la), (dc, ai g 600 fk), (dd, al g 600 us), (de, al g 600 bs)] 0 0 [(0, .ref o), (1, jv u)] 0 []
  have hz := hL.1.zero hrn.1
  refine x_iload_n (pc := 0) C 1 dX6_guess_0 rfl ?_
  refine x_callS (pc := 1) C (n := 1) (rest := []) (wr := [(o, ob 6 [jv rn, .ref d1, jv e, jv nc, .ref d2, jv oc, .ref d3, jv co, .ref d4, jv un, .ref d5, jv kn, .ref d6, .ref d7, .ref d8, Jv lU, Jv lB, jv vn, .ref d9, .ref da, .ref db, .ref dc, .ref dd, .ref de, jv lk]), (d1, ai g 61 rf), (d2, ai g 9 nw), (d3, ai g 9 ol), (d4, az g 64 bt), (d5, ai g 70 uf), (d6, ai g 70 kf), (d7, ai g 70 re), (d8, ai g 71 fw), (d9, ai g 10 pm), (da, ai g 600 fs), (db, ai g 600 la), (dc, ai g 600 fk), (dd, al g 600 us), (de, al g 600 bs)]) [] [0, 1, 2, 3, 4, 5, 6, 7, 8, 9, 10, 11, 12, 13, 14] (ctX6_isNumber l g u ru) gX6_guess_X6_isNumber rfl (by decide +kernel) ⟨rfl, rfl⟩ ⟨by decide, by decide⟩ rfl rfl rfl (by decide) (by decide) (by decide) rfl (Nat.le_of_ble_eq_true rfl) dX6_guess_1 ⟨by decide, by decide⟩ (fun v_1 u_1 h_1 => ?_)
  rcases h_1 with ⟨rfl, rfl, f_1⟩ | ⟨rfl, rfl, f_1⟩
  · refine x_world (ws' := [(o, ob 6 [jv rn, .ref d1, jv e, jv nc, .ref d2, jv oc, .ref d3, jv co, .ref d4, jv un, .ref d5, jv kn, .ref d6, .ref d7, .ref d8, Jv lU, Jv lB, jv vn, .ref d9, .ref da, .ref db, .ref dc, .ref dd, .ref de, jv lk]), (d1, ai g 61 rf), (d2, ai g 9 nw), (d3, ai g 9 ol), (d4, az g 64 bt), (d5, ai g 70 uf), (d6, ai g 70 kf), (d7, ai g 70 re), (d8, ai g 71 fw), (d9, ai g 10 pm), (da, ai g 600 fs), (db, ai g 600 la), (dc, ai g 600 fk), (dd, al g 600 us), (de, al g 600 bs)]) [0, 1, 2, 3, 4, 5, 6, 7, 8, 9, 10, 11, 12, 13, 14] (by decide) rfl ?_
    show X l g E ({ frames := 2, cells := 0, slots := 0, locals := 44 } : Room) 2 [(o, ob 6 [jv rn, .ref d1, jv e, jv nc, .ref d2, jv oc, .ref d3, jv co, .ref d4, jv un, .ref d5, jv kn, .ref d6, .ref d7, .ref d8, Jv lU, Jv lB, jv vn, .ref d9, .ref da, .ref db, .ref dc, .ref dd, .ref de, jv lk]), (d1, ai g 61 rf), (d2, ai g 9 nw), (d3, ai g 9 ol), (d4, az g 64 bt), (d5, ai g 70 uf), (d6, ai g 70 kf), (d7, ai g 70 re), (d8, ai g 71 fw), (d9, ai g 10 pm), (da, ai g 600 fs), (db, ai g 600 la), (dc, ai g 600 fk), (dd, al g 600 us), (de, al g 600 bs)] 0 0 [(0, .ref o), (1, jv u)] 4 [jv 1]
    refine x_if_ne (pc := 4) C 10 dX6_guess_4 rfl ⟨by decide, by decide⟩ (fun _ => ?_) (fun h => absurd h (by decide))
    refine x_aload_n (pc := 10) C 0 dX6_guess_10 rfl ?_
    refine x_get (pc := 11) C 0 0 dX6_guess_11 hiX6_guess_6 hfX6_guess_69 rfl rfl rfl (by decide) rfl ?_
    refine x_if_ne (pc := 14) C 21 dX6_guess_14 rfl ⟨by omega, by omega⟩ (fun c_14 => ?_) (fun c_14 => ?_)
    · refine x_aload_n (pc := 21) C 0 dX6_guess_21 rfl ?_
      refine x_aload_n (pc := 22) C 0 dX6_guess_22 rfl ?_
      refine x_iload_n (pc := 23) C 1 dX6_guess_23 rfl ?_
      refine x_callV (pc := 24) C (n := 1) (q0 := 0) (rest := [.ref o]) (wr := []) [0, 1, 2, 3, 4, 5, 6, 7, 8, 9, 10, 11, 12, 13, 14] [] (ctX6_pieceFor l g o d1 d2 d3 d4 d5 d6 d7 d8 d9 da db dc dd de rn e nc oc co un kn lU lB vn lk rf nw ol bt uf kf re fw pm fs la fk us bs u y he hL (by omega) ⟨by omega, by omega⟩) gX6_guess_X6_pieceFor rfl ⟨rfl, rfl⟩ (by decide +kernel) ⟨by decide, by decide⟩ rfl rfl rfl rfl rfl (by decide) (by decide) (by decide) rfl (Nat.le_of_ble_eq_true rfl) dX6_guess_24 ⟨by decide, by decide⟩ (fun v_24 u_24 h_24 => ?_)
      rcases h_24 with ⟨p, rfl, rfl, f_24⟩
      refine x_world (ws' := [(o, ob 6 [jv rn, .ref d1, jv e, jv nc, .ref d2, jv oc, .ref d3, jv co, .ref d4, jv un, .ref d5, jv kn, .ref d6, .ref d7, .ref d8, Jv lU, Jv lB, jv vn, .ref d9, .ref da, .ref db, .ref dc, .ref dd, .ref de, jv lk]), (d1, ai g 61 rf), (d2, ai g 9 nw), (d3, ai g 9 ol), (d4, az g 64 bt), (d5, ai g 70 uf), (d6, ai g 70 kf), (d7, ai g 70 re), (d8, ai g 71 fw), (d9, ai g 10 pm), (da, ai g 600 fs), (db, ai g 600 la), (dc, ai g 600 fk), (dd, al g 600 us), (de, al g 600 bs)]) [0, 1, 2, 3, 4, 5, 6, 7, 8, 9, 10, 11, 12, 13, 14] (by decide) rfl ?_
      show X l g E ({ frames := 2, cells := 0, slots := 0, locals := 44 } : Room) 2 [(o, ob 6 [jv rn, .ref d1, jv e, jv nc, .ref d2, jv oc, .ref d3, jv co, .ref d4, jv un, .ref d5, jv kn, .ref d6, .ref d7, .ref d8, Jv lU, Jv lB, jv vn, .ref d9, .ref da, .ref db, .ref dc, .ref dd, .ref de, jv lk]), (d1, ai g 61 rf), (d2, ai g 9 nw), (d3, ai g 9 ol), (d4, az g 64 bt), (d5, ai g 70 uf), (d6, ai g 70 kf), (d7, ai g 70 re), (d8, ai g 71 fw), (d9, ai g 10 pm), (da, ai g 600 fs), (db, ai g 600 la), (dc, ai g 600 fk), (dd, al g 600 us), (de, al g 600 bs)] 0 0 [(0, .ref o), (1, jv u)] 27 [jv p, .ref o]
      refine x_iload_n (pc := 27) C 1 dX6_guess_27 rfl ?_
      refine x_callV (pc := 28) C (n := 2) (q0 := 0) (rest := []) (wr := []) [0, 1, 2, 3, 4, 5, 6, 7, 8, 9, 10, 11, 12, 13, 14] [] (ctX6_guessBy l g o d1 d2 d3 d4 d5 d6 d7 d8 d9 da db dc dd de rn e nc oc co un kn lU lB vn lk rf nw ol bt uf kf re fw pm fs la fk us bs p u y he hL (by omega) ⟨f_24.1, f_24.2.1⟩ ⟨by omega, by omega⟩) gX6_guess_X6_guessBy rfl ⟨rfl, rfl⟩ (by decide +kernel) ⟨by decide, by decide⟩ rfl rfl rfl rfl rfl (by decide) (by decide) (by decide) rfl (Nat.le_of_ble_eq_true rfl) dX6_guess_28 ⟨by decide, by decide⟩ (fun v_28 u_28 h_28 => ?_)
      rcases h_28 with ⟨r, rfl, rfl, f_28⟩
      refine x_world (ws' := [(o, ob 6 [jv rn, .ref d1, jv e, jv nc, .ref d2, jv oc, .ref d3, jv co, .ref d4, jv un, .ref d5, jv kn, .ref d6, .ref d7, .ref d8, Jv lU, Jv lB, jv vn, .ref d9, .ref da, .ref db, .ref dc, .ref dd, .ref de, jv lk]), (d1, ai g 61 rf), (d2, ai g 9 nw), (d3, ai g 9 ol), (d4, az g 64 bt), (d5, ai g 70 uf), (d6, ai g 70 kf), (d7, ai g 70 re), (d8, ai g 71 fw), (d9, ai g 10 pm), (da, ai g 600 fs), (db, ai g 600 la), (dc, ai g 600 fk), (dd, al g 600 us), (de, al g 600 bs)]) [0, 1, 2, 3, 4, 5, 6, 7, 8, 9, 10, 11, 12, 13, 14] (by decide) rfl ?_
      show X l g E ({ frames := 2, cells := 0, slots := 0, locals := 44 } : Room) 2 [(o, ob 6 [jv rn, .ref d1, jv e, jv nc, .ref d2, jv oc, .ref d3, jv co, .ref d4, jv un, .ref d5, jv kn, .ref d6, .ref d7, .ref d8, Jv lU, Jv lB, jv vn, .ref d9, .ref da, .ref db, .ref dc, .ref dd, .ref de, jv lk]), (d1, ai g 61 rf), (d2, ai g 9 nw), (d3, ai g 9 ol), (d4, az g 64 bt), (d5, ai g 70 uf), (d6, ai g 70 kf), (d7, ai g 70 re), (d8, ai g 71 fw), (d9, ai g 10 pm), (da, ai g 600 fs), (db, ai g 600 la), (dc, ai g 600 fk), (dd, al g 600 us), (de, al g 600 bs)] 0 0 [(0, .ref o), (1, jv u)] 31 [jv r]
      refine x_iret (pc := 31) C Rt0 dX6_guess_31 rfl ?_
      refine Or.inr (Or.inr (⟨_, p, rfl, rfl, ?_⟩))
      exact ⟨by omega, by omega, by omega, f_24, f_28⟩
    · refine x_iconst (pc := 17) C dX6_guess_17 ?_
      refine x_goto (pc := 18) C 31 dX6_guess_18 rfl ?_
      refine x_iret (pc := 31) C Rt0 dX6_guess_31 rfl ?_
      refine Or.inr (Or.inl ⟨rfl, rfl, ?_⟩)
      omega
  · refine x_world (ws' := [(o, ob 6 [jv rn, .ref d1, jv e, jv nc, .ref d2, jv oc, .ref d3, jv co, .ref d4, jv un, .ref d5, jv kn, .ref d6, .ref d7, .ref d8, Jv lU, Jv lB, jv vn, .ref d9, .ref da, .ref db, .ref dc, .ref dd, .ref de, jv lk]), (d1, ai g 61 rf), (d2, ai g 9 nw), (d3, ai g 9 ol), (d4, az g 64 bt), (d5, ai g 70 uf), (d6, ai g 70 kf), (d7, ai g 70 re), (d8, ai g 71 fw), (d9, ai g 10 pm), (da, ai g 600 fs), (db, ai g 600 la), (dc, ai g 600 fk), (dd, al g 600 us), (de, al g 600 bs)]) [0, 1, 2, 3, 4, 5, 6, 7, 8, 9, 10, 11, 12, 13, 14] (by decide) rfl ?_
    show X l g E ({ frames := 2, cells := 0, slots := 0, locals := 44 } : Room) 2 [(o, ob 6 [jv rn, .ref d1, jv e, jv nc, .ref d2, jv oc, .ref d3, jv co, .ref d4, jv un, .ref d5, jv kn, .ref d6, .ref d7, .ref d8, Jv lU, Jv lB, jv vn, .ref d9, .ref da, .ref db, .ref dc, .ref dd, .ref de, jv lk]), (d1, ai g 61 rf), (d2, ai g 9 nw), (d3, ai g 9 ol), (d4, az g 64 bt), (d5, ai g 70 uf), (d6, ai g 70 kf), (d7, ai g 70 re), (d8, ai g 71 fw), (d9, ai g 10 pm), (da, ai g 600 fs), (db, ai g 600 la), (dc, ai g 600 fk), (dd, al g 600 us), (de, al g 600 bs)] 0 0 [(0, .ref o), (1, jv u)] 4 [jv 0]
    refine x_if_ne (pc := 4) C 10 dX6_guess_4 rfl ⟨by decide, by decide⟩ (fun h => absurd h (by decide)) (fun _ => ?_)
    refine x_bipush (pc := 7) C dX6_guess_7 rfl ?_
    refine x_iret (pc := 9) C Rt0 dX6_guess_9 rfl ?_
    refine Or.inl ⟨rfl, rfl, ?_⟩
    omega

set_option maxRecDepth 100000 in
theorem hiX6_lookFor_6 : ∀ w ∈ wsX60, w ∈ wsX6_lookFor := by decide +kernel
set_option maxRecDepth 100000 in
theorem hfX6_lookFor_155 : Cond.fieldLink RX6 155 "KeyGuessModel" "looked" "I" ∈ wsX6_lookFor := by decide +kernel
set_option maxRecDepth 100000 in
theorem hfX6_lookFor_69 : Cond.fieldLink RX6 69 "KeyGuessModel" "rowMany" "I" ∈ wsX6_lookFor := by decide +kernel
set_option maxRecDepth 100000 in
theorem hfX6_lookFor_13 : Cond.fieldLink RX6 13 "KeyGuessModel" "e" "I" ∈ wsX6_lookFor := by decide +kernel
set_option maxRecDepth 100000 in
theorem hfX6_lookFor_42 : Cond.fieldLink RX6 42 "KeyGuessModel" "firsts" "[I" ∈ wsX6_lookFor := by decide +kernel
set_option maxRecDepth 100000 in
theorem hfX6_lookFor_45 : Cond.fieldLink RX6 45 "KeyGuessModel" "lasts" "[I" ∈ wsX6_lookFor := by decide +kernel
set_option maxRecDepth 100000 in
theorem hfX6_lookFor_7 : Cond.fieldLink RX6 7 "KeyGuessModel" "row" "[I" ∈ wsX6_lookFor := by decide +kernel
set_option maxHeartbeats 4000000 in
set_option maxRecDepth 100000 in
/-- lookFor -/
theorem ctX6_lookFor (l : Launch) (g : xG) (o : Nat) (d1 : Nat) (d2 : Nat) (d3 : Nat) (d4 : Nat) (d5 : Nat) (d6 : Nat) (d7 : Nat) (d8 : Nat) (d9 : Nat) (da : Nat) (db : Nat) (dc : Nat) (dd : Nat) (de : Nat) (rn : Int) (e : Int) (nc : Int) (oc : Int) (co : Int) (un : Int) (kn : Int) (lU : Int) (lB : Int) (vn : Int) (lk : Int) (rf : Int → Int) (nw : Int → Int) (ol : Int → Int) (bt : Int → Bool) (uf : Int → Int) (kf : Int → Int) (re : Int → Int) (fw : Int → Int) (pm : Int → Int) (fs : Int → Int) (la : Int → Int) (fk : Int → Int) (us : Int → Int) (bs : Int → Int) (x : Int) (y : Int → Int) (he : 0 ≤ e ∧ e ≤ 8) (hr : Kr rn rf) (hy : Agr rn rf y) (hL : LvM y e rn vn pm fs la fk us bs) (hx : 0 ≤ x ∧ x ≤ 1000000) : Ct l g yX6_lookFor wsX6_lookFor ({ frames := 2, cells := 0, slots := 0, locals := 44 } : Room) 0 0 [(o, ob 6 [jv rn, .ref d1, jv e, jv nc, .ref d2, jv oc, .ref d3, jv co, .ref d4, jv un, .ref d5, jv kn, .ref d6, .ref d7, .ref d8, Jv lU, Jv lB, jv vn, .ref d9, .ref da, .ref db, .ref dc, .ref dd, .ref de, jv lk]), (d1, ai g 61 rf), (d2, ai g 9 nw), (d3, ai g 9 ol), (d4, az g 64 bt), (d5, ai g 70 uf), (d6, ai g 70 kf), (d7, ai g 70 re), (d8, ai g 71 fw), (d9, ai g 10 pm), (da, ai g 600 fs), (db, ai g 600 la), (dc, ai g 600 fk), (dd, al g 600 us), (de, al g 600 bs)] [.ref o, jv x] (fun rV rU => ∃ (mt : Int) (sn : Int), rV = some (jv mt) ∧ rU = [(o, ob 6 [jv rn, .ref d1, jv e, jv nc, .ref d2, jv oc, .ref d3, jv co, .ref d4, jv un, .ref d5, jv kn, .ref d6, .ref d7, .ref d8, Jv lU, Jv lB, jv vn, .ref d9, .ref da, .ref db, .ref dc, .ref dd, .ref de, jv sn]), (d1, ai g 61 rf), (d2, ai g 9 nw), (d3, ai g 9 ol), (d4, az g 64 bt), (d5, ai g 70 uf), (d6, ai g 70 kf), (d7, ai g 70 re), (d8, ai g 71 fw), (d9, ai g 10 pm), (da, ai g 600 fs), (db, ai g 600 la), (dc, ai g 600 fk), (dd, al g 600 us), (de, al g 600 bs)] ∧ (LkR y e rn x mt sn)) := by
  refine ct_of (cc := cX6_lookFor) (nL := 6) (ret := (some .int)) (by decide) rfl (Nat.le_of_ble_eq_true rfl) ?_
  intro E C Rt0
  have C : Cx l g E ({ frames := 2, cells := 0, slots := 0, locals := 44 } : Room) RX6 "lookFor" cX6_lookFor wsX6_lookFor 6 := C
  show X l g E ({ frames := 2, cells := 0, slots := 0, locals := 44 } : Room) 6 [(o, ob 6 [jv rn, .ref d1, jv e, jv nc, .ref d2, jv oc, .ref d3, jv co, .ref d4, jv un, .ref d5, jv kn, .ref d6, .ref d7, .ref d8, Jv lU, Jv lB, jv vn, .ref d9, .ref da, .ref db, .ref dc, .ref dd, .ref de, jv lk]), (d1, ai g 61 rf), (d2, ai g 9 nw), (d3, ai g 9 ol), (d4, az g 64 bt), (d5, ai g 70 uf), (d6, ai g 70 kf), (d7, ai g 70 re), (d8, ai g 71 fw), (d9, ai g 10 pm), (da, ai g 600 fs), (db, ai g 600 la), (dc, ai g 600 fk), (dd, al g 600 us), (de, al g 600 bs)] 0 0 [(0, .ref o), (1, jv x)] 0 []
  have rn0 := hr.1
  have rn1 := hr.2.1
  have hz := hL.1.zero rn0
  refine x_aload_n (pc := 0) C 0 dX6_lookFor_0 rfl ?_
  refine x_iconst (pc := 1) C dX6_lookFor_1 ?_
  refine x_put (pc := 2) C (ty := .int) (ws' := [(o, ob 6 [jv rn, .ref d1, jv e, jv nc, .ref d2, jv oc, .ref d3, jv co, .ref d4, jv un, .ref d5, jv kn, .ref d6, .ref d7, .ref d8, Jv lU, Jv lB, jv vn, .ref d9, .ref da, .ref db, .ref dc, .ref dd, .ref de, jv 0]), (d1, ai g 61 rf), (d2, ai g 9 nw), (d3, ai g 9 ol), (d4, az g 64 bt), (d5, ai g 70 uf), (d6, ai g 70 kf), (d7, ai g 70 re), (d8, ai g 71 fw), (d9, ai g 10 pm), (da, ai g 600 fs), (db, ai g 600 la), (dc, ai g 600 fk), (dd, al g 600 us), (de, al g 600 bs)]) tyX6 0 24 dX6_lookFor_2 hiX6_lookFor_6 tyX6_ok nmX6 hfX6_lookFor_155 rfl rfl rfl (by decide) rfl (by decide +kernel) rfl rfl (Nat.le_of_ble_eq_true rfl) rfl ?_
  refine x_aload_n (pc := 5) C 0 dX6_lookFor_5 rfl ?_
  refine x_get (pc := 6) C 0 0 dX6_lookFor_6 hiX6_lookFor_6 hfX6_lookFor_69 rfl rfl rfl (by decide) rfl ?_
  refine x_if_ne (pc := 9) C 14 dX6_lookFor_9 rfl ⟨by omega, by omega⟩ (fun c_9 => ?_) (fun c_9 => ?_)
  · refine x_aload_n (pc := 14) C 0 dX6_lookFor_14 rfl ?_
    refine x_iload_n (pc := 15) C 1 dX6_lookFor_15 rfl ?_
    refine x_callV (pc := 16) C (n := 1) (q0 := 0) (rest := []) (wr := []) [0, 1, 2, 3, 4, 5, 6, 7, 8, 9, 10, 11, 12, 13, 14] [] (ctX6_pieceFor l g o d1 d2 d3 d4 d5 d6 d7 d8 d9 da db dc dd de rn e nc oc co un kn lU lB vn 0 rf nw ol bt uf kf re fw pm fs la fk us bs x y he hL (by omega) hx) gX6_lookFor_X6_pieceFor rfl ⟨rfl, rfl⟩ (by decide +kernel) ⟨by decide, by decide⟩ rfl rfl rfl rfl rfl (by decide) (by decide) (by decide) rfl (Nat.le_of_ble_eq_true rfl) dX6_lookFor_16 ⟨by decide, by decide⟩ (fun v_16 u_16 h_16 => ?_)
    rcases h_16 with ⟨p, rfl, rfl, f_16⟩
    refine x_world (ws' := [(o, ob 6 [jv rn, .ref d1, jv e, jv nc, .ref d2, jv oc, .ref d3, jv co, .ref d4, jv un, .ref d5, jv kn, .ref d6, .ref d7, .ref d8, Jv lU, Jv lB, jv vn, .ref d9, .ref da, .ref db, .ref dc, .ref dd, .ref de, jv 0]), (d1, ai g 61 rf), (d2, ai g 9 nw), (d3, ai g 9 ol), (d4, az g 64 bt), (d5, ai g 70 uf), (d6, ai g 70 kf), (d7, ai g 70 re), (d8, ai g 71 fw), (d9, ai g 10 pm), (da, ai g 600 fs), (db, ai g 600 la), (dc, ai g 600 fk), (dd, al g 600 us), (de, al g 600 bs)]) [0, 1, 2, 3, 4, 5, 6, 7, 8, 9, 10, 11, 12, 13, 14] (by decide) rfl ?_
    show X l g E ({ frames := 2, cells := 0, slots := 0, locals := 44 } : Room) 6 [(o, ob 6 [jv rn, .ref d1, jv e, jv nc, .ref d2, jv oc, .ref d3, jv co, .ref d4, jv un, .ref d5, jv kn, .ref d6, .ref d7, .ref d8, Jv lU, Jv lB, jv vn, .ref d9, .ref da, .ref db, .ref dc, .ref dd, .ref de, jv 0]), (d1, ai g 61 rf), (d2, ai g 9 nw), (d3, ai g 9 ol), (d4, az g 64 bt), (d5, ai g 70 uf), (d6, ai g 70 kf), (d7, ai g 70 re), (d8, ai g 71 fw), (d9, ai g 10 pm), (da, ai g 600 fs), (db, ai g 600 la), (dc, ai g 600 fk), (dd, al g 600 us), (de, al g 600 bs)] 0 0 [(0, .ref o), (1, jv x)] 19 [jv p]
    have hpp : 0 ≤ p ∧ p < PM y e rn := ⟨f_16.1, f_16.2.1⟩
    obtain ⟨hok, hp0, hA⟩ := hL.l0 (by omega)
    obtain ⟨a0, a1, a2, a3, a4⟩ := hA p hpp.1 hpp.2
    obtain ⟨b0, b1, b2, b3, b4, b5, b6, b7, b8⟩ := hok.p he.1 hpp.1 hpp.2
    have hpm := hok.pm he.1
    have hgu : gs y e rn p x = gs y e rn p x := rfl
    refine x_istore_n (pc := 19) C (lv' := [(2, jv p), (0, .ref o), (1, jv x)]) dX6_lookFor_19 (by decide) rfl ?_
    refine x_aload_n (pc := 20) C 1 dX6_lookFor_20 rfl ?_
    refine x_iload_n (pc := 21) C 0 dX6_lookFor_21 rfl ?_
    refine x_iload_n (pc := 22) C 2 dX6_lookFor_22 rfl ?_
    refine x_callV (pc := 23) C (n := 2) (q0 := 0) (rest := []) (wr := []) [0, 1, 2, 3, 4, 5, 6, 7, 8, 9, 10, 11, 12, 13, 14] [] (ctX6_guessBy l g o d1 d2 d3 d4 d5 d6 d7 d8 d9 da db dc dd de rn e nc oc co un kn lU lB vn 0 rf nw ol bt uf kf re fw pm fs la fk us bs p x y he hL (by omega) ⟨f_16.1, f_16.2.1⟩ hx) gX6_lookFor_X6_guessBy rfl ⟨rfl, rfl⟩ (by decide +kernel) ⟨by decide, by decide⟩ rfl rfl rfl rfl rfl (by decide) (by decide) (by decide) rfl (Nat.le_of_ble_eq_true rfl) dX6_lookFor_23 ⟨by decide, by decide⟩ (fun v_23 u_23 h_23 => ?_)
    rcases h_23 with ⟨gu, rfl, rfl, f_23⟩
    refine x_world (ws' := [(o, ob 6 [jv rn, .ref d1, jv e, jv nc, .ref d2, jv oc, .ref d3, jv co, .ref d4, jv un, .ref d5, jv kn, .ref d6, .ref d7, .ref d8, Jv lU, Jv lB, jv vn, .ref d9, .ref da, .ref db, .ref dc, .ref dd, .ref de, jv 0]), (d1, ai g 61 rf), (d2, ai g 9 nw), (d3, ai g 9 ol), (d4, az g 64 bt), (d5, ai g 70 uf), (d6, ai g 70 kf), (d7, ai g 70 re), (d8, ai g 71 fw), (d9, ai g 10 pm), (da, ai g 600 fs), (db, ai g 600 la), (dc, ai g 600 fk), (dd, al g 600 us), (de, al g 600 bs)]) [0, 1, 2, 3, 4, 5, 6, 7, 8, 9, 10, 11, 12, 13, 14] (by decide) rfl ?_
    show X l g E ({ frames := 2, cells := 0, slots := 0, locals := 44 } : Room) 6 [(o, ob 6 [jv rn, .ref d1, jv e, jv nc, .ref d2, jv oc, .ref d3, jv co, .ref d4, jv un, .ref d5, jv kn, .ref d6, .ref d7, .ref d8, Jv lU, Jv lB, jv vn, .ref d9, .ref da, .ref db, .ref dc, .ref dd, .ref de, jv 0]), (d1, ai g 61 rf), (d2, ai g 9 nw), (d3, ai g 9 ol), (d4, az g 64 bt), (d5, ai g 70 uf), (d6, ai g 70 kf), (d7, ai g 70 re), (d8, ai g 71 fw), (d9, ai g 10 pm), (da, ai g 600 fs), (db, ai g 600 la), (dc, ai g 600 fk), (dd, al g 600 us), (de, al g 600 bs)] 0 0 [(2, jv p), (0, .ref o), (1, jv x)] 26 [jv gu]
    have hg : P0 y e rn p ≤ gu ∧ gu ≤ P1 y e rn p := by
      rw [f_23]; unfold gs; omega
    refine x_istore_n (pc := 26) C (lv' := [(3, jv gu), (2, jv p), (0, .ref o), (1, jv x)]) dX6_lookFor_26 (by decide) rfl ?_
    refine x_iconst (pc := 27) C dX6_lookFor_27 ?_
    refine x_istore (pc := 28) C (lv' := [(4, jv 0), (3, jv gu), (2, jv p), (0, .ref o), (1, jv x)]) dX6_lookFor_28 (by decide) rfl ?_
    have L30 : ∀ (kμ : Nat) (t : Int) (sn : Int), (2 * e + 1 - t).toNat < kμ → (0 ≤ t ∧ t ≤ 2 * e + 1) → (0 ≤ sn ∧ sn ≤ t) → ((-1, sn) = lkS y x (P0 y e rn p) (P1 y e rn p) (gs y e rn p x) t.toNat) → X l g E ({ frames := 2, cells := 0, slots := 0, locals := 44 } : Room) 6 [(o, ob 6 [jv rn, .ref d1, jv e, jv nc, .ref d2, jv oc, .ref d3, jv co, .ref d4, jv un, .ref d5, jv kn, .ref d6, .ref d7, .ref d8, Jv lU, Jv lB, jv vn, .ref d9, .ref da, .ref db, .ref dc, .ref dd, .ref de, jv sn]), (d1, ai g 61 rf), (d2, ai g 9 nw), (d3, ai g 9 ol), (d4, az g 64 bt), (d5, ai g 70 uf), (d6, ai g 70 kf), (d7, ai g 70 re), (d8, ai g 71 fw), (d9, ai g 10 pm), (da, ai g 600 fs), (db, ai g 600 la), (dc, ai g 600 fk), (dd, al g 600 us), (de, al g 600 bs)] 0 0 [(0, .ref o), (1, jv x), (2, jv p), (3, jv gu), (4, jv t)] 30 [] := by
      intro kμ
      induction kμ with
      | zero => intro t sn hμ; exact absurd hμ (Nat.not_lt_zero _)
      | succ kμ ih30 =>
        intro t sn hμ ht hb hs
        refine x_iload (pc := 30) C 4 dX6_lookFor_30 rfl ?_
        refine x_iconst (pc := 32) C dX6_lookFor_32 ?_
        refine x_aload_n (pc := 33) C 0 dX6_lookFor_33 rfl ?_
        refine x_get (pc := 34) C 0 2 dX6_lookFor_34 hiX6_lookFor_6 hfX6_lookFor_13 rfl rfl rfl (by decide) rfl ?_
        refine x_imul (pc := 37) C dX6_lookFor_37 ?_
        refine x_icmp_gt (pc := 38) C 118 dX6_lookFor_38 rfl ⟨by omega, by omega⟩ ⟨by omega, by omega⟩ (fun c_38 => ?_) (fun c_38 => ?_)
        · refine x_iconst (pc := 118) C dX6_lookFor_118 ?_
          refine x_iret (pc := 119) C Rt0 dX6_lookFor_119 rfl ?_
          refine ⟨_, _, rfl, rfl, ?_⟩
          refine Or.inr ⟨by omega, p, f_16, ?_⟩
          rw [hs, show (2 * e + 1).toNat = t.toNat by omega]
        · have L66 : ∀ (r : Int), (r = gu + aw t) → (-100 ≤ r ∧ r ≤ 100) → X l g E ({ frames := 2, cells := 0, slots := 0, locals := 44 } : Room) 6 [(o, ob 6 [jv rn, .ref d1, jv e, jv nc, .ref d2, jv oc, .ref d3, jv co, .ref d4, jv un, .ref d5, jv kn, .ref d6, .ref d7, .ref d8, Jv lU, Jv lB, jv vn, .ref d9, .ref da, .ref db, .ref dc, .ref dd, .ref de, jv sn]), (d1, ai g 61 rf), (d2, ai g 9 nw), (d3, ai g 9 ol), (d4, az g 64 bt), (d5, ai g 70 uf), (d6, ai g 70 kf), (d7, ai g 70 re), (d8, ai g 71 fw), (d9, ai g 10 pm), (da, ai g 600 fs), (db, ai g 600 la), (dc, ai g 600 fk), (dd, al g 600 us), (de, al g 600 bs)] 0 0 [(0, .ref o), (1, jv x), (2, jv p), (3, jv gu), (4, jv t)] 66 [jv r] := by
            intro r hrw hrb
            have hm : (lkS y x (P0 y e rn p) (P1 y e rn p) (gs y e rn p x) t.toNat).1 = -1 := by rw [← hs]
            have hw2 : r = gs y e rn p x + aw ((t.toNat : Nat) : Int) := by rw [← f_23, Int.toNat_of_nonneg ht.1]; exact hrw
            refine x_istore (pc := 66) C (lv' := [(5, jv r), (0, .ref o), (1, jv x), (2, jv p), (3, jv gu), (4, jv t)]) dX6_lookFor_66 (by decide) rfl ?_
            refine x_iload (pc := 68) C 0 dX6_lookFor_68 rfl ?_
            refine x_aload_n (pc := 70) C 1 dX6_lookFor_70 rfl ?_
            refine x_get (pc := 71) C 0 19 dX6_lookFor_71 hiX6_lookFor_6 hfX6_lookFor_42 rfl rfl rfl (by decide) rfl ?_
            refine x_iload_n (pc := 74) C 3 dX6_lookFor_74 rfl ?_
            refine x_iald (pc := 75) C 10 dX6_lookFor_75 rfl (by omega) (by omega) (by decide) ?_
            refine x_aload_n (pc := 76) C 1 dX6_lookFor_76 rfl ?_
            refine x_get (pc := 77) C 0 20 dX6_lookFor_77 hiX6_lookFor_6 hfX6_lookFor_45 rfl rfl rfl (by decide) rfl ?_
            refine x_iload_n (pc := 80) C 3 dX6_lookFor_80 rfl ?_
            refine x_iald (pc := 81) C 11 dX6_lookFor_81 rfl (by omega) (by omega) (by decide) ?_
            refine x_callS (pc := 82) C (n := 3) (rest := []) (wr := [(o, ob 6 [jv rn, .ref d1, jv e, jv nc, .ref d2, jv oc, .ref d3, jv co, .ref d4, jv un, .ref d5, jv kn, .ref d6, .ref d7, .ref d8, Jv lU, Jv lB, jv vn, .ref d9, .ref da, .ref db, .ref dc, .ref dd, .ref de, jv sn]), (d1, ai g 61 rf), (d2, ai g 9 nw), (d3, ai g 9 ol), (d4, az g 64 bt), (d5, ai g 70 uf), (d6, ai g 70 kf), (d7, ai g 70 re), (d8, ai g 71 fw), (d9, ai g 10 pm), (da, ai g 600 fs), (db, ai g 600 la), (dc, ai g 600 fk), (dd, al g 600 us), (de, al g 600 bs)]) [] [0, 1, 2, 3, 4, 5, 6, 7, 8, 9, 10, 11, 12, 13, 14] (ctX6_in l g r (fs p) (la p) ⟨by omega, by omega⟩ ⟨by omega, by omega⟩ ⟨by omega, by omega⟩) gX6_lookFor_X6_in rfl (by decide +kernel) ⟨rfl, rfl⟩ ⟨by decide, by decide⟩ rfl rfl rfl (by decide) (by decide) (by decide) rfl (Nat.le_of_ble_eq_true rfl) dX6_lookFor_82 ⟨by decide, by decide⟩ (fun v_82 u_82 h_82 => ?_)
            rcases h_82 with ⟨rfl, rfl, f_82⟩ | ⟨rfl, rfl, f_82⟩
            · refine x_world (ws' := [(o, ob 6 [jv rn, .ref d1, jv e, jv nc, .ref d2, jv oc, .ref d3, jv co, .ref d4, jv un, .ref d5, jv kn, .ref d6, .ref d7, .ref d8, Jv lU, Jv lB, jv vn, .ref d9, .ref da, .ref db, .ref dc, .ref dd, .ref de, jv sn]), (d1, ai g 61 rf), (d2, ai g 9 nw), (d3, ai g 9 ol), (d4, az g 64 bt), (d5, ai g 70 uf), (d6, ai g 70 kf), (d7, ai g 70 re), (d8, ai g 71 fw), (d9, ai g 10 pm), (da, ai g 600 fs), (db, ai g 600 la), (dc, ai g 600 fk), (dd, al g 600 us), (de, al g 600 bs)]) [0, 1, 2, 3, 4, 5, 6, 7, 8, 9, 10, 11, 12, 13, 14] (by decide) rfl ?_
              show X l g E ({ frames := 2, cells := 0, slots := 0, locals := 44 } : Room) 6 [(o, ob 6 [jv rn, .ref d1, jv e, jv nc, .ref d2, jv oc, .ref d3, jv co, .ref d4, jv un, .ref d5, jv kn, .ref d6, .ref d7, .ref d8, Jv lU, Jv lB, jv vn, .ref d9, .ref da, .ref db, .ref dc, .ref dd, .ref de, jv sn]), (d1, ai g 61 rf), (d2, ai g 9 nw), (d3, ai g 9 ol), (d4, az g 64 bt), (d5, ai g 70 uf), (d6, ai g 70 kf), (d7, ai g 70 re), (d8, ai g 71 fw), (d9, ai g 10 pm), (da, ai g 600 fs), (db, ai g 600 la), (dc, ai g 600 fk), (dd, al g 600 us), (de, al g 600 bs)] 0 0 [(5, jv r), (0, .ref o), (1, jv x), (2, jv p), (3, jv gu), (4, jv t)] 85 [jv 1]
              refine x_if_eq (pc := 85) C 112 dX6_lookFor_85 rfl ⟨by decide, by decide⟩ (fun h => absurd h (by decide)) (fun _ => ?_)
              refine x_aload_n (pc := 88) C 1 dX6_lookFor_88 rfl ?_
              refine x_dup (pc := 89) C dX6_lookFor_89 rfl ?_
              refine x_get (pc := 90) C 0 24 dX6_lookFor_90 hiX6_lookFor_6 hfX6_lookFor_155 rfl rfl rfl (by decide) rfl ?_
              refine x_iconst (pc := 93) C dX6_lookFor_93 ?_
              refine x_iadd (pc := 94) C dX6_lookFor_94 ?_
              refine x_put (pc := 95) C (ty := .int) (ws' := [(o, ob 6 [jv rn, .ref d1, jv e, jv nc, .ref d2, jv oc, .ref d3, jv co, .ref d4, jv un, .ref d5, jv kn, .ref d6, .ref d7, .ref d8, Jv lU, Jv lB, jv vn, .ref d9, .ref da, .ref db, .ref dc, .ref dd, .ref de, jv (sn + 1)]), (d1, ai g 61 rf), (d2, ai g 9 nw), (d3, ai g 9 ol), (d4, az g 64 bt), (d5, ai g 70 uf), (d6, ai g 70 kf), (d7, ai g 70 re), (d8, ai g 71 fw), (d9, ai g 10 pm), (da, ai g 600 fs), (db, ai g 600 la), (dc, ai g 600 fk), (dd, al g 600 us), (de, al g 600 bs)]) tyX6 0 24 dX6_lookFor_95 hiX6_lookFor_6 tyX6_ok nmX6 hfX6_lookFor_155 rfl rfl rfl (by decide) rfl (by decide +kernel) rfl rfl (Nat.le_of_ble_eq_true rfl) rfl ?_
              refine x_aload_n (pc := 98) C 1 dX6_lookFor_98 rfl ?_
              refine x_get (pc := 99) C 0 1 dX6_lookFor_99 hiX6_lookFor_6 hfX6_lookFor_7 rfl rfl rfl (by decide) rfl ?_
              refine x_iload (pc := 102) C 0 dX6_lookFor_102 rfl ?_
              refine x_iald (pc := 104) C 1 dX6_lookFor_104 rfl (by omega) (by omega) (by decide) ?_
              have hfr := hr.2.2.1 r (by omega) (by omega)
              have hyr := hy r (by omega) (by omega)
              refine x_iload_n (pc := 105) C 2 dX6_lookFor_105 rfl ?_
              refine x_icmp_ne (pc := 106) C 112 dX6_lookFor_106 rfl ⟨by omega, by omega⟩ ⟨by omega, by omega⟩ (fun c_106 => ?_) (fun c_106 => ?_)
              · refine x_iinc (pc := 112) C (lv' := [(4, jv (t + 1)), (5, jv r), (0, .ref o), (1, jv x), (2, jv p), (3, jv gu)]) 5 dX6_lookFor_112 rfl (by decide) rfl ?_
                refine x_goto (pc := 115) C 30 dX6_lookFor_115 rfl ?_
                refine x_locals (lv' := [(0, .ref o), (1, jv x), (2, jv p), (3, jv gu), (4, jv (t + 1))]) [2, 3, 4, 5, 0] rfl ?_
                refine ih30 _ _ ?_ ?_ ?_ ?_
                · omega
                · omega
                · omega
                · rw [show (t + 1).toNat = t.toNat + 1 by omega]
                  rw [lkS_in hm (by rw [← hw2]; omega), ← hw2, ← hs, if_neg (by rw [← hyr]; exact c_106)]
              · refine x_iload (pc := 109) C 0 dX6_lookFor_109 rfl ?_
                refine x_iret (pc := 111) C Rt0 dX6_lookFor_111 rfl ?_
                refine ⟨_, _, rfl, rfl, ?_⟩
                refine Or.inr ⟨by omega, p, f_16, ?_⟩
                have q := lkS_in hm (by rw [← hw2]; omega)
                rw [← hw2, if_pos (by rw [← hyr]; omega), ← hs] at q
                rw [show (2 * e + 1).toNat = (t.toNat + 1) + (2 * e - t).toNat by omega, lkS_stop (by rw [q]; show r ≠ -1; omega), q]
            · refine x_world (ws' := [(o, ob 6 [jv rn, .ref d1, jv e, jv nc, .ref d2, jv oc, .ref d3, jv co, .ref d4, jv un, .ref d5, jv kn, .ref d6, .ref d7, .ref d8, Jv lU, Jv lB, jv vn, .ref d9, .ref da, .ref db, .ref dc, .ref dd, .ref de, jv sn]), (d1, ai g 61 rf), (d2, ai g 9 nw), (d3, ai g 9 ol), (d4, az g 64 bt), (d5, ai g 70 uf), (d6, ai g 70 kf), (d7, ai g 70 re), (d8, ai g 71 fw), (d9, ai g 10 pm), (da, ai g 600 fs), (db, ai g 600 la), (dc, ai g 600 fk), (dd, al g 600 us), (de, al g 600 bs)]) [0, 1, 2, 3, 4, 5, 6, 7, 8, 9, 10, 11, 12, 13, 14] (by decide) rfl ?_
              show X l g E ({ frames := 2, cells := 0, slots := 0, locals := 44 } : Room) 6 [(o, ob 6 [jv rn, .ref d1, jv e, jv nc, .ref d2, jv oc, .ref d3, jv co, .ref d4, jv un, .ref d5, jv kn, .ref d6, .ref d7, .ref d8, Jv lU, Jv lB, jv vn, .ref d9, .ref da, .ref db, .ref dc, .ref dd, .ref de, jv sn]), (d1, ai g 61 rf), (d2, ai g 9 nw), (d3, ai g 9 ol), (d4, az g 64 bt), (d5, ai g 70 uf), (d6, ai g 70 kf), (d7, ai g 70 re), (d8, ai g 71 fw), (d9, ai g 10 pm), (da, ai g 600 fs), (db, ai g 600 la), (dc, ai g 600 fk), (dd, al g 600 us), (de, al g 600 bs)] 0 0 [(5, jv r), (0, .ref o), (1, jv x), (2, jv p), (3, jv gu), (4, jv t)] 85 [jv 0]
              refine x_if_eq (pc := 85) C 112 dX6_lookFor_85 rfl ⟨by decide, by decide⟩ (fun _ => ?_) (fun h => absurd h (by decide))
              refine x_iinc (pc := 112) C (lv' := [(4, jv (t + 1)), (5, jv r), (0, .ref o), (1, jv x), (2, jv p), (3, jv gu)]) 5 dX6_lookFor_112 rfl (by decide) rfl ?_
              refine x_goto (pc := 115) C 30 dX6_lookFor_115 rfl ?_
              refine x_locals (lv' := [(0, .ref o), (1, jv x), (2, jv p), (3, jv gu), (4, jv (t + 1))]) [2, 3, 4, 5, 0] rfl ?_
              refine ih30 _ _ ?_ ?_ ?_ ?_
              · omega
              · omega
              · omega
              · rw [show (t + 1).toNat = t.toNat + 1 by omega]
                rw [lkS_out hm (by rw [← hw2]; omega)]; exact hs
          refine x_iload (pc := 41) C 4 dX6_lookFor_41 rfl ?_
          refine x_iconst (pc := 43) C dX6_lookFor_43 ?_
          refine x_irem (pc := 44) C dX6_lookFor_44 ⟨by omega, by omega⟩ ⟨by omega, by omega⟩ (by first | decide | omega) ?_
          rw [Int.tmod_eq_emod_of_nonneg ht.1]
          refine x_iconst (pc := 45) C dX6_lookFor_45 ?_
          refine x_icmp_ne (pc := 46) C 60 dX6_lookFor_46 rfl ⟨by omega, by omega⟩ ⟨by omega, by omega⟩ (fun c_46 => ?_) (fun c_46 => ?_)
          · refine x_iload_n (pc := 60) C 3 dX6_lookFor_60 rfl ?_
            refine x_iload (pc := 61) C 4 dX6_lookFor_61 rfl ?_
            refine x_iconst (pc := 63) C dX6_lookFor_63 ?_
            refine x_idiv (pc := 64) C dX6_lookFor_64 ⟨by omega, by omega⟩ ⟨by omega, by omega⟩ (by first | decide | omega) ?_
            rw [show (t).tdiv 2 = t / 2 from (Int.tdiv_eq_ediv_of_nonneg ht.1)]
            refine x_iadd (pc := 65) C dX6_lookFor_65 ?_
            refine L66 _ ?_ ?_
            · unfold aw; rw [if_pos (by omega)]
            · omega
          · refine x_iload_n (pc := 49) C 3 dX6_lookFor_49 rfl ?_
            refine x_iload (pc := 50) C 4 dX6_lookFor_50 rfl ?_
            refine x_iconst (pc := 52) C dX6_lookFor_52 ?_
            refine x_iadd (pc := 53) C dX6_lookFor_53 ?_
            refine x_iconst (pc := 54) C dX6_lookFor_54 ?_
            refine x_idiv (pc := 55) C dX6_lookFor_55 ⟨by omega, by omega⟩ ⟨by omega, by omega⟩ (by first | decide | omega) ?_
            rw [show (t + 1).tdiv 2 = (t + 1) / 2 from (Int.tdiv_eq_ediv_of_nonneg (by omega))]
            refine x_isub (pc := 56) C dX6_lookFor_56 ?_
            refine x_goto (pc := 57) C 66 dX6_lookFor_57 rfl ?_
            refine L66 _ ?_ ?_
            · unfold aw; rw [if_neg (by omega)]; omega
            · omega
    refine x_locals (lv' := [(0, .ref o), (1, jv x), (2, jv p), (3, jv gu), (4, jv 0)]) [3, 4, 2, 1, 0] rfl ?_
    refine L30 _ _ _ (Nat.lt_succ_self _) ?_ ?_ ?_
    · omega
    · omega
    · rfl
  · refine x_iconst (pc := 12) C dX6_lookFor_12 ?_
    refine x_iret (pc := 13) C Rt0 dX6_lookFor_13 rfl ?_
    refine ⟨_, _, rfl, rfl, ?_⟩
    exact Or.inl ⟨by omega, rfl, rfl⟩

set_option maxHeartbeats 4000000 in
set_option maxRecDepth 100000 in
/-- find -/
theorem ctX6_find (l : Launch) (g : xG) (o : Nat) (d1 : Nat) (d2 : Nat) (d3 : Nat) (d4 : Nat) (d5 : Nat) (d6 : Nat) (d7 : Nat) (d8 : Nat) (d9 : Nat) (da : Nat) (db : Nat) (dc : Nat) (dd : Nat) (de : Nat) (rn : Int) (e : Int) (nc : Int) (oc : Int) (co : Int) (un : Int) (kn : Int) (lU : Int) (lB : Int) (vn : Int) (lk : Int) (rf : Int → Int) (nw : Int → Int) (ol : Int → Int) (bt : Int → Bool) (uf : Int → Int) (kf : Int → Int) (re : Int → Int) (fw : Int → Int) (pm : Int → Int) (fs : Int → Int) (la : Int → Int) (fk : Int → Int) (us : Int → Int) (bs : Int → Int) (u : Int) (y : Int → Int) (he : 0 ≤ e ∧ e ≤ 8) (hr : Kr rn rf) (hy : Agr rn rf y) (hL : LvM y e rn vn pm fs la fk us bs) (ru : Rg u) : Ct l g yX6_find wsX6_find ({ frames := 3, cells := 0, slots := 0, locals := 69 } : Room) 0 0 [(o, ob 6 [jv rn, .ref d1, jv e, jv nc, .ref d2, jv oc, .ref d3, jv co, .ref d4, jv un, .ref d5, jv kn, .ref d6, .ref d7, .ref d8, Jv lU, Jv lB, jv vn, .ref d9, .ref da, .ref db, .ref dc, .ref dd, .ref de, jv lk]), (d1, ai g 61 rf), (d2, ai g 9 nw), (d3, ai g 9 ol), (d4, az g 64 bt), (d5, ai g 70 uf), (d6, ai g 70 kf), (d7, ai g 70 re), (d8, ai g 71 fw), (d9, ai g 10 pm), (da, ai g 600 fs), (db, ai g 600 la), (dc, ai g 600 fk), (dd, al g 600 us), (de, al g 600 bs)] [.ref o, jv u] (fun rV rU => (rV = some (jv (-2)) ∧ rU = [(o, ob 6 [jv rn, .ref d1, jv e, jv nc, .ref d2, jv oc, .ref d3, jv co, .ref d4, jv un, .ref d5, jv kn, .ref d6, .ref d7, .ref d8, Jv lU, Jv lB, jv vn, .ref d9, .ref da, .ref db, .ref dc, .ref dd, .ref de, jv lk]), (d1, ai g 61 rf), (d2, ai g 9 nw), (d3, ai g 9 ol), (d4, az g 64 bt), (d5, ai g 70 uf), (d6, ai g 70 kf), (d7, ai g 70 re), (d8, ai g 71 fw), (d9, ai g 10 pm), (da, ai g 600 fs), (db, ai g 600 la), (dc, ai g 600 fk), (dd, al g 600 us), (de, al g 600 bs)] ∧ (u < 0 ∨ 1000000 < u)) ∨ (∃ (mt : Int) (sn : Int), rV = some (jv mt) ∧ rU = [(o, ob 6 [jv rn, .ref d1, jv e, jv nc, .ref d2, jv oc, .ref d3, jv co, .ref d4, jv un, .ref d5, jv kn, .ref d6, .ref d7, .ref d8, Jv lU, Jv lB, jv vn, .ref d9, .ref da, .ref db, .ref dc, .ref dd, .ref de, jv sn]), (d1, ai g 61 rf), (d2, ai g 9 nw), (d3, ai g 9 ol), (d4, az g 64 bt), (d5, ai g 70 uf), (d6, ai g 70 kf), (d7, ai g 70 re), (d8, ai g 71 fw), (d9, ai g 10 pm), (da, ai g 600 fs), (db, ai g 600 la), (dc, ai g 600 fk), (dd, al g 600 us), (de, al g 600 bs)] ∧ (0 ≤ u ∧ u ≤ 1000000 ∧ LkR y e rn u mt sn))) := by
  refine ct_of (cc := cX6_find) (nL := 2) (ret := (some .int)) (by decide) rfl (Nat.le_of_ble_eq_true rfl) ?_
  intro E C Rt0
  have C : Cx l g E ({ frames := 3, cells := 0, slots := 0, locals := 69 } : Room) RX6 "find" cX6_find wsX6_find 2 := C
  show X l g E ({ frames := 3, cells := 0, slots := 0, locals := 69 } : Room) 2 [(o, ob 6 [jv rn, .ref d1, jv e, jv nc, .ref d2, jv oc, .ref d3, jv co, .ref d4, jv un, .ref d5, jv kn, .ref d6, .ref d7, .ref d8, Jv lU, Jv lB, jv vn, .ref d9, .ref da, .ref db, .ref dc, .ref dd, .ref de, jv lk]), (d1, ai g 61 rf), (d2, ai g 9 nw), (d3, ai g 9 ol), (d4, az g 64 bt), (d5, ai g 70 uf), (d6, ai g 70 kf), (d7, ai g 70 re), (d8, ai g 71 fw), (d9, ai g 10 pm), (da, ai g 600 fs), (db, ai g 600 la), (dc, ai g 600 fk), (dd, al g 600 us), (de, al g 600 bs)] 0 0 [(0, .ref o), (1, jv u)] 0 []
  refine x_iload_n (pc := 0) C 1 dX6_find_0 rfl ?_
  refine x_callS (pc := 1) C (n := 1) (rest := []) (wr := [(o, ob 6 [jv rn, .ref d1, jv e, jv nc, .ref d2, jv oc, .ref d3, jv co, .ref d4, jv un, .ref d5, jv kn, .ref d6, .ref d7, .ref d8, Jv lU, Jv lB, jv vn, .ref d9, .ref da, .ref db, .ref dc, .ref dd, .ref de, jv lk]), (d1, ai g 61 rf), (d2, ai g 9 nw), (d3, ai g 9 ol), (d4, az g 64 bt), (d5, ai g 70 uf), (d6, ai g 70 kf), (d7, ai g 70 re), (d8, ai g 71 fw), (d9, ai g 10 pm), (da, ai g 600 fs), (db, ai g 600 la), (dc, ai g 600 fk), (dd, al g 600 us), (de, al g 600 bs)]) [] [0, 1, 2, 3, 4, 5, 6, 7, 8, 9, 10, 11, 12, 13, 14] (ctX6_isNumber l g u ru) gX6_find_X6_isNumber rfl (by decide +kernel) ⟨rfl, rfl⟩ ⟨by decide, by decide⟩ rfl rfl rfl (by decide) (by decide) (by decide) rfl (Nat.le_of_ble_eq_true rfl) dX6_find_1 ⟨by decide, by decide⟩ (fun v_1 u_1 h_1 => ?_)
  rcases h_1 with ⟨rfl, rfl, f_1⟩ | ⟨rfl, rfl, f_1⟩
  · refine x_world (ws' := [(o, ob 6 [jv rn, .ref d1, jv e, jv nc, .ref d2, jv oc, .ref d3, jv co, .ref d4, jv un, .ref d5, jv kn, .ref d6, .ref d7, .ref d8, Jv lU, Jv lB, jv vn, .ref d9, .ref da, .ref db, .ref dc, .ref dd, .ref de, jv lk]), (d1, ai g 61 rf), (d2, ai g 9 nw), (d3, ai g 9 ol), (d4, az g 64 bt), (d5, ai g 70 uf), (d6, ai g 70 kf), (d7, ai g 70 re), (d8, ai g 71 fw), (d9, ai g 10 pm), (da, ai g 600 fs), (db, ai g 600 la), (dc, ai g 600 fk), (dd, al g 600 us), (de, al g 600 bs)]) [0, 1, 2, 3, 4, 5, 6, 7, 8, 9, 10, 11, 12, 13, 14] (by decide) rfl ?_
    show X l g E ({ frames := 3, cells := 0, slots := 0, locals := 69 } : Room) 2 [(o, ob 6 [jv rn, .ref d1, jv e, jv nc, .ref d2, jv oc, .ref d3, jv co, .ref d4, jv un, .ref d5, jv kn, .ref d6, .ref d7, .ref d8, Jv lU, Jv lB, jv vn, .ref d9, .ref da, .ref db, .ref dc, .ref dd, .ref de, jv lk]), (d1, ai g 61 rf), (d2, ai g 9 nw), (d3, ai g 9 ol), (d4, az g 64 bt), (d5, ai g 70 uf), (d6, ai g 70 kf), (d7, ai g 70 re), (d8, ai g 71 fw), (d9, ai g 10 pm), (da, ai g 600 fs), (db, ai g 600 la), (dc, ai g 600 fk), (dd, al g 600 us), (de, al g 600 bs)] 0 0 [(0, .ref o), (1, jv u)] 4 [jv 1]
    refine x_if_eq (pc := 4) C 15 dX6_find_4 rfl ⟨by decide, by decide⟩ (fun h => absurd h (by decide)) (fun _ => ?_)
    refine x_aload_n (pc := 7) C 0 dX6_find_7 rfl ?_
    refine x_iload_n (pc := 8) C 1 dX6_find_8 rfl ?_
    refine x_callV (pc := 9) C (n := 1) (q0 := 0) (rest := []) (wr := []) [0, 1, 2, 3, 4, 5, 6, 7, 8, 9, 10, 11, 12, 13, 14] [] (ctX6_lookFor l g o d1 d2 d3 d4 d5 d6 d7 d8 d9 da db dc dd de rn e nc oc co un kn lU lB vn lk rf nw ol bt uf kf re fw pm fs la fk us bs u y he hr hy hL ⟨by omega, by omega⟩) gX6_find_X6_lookFor rfl ⟨rfl, rfl⟩ (by decide +kernel) ⟨by decide, by decide⟩ rfl rfl rfl rfl rfl (by decide) (by decide) (by decide) rfl (Nat.le_of_ble_eq_true rfl) dX6_find_9 ⟨by decide, by decide⟩ (fun v_9 u_9 h_9 => ?_)
    rcases h_9 with ⟨mt, sn, rfl, rfl, f_9⟩
    refine x_world (ws' := [(o, ob 6 [jv rn, .ref d1, jv e, jv nc, .ref d2, jv oc, .ref d3, jv co, .ref d4, jv un, .ref d5, jv kn, .ref d6, .ref d7, .ref d8, Jv lU, Jv lB, jv vn, .ref d9, .ref da, .ref db, .ref dc, .ref dd, .ref de, jv sn]), (d1, ai g 61 rf), (d2, ai g 9 nw), (d3, ai g 9 ol), (d4, az g 64 bt), (d5, ai g 70 uf), (d6, ai g 70 kf), (d7, ai g 70 re), (d8, ai g 71 fw), (d9, ai g 10 pm), (da, ai g 600 fs), (db, ai g 600 la), (dc, ai g 600 fk), (dd, al g 600 us), (de, al g 600 bs)]) [0, 1, 2, 3, 4, 5, 6, 7, 8, 9, 10, 11, 12, 13, 14] (by decide) rfl ?_
    show X l g E ({ frames := 3, cells := 0, slots := 0, locals := 69 } : Room) 2 [(o, ob 6 [jv rn, .ref d1, jv e, jv nc, .ref d2, jv oc, .ref d3, jv co, .ref d4, jv un, .ref d5, jv kn, .ref d6, .ref d7, .ref d8, Jv lU, Jv lB, jv vn, .ref d9, .ref da, .ref db, .ref dc, .ref dd, .ref de, jv sn]), (d1, ai g 61 rf), (d2, ai g 9 nw), (d3, ai g 9 ol), (d4, az g 64 bt), (d5, ai g 70 uf), (d6, ai g 70 kf), (d7, ai g 70 re), (d8, ai g 71 fw), (d9, ai g 10 pm), (da, ai g 600 fs), (db, ai g 600 la), (dc, ai g 600 fk), (dd, al g 600 us), (de, al g 600 bs)] 0 0 [(0, .ref o), (1, jv u)] 12 [jv mt]
    refine x_goto (pc := 12) C 17 dX6_find_12 rfl ?_
    refine x_iret (pc := 17) C Rt0 dX6_find_17 rfl ?_
    refine Or.inr (⟨_, _, rfl, rfl, ?_⟩)
    exact ⟨by omega, by omega, f_9⟩
  · refine x_world (ws' := [(o, ob 6 [jv rn, .ref d1, jv e, jv nc, .ref d2, jv oc, .ref d3, jv co, .ref d4, jv un, .ref d5, jv kn, .ref d6, .ref d7, .ref d8, Jv lU, Jv lB, jv vn, .ref d9, .ref da, .ref db, .ref dc, .ref dd, .ref de, jv lk]), (d1, ai g 61 rf), (d2, ai g 9 nw), (d3, ai g 9 ol), (d4, az g 64 bt), (d5, ai g 70 uf), (d6, ai g 70 kf), (d7, ai g 70 re), (d8, ai g 71 fw), (d9, ai g 10 pm), (da, ai g 600 fs), (db, ai g 600 la), (dc, ai g 600 fk), (dd, al g 600 us), (de, al g 600 bs)]) [0, 1, 2, 3, 4, 5, 6, 7, 8, 9, 10, 11, 12, 13, 14] (by decide) rfl ?_
    show X l g E ({ frames := 3, cells := 0, slots := 0, locals := 69 } : Room) 2 [(o, ob 6 [jv rn, .ref d1, jv e, jv nc, .ref d2, jv oc, .ref d3, jv co, .ref d4, jv un, .ref d5, jv kn, .ref d6, .ref d7, .ref d8, Jv lU, Jv lB, jv vn, .ref d9, .ref da, .ref db, .ref dc, .ref dd, .ref de, jv lk]), (d1, ai g 61 rf), (d2, ai g 9 nw), (d3, ai g 9 ol), (d4, az g 64 bt), (d5, ai g 70 uf), (d6, ai g 70 kf), (d7, ai g 70 re), (d8, ai g 71 fw), (d9, ai g 10 pm), (da, ai g 600 fs), (db, ai g 600 la), (dc, ai g 600 fk), (dd, al g 600 us), (de, al g 600 bs)] 0 0 [(0, .ref o), (1, jv u)] 4 [jv 0]
    refine x_if_eq (pc := 4) C 15 dX6_find_4 rfl ⟨by decide, by decide⟩ (fun _ => ?_) (fun h => absurd h (by decide))
    refine x_bipush (pc := 15) C dX6_find_15 rfl ?_
    refine x_iret (pc := 17) C Rt0 dX6_find_17 rfl ?_
    refine Or.inl ⟨rfl, rfl, ?_⟩
    omega

set_option maxRecDepth 100000 in
theorem hiX6_looks_6 : ∀ w ∈ wsX60, w ∈ wsX6_looks := by decide +kernel
set_option maxRecDepth 100000 in
theorem hfX6_looks_155 : Cond.fieldLink RX6 155 "KeyGuessModel" "looked" "I" ∈ wsX6_looks := by decide +kernel
set_option maxHeartbeats 4000000 in
set_option maxRecDepth 100000 in
/-- looks -/
theorem ctX6_looks (l : Launch) (g : xG) (o : Nat) (d1 : Nat) (d2 : Nat) (d3 : Nat) (d4 : Nat) (d5 : Nat) (d6 : Nat) (d7 : Nat) (d8 : Nat) (d9 : Nat) (da : Nat) (db : Nat) (dc : Nat) (dd : Nat) (de : Nat) (rn : Int) (e : Int) (nc : Int) (oc : Int) (co : Int) (un : Int) (kn : Int) (lU : Int) (lB : Int) (vn : Int) (lk : Int) (rf : Int → Int) (nw : Int → Int) (ol : Int → Int) (bt : Int → Bool) (uf : Int → Int) (kf : Int → Int) (re : Int → Int) (fw : Int → Int) (pm : Int → Int) (fs : Int → Int) (la : Int → Int) (fk : Int → Int) (us : Int → Int) (bs : Int → Int) (u : Int) (y : Int → Int) (he : 0 ≤ e ∧ e ≤ 8) (hr : Kr rn rf) (hy : Agr rn rf y) (hL : LvM y e rn vn pm fs la fk us bs) (ru : Rg u) : Ct l g yX6_looks wsX6_looks ({ frames := 3, cells := 0, slots := 0, locals := 69 } : Room) 0 0 [(o, ob 6 [jv rn, .ref d1, jv e, jv nc, .ref d2, jv oc, .ref d3, jv co, .ref d4, jv un, .ref d5, jv kn, .ref d6, .ref d7, .ref d8, Jv lU, Jv lB, jv vn, .ref d9, .ref da, .ref db, .ref dc, .ref dd, .ref de, jv lk]), (d1, ai g 61 rf), (d2, ai g 9 nw), (d3, ai g 9 ol), (d4, az g 64 bt), (d5, ai g 70 uf), (d6, ai g 70 kf), (d7, ai g 70 re), (d8, ai g 71 fw), (d9, ai g 10 pm), (da, ai g 600 fs), (db, ai g 600 la), (dc, ai g 600 fk), (dd, al g 600 us), (de, al g 600 bs)] [.ref o, jv u] (fun rV rU => (rV = some (jv (-2)) ∧ rU = [(o, ob 6 [jv rn, .ref d1, jv e, jv nc, .ref d2, jv oc, .ref d3, jv co, .ref d4, jv un, .ref d5, jv kn, .ref d6, .ref d7, .ref d8, Jv lU, Jv lB, jv vn, .ref d9, .ref da, .ref db, .ref dc, .ref dd, .ref de, jv lk]), (d1, ai g 61 rf), (d2, ai g 9 nw), (d3, ai g 9 ol), (d4, az g 64 bt), (d5, ai g 70 uf), (d6, ai g 70 kf), (d7, ai g 70 re), (d8, ai g 71 fw), (d9, ai g 10 pm), (da, ai g 600 fs), (db, ai g 600 la), (dc, ai g 600 fk), (dd, al g 600 us), (de, al g 600 bs)] ∧ (u < 0 ∨ 1000000 < u)) ∨ (∃ (mt : Int) (sn : Int), rV = some (jv sn) ∧ rU = [(o, ob 6 [jv rn, .ref d1, jv e, jv nc, .ref d2, jv oc, .ref d3, jv co, .ref d4, jv un, .ref d5, jv kn, .ref d6, .ref d7, .ref d8, Jv lU, Jv lB, jv vn, .ref d9, .ref da, .ref db, .ref dc, .ref dd, .ref de, jv sn]), (d1, ai g 61 rf), (d2, ai g 9 nw), (d3, ai g 9 ol), (d4, az g 64 bt), (d5, ai g 70 uf), (d6, ai g 70 kf), (d7, ai g 70 re), (d8, ai g 71 fw), (d9, ai g 10 pm), (da, ai g 600 fs), (db, ai g 600 la), (dc, ai g 600 fk), (dd, al g 600 us), (de, al g 600 bs)] ∧ (0 ≤ u ∧ u ≤ 1000000 ∧ LkR y e rn u mt sn))) := by
  refine ct_of (cc := cX6_looks) (nL := 2) (ret := (some .int)) (by decide) rfl (Nat.le_of_ble_eq_true rfl) ?_
  intro E C Rt0
  have C : Cx l g E ({ frames := 3, cells := 0, slots := 0, locals := 69 } : Room) RX6 "looks" cX6_looks wsX6_looks 2 := C
  show X l g E ({ frames := 3, cells := 0, slots := 0, locals := 69 } : Room) 2 [(o, ob 6 [jv rn, .ref d1, jv e, jv nc, .ref d2, jv oc, .ref d3, jv co, .ref d4, jv un, .ref d5, jv kn, .ref d6, .ref d7, .ref d8, Jv lU, Jv lB, jv vn, .ref d9, .ref da, .ref db, .ref dc, .ref dd, .ref de, jv lk]), (d1, ai g 61 rf), (d2, ai g 9 nw), (d3, ai g 9 ol), (d4, az g 64 bt), (d5, ai g 70 uf), (d6, ai g 70 kf), (d7, ai g 70 re), (d8, ai g 71 fw), (d9, ai g 10 pm), (da, ai g 600 fs), (db, ai g 600 la), (dc, ai g 600 fk), (dd, al g 600 us), (de, al g 600 bs)] 0 0 [(0, .ref o), (1, jv u)] 0 []
  refine x_iload_n (pc := 0) C 1 dX6_looks_0 rfl ?_
  refine x_callS (pc := 1) C (n := 1) (rest := []) (wr := [(o, ob 6 [jv rn, .ref d1, jv e, jv nc, .ref d2, jv oc, .ref d3, jv co, .ref d4, jv un, .ref d5, jv kn, .ref d6, .ref d7, .ref d8, Jv lU, Jv lB, jv vn, .ref d9, .ref da, .ref db, .ref dc, .ref dd, .ref de, jv lk]), (d1, ai g 61 rf), (d2, ai g 9 nw), (d3, ai g 9 ol), (d4, az g 64 bt), (d5, ai g 70 uf), (d6, ai g 70 kf), (d7, ai g 70 re), (d8, ai g 71 fw), (d9, ai g 10 pm), (da, ai g 600 fs), (db, ai g 600 la), (dc, ai g 600 fk), (dd, al g 600 us), (de, al g 600 bs)]) [] [0, 1, 2, 3, 4, 5, 6, 7, 8, 9, 10, 11, 12, 13, 14] (ctX6_isNumber l g u ru) gX6_looks_X6_isNumber rfl (by decide +kernel) ⟨rfl, rfl⟩ ⟨by decide, by decide⟩ rfl rfl rfl (by decide) (by decide) (by decide) rfl (Nat.le_of_ble_eq_true rfl) dX6_looks_1 ⟨by decide, by decide⟩ (fun v_1 u_1 h_1 => ?_)
  rcases h_1 with ⟨rfl, rfl, f_1⟩ | ⟨rfl, rfl, f_1⟩
  · refine x_world (ws' := [(o, ob 6 [jv rn, .ref d1, jv e, jv nc, .ref d2, jv oc, .ref d3, jv co, .ref d4, jv un, .ref d5, jv kn, .ref d6, .ref d7, .ref d8, Jv lU, Jv lB, jv vn, .ref d9, .ref da, .ref db, .ref dc, .ref dd, .ref de, jv lk]), (d1, ai g 61 rf), (d2, ai g 9 nw), (d3, ai g 9 ol), (d4, az g 64 bt), (d5, ai g 70 uf), (d6, ai g 70 kf), (d7, ai g 70 re), (d8, ai g 71 fw), (d9, ai g 10 pm), (da, ai g 600 fs), (db, ai g 600 la), (dc, ai g 600 fk), (dd, al g 600 us), (de, al g 600 bs)]) [0, 1, 2, 3, 4, 5, 6, 7, 8, 9, 10, 11, 12, 13, 14] (by decide) rfl ?_
    show X l g E ({ frames := 3, cells := 0, slots := 0, locals := 69 } : Room) 2 [(o, ob 6 [jv rn, .ref d1, jv e, jv nc, .ref d2, jv oc, .ref d3, jv co, .ref d4, jv un, .ref d5, jv kn, .ref d6, .ref d7, .ref d8, Jv lU, Jv lB, jv vn, .ref d9, .ref da, .ref db, .ref dc, .ref dd, .ref de, jv lk]), (d1, ai g 61 rf), (d2, ai g 9 nw), (d3, ai g 9 ol), (d4, az g 64 bt), (d5, ai g 70 uf), (d6, ai g 70 kf), (d7, ai g 70 re), (d8, ai g 71 fw), (d9, ai g 10 pm), (da, ai g 600 fs), (db, ai g 600 la), (dc, ai g 600 fk), (dd, al g 600 us), (de, al g 600 bs)] 0 0 [(0, .ref o), (1, jv u)] 4 [jv 1]
    refine x_if_ne (pc := 4) C 10 dX6_looks_4 rfl ⟨by decide, by decide⟩ (fun _ => ?_) (fun h => absurd h (by decide))
    refine x_aload_n (pc := 10) C 0 dX6_looks_10 rfl ?_
    refine x_iload_n (pc := 11) C 1 dX6_looks_11 rfl ?_
    refine x_callV (pc := 12) C (n := 1) (q0 := 0) (rest := []) (wr := []) [0, 1, 2, 3, 4, 5, 6, 7, 8, 9, 10, 11, 12, 13, 14] [] (ctX6_lookFor l g o d1 d2 d3 d4 d5 d6 d7 d8 d9 da db dc dd de rn e nc oc co un kn lU lB vn lk rf nw ol bt uf kf re fw pm fs la fk us bs u y he hr hy hL ⟨by omega, by omega⟩) gX6_looks_X6_lookFor rfl ⟨rfl, rfl⟩ (by decide +kernel) ⟨by decide, by decide⟩ rfl rfl rfl rfl rfl (by decide) (by decide) (by decide) rfl (Nat.le_of_ble_eq_true rfl) dX6_looks_12 ⟨by decide, by decide⟩ (fun v_12 u_12 h_12 => ?_)
    rcases h_12 with ⟨mt, sn, rfl, rfl, f_12⟩
    refine x_world (ws' := [(o, ob 6 [jv rn, .ref d1, jv e, jv nc, .ref d2, jv oc, .ref d3, jv co, .ref d4, jv un, .ref d5, jv kn, .ref d6, .ref d7, .ref d8, Jv lU, Jv lB, jv vn, .ref d9, .ref da, .ref db, .ref dc, .ref dd, .ref de, jv sn]), (d1, ai g 61 rf), (d2, ai g 9 nw), (d3, ai g 9 ol), (d4, az g 64 bt), (d5, ai g 70 uf), (d6, ai g 70 kf), (d7, ai g 70 re), (d8, ai g 71 fw), (d9, ai g 10 pm), (da, ai g 600 fs), (db, ai g 600 la), (dc, ai g 600 fk), (dd, al g 600 us), (de, al g 600 bs)]) [0, 1, 2, 3, 4, 5, 6, 7, 8, 9, 10, 11, 12, 13, 14] (by decide) rfl ?_
    show X l g E ({ frames := 3, cells := 0, slots := 0, locals := 69 } : Room) 2 [(o, ob 6 [jv rn, .ref d1, jv e, jv nc, .ref d2, jv oc, .ref d3, jv co, .ref d4, jv un, .ref d5, jv kn, .ref d6, .ref d7, .ref d8, Jv lU, Jv lB, jv vn, .ref d9, .ref da, .ref db, .ref dc, .ref dd, .ref de, jv sn]), (d1, ai g 61 rf), (d2, ai g 9 nw), (d3, ai g 9 ol), (d4, az g 64 bt), (d5, ai g 70 uf), (d6, ai g 70 kf), (d7, ai g 70 re), (d8, ai g 71 fw), (d9, ai g 10 pm), (da, ai g 600 fs), (db, ai g 600 la), (dc, ai g 600 fk), (dd, al g 600 us), (de, al g 600 bs)] 0 0 [(0, .ref o), (1, jv u)] 15 [jv mt]
    refine x_pop (pc := 15) C dX6_looks_15 rfl ?_
    refine x_aload_n (pc := 16) C 0 dX6_looks_16 rfl ?_
    refine x_get (pc := 17) C 0 24 dX6_looks_17 hiX6_looks_6 hfX6_looks_155 rfl rfl rfl (by decide) rfl ?_
    refine x_iret (pc := 20) C Rt0 dX6_looks_20 rfl ?_
    refine Or.inr (⟨mt, _, rfl, rfl, ?_⟩)
    exact ⟨by omega, by omega, f_12⟩
  · refine x_world (ws' := [(o, ob 6 [jv rn, .ref d1, jv e, jv nc, .ref d2, jv oc, .ref d3, jv co, .ref d4, jv un, .ref d5, jv kn, .ref d6, .ref d7, .ref d8, Jv lU, Jv lB, jv vn, .ref d9, .ref da, .ref db, .ref dc, .ref dd, .ref de, jv lk]), (d1, ai g 61 rf), (d2, ai g 9 nw), (d3, ai g 9 ol), (d4, az g 64 bt), (d5, ai g 70 uf), (d6, ai g 70 kf), (d7, ai g 70 re), (d8, ai g 71 fw), (d9, ai g 10 pm), (da, ai g 600 fs), (db, ai g 600 la), (dc, ai g 600 fk), (dd, al g 600 us), (de, al g 600 bs)]) [0, 1, 2, 3, 4, 5, 6, 7, 8, 9, 10, 11, 12, 13, 14] (by decide) rfl ?_
    show X l g E ({ frames := 3, cells := 0, slots := 0, locals := 69 } : Room) 2 [(o, ob 6 [jv rn, .ref d1, jv e, jv nc, .ref d2, jv oc, .ref d3, jv co, .ref d4, jv un, .ref d5, jv kn, .ref d6, .ref d7, .ref d8, Jv lU, Jv lB, jv vn, .ref d9, .ref da, .ref db, .ref dc, .ref dd, .ref de, jv lk]), (d1, ai g 61 rf), (d2, ai g 9 nw), (d3, ai g 9 ol), (d4, az g 64 bt), (d5, ai g 70 uf), (d6, ai g 70 kf), (d7, ai g 70 re), (d8, ai g 71 fw), (d9, ai g 10 pm), (da, ai g 600 fs), (db, ai g 600 la), (dc, ai g 600 fk), (dd, al g 600 us), (de, al g 600 bs)] 0 0 [(0, .ref o), (1, jv u)] 4 [jv 0]
    refine x_if_ne (pc := 4) C 10 dX6_looks_4 rfl ⟨by decide, by decide⟩ (fun h => absurd h (by decide)) (fun _ => ?_)
    refine x_bipush (pc := 7) C dX6_looks_7 rfl ?_
    refine x_iret (pc := 9) C Rt0 dX6_looks_9 rfl ?_
    refine Or.inl ⟨rfl, rfl, ?_⟩
    omega
