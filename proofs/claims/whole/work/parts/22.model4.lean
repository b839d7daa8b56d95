noncomputable def inb (n : Int) (f : Int → Int) (x : Int) : Bool := @decide (Inr n f x) (Classical.propDecidable _)
theorem inb_t {n : Int} {f : Int → Int} {x : Int} (h : Inr n f x) : inb n f x = true := by unfold inb; exact @decide_eq_true _ (Classical.propDecidable _) h
theorem inb_f {n : Int} {f : Int → Int} {x : Int} (h : ¬ Inr n f x) : inb n f x = false := by unfold inb; exact @decide_eq_false _ (Classical.propDecidable _) h
theorem mbb_n {B : Int → Bool} {x : Int} (h : ¬ MB B x) : mbb B x = false := by
  cases q : mbb B x with
  | true => exact absurd q (mbb_f h)
  | false => rfl
set_option maxHeartbeats 4000000 in
set_option maxRecDepth 100000 in
/-- maybe -/
theorem ctX6_maybe (l : Launch) (g : xG) (o : Nat) (d1 : Nat) (d2 : Nat) (d3 : Nat) (d4 : Nat) (d5 : Nat) (d6 : Nat) (d7 : Nat) (d8 : Nat) (d9 : Nat) (da : Nat) (db : Nat) (dc : Nat) (dd : Nat) (de : Nat) (rn : Int) (e : Int) (nc : Int) (oc : Int) (co : Int) (un : Int) (kn : Int) (lU : Int) (lB : Int) (vn : Int) (lk : Int) (rf : Int → Int) (nw : Int → Int) (ol : Int → Int) (bt : Int → Bool) (uf : Int → Int) (kf : Int → Int) (re : Int → Int) (fw : Int → Int) (pm : Int → Int) (fs : Int → Int) (la : Int → Int) (fk : Int → Int) (us : Int → Int) (bs : Int → Int) (u : Int) (B : Int → Bool) (hB : ∀ j : Int, 0 ≤ j → j < 64 → bt j = B j) (ru : Rg u) : Ct l g yX6_maybe wsX6_maybe ({ frames := 2, cells := 0, slots := 0, locals := 42 } : Room) 0 0 [(o, ob 6 [jv rn, .ref d1, jv e, jv nc, .ref d2, jv oc, .ref d3, jv co, .ref d4, jv un, .ref d5, jv kn, .ref d6, .ref d7, .ref d8, Jv lU, Jv lB, jv vn, .ref d9, .ref da, .ref db, .ref dc, .ref dd, .ref de, jv lk]), (d1, ai g 61 rf), (d2, ai g 9 nw), (d3, ai g 9 ol), (d4, az g 64 bt), (d5, ai g 70 uf), (d6, ai g 70 kf), (d7, ai g 70 re), (d8, ai g 71 fw), (d9, ai g 10 pm), (da, ai g 600 fs), (db, ai g 600 la), (dc, ai g 600 fk), (dd, al g 600 us), (de, al g 600 bs)] [.ref o, jv u] (fun rV rU => (rV = some (jv (-2)) ∧ rU = [(o, ob 6 [jv rn, .ref d1, jv e, jv nc, .ref d2, jv oc, .ref d3, jv co, .ref d4, jv un, .ref d5, jv kn, .ref d6, .ref d7, .ref d8, Jv lU, Jv lB, jv vn, .ref d9, .ref da, .ref db, .ref dc, .ref dd, .ref de, jv lk]), (d1, ai g 61 rf), (d2, ai g 9 nw), (d3, ai g 9 ol), (d4, az g 64 bt), (d5, ai g 70 uf), (d6, ai g 70 kf), (d7, ai g 70 re), (d8, ai g 71 fw), (d9, ai g 10 pm), (da, ai g 600 fs), (db, ai g 600 la), (dc, ai g 600 fk), (dd, al g 600 us), (de, al g 600 bs)] ∧ (u < 0 ∨ 1000000 < u)) ∨ (rV = some (jv 1) ∧ rU = [(o, ob 6 [jv rn, .ref d1, jv e, jv nc, .ref d2, jv oc, .ref d3, jv co, .ref d4, jv un, .ref d5, jv kn, .ref d6, .ref d7, .ref d8, Jv lU, Jv lB, jv vn, .ref d9, .ref da, .ref db, .ref dc, .ref dd, .ref de, jv lk]), (d1, ai g 61 rf), (d2, ai g 9 nw), (d3, ai g 9 ol), (d4, az g 64 bt), (d5, ai g 70 uf), (d6, ai g 70 kf), (d7, ai g 70 re), (d8, ai g 71 fw), (d9, ai g 10 pm), (da, ai g 600 fs), (db, ai g 600 la), (dc, ai g 600 fk), (dd, al g 600 us), (de, al g 600 bs)] ∧ (0 ≤ u ∧ u ≤ 1000000 ∧ MB B u)) ∨ (rV = some (jv 0) ∧ rU = [(o, ob 6 [jv rn, .ref d1, jv e, jv nc, .ref d2, jv oc, .ref d3, jv co, .ref d4, jv un, .ref d5, jv kn, .ref d6, .ref d7, .ref d8, Jv lU, Jv lB, jv vn, .ref d9, .ref da, .ref db, .ref dc, .ref dd, .ref de, jv lk]), (d1, ai g 61 rf), (d2, ai g 9 nw), (d3, ai g 9 ol), (d4, az g 64 bt), (d5, ai g 70 uf), (d6, ai g 70 kf), (d7, ai g 70 re), (d8, ai g 71 fw), (d9, ai g 10 pm), (da, ai g 600 fs), (db, ai g 600 la), (dc, ai g 600 fk), (dd, al g 600 us), (de, al g 600 bs)] ∧ (0 ≤ u ∧ u ≤ 1000000 ∧ ¬ MB B u))) := by
  refine ct_of (cc := cX6_maybe) (nL := 2) (ret := (some .int)) (by decide) rfl (Nat.le_of_ble_eq_true rfl) ?_
  intro E C Rt0
  have C : Cx l g E ({ frames := 2, cells := 0, slots := 0, locals := 42 } : Room) RX6 "maybe" cX6_maybe wsX6_maybe 2 := C
  show X l g E ({ frames := 2, cells := 0, slots := 0, locals := 42 } : Room) 2 [(o, ob 6 [jv rn, .ref d1, jv e, jv nc, .ref d2, jv oc, .ref d3, jv co, .ref d4, jv un, .ref d5, jv kn, .ref d6, .ref d7, .ref d8, Jv lU, Jv lB, jv vn, .ref d9, .ref da, .ref db, .ref dc, .ref dd, .ref de, jv lk]), (d1, ai g 61 rf), (d2, ai g 9 nw), (d3, ai g 9 ol), (d4, az g 64 bt), (d5, ai g 70 uf), (d6, ai g 70 kf), (d7, ai g 70 re), (d8, ai g 71 fw), (d9, ai g 10 pm), (da, ai g 600 fs), (db, ai g 600 la), (dc, ai g 600 fk), (dd, al g 600 us), (de, al g 600 bs)] 0 0 [(0, .ref o), (1, jv u)] 0 []
  refine x_iload_n (pc := 0) C 1 dX6_maybe_0 rfl ?_
  refine x_callS (pc := 1) C (n := 1) (rest := []) (wr := [(o, ob 6 [jv rn, .ref d1, jv e, jv nc, .ref d2, jv oc, .ref d3, jv co, .ref d4, jv un, .ref d5, jv kn, .ref d6, .ref d7, .ref d8, Jv lU, Jv lB, jv vn, .ref d9, .ref da, .ref db, .ref dc, .ref dd, .ref de, jv lk]), (d1, ai g 61 rf), (d2, ai g 9 nw), (d3, ai g 9 ol), (d4, az g 64 bt), (d5, ai g 70 uf), (d6, ai g 70 kf), (d7, ai g 70 re), (d8, ai g 71 fw), (d9, ai g 10 pm), (da, ai g 600 fs), (db, ai g 600 la), (dc, ai g 600 fk), (dd, al g 600 us), (de, al g 600 bs)]) [] [0, 1, 2, 3, 4, 5, 6, 7, 8, 9, 10, 11, 12, 13, 14] (ctX6_isNumber l g u ru) gX6_maybe_X6_isNumber rfl (by decide +kernel) ⟨rfl, rfl⟩ ⟨by decide, by decide⟩ rfl rfl rfl (by decide) (by decide) (by decide) rfl (Nat.le_of_ble_eq_true rfl) dX6_maybe_1 ⟨by decide, by decide⟩ (fun v_1 u_1 h_1 => ?_)
  rcases h_1 with ⟨rfl, rfl, f_1⟩ | ⟨rfl, rfl, f_1⟩
  · refine x_world (ws' := [(o, ob 6 [jv rn, .ref d1, jv e, jv nc, .ref d2, jv oc, .ref d3, jv co, .ref d4, jv un, .ref d5, jv kn, .ref d6, .ref d7, .ref d8, Jv lU, Jv lB, jv vn, .ref d9, .ref da, .ref db, .ref dc, .ref dd, .ref de, jv lk]), (d1, ai g 61 rf), (d2, ai g 9 nw), (d3, ai g 9 ol), (d4, az g 64 bt), (d5, ai g 70 uf), (d6, ai g 70 kf), (d7, ai g 70 re), (d8, ai g 71 fw), (d9, ai g 10 pm), (da, ai g 600 fs), (db, ai g 600 la), (dc, ai g 600 fk), (dd, al g 600 us), (de, al g 600 bs)]) [0, 1, 2, 3, 4, 5, 6, 7, 8, 9, 10, 11, 12, 13, 14] (by decide) rfl ?_
    show X l g E ({ frames := 2, cells := 0, slots := 0, locals := 42 } : Room) 2 [(o, ob 6 [jv rn, .ref d1, jv e, jv nc, .ref d2, jv oc, .ref d3, jv co, .ref d4, jv un, .ref d5, jv kn, .ref d6, .ref d7, .ref d8, Jv lU, Jv lB, jv vn, .ref d9, .ref da, .ref db, .ref dc, .ref dd, .ref de, jv lk]), (d1, ai g 61 rf), (d2, ai g 9 nw), (d3, ai g 9 ol), (d4, az g 64 bt), (d5, ai g 70 uf), (d6, ai g 70 kf), (d7, ai g 70 re), (d8, ai g 71 fw), (d9, ai g 10 pm), (da, ai g 600 fs), (db, ai g 600 la), (dc, ai g 600 fk), (dd, al g 600 us), (de, al g 600 bs)] 0 0 [(0, .ref o), (1, jv u)] 4 [jv 1]
    refine x_if_ne (pc := 4) C 12 dX6_maybe_4 rfl ⟨by decide, by decide⟩ (fun _ => ?_) (fun h => absurd h (by decide))
    refine x_aload_n (pc := 12) C 0 dX6_maybe_12 rfl ?_
    refine x_iload_n (pc := 13) C 1 dX6_maybe_13 rfl ?_
    refine x_callV (pc := 14) C (n := 1) (q0 := 0) (rest := []) (wr := [(d1, ai g 61 rf), (d2, ai g 9 nw), (d3, ai g 9 ol), (d5, ai g 70 uf), (d6, ai g 70 kf), (d7, ai g 70 re), (d8, ai g 71 fw), (d9, ai g 10 pm), (da, ai g 600 fs), (db, ai g 600 la), (dc, ai g 600 fk), (dd, al g 600 us), (de, al g 600 bs)]) [0, 4] [1, 2, 3, 5, 6, 7, 8, 9, 10, 11, 12, 13, 14] (ctX6_isMaybe l g o d1 d2 d3 d4 d5 d6 d7 d8 d9 da db dc dd de rn e nc oc co un kn lU lB vn lk bt u B ⟨by omega, by omega⟩ hB) gX6_maybe_X6_isMaybe rfl ⟨rfl, rfl⟩ (by decide +kernel) ⟨by decide, by decide⟩ rfl rfl rfl rfl rfl (by decide) (by decide) (by decide) rfl (Nat.le_of_ble_eq_true rfl) dX6_maybe_14 ⟨by decide, by decide⟩ (fun v_14 u_14 h_14 => ?_)
    rcases h_14 with ⟨rfl, rfl, f_14⟩ | ⟨rfl, rfl, f_14⟩
    · refine x_world (ws' := [(o, ob 6 [jv rn, .ref d1, jv e, jv nc, .ref d2, jv oc, .ref d3, jv co, .ref d4, jv un, .ref d5, jv kn, .ref d6, .ref d7, .ref d8, Jv lU, Jv lB, jv vn, .ref d9, .ref da, .ref db, .ref dc, .ref dd, .ref de, jv lk]), (d1, ai g 61 rf), (d2, ai g 9 nw), (d3, ai g 9 ol), (d4, az g 64 bt), (d5, ai g 70 uf), (d6, ai g 70 kf), (d7, ai g 70 re), (d8, ai g 71 fw), (d9, ai g 10 pm), (da, ai g 600 fs), (db, ai g 600 la), (dc, ai g 600 fk), (dd, al g 600 us), (de, al g 600 bs)]) [13, 0, 1, 2, 14, 3, 4, 5, 6, 7, 8, 9, 10, 11, 12] (by decide) rfl ?_
      show X l g E ({ frames := 2, cells := 0, slots := 0, locals := 42 } : Room) 2 [(o, ob 6 [jv rn, .ref d1, jv e, jv nc, .ref d2, jv oc, .ref d3, jv co, .ref d4, jv un, .ref d5, jv kn, .ref d6, .ref d7, .ref d8, Jv lU, Jv lB, jv vn, .ref d9, .ref da, .ref db, .ref dc, .ref dd, .ref de, jv lk]), (d1, ai g 61 rf), (d2, ai g 9 nw), (d3, ai g 9 ol), (d4, az g 64 bt), (d5, ai g 70 uf), (d6, ai g 70 kf), (d7, ai g 70 re), (d8, ai g 71 fw), (d9, ai g 10 pm), (da, ai g 600 fs), (db, ai g 600 la), (dc, ai g 600 fk), (dd, al g 600 us), (de, al g 600 bs)] 0 0 [(0, .ref o), (1, jv u)] 17 [jv 1]
      refine x_if_eq (pc := 17) C 24 dX6_maybe_17 rfl ⟨by decide, by decide⟩ (fun h => absurd h (by decide)) (fun _ => ?_)
      refine x_iconst (pc := 20) C dX6_maybe_20 ?_
      refine x_goto (pc := 21) C 25 dX6_maybe_21 rfl ?_
      refine x_iret (pc := 25) C Rt0 dX6_maybe_25 rfl ?_
      refine Or.inr (Or.inl ⟨rfl, rfl, ?_⟩)
      exact ⟨by omega, by omega, f_14⟩
    · refine x_world (ws' := [(o, ob 6 [jv rn, .ref d1, jv e, jv nc, .ref d2, jv oc, .ref d3, jv co, .ref d4, jv un, .ref d5, jv kn, .ref d6, .ref d7, .ref d8, Jv lU, Jv lB, jv vn, .ref d9, .ref da, .ref db, .ref dc, .ref dd, .ref de, jv lk]), (d1, ai g 61 rf), (d2, ai g 9 nw), (d3, ai g 9 ol), (d4, az g 64 bt), (d5, ai g 70 uf), (d6, ai g 70 kf), (d7, ai g 70 re), (d8, ai g 71 fw), (d9, ai g 10 pm), (da, ai g 600 fs), (db, ai g 600 la), (dc, ai g 600 fk), (dd, al g 600 us), (de, al g 600 bs)]) [13, 0, 1, 2, 14, 3, 4, 5, 6, 7, 8, 9, 10, 11, 12] (by decide) rfl ?_
      show X l g E ({ frames := 2, cells := 0, slots := 0, locals := 42 } : Room) 2 [(o, ob 6 [jv rn, .ref d1, jv e, jv nc, .ref d2, jv oc, .ref d3, jv co, .ref d4, jv un, .ref d5, jv kn, .ref d6, .ref d7, .ref d8, Jv lU, Jv lB, jv vn, .ref d9, .ref da, .ref db, .ref dc, .ref dd, .ref de, jv lk]), (d1, ai g 61 rf), (d2, ai g 9 nw), (d3, ai g 9 ol), (d4, az g 64 bt), (d5, ai g 70 uf), (d6, ai g 70 kf), (d7, ai g 70 re), (d8, ai g 71 fw), (d9, ai g 10 pm), (da, ai g 600 fs), (db, ai g 600 la), (dc, ai g 600 fk), (dd, al g 600 us), (de, al g 600 bs)] 0 0 [(0, .ref o), (1, jv u)] 17 [jv 0]
      refine x_if_eq (pc := 17) C 24 dX6_maybe_17 rfl ⟨by decide, by decide⟩ (fun _ => ?_) (fun h => absurd h (by decide))
      refine x_iconst (pc := 24) C dX6_maybe_24 ?_
      refine x_iret (pc := 25) C Rt0 dX6_maybe_25 rfl ?_
      refine Or.inr (Or.inr (⟨rfl, rfl, ?_⟩))
      exact ⟨by omega, by omega, f_14⟩
  · refine x_world (ws' := [(o, ob 6 [jv rn, .ref d1, jv e, jv nc, .ref d2, jv oc, .ref d3, jv co, .ref d4, jv un, .ref d5, jv kn, .ref d6, .ref d7, .ref d8, Jv lU, Jv lB, jv vn, .ref d9, .ref da, .ref db, .ref dc, .ref dd, .ref de, jv lk]), (d1, ai g 61 rf), (d2, ai g 9 nw), (d3, ai g 9 ol), (d4, az g 64 bt), (d5, ai g 70 uf), (d6, ai g 70 kf), (d7, ai g 70 re), (d8, ai g 71 fw), (d9, ai g 10 pm), (da, ai g 600 fs), (db, ai g 600 la), (dc, ai g 600 fk), (dd, al g 600 us), (de, al g 600 bs)]) [0, 1, 2, 3, 4, 5, 6, 7, 8, 9, 10, 11, 12, 13, 14] (by decide) rfl ?_
    show X l g E ({ frames := 2, cells := 0, slots := 0, locals := 42 } : Room) 2 [(o, ob 6 [jv rn, .ref d1, jv e, jv nc, .ref d2, jv oc, .ref d3, jv co, .ref d4, jv un, .ref d5, jv kn, .ref d6, .ref d7, .ref d8, Jv lU, Jv lB, jv vn, .ref d9, .ref da, .ref db, .ref dc, .ref dd, .ref de, jv lk]), (d1, ai g 61 rf), (d2, ai g 9 nw), (d3, ai g 9 ol), (d4, az g 64 bt), (d5, ai g 70 uf), (d6, ai g 70 kf), (d7, ai g 70 re), (d8, ai g 71 fw), (d9, ai g 10 pm), (da, ai g 600 fs), (db, ai g 600 la), (dc, ai g 600 fk), (dd, al g 600 us), (de, al g 600 bs)] 0 0 [(0, .ref o), (1, jv u)] 4 [jv 0]
    refine x_if_ne (pc := 4) C 12 dX6_maybe_4 rfl ⟨by decide, by decide⟩ (fun h => absurd h (by decide)) (fun _ => ?_)
    refine x_bipush (pc := 7) C dX6_maybe_7 rfl ?_
    refine x_goto (pc := 9) C 25 dX6_maybe_9 rfl ?_
    refine x_iret (pc := 25) C Rt0 dX6_maybe_25 rfl ?_
    refine Or.inl ⟨rfl, rfl, ?_⟩
    omega

set_option maxRecDepth 100000 in
theorem hiX6_wrong_6 : ∀ w ∈ wsX60, w ∈ wsX6_wrong := by decide +kernel
set_option maxRecDepth 100000 in
theorem hfX6_wrong_27 : Cond.fieldLink RX6 27 "KeyGuessModel" "now" "[I" ∈ wsX6_wrong := by decide +kernel
set_option maxRecDepth 100000 in
theorem hfX6_wrong_66 : Cond.fieldLink RX6 66 "KeyGuessModel" "nowMany" "I" ∈ wsX6_wrong := by decide +kernel
set_option maxHeartbeats 4000000 in
set_option maxRecDepth 100000 in
/-- wrong -/
theorem ctX6_wrong (l : Launch) (g : xG) (o : Nat) (d1 : Nat) (d2 : Nat) (d3 : Nat) (d4 : Nat) (d5 : Nat) (d6 : Nat) (d7 : Nat) (d8 : Nat) (d9 : Nat) (da : Nat) (db : Nat) (dc : Nat) (dd : Nat) (de : Nat) (rn : Int) (e : Int) (nc : Int) (oc : Int) (co : Int) (un : Int) (kn : Int) (lU : Int) (lB : Int) (vn : Int) (lk : Int) (rf : Int → Int) (nw : Int → Int) (ol : Int → Int) (bt : Int → Bool) (uf : Int → Int) (kf : Int → Int) (re : Int → Int) (fw : Int → Int) (pm : Int → Int) (fs : Int → Int) (la : Int → Int) (fk : Int → Int) (us : Int → Int) (bs : Int → Int) (nn : Int) (nf : Int → Int) (u : Int) (v : Int) (B : Int → Bool) (hno : NO nn nf rn rf nc nw oc ol) (hB : ∀ j : Int, 0 ≤ j → j < 64 → bt j = B j) (ru : Rg u) (rv : Rg v) : Ct l g yX6_wrong wsX6_wrong ({ frames := 3, cells := 0, slots := 0, locals := 63 } : Room) 0 0 [(o, ob 6 [jv rn, .ref d1, jv e, jv nc, .ref d2, jv oc, .ref d3, jv co, .ref d4, jv un, .ref d5, jv kn, .ref d6, .ref d7, .ref d8, Jv lU, Jv lB, jv vn, .ref d9, .ref da, .ref db, .ref dc, .ref dd, .ref de, jv lk]), (d1, ai g 61 rf), (d2, ai g 9 nw), (d3, ai g 9 ol), (d4, az g 64 bt), (d5, ai g 70 uf), (d6, ai g 70 kf), (d7, ai g 70 re), (d8, ai g 71 fw), (d9, ai g 10 pm), (da, ai g 600 fs), (db, ai g 600 la), (dc, ai g 600 fk), (dd, al g 600 us), (de, al g 600 bs)] [.ref o, jv u, jv v] (fun rV rU => (rV = some (jv (-2)) ∧ rU = [(o, ob 6 [jv rn, .ref d1, jv e, jv nc, .ref d2, jv oc, .ref d3, jv co, .ref d4, jv un, .ref d5, jv kn, .ref d6, .ref d7, .ref d8, Jv lU, Jv lB, jv vn, .ref d9, .ref da, .ref db, .ref dc, .ref dd, .ref de, jv lk]), (d1, ai g 61 rf), (d2, ai g 9 nw), (d3, ai g 9 ol), (d4, az g 64 bt), (d5, ai g 70 uf), (d6, ai g 70 kf), (d7, ai g 70 re), (d8, ai g 71 fw), (d9, ai g 10 pm), (da, ai g 600 fs), (db, ai g 600 la), (dc, ai g 600 fk), (dd, al g 600 us), (de, al g 600 bs)] ∧ (u < 0 ∨ 1000000 < u ∨ v < 0 ∨ 1000000 < v ∨ v < u ∨ 2000 < v - u)) ∨ (∃ (r : Int) (f1 : Int → Int), rV = some (jv r) ∧ rU = [(o, ob 6 [jv rn, .ref d1, jv e, jv nc, .ref d2, jv oc, .ref d3, jv co, .ref d4, jv nn, .ref d5, jv kn, .ref d6, .ref d7, .ref d8, Jv lU, Jv lB, jv vn, .ref d9, .ref da, .ref db, .ref dc, .ref dd, .ref de, jv lk]), (d1, ai g 61 rf), (d2, ai g 9 nw), (d3, ai g 9 ol), (d4, az g 64 bt), (d5, ai g 70 f1), (d6, ai g 70 kf), (d7, ai g 70 re), (d8, ai g 71 fw), (d9, ai g 10 pm), (da, ai g 600 fs), (db, ai g 600 la), (dc, ai g 600 fk), (dd, al g 600 us), (de, al g 600 bs)] ∧ (0 ≤ u ∧ u ≤ v ∧ v ≤ 1000000 ∧ v - u ≤ 2000 ∧ r = cnt (fun i => mbb B (u + i) && !inb nn nf (u + i)) (v + 1 - u).toNat))) := by
  refine ct_of (cc := cX6_wrong) (nL := 5) (ret := (some .int)) (by decide) rfl (Nat.le_of_ble_eq_true rfl) ?_
  intro E C Rt0
  have C : Cx l g E ({ frames := 3, cells := 0, slots := 0, locals := 63 } : Room) RX6 "wrong" cX6_wrong wsX6_wrong 5 := C
  show X l g E ({ frames := 3, cells := 0, slots := 0, locals := 63 } : Room) 5 [(o, ob 6 [jv rn, .ref d1, jv e, jv nc, .ref d2, jv oc, .ref d3, jv co, .ref d4, jv un, .ref d5, jv kn, .ref d6, .ref d7, .ref d8, Jv lU, Jv lB, jv vn, .ref d9, .ref da, .ref db, .ref dc, .ref dd, .ref de, jv lk]), (d1, ai g 61 rf), (d2, ai g 9 nw), (d3, ai g 9 ol), (d4, az g 64 bt), (d5, ai g 70 uf), (d6, ai g 70 kf), (d7, ai g 70 re), (d8, ai g 71 fw), (d9, ai g 10 pm), (da, ai g 600 fs), (db, ai g 600 la), (dc, ai g 600 fk), (dd, al g 600 us), (de, al g 600 bs)] 0 0 [(0, .ref o), (1, jv u), (2, jv v)] 0 []
  have n1 := hno.1
  have nn0 := n1.1
  have nn1 := n1.2.1
  have ru1 := ru.1
  have ru2 := ru.2
  have rv1 := rv.1
  have rv2 := rv.2
  refine x_iload_n (pc := 0) C 1 dX6_wrong_0 rfl ?_
  refine x_iload_n (pc := 1) C 2 dX6_wrong_1 rfl ?_
  refine x_callS (pc := 2) C (n := 2) (rest := []) (wr := [(o, ob 6 [jv rn, .ref d1, jv e, jv nc, .ref d2, jv oc, .ref d3, jv co, .ref d4, jv un, .ref d5, jv kn, .ref d6, .ref d7, .ref d8, Jv lU, Jv lB, jv vn, .ref d9, .ref da, .ref db, .ref dc, .ref dd, .ref de, jv lk]), (d1, ai g 61 rf), (d2, ai g 9 nw), (d3, ai g 9 ol), (d4, az g 64 bt), (d5, ai g 70 uf), (d6, ai g 70 kf), (d7, ai g 70 re), (d8, ai g 71 fw), (d9, ai g 10 pm), (da, ai g 600 fs), (db, ai g 600 la), (dc, ai g 600 fk), (dd, al g 600 us), (de, al g 600 bs)]) [] [0, 1, 2, 3, 4, 5, 6, 7, 8, 9, 10, 11, 12, 13, 14] (ctX6_isSpan l g u v ru rv) gX6_wrong_X6_isSpan rfl (by decide +kernel) ⟨rfl, rfl⟩ ⟨by decide, by decide⟩ rfl rfl rfl (by decide) (by decide) (by decide) rfl (Nat.le_of_ble_eq_true rfl) dX6_wrong_2 ⟨by decide, by decide⟩ (fun v_2 u_2 h_2 => ?_)
  rcases h_2 with ⟨rfl, rfl, f_2⟩ | ⟨rfl, rfl, f_2⟩
  · refine x_world (ws' := [(o, ob 6 [jv rn, .ref d1, jv e, jv nc, .ref d2, jv oc, .ref d3, jv co, .ref d4, jv un, .ref d5, jv kn, .ref d6, .ref d7, .ref d8, Jv lU, Jv lB, jv vn, .ref d9, .ref da, .ref db, .ref dc, .ref dd, .ref de, jv lk]), (d1, ai g 61 rf), (d2, ai g 9 nw), (d3, ai g 9 ol), (d4, az g 64 bt), (d5, ai g 70 uf), (d6, ai g 70 kf), (d7, ai g 70 re), (d8, ai g 71 fw), (d9, ai g 10 pm), (da, ai g 600 fs), (db, ai g 600 la), (dc, ai g 600 fk), (dd, al g 600 us), (de, al g 600 bs)]) [0, 1, 2, 3, 4, 5, 6, 7, 8, 9, 10, 11, 12, 13, 14] (by decide) rfl ?_
    show X l g E ({ frames := 3, cells := 0, slots := 0, locals := 63 } : Room) 5 [(o, ob 6 [jv rn, .ref d1, jv e, jv nc, .ref d2, jv oc, .ref d3, jv co, .ref d4, jv un, .ref d5, jv kn, .ref d6, .ref d7, .ref d8, Jv lU, Jv lB, jv vn, .ref d9, .ref da, .ref db, .ref dc, .ref dd, .ref de, jv lk]), (d1, ai g 61 rf), (d2, ai g 9 nw), (d3, ai g 9 ol), (d4, az g 64 bt), (d5, ai g 70 uf), (d6, ai g 70 kf), (d7, ai g 70 re), (d8, ai g 71 fw), (d9, ai g 10 pm), (da, ai g 600 fs), (db, ai g 600 la), (dc, ai g 600 fk), (dd, al g 600 us), (de, al g 600 bs)] 0 0 [(0, .ref o), (1, jv u), (2, jv v)] 5 [jv 1]
    refine x_if_eq (pc := 5) C 17 dX6_wrong_5 rfl ⟨by decide, by decide⟩ (fun h => absurd h (by decide)) (fun _ => ?_)
    refine x_iload_n (pc := 8) C 2 dX6_wrong_8 rfl ?_
    refine x_iload_n (pc := 9) C 1 dX6_wrong_9 rfl ?_
    refine x_isub (pc := 10) C dX6_wrong_10 ?_
    refine x_sipush (pc := 11) C dX6_wrong_11 rfl ?_
    refine x_icmp_le (pc := 14) C 20 dX6_wrong_14 rfl ⟨by omega, by omega⟩ ⟨by omega, by omega⟩ (fun c_14 => ?_) (fun c_14 => ?_)
    · refine x_aload_n (pc := 20) C 0 dX6_wrong_20 rfl ?_
      refine x_callV (pc := 21) C (n := 0) (q0 := 0) (rest := []) (wr := [(d4, az g 64 bt), (d6, ai g 70 kf), (d7, ai g 70 re), (d8, ai g 71 fw), (d9, ai g 10 pm), (da, ai g 600 fs), (db, ai g 600 la), (dc, ai g 600 fk), (dd, al g 600 us), (de, al g 600 bs)]) [0, 1, 2, 3, 5] [4, 6, 7, 8, 9, 10, 11, 12, 13, 14] (ctX6_layNow l g o d1 d2 d3 d4 d5 d6 d7 d8 d9 da db dc dd de rn e nc oc co un kn lU lB vn lk rf nw ol uf nn nf hno) gX6_wrong_X6_layNow rfl ⟨rfl, rfl⟩ (by decide +kernel) ⟨by decide, by decide⟩ rfl rfl rfl rfl rfl (by decide) (by decide) (by decide) rfl (Nat.le_of_ble_eq_true rfl) dX6_wrong_21 ⟨by decide, by decide⟩ (fun v_21 u_21 h_21 => ?_)
      rcases h_21 with ⟨f1, rfl, rfl, f_21⟩
      refine x_world (ws' := [(o, ob 6 [jv rn, .ref d1, jv e, jv nc, .ref d2, jv oc, .ref d3, jv co, .ref d4, jv nn, .ref d5, jv kn, .ref d6, .ref d7, .ref d8, Jv lU, Jv lB, jv vn, .ref d9, .ref da, .ref db, .ref dc, .ref dd, .ref de, jv lk]), (d1, ai g 61 rf), (d2, ai g 9 nw), (d3, ai g 9 ol), (d4, az g 64 bt), (d5, ai g 70 f1), (d6, ai g 70 kf), (d7, ai g 70 re), (d8, ai g 71 fw), (d9, ai g 10 pm), (da, ai g 600 fs), (db, ai g 600 la), (dc, ai g 600 fk), (dd, al g 600 us), (de, al g 600 bs)]) [10, 11, 12, 13, 0, 14, 1, 2, 3, 4, 5, 6, 7, 8, 9] (by decide) rfl ?_
      show X l g E ({ frames := 3, cells := 0, slots := 0, locals := 63 } : Room) 5 [(o, ob 6 [jv rn, .ref d1, jv e, jv nc, .ref d2, jv oc, .ref d3, jv co, .ref d4, jv nn, .ref d5, jv kn, .ref d6, .ref d7, .ref d8, Jv lU, Jv lB, jv vn, .ref d9, .ref da, .ref db, .ref dc, .ref dd, .ref de, jv lk]), (d1, ai g 61 rf), (d2, ai g 9 nw), (d3, ai g 9 ol), (d4, az g 64 bt), (d5, ai g 70 f1), (d6, ai g 70 kf), (d7, ai g 70 re), (d8, ai g 71 fw), (d9, ai g 10 pm), (da, ai g 600 fs), (db, ai g 600 la), (dc, ai g 600 fk), (dd, al g 600 us), (de, al g 600 bs)] 0 0 [(0, .ref o), (1, jv u), (2, jv v)] 24 []
      have hku : Kr nn f1 := n1.congr f_21.symm
      refine x_iconst (pc := 24) C dX6_wrong_24 ?_
      refine x_istore_n (pc := 25) C (lv' := [(3, jv 0), (0, .ref o), (1, jv u), (2, jv v)]) dX6_wrong_25 (by decide) rfl ?_
      refine x_iload_n (pc := 26) C 2 dX6_wrong_26 rfl ?_
      refine x_istore (pc := 27) C (lv' := [(4, jv u), (3, jv 0), (0, .ref o), (1, jv u), (2, jv v)]) dX6_wrong_27 (by decide) rfl ?_
      have L29 : ∀ (kμ : Nat) (j : Int) (z : Int), (v + 1 - z).toNat < kμ → (u ≤ z ∧ z ≤ v + 1) → (j = cnt (fun i => mbb B (u + i) && !inb nn nf (u + i)) (z - u).toNat) → X l g E ({ frames := 3, cells := 0, slots := 0, locals := 63 } : Room) 5 [(o, ob 6 [jv rn, .ref d1, jv e, jv nc, .ref d2, jv oc, .ref d3, jv co, .ref d4, jv nn, .ref d5, jv kn, .ref d6, .ref d7, .ref d8, Jv lU, Jv lB, jv vn, .ref d9, .ref da, .ref db, .ref dc, .ref dd, .ref de, jv lk]), (d1, ai g 61 rf), (d2, ai g 9 nw), (d3, ai g 9 ol), (d4, az g 64 bt), (d5, ai g 70 f1), (d6, ai g 70 kf), (d7, ai g 70 re), (d8, ai g 71 fw), (d9, ai g 10 pm), (da, ai g 600 fs), (db, ai g 600 la), (dc, ai g 600 fk), (dd, al g 600 us), (de, al g 600 bs)] 0 0 [(0, .ref o), (1, jv u), (2, jv v), (3, jv j), (4, jv z)] 29 [] := by
        intro kμ
        induction kμ with
        | zero => intro j z hμ; exact absurd hμ (Nat.not_lt_zero _)
        | succ kμ ih29 =>
          intro j z hμ hz hj
          refine x_iload (pc := 29) C 4 dX6_wrong_29 rfl ?_
          refine x_iload_n (pc := 31) C 2 dX6_wrong_31 rfl ?_
          refine x_icmp_gt (pc := 32) C 75 dX6_wrong_32 rfl ⟨by omega, by omega⟩ ⟨by omega, by omega⟩ (fun c_32 => ?_) (fun c_32 => ?_)
          · refine x_iload_n (pc := 75) C 3 dX6_wrong_75 rfl ?_
            refine x_iret (pc := 76) C Rt0 dX6_wrong_76 rfl ?_
            refine Or.inr (⟨_, _, rfl, rfl, ?_⟩)
            exact ⟨by omega, by omega, by omega, by omega, by rw [hj, show z = v + 1 by omega]⟩
          · refine x_iload_n (pc := 35) C 3 dX6_wrong_35 rfl ?_
            refine x_aload_n (pc := 36) C 0 dX6_wrong_36 rfl ?_
            refine x_iload (pc := 37) C 4 dX6_wrong_37 rfl ?_
            refine x_callV (pc := 39) C (n := 1) (q0 := 0) (rest := [jv j]) (wr := [(d1, ai g 61 rf), (d2, ai g 9 nw), (d3, ai g 9 ol), (d5, ai g 70 f1), (d6, ai g 70 kf), (d7, ai g 70 re), (d8, ai g 71 fw), (d9, ai g 10 pm), (da, ai g 600 fs), (db, ai g 600 la), (dc, ai g 600 fk), (dd, al g 600 us), (de, al g 600 bs)]) [0, 4] [1, 2, 3, 5, 6, 7, 8, 9, 10, 11, 12, 13, 14] (ctX6_isMaybe l g o d1 d2 d3 d4 d5 d6 d7 d8 d9 da db dc dd de rn e nc oc co nn kn lU lB vn lk bt z B ⟨by omega, by omega⟩ hB) gX6_wrong_X6_isMaybe rfl ⟨rfl, rfl⟩ (by decide +kernel) ⟨by decide, by decide⟩ rfl rfl rfl rfl rfl (by decide) (by decide) (by decide) rfl (Nat.le_of_ble_eq_true rfl) dX6_wrong_39 ⟨by decide, by decide⟩ (fun v_39 u_39 h_39 => ?_)
            rcases h_39 with ⟨rfl, rfl, f_39⟩ | ⟨rfl, rfl, f_39⟩
            · refine x_world (ws' := [(o, ob 6 [jv rn, .ref d1, jv e, jv nc, .ref d2, jv oc, .ref d3, jv co, .ref d4, jv nn, .ref d5, jv kn, .ref d6, .ref d7, .ref d8, Jv lU, Jv lB, jv vn, .ref d9, .ref da, .ref db, .ref dc, .ref dd, .ref de, jv lk]), (d1, ai g 61 rf), (d2, ai g 9 nw), (d3, ai g 9 ol), (d4, az g 64 bt), (d5, ai g 70 f1), (d6, ai g 70 kf), (d7, ai g 70 re), (d8, ai g 71 fw), (d9, ai g 10 pm), (da, ai g 600 fs), (db, ai g 600 la), (dc, ai g 600 fk), (dd, al g 600 us), (de, al g 600 bs)]) [13, 0, 1, 2, 14, 3, 4, 5, 6, 7, 8, 9, 10, 11, 12] (by decide) rfl ?_
              show X l g E ({ frames := 3, cells := 0, slots := 0, locals := 63 } : Room) 5 [(o, ob 6 [jv rn, .ref d1, jv e, jv nc, .ref d2, jv oc, .ref d3, jv co, .ref d4, jv nn, .ref d5, jv kn, .ref d6, .ref d7, .ref d8, Jv lU, Jv lB, jv vn, .ref d9, .ref da, .ref db, .ref dc, .ref dd, .ref de, jv lk]), (d1, ai g 61 rf), (d2, ai g 9 nw), (d3, ai g 9 ol), (d4, az g 64 bt), (d5, ai g 70 f1), (d6, ai g 70 kf), (d7, ai g 70 re), (d8, ai g 71 fw), (d9, ai g 10 pm), (da, ai g 600 fs), (db, ai g 600 la), (dc, ai g 600 fk), (dd, al g 600 us), (de, al g 600 bs)] 0 0 [(0, .ref o), (1, jv u), (2, jv v), (3, jv j), (4, jv z)] 42 [jv 1, jv j]
              refine x_if_eq (pc := 42) C 66 dX6_wrong_42 rfl ⟨by decide, by decide⟩ (fun h => absurd h (by decide)) (fun _ => ?_)
              refine x_aload_n (pc := 45) C 0 dX6_wrong_45 rfl ?_
              refine x_get (pc := 46) C 0 10 dX6_wrong_46 hiX6_wrong_6 hfX6_wrong_27 rfl rfl rfl (by decide) rfl ?_
              refine x_aload_n (pc := 49) C 0 dX6_wrong_49 rfl ?_
              refine x_get (pc := 50) C 0 9 dX6_wrong_50 hiX6_wrong_6 hfX6_wrong_66 rfl rfl rfl (by decide) rfl ?_
              refine x_iload (pc := 53) C 4 dX6_wrong_53 rfl ?_
              refine x_callS (pc := 55) C (n := 3) (rest := [jv j]) (wr := [(o, ob 6 [jv rn, .ref d1, jv e, jv nc, .ref d2, jv oc, .ref d3, jv co, .ref d4, jv nn, .ref d5, jv kn, .ref d6, .ref d7, .ref d8, Jv lU, Jv lB, jv vn, .ref d9, .ref da, .ref db, .ref dc, .ref dd, .ref de, jv lk]), (d1, ai g 61 rf), (d2, ai g 9 nw), (d3, ai g 9 ol), (d4, az g 64 bt), (d6, ai g 70 kf), (d7, ai g 70 re), (d8, ai g 71 fw), (d9, ai g 10 pm), (da, ai g 600 fs), (db, ai g 600 la), (dc, ai g 600 fk), (dd, al g 600 us), (de, al g 600 bs)]) [5] [0, 1, 2, 3, 4, 6, 7, 8, 9, 10, 11, 12, 13, 14] (ctX6_placeIn l g d5 70 nn z f1 ⟨by omega, by omega, by omega⟩ hku.2.2.1 ⟨by omega, by omega⟩) gX6_wrong_X6_placeIn rfl (by decide +kernel) ⟨rfl, rfl⟩ ⟨by decide, by decide⟩ rfl rfl rfl (by decide) (by decide) (by decide) rfl (Nat.le_of_ble_eq_true rfl) dX6_wrong_55 ⟨by decide, by decide⟩ (fun v_55 u_55 h_55 => ?_)
              rcases h_55 with ⟨k, rfl, rfl, f_55⟩ | ⟨rfl, rfl, f_55⟩
              · refine x_world (ws' := [(o, ob 6 [jv rn, .ref d1, jv e, jv nc, .ref d2, jv oc, .ref d3, jv co, .ref d4, jv nn, .ref d5, jv kn, .ref d6, .ref d7, .ref d8, Jv lU, Jv lB, jv vn, .ref d9, .ref da, .ref db, .ref dc, .ref dd, .ref de, jv lk]), (d1, ai g 61 rf), (d2, ai g 9 nw), (d3, ai g 9 ol), (d4, az g 64 bt), (d5, ai g 70 f1), (d6, ai g 70 kf), (d7, ai g 70 re), (d8, ai g 71 fw), (d9, ai g 10 pm), (da, ai g 600 fs), (db, ai g 600 la), (dc, ai g 600 fk), (dd, al g 600 us), (de, al g 600 bs)]) [0, 1, 2, 3, 4, 14, 5, 6, 7, 8, 9, 10, 11, 12, 13] (by decide) rfl ?_
                show X l g E ({ frames := 3, cells := 0, slots := 0, locals := 63 } : Room) 5 [(o, ob 6 [jv rn, .ref d1, jv e, jv nc, .ref d2, jv oc, .ref d3, jv co, .ref d4, jv nn, .ref d5, jv kn, .ref d6, .ref d7, .ref d8, Jv lU, Jv lB, jv vn, .ref d9, .ref da, .ref db, .ref dc, .ref dd, .ref de, jv lk]), (d1, ai g 61 rf), (d2, ai g 9 nw), (d3, ai g 9 ol), (d4, az g 64 bt), (d5, ai g 70 f1), (d6, ai g 70 kf), (d7, ai g 70 re), (d8, ai g 71 fw), (d9, ai g 10 pm), (da, ai g 600 fs), (db, ai g 600 la), (dc, ai g 600 fk), (dd, al g 600 us), (de, al g 600 bs)] 0 0 [(0, .ref o), (1, jv u), (2, jv v), (3, jv j), (4, jv z)] 58 [jv k, jv j]
                refine x_iconst (pc := 58) C dX6_wrong_58 ?_
                refine x_icmp_ne (pc := 59) C 66 dX6_wrong_59 rfl ⟨by omega, by omega⟩ ⟨by omega, by omega⟩ (fun c_59 => ?_) (fun c_59 => ?_)
                · refine x_iconst (pc := 66) C dX6_wrong_66 ?_
                  refine x_iadd (pc := 67) C dX6_wrong_67 ?_
                  refine x_istore_n (pc := 68) C (lv' := [(3, jv (j + 0)), (0, .ref o), (1, jv u), (2, jv v), (4, jv z)]) dX6_wrong_68 (by decide) rfl ?_
                  refine x_iinc (pc := 69) C (lv' := [(4, jv (z + 1)), (3, jv (j + 0)), (0, .ref o), (1, jv u), (2, jv v)]) 4 dX6_wrong_69 rfl (by decide) rfl ?_
                  refine x_goto (pc := 72) C 29 dX6_wrong_72 rfl ?_
                  refine x_locals (lv' := [(0, .ref o), (1, jv u), (2, jv v), (3, jv (j + 0)), (4, jv (z + 1))]) [2, 3, 4, 1, 0] rfl ?_
                  refine ih29 _ _ ?_ ?_ ?_
                  · omega
                  · omega
                  · rw [show z + 1 - u = (z - u) + 1 by omega, cnt_s _ (by omega), ← hj, show u + (z - u) = z by omega]
                    rw [if_neg (by rw [inb_t (Inr.congr f_21 ⟨k, by omega, by omega, by omega⟩)]; simp)]
                · omega
              · refine x_world (ws' := [(o, ob 6 [jv rn, .ref d1, jv e, jv nc, .ref d2, jv oc, .ref d3, jv co, .ref d4, jv nn, .ref d5, jv kn, .ref d6, .ref d7, .ref d8, Jv lU, Jv lB, jv vn, .ref d9, .ref da, .ref db, .ref dc, .ref dd, .ref de, jv lk]), (d1, ai g 61 rf), (d2, ai g 9 nw), (d3, ai g 9 ol), (d4, az g 64 bt), (d5, ai g 70 f1), (d6, ai g 70 kf), (d7, ai g 70 re), (d8, ai g 71 fw), (d9, ai g 10 pm), (da, ai g 600 fs), (db, ai g 600 la), (dc, ai g 600 fk), (dd, al g 600 us), (de, al g 600 bs)]) [0, 1, 2, 3, 4, 14, 5, 6, 7, 8, 9, 10, 11, 12, 13] (by decide) rfl ?_
                show X l g E ({ frames := 3, cells := 0, slots := 0, locals := 63 } : Room) 5 [(o, ob 6 [jv rn, .ref d1, jv e, jv nc, .ref d2, jv oc, .ref d3, jv co, .ref d4, jv nn, .ref d5, jv kn, .ref d6, .ref d7, .ref d8, Jv lU, Jv lB, jv vn, .ref d9, .ref da, .ref db, .ref dc, .ref dd, .ref de, jv lk]), (d1, ai g 61 rf), (d2, ai g 9 nw), (d3, ai g 9 ol), (d4, az g 64 bt), (d5, ai g 70 f1), (d6, ai g 70 kf), (d7, ai g 70 re), (d8, ai g 71 fw), (d9, ai g 10 pm), (da, ai g 600 fs), (db, ai g 600 la), (dc, ai g 600 fk), (dd, al g 600 us), (de, al g 600 bs)] 0 0 [(0, .ref o), (1, jv u), (2, jv v), (3, jv j), (4, jv z)] 58 [jv (-1), jv j]
                refine x_iconst (pc := 58) C dX6_wrong_58 ?_
                refine x_icmp_ne (pc := 59) C 66 dX6_wrong_59 rfl ⟨by decide, by decide⟩ ⟨by decide, by decide⟩ (fun h => absurd h (by decide)) (fun _ => ?_)
                refine x_iconst (pc := 62) C dX6_wrong_62 ?_
                refine x_goto (pc := 63) C 67 dX6_wrong_63 rfl ?_
                refine x_iadd (pc := 67) C dX6_wrong_67 ?_
                refine x_istore_n (pc := 68) C (lv' := [(3, jv (j + 1)), (0, .ref o), (1, jv u), (2, jv v), (4, jv z)]) dX6_wrong_68 (by decide) rfl ?_
                refine x_iinc (pc := 69) C (lv' := [(4, jv (z + 1)), (3, jv (j + 1)), (0, .ref o), (1, jv u), (2, jv v)]) 4 dX6_wrong_69 rfl (by decide) rfl ?_
                refine x_goto (pc := 72) C 29 dX6_wrong_72 rfl ?_
                refine x_locals (lv' := [(0, .ref o), (1, jv u), (2, jv v), (3, jv (j + 1)), (4, jv (z + 1))]) [2, 3, 4, 1, 0] rfl ?_
                refine ih29 _ _ ?_ ?_ ?_
                · omega
                · omega
                · rw [show z + 1 - u = (z - u) + 1 by omega, cnt_s _ (by omega), ← hj, show u + (z - u) = z by omega]
                  rw [if_pos (by rw [mbb_t f_39, inb_f (fun q => f_55 (q.congr f_21.symm))]; rfl)]
            · refine x_world (ws' := [(o, ob 6 [jv rn, .ref d1, jv e, jv nc, .ref d2, jv oc, .ref d3, jv co, .ref d4, jv nn, .ref d5, jv kn, .ref d6, .ref d7, .ref d8, Jv lU, Jv lB, jv vn, .ref d9, .ref da, .ref db, .ref dc, .ref dd, .ref de, jv lk]), (d1, ai g 61 rf), (d2, ai g 9 nw), (d3, ai g 9 ol), (d4, az g 64 bt), (d5, ai g 70 f1), (d6, ai g 70 kf), (d7, ai g 70 re), (d8, ai g 71 fw), (d9, ai g 10 pm), (da, ai g 600 fs), (db, ai g 600 la), (dc, ai g 600 fk), (dd, al g 600 us), (de, al g 600 bs)]) [13, 0, 1, 2, 14, 3, 4, 5, 6, 7, 8, 9, 10, 11, 12] (by decide) rfl ?_
              show X l g E ({ frames := 3, cells := 0, slots := 0, locals := 63 } : Room) 5 [(o, ob 6 [jv rn, .ref d1, jv e, jv nc, .ref d2, jv oc, .ref d3, jv co, .ref d4, jv nn, .ref d5, jv kn, .ref d6, .ref d7, .ref d8, Jv lU, Jv lB, jv vn, .ref d9, .ref da, .ref db, .ref dc, .ref dd, .ref de, jv lk]), (d1, ai g 61 rf), (d2, ai g 9 nw), (d3, ai g 9 ol), (d4, az g 64 bt), (d5, ai g 70 f1), (d6, ai g 70 kf), (d7, ai g 70 re), (d8, ai g 71 fw), (d9, ai g 10 pm), (da, ai g 600 fs), (db, ai g 600 la), (dc, ai g 600 fk), (dd, al g 600 us), (de, al g 600 bs)] 0 0 [(0, .ref o), (1, jv u), (2, jv v), (3, jv j), (4, jv z)] 42 [jv 0, jv j]
              refine x_if_eq (pc := 42) C 66 dX6_wrong_42 rfl ⟨by decide, by decide⟩ (fun _ => ?_) (fun h => absurd h (by decide))
              refine x_iconst (pc := 66) C dX6_wrong_66 ?_
              refine x_iadd (pc := 67) C dX6_wrong_67 ?_
              refine x_istore_n (pc := 68) C (lv' := [(3, jv (j + 0)), (0, .ref o), (1, jv u), (2, jv v), (4, jv z)]) dX6_wrong_68 (by decide) rfl ?_
              refine x_iinc (pc := 69) C (lv' := [(4, jv (z + 1)), (3, jv (j + 0)), (0, .ref o), (1, jv u), (2, jv v)]) 4 dX6_wrong_69 rfl (by decide) rfl ?_
              refine x_goto (pc := 72) C 29 dX6_wrong_72 rfl ?_
              refine x_locals (lv' := [(0, .ref o), (1, jv u), (2, jv v), (3, jv (j + 0)), (4, jv (z + 1))]) [2, 3, 4, 1, 0] rfl ?_
              refine ih29 _ _ ?_ ?_ ?_
              · omega
              · omega
              · rw [show z + 1 - u = (z - u) + 1 by omega, cnt_s _ (by omega), ← hj, show u + (z - u) = z by omega]
                rw [if_neg (by rw [mbb_n f_39]; simp)]
      refine x_locals (lv' := [(0, .ref o), (1, jv u), (2, jv v), (3, jv 0), (4, jv u)]) [2, 3, 4, 1, 0] rfl ?_
      refine L29 _ _ _ (Nat.lt_succ_self _) ?_ ?_
      · omega
      · rw [show (u - u).toNat = 0 by omega]; rfl
    · refine x_bipush (pc := 17) C dX6_wrong_17 rfl ?_
      refine x_iret (pc := 19) C Rt0 dX6_wrong_19 rfl ?_
      refine Or.inl ⟨rfl, rfl, ?_⟩
      omega
  · refine x_world (ws' := [(o, ob 6 [jv rn, .ref d1, jv e, jv nc, .ref d2, jv oc, .ref d3, jv co, .ref d4, jv un, .ref d5, jv kn, .ref d6, .ref d7, .ref d8, Jv lU, Jv lB, jv vn, .ref d9, .ref da, .ref db, .ref dc, .ref dd, .ref de, jv lk]), (d1, ai g 61 rf), (d2, ai g 9 nw), (d3, ai g 9 ol), (d4, az g 64 bt), (d5, ai g 70 uf), (d6, ai g 70 kf), (d7, ai g 70 re), (d8, ai g 71 fw), (d9, ai g 10 pm), (da, ai g 600 fs), (db, ai g 600 la), (dc, ai g 600 fk), (dd, al g 600 us), (de, al g 600 bs)]) [0, 1, 2, 3, 4, 5, 6, 7, 8, 9, 10, 11, 12, 13, 14] (by decide) rfl ?_
    show X l g E ({ frames := 3, cells := 0, slots := 0, locals := 63 } : Room) 5 [(o, ob 6 [jv rn, .ref d1, jv e, jv nc, .ref d2, jv oc, .ref d3, jv co, .ref d4, jv un, .ref d5, jv kn, .ref d6, .ref d7, .ref d8, Jv lU, Jv lB, jv vn, .ref d9, .ref da, .ref db, .ref dc, .ref dd, .ref de, jv lk]), (d1, ai g 61 rf), (d2, ai g 9 nw), (d3, ai g 9 ol), (d4, az g 64 bt), (d5, ai g 70 uf), (d6, ai g 70 kf), (d7, ai g 70 re), (d8, ai g 71 fw), (d9, ai g 10 pm), (da, ai g 600 fs), (db, ai g 600 la), (dc, ai g 600 fk), (dd, al g 600 us), (de, al g 600 bs)] 0 0 [(0, .ref o), (1, jv u), (2, jv v)] 5 [jv 0]
    refine x_if_eq (pc := 5) C 17 dX6_wrong_5 rfl ⟨by decide, by decide⟩ (fun _ => ?_) (fun h => absurd h (by decide))
    refine x_bipush (pc := 17) C dX6_wrong_17 rfl ?_
    refine x_iret (pc := 19) C Rt0 dX6_wrong_19 rfl ?_
    refine Or.inl ⟨rfl, rfl, ?_⟩
    omega
