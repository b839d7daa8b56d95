theorem setB_agr {c d : Int → Bool} {x : Int} (h : ∀ j : Int, 0 ≤ j → j < 64 → c j = d j) : ∀ j : Int, 0 ≤ j → j < 64 → setB c x j = setB d x j := by
  intro j j0 j1
  unfold setB up
  split
  · rfl
  · split
    · rfl
    · exact h j j0 j1
set_option maxRecDepth 100000 in
theorem hiX6_layLevel_6 : ∀ w ∈ wsX60, w ∈ wsX6_layLevel := by decide +kernel
set_option maxRecDepth 100000 in
theorem hfX6_layLevel_122 : Cond.fieldLink RX6 122 "KeyGuessModel" "keyMany" "I" ∈ wsX6_layLevel := by decide +kernel
set_option maxRecDepth 100000 in
theorem hfX6_layLevel_39 : Cond.fieldLink RX6 39 "KeyGuessModel" "pieceMany" "[I" ∈ wsX6_layLevel := by decide +kernel
set_option maxRecDepth 100000 in
theorem hfX6_layLevel_111 : Cond.fieldLink RX6 111 "KeyGuessModel" "lowUp" "J" ∈ wsX6_layLevel := by decide +kernel
set_option maxRecDepth 100000 in
theorem hfX6_layLevel_115 : Cond.fieldLink RX6 115 "KeyGuessModel" "lowBelow" "J" ∈ wsX6_layLevel := by decide +kernel
set_option maxRecDepth 100000 in
theorem hfX6_layLevel_42 : Cond.fieldLink RX6 42 "KeyGuessModel" "firsts" "[I" ∈ wsX6_layLevel := by decide +kernel
set_option maxRecDepth 100000 in
theorem hfX6_layLevel_45 : Cond.fieldLink RX6 45 "KeyGuessModel" "lasts" "[I" ∈ wsX6_layLevel := by decide +kernel
set_option maxRecDepth 100000 in
theorem hfX6_layLevel_48 : Cond.fieldLink RX6 48 "KeyGuessModel" "firstKeys" "[I" ∈ wsX6_layLevel := by decide +kernel
set_option maxRecDepth 100000 in
theorem hfX6_layLevel_30 : Cond.fieldLink RX6 30 "KeyGuessModel" "keys" "[I" ∈ wsX6_layLevel := by decide +kernel
set_option maxRecDepth 100000 in
theorem hfX6_layLevel_51 : Cond.fieldLink RX6 51 "KeyGuessModel" "ups" "[J" ∈ wsX6_layLevel := by decide +kernel
set_option maxRecDepth 100000 in
theorem hfX6_layLevel_55 : Cond.fieldLink RX6 55 "KeyGuessModel" "belows" "[J" ∈ wsX6_layLevel := by decide +kernel
set_option maxHeartbeats 4000000 in
set_option maxRecDepth 100000 in
/-- layLevel -/
theorem ctX6_layLevel (l : Launch) (g : xG) (o : Nat) (d1 : Nat) (d2 : Nat) (d3 : Nat) (d4 : Nat) (d5 : Nat) (d6 : Nat) (d7 : Nat) (d8 : Nat) (d9 : Nat) (da : Nat) (db : Nat) (dc : Nat) (dd : Nat) (de : Nat) (rn : Int) (e : Int) (nc : Int) (oc : Int) (co : Int) (un : Int) (kn : Int) (lU : Int) (lB : Int) (vn : Int) (lk : Int) (kf : Int → Int) (re : Int → Int) (fw : Int → Int) (pm : Int → Int) (fs : Int → Int) (la : Int → Int) (fk : Int → Int) (us : Int → Int) (bs : Int → Int) (t : Int) (hk : Kr kn kf) (he : 0 ≤ e ∧ e ≤ 8) (hn : 1 ≤ kn) (ht : 0 ≤ t ∧ t < 10) : Ct l g yX6_layLevel wsX6_layLevel ({ frames := 3, cells := 0, slots := 0, locals := 74 } : Room) 0 0 [(o, ob 6 [jv rn, .ref d1, jv e, jv nc, .ref d2, jv oc, .ref d3, jv co, .ref d4, jv un, .ref d5, jv kn, .ref d6, .ref d7, .ref d8, Jv lU, Jv lB, jv vn, .ref d9, .ref da, .ref db, .ref dc, .ref dd, .ref de, jv lk]), (d6, ai g 70 kf), (d7, ai g 70 re), (d8, ai g 71 fw), (d9, ai g 10 pm), (da, ai g 600 fs), (db, ai g 600 la), (dc, ai g 600 fk), (dd, al g 600 us), (de, al g 600 bs)] [.ref o, jv t] (fun rV rU => ∃ (uu : Int) (ub : Int) (m : Int) (re' : Int → Int) (fw' : Int → Int) (g0 : Int → Int) (g1 : Int → Int) (g2 : Int → Int) (g3 : Int → Int) (g4 : Int → Int), rV = none ∧ rU = [(o, ob 6 [jv rn, .ref d1, jv e, jv nc, .ref d2, jv oc, .ref d3, jv co, .ref d4, jv un, .ref d5, jv kn, .ref d6, .ref d7, .ref d8, Jv uu, Jv ub, jv vn, .ref d9, .ref da, .ref db, .ref dc, .ref dd, .ref de, jv lk]), (d6, ai g 70 kf), (d7, ai g 70 re'), (d8, ai g 71 fw'), (d9, ai g 10 (up pm t m)), (da, ai g 600 g0), (db, ai g 600 g1), (dc, ai g 600 g2), (dd, al g 600 g3), (de, al g 600 g4)] ∧ (LvOK kf e kn ∧ m = PM kf e kn ∧ (∀ j : Int, j < 60 * t → g0 j = fs j ∧ g1 j = la j ∧ g2 j = fk j ∧ g3 j = us j ∧ g4 j = bs j) ∧ ∀ k : Int, 0 ≤ k → k < m → g0 (60 * t + k) = P0 kf e kn k ∧ g1 (60 * t + k) = P1 kf e kn k ∧ g2 (60 * t + k) = P2 kf e kn k ∧ g3 (60 * t + k) = P3 kf e kn k ∧ g4 (60 * t + k) = P4 kf e kn k)) := by
  refine ct_of (cc := cX6_layLevel) (nL := 8) (ret := none) (by decide) rfl (Nat.le_of_ble_eq_true rfl) ?_
  intro E C Rt0
  have C : Cx l g E ({ frames := 3, cells := 0, slots := 0, locals := 74 } : Room) RX6 "layLevel" cX6_layLevel wsX6_layLevel 8 := C
  show X l g E ({ frames := 3, cells := 0, slots := 0, locals := 74 } : Room) 8 [(o, ob 6 [jv rn, .ref d1, jv e, jv nc, .ref d2, jv oc, .ref d3, jv co, .ref d4, jv un, .ref d5, jv kn, .ref d6, .ref d7, .ref d8, Jv lU, Jv lB, jv vn, .ref d9, .ref da, .ref db, .ref dc, .ref dd, .ref de, jv lk]), (d6, ai g 70 kf), (d7, ai g 70 re), (d8, ai g 71 fw), (d9, ai g 10 pm), (da, ai g 600 fs), (db, ai g 600 la), (dc, ai g 600 fk), (dd, al g 600 us), (de, al g 600 bs)] 0 0 [(0, .ref o), (1, jv t)] 0 []
  have kn0 := hk.1
  have kn1 := hk.2.1
  refine x_aload_n (pc := 0) C 0 dX6_layLevel_0 rfl ?_
  refine x_callV (pc := 1) C (n := 0) (q0 := 0) (rest := []) (wr := [(d9, ai g 10 pm), (da, ai g 600 fs), (db, ai g 600 la), (dc, ai g 600 fk), (dd, al g 600 us), (de, al g 600 bs)]) [0, 1, 2, 3] [4, 5, 6, 7, 8, 9] (ctX6_layPieces l g o d1 d2 d3 d4 d5 d6 d7 d8 d9 da db dc dd de rn e nc oc co un kn lU lB vn lk kf re fw hk he) gX6_layLevel_X6_layPieces rfl ⟨rfl, rfl⟩ (by decide +kernel) ⟨by decide, by decide⟩ rfl rfl rfl rfl rfl (by decide) (by decide) (by decide) rfl (Nat.le_of_ble_eq_true rfl) dX6_layLevel_1 ⟨by decide, by decide⟩ (fun v_1 u_1 h_1 => ?_)
  rcases h_1 with ⟨u1, b1, re', fw', rfl, rfl, f_1⟩
  refine x_world (ws' := [(o, ob 6 [jv rn, .ref d1, jv e, jv nc, .ref d2, jv oc, .ref d3, jv co, .ref d4, jv un, .ref d5, jv kn, .ref d6, .ref d7, .ref d8, Jv u1, Jv b1, jv vn, .ref d9, .ref da, .ref db, .ref dc, .ref dd, .ref de, jv lk]), (d6, ai g 70 kf), (d7, ai g 70 re'), (d8, ai g 71 fw'), (d9, ai g 10 pm), (da, ai g 600 fs), (db, ai g 600 la), (dc, ai g 600 fk), (dd, al g 600 us), (de, al g 600 bs)]) [6, 7, 8, 9, 0, 1, 2, 3, 4, 5] (by decide) rfl ?_
  show X l g E ({ frames := 3, cells := 0, slots := 0, locals := 74 } : Room) 8 [(o, ob 6 [jv rn, .ref d1, jv e, jv nc, .ref d2, jv oc, .ref d3, jv co, .ref d4, jv un, .ref d5, jv kn, .ref d6, .ref d7, .ref d8, Jv u1, Jv b1, jv vn, .ref d9, .ref da, .ref db, .ref dc, .ref dd, .ref de, jv lk]), (d6, ai g 70 kf), (d7, ai g 70 re'), (d8, ai g 71 fw'), (d9, ai g 10 pm), (da, ai g 600 fs), (db, ai g 600 la), (dc, ai g 600 fk), (dd, al g 600 us), (de, al g 600 bs)] 0 0 [(0, .ref o), (1, jv t)] 4 []
  have hF := f_1.1.ok hk hn
  obtain ⟨hok, hFc⟩ := hF
  have hpm := hok.pm he.1
  refine x_iconst (pc := 4) C dX6_layLevel_4 ?_
  refine x_istore_n (pc := 5) C (lv' := [(2, jv 0), (0, .ref o), (1, jv t)]) dX6_layLevel_5 (by decide) rfl ?_
  refine x_iconst (pc := 6) C dX6_layLevel_6 ?_
  refine x_istore_n (pc := 7) C (lv' := [(3, jv 0), (2, jv 0), (0, .ref o), (1, jv t)]) dX6_layLevel_7 (by decide) rfl ?_
  have L8 : ∀ (kμ : Nat) (m : Int) (i : Int) (u2 : Int) (b2 : Int) (g0 : Int → Int) (g1 : Int → Int) (g2 : Int → Int) (g3 : Int → Int) (g4 : Int → Int), (PM kf e kn - m).toNat < kμ → (0 ≤ m ∧ m ≤ PM kf e kn) → (i = frm (cQ kf e kn).2.1 m.toNat) → (0 ≤ i ∧ i ≤ kn) → (∀ j : Int, j < 60 * t → g0 j = fs j ∧ g1 j = la j ∧ g2 j = fk j ∧ g3 j = us j ∧ g4 j = bs j) → (∀ k : Int, 0 ≤ k → k < m → g0 (60 * t + k) = P0 kf e kn k ∧ g1 (60 * t + k) = P1 kf e kn k ∧ g2 (60 * t + k) = P2 kf e kn k ∧ g3 (60 * t + k) = P3 kf e kn k ∧ g4 (60 * t + k) = P4 kf e kn k) → X l g E ({ frames := 3, cells := 0, slots := 0, locals := 74 } : Room) 8 [(o, ob 6 [jv rn, .ref d1, jv e, jv nc, .ref d2, jv oc, .ref d3, jv co, .ref d4, jv un, .ref d5, jv kn, .ref d6, .ref d7, .ref d8, Jv u2, Jv b2, jv vn, .ref d9, .ref da, .ref db, .ref dc, .ref dd, .ref de, jv lk]), (d6, ai g 70 kf), (d7, ai g 70 re'), (d8, ai g 71 fw'), (d9, ai g 10 pm), (da, ai g 600 g0), (db, ai g 600 g1), (dc, ai g 600 g2), (dd, al g 600 g3), (de, al g 600 g4)] 0 0 [(0, .ref o), (1, jv t), (2, jv m), (3, jv i)] 8 [] := by
    intro kμ
    induction kμ with
    | zero => intro m i u2 b2 g0 g1 g2 g3 g4 hμ; exact absurd hμ (Nat.not_lt_zero _)
    | succ kμ ih8 =>
      intro m i u2 b2 g0 g1 g2 g3 g4 hμ hm hi hic hof hla
      refine x_iload_n (pc := 8) C 3 dX6_layLevel_8 rfl ?_
      refine x_aload_n (pc := 9) C 0 dX6_layLevel_9 rfl ?_
      refine x_get (pc := 10) C 0 11 dX6_layLevel_10 hiX6_layLevel_6 hfX6_layLevel_122 rfl rfl rfl (by decide) rfl ?_
      refine x_icmp_ge (pc := 13) C 120 dX6_layLevel_13 rfl ⟨by omega, by omega⟩ ⟨by omega, by omega⟩ (fun c_13 => ?_) (fun c_13 => ?_)
      · refine x_aload_n (pc := 120) C 0 dX6_layLevel_120 rfl ?_
        refine x_get (pc := 121) C 0 18 dX6_layLevel_121 hiX6_layLevel_6 hfX6_layLevel_39 rfl rfl rfl (by decide) rfl ?_
        refine x_iload_n (pc := 124) C 1 dX6_layLevel_124 rfl ?_
        refine x_iload_n (pc := 125) C 2 dX6_layLevel_125 rfl ?_
        refine x_iast (pc := 126) C (ws' := [(o, ob 6 [jv rn, .ref d1, jv e, jv nc, .ref d2, jv oc, .ref d3, jv co, .ref d4, jv un, .ref d5, jv kn, .ref d6, .ref d7, .ref d8, Jv u2, Jv b2, jv vn, .ref d9, .ref da, .ref db, .ref dc, .ref dd, .ref de, jv lk]), (d6, ai g 70 kf), (d7, ai g 70 re'), (d8, ai g 71 fw'), (d9, ai g 10 (up pm t m)), (da, ai g 600 g0), (db, ai g 600 g1), (dc, ai g 600 g2), (dd, al g 600 g3), (de, al g 600 g4)]) 4 dX6_layLevel_126 rfl (by omega) (by omega) (by decide) rfl ?_
        refine x_vret (pc := 127) C Rt0 dX6_layLevel_127 rfl ?_
        refine ⟨_, _, _, _, _, _, _, _, _, _, rfl, rfl, ?_⟩
        have hmm : m = PM kf e kn := by
          rcases Int.lt_or_le m (PM kf e kn) with q | q
          · have z := (hok.2.2.lt (by omega) (k := m.toNat) (by show (m.toNat : Int) < PM kf e kn; omega)).2
            rw [← hi] at z
            omega
          · omega
        exact ⟨hok, hmm, hof, fun k k0 k1 => hla k k0 k1⟩
      · have hnm : m < PM kf e kn := by
          rcases Int.lt_or_le m (PM kf e kn) with q | q
          · exact q
          · have z : frm (cQ kf e kn).2.1 m.toNat = kn := hok.2.2.end (by omega) (by show (m.toNat : Int) = PM kf e kn; omega)
            omega
        have hil : 0 ≤ i ∧ i < kn := by
          rw [hi]; exact hok.2.2.lt (by omega) (k := m.toNat) (by show (m.toNat : Int) < PM kf e kn; omega)
        have hiP : i = P0 kf e kn m := hi
        refine x_bipush (pc := 16) C dX6_layLevel_16 rfl ?_
        refine x_iload_n (pc := 18) C 1 dX6_layLevel_18 rfl ?_
        refine x_imul (pc := 19) C dX6_layLevel_19 ?_
        refine x_iload_n (pc := 20) C 2 dX6_layLevel_20 rfl ?_
        refine x_iadd (pc := 21) C dX6_layLevel_21 ?_
        refine x_istore (pc := 22) C (lv' := [(4, jv ((60 * t) + m)), (0, .ref o), (1, jv t), (2, jv m), (3, jv i)]) dX6_layLevel_22 (by decide) rfl ?_
        refine x_aload_n (pc := 24) C 1 dX6_layLevel_24 rfl ?_
        refine x_iload_n (pc := 25) C 4 dX6_layLevel_25 rfl ?_
        refine x_callV (pc := 26) C (n := 1) (q0 := 0) (rest := []) (wr := [(d6, ai g 70 kf), (d9, ai g 10 pm), (da, ai g 600 g0), (db, ai g 600 g1), (dc, ai g 600 g2), (dd, al g 600 g3), (de, al g 600 g4)]) [0, 2, 3] [1, 4, 5, 6, 7, 8, 9] (ctX6_endOf l g o d1 d2 d3 d4 d5 d6 d7 d8 d9 da db dc dd de rn e nc oc co un kn u2 b2 vn lk re' fw' i kf f_1.1 f_1.2 ⟨by omega, by omega, by omega⟩) gX6_layLevel_X6_endOf rfl ⟨rfl, rfl⟩ (by decide +kernel) ⟨by decide, by decide⟩ rfl rfl rfl rfl rfl (by decide) (by decide) (by decide) rfl (Nat.le_of_ble_eq_true rfl) dX6_layLevel_26 ⟨by decide, by decide⟩ (fun v_26 u_26 h_26 => ?_)
        rcases h_26 with ⟨j, rfl, rfl, f_26⟩
        refine x_world (ws' := [(o, ob 6 [jv rn, .ref d1, jv e, jv nc, .ref d2, jv oc, .ref d3, jv co, .ref d4, jv un, .ref d5, jv kn, .ref d6, .ref d7, .ref d8, Jv u2, Jv b2, jv vn, .ref d9, .ref da, .ref db, .ref dc, .ref dd, .ref de, jv lk]), (d6, ai g 70 kf), (d7, ai g 70 re'), (d8, ai g 71 fw'), (d9, ai g 10 pm), (da, ai g 600 g0), (db, ai g 600 g1), (dc, ai g 600 g2), (dd, al g 600 g3), (de, al g 600 g4)]) [7, 0, 8, 9, 1, 2, 3, 4, 5, 6] (by decide) rfl ?_
        show X l g E ({ frames := 3, cells := 0, slots := 0, locals := 74 } : Room) 8 [(o, ob 6 [jv rn, .ref d1, jv e, jv nc, .ref d2, jv oc, .ref d3, jv co, .ref d4, jv un, .ref d5, jv kn, .ref d6, .ref d7, .ref d8, Jv u2, Jv b2, jv vn, .ref d9, .ref da, .ref db, .ref dc, .ref dd, .ref de, jv lk]), (d6, ai g 70 kf), (d7, ai g 70 re'), (d8, ai g 71 fw'), (d9, ai g 10 pm), (da, ai g 600 g0), (db, ai g 600 g1), (dc, ai g 600 g2), (dd, al g 600 g3), (de, al g 600 g4)] 0 0 [(4, jv ((60 * t) + m)), (0, .ref o), (1, jv t), (2, jv m), (3, jv i)] 29 [jv j]
        have hjc := f_1.1.at hil.1 hil.2 f_26.2.2
        have hsl := hok.2.2.sl hk he.1 hil.1 hil.2
        refine x_istore (pc := 29) C (lv' := [(5, jv j), (4, jv ((60 * t) + m)), (0, .ref o), (1, jv t), (2, jv m), (3, jv i)]) dX6_layLevel_29 (by decide) rfl ?_
        refine x_aload_n (pc := 31) C 2 dX6_layLevel_31 rfl ?_
        refine x_iload_n (pc := 32) C 5 dX6_layLevel_32 rfl ?_
        refine x_iload (pc := 33) C 0 dX6_layLevel_33 rfl ?_
        refine x_callV (pc := 35) C (n := 2) (q0 := 0) (rest := []) (wr := [(d7, ai g 70 re'), (d8, ai g 71 fw'), (d9, ai g 10 pm), (da, ai g 600 g0), (db, ai g 600 g1), (dc, ai g 600 g2), (dd, al g 600 g3), (de, al g 600 g4)]) [0, 1] [2, 3, 4, 5, 6, 7, 8, 9] (ctX6_layLow l g o d1 d2 d3 d4 d5 d6 d7 d8 d9 da db dc dd de rn e nc oc co un kn u2 b2 vn lk kf i j hk he ⟨by omega, by omega, by omega⟩) gX6_layLevel_X6_layLow rfl ⟨rfl, rfl⟩ (by decide +kernel) ⟨by decide, by decide⟩ rfl rfl rfl rfl rfl (by decide) (by decide) (by decide) rfl (Nat.le_of_ble_eq_true rfl) dX6_layLevel_35 ⟨by decide, by decide⟩ (fun v_35 u_35 h_35 => ?_)
        rcases h_35 with ⟨u3, b3, rfl, rfl, f_35⟩
        refine x_world (ws' := [(o, ob 6 [jv rn, .ref d1, jv e, jv nc, .ref d2, jv oc, .ref d3, jv co, .ref d4, jv un, .ref d5, jv kn, .ref d6, .ref d7, .ref d8, Jv u3, Jv b3, jv vn, .ref d9, .ref da, .ref db, .ref dc, .ref dd, .ref de, jv lk]), (d6, ai g 70 kf), (d7, ai g 70 re'), (d8, ai g 71 fw'), (d9, ai g 10 pm), (da, ai g 600 g0), (db, ai g 600 g1), (dc, ai g 600 g2), (dd, al g 600 g3), (de, al g 600 g4)]) [8, 9, 0, 1, 2, 3, 4, 5, 6, 7] (by decide) rfl ?_
        show X l g E ({ frames := 3, cells := 0, slots := 0, locals := 74 } : Room) 8 [(o, ob 6 [jv rn, .ref d1, jv e, jv nc, .ref d2, jv oc, .ref d3, jv co, .ref d4, jv un, .ref d5, jv kn, .ref d6, .ref d7, .ref d8, Jv u3, Jv b3, jv vn, .ref d9, .ref da, .ref db, .ref dc, .ref dd, .ref de, jv lk]), (d6, ai g 70 kf), (d7, ai g 70 re'), (d8, ai g 71 fw'), (d9, ai g 10 pm), (da, ai g 600 g0), (db, ai g 600 g1), (dc, ai g 600 g2), (dd, al g 600 g3), (de, al g 600 g4)] 0 0 [(5, jv j), (4, jv ((60 * t) + m)), (0, .ref o), (1, jv t), (2, jv m), (3, jv i)] 38 []
        have hu3 : u3 = (cQ kf e kn).2.2.1 i := by rw [f_35.1]; exact hjc.2.1
        have hb3 : b3 = (cQ kf e kn).2.2.2 i := by rw [f_35.2]; exact hjc.2.2
        refine x_aload_n (pc := 38) C 2 dX6_layLevel_38 rfl ?_
        refine x_get (pc := 39) C 0 15 dX6_layLevel_39 hiX6_layLevel_6 hfX6_layLevel_111 rfl rfl rfl (by decide) rfl ?_
        refine x_aload_n (pc := 42) C 2 dX6_layLevel_42 rfl ?_
        refine x_get (pc := 43) C 0 16 dX6_layLevel_43 hiX6_layLevel_6 hfX6_layLevel_115 rfl rfl rfl (by decide) rfl ?_
        refine x_callS (pc := 46) C (n := 2) (rest := []) (wr := [(o, ob 6 [jv rn, .ref d1, jv e, jv nc, .ref d2, jv oc, .ref d3, jv co, .ref d4, jv un, .ref d5, jv kn, .ref d6, .ref d7, .ref d8, Jv u3, Jv b3, jv vn, .ref d9, .ref da, .ref db, .ref dc, .ref dd, .ref de, jv lk]), (d6, ai g 70 kf), (d7, ai g 70 re'), (d8, ai g 71 fw'), (d9, ai g 10 pm), (da, ai g 600 g0), (db, ai g 600 g1), (dc, ai g 600 g2), (dd, al g 600 g3), (de, al g 600 g4)]) [] [0, 1, 2, 3, 4, 5, 6, 7, 8, 9] (ctX6_divisor l g u3 b3 ⟨by omega, by omega⟩ ⟨by omega, by omega⟩) gX6_layLevel_X6_divisor rfl (by decide +kernel) ⟨rfl, rfl⟩ ⟨by decide, by decide⟩ rfl rfl rfl (by decide) (by decide) (by decide) rfl (Nat.le_of_ble_eq_true rfl) dX6_layLevel_46 ⟨by decide, by decide⟩ (fun v_46 u_46 h_46 => ?_)
        rcases h_46 with ⟨gg, rfl, rfl, f_46⟩
        refine x_world (ws' := [(o, ob 6 [jv rn, .ref d1, jv e, jv nc, .ref d2, jv oc, .ref d3, jv co, .ref d4, jv un, .ref d5, jv kn, .ref d6, .ref d7, .ref d8, Jv u3, Jv b3, jv vn, .ref d9, .ref da, .ref db, .ref dc, .ref dd, .ref de, jv lk]), (d6, ai g 70 kf), (d7, ai g 70 re'), (d8, ai g 71 fw'), (d9, ai g 10 pm), (da, ai g 600 g0), (db, ai g 600 g1), (dc, ai g 600 g2), (dd, al g 600 g3), (de, al g 600 g4)]) [0, 1, 2, 3, 4, 5, 6, 7, 8, 9] (by decide) rfl ?_
        show X l g E ({ frames := 3, cells := 0, slots := 0, locals := 74 } : Room) 8 [(o, ob 6 [jv rn, .ref d1, jv e, jv nc, .ref d2, jv oc, .ref d3, jv co, .ref d4, jv un, .ref d5, jv kn, .ref d6, .ref d7, .ref d8, Jv u3, Jv b3, jv vn, .ref d9, .ref da, .ref db, .ref dc, .ref dd, .ref de, jv lk]), (d6, ai g 70 kf), (d7, ai g 70 re'), (d8, ai g 71 fw'), (d9, ai g 10 pm), (da, ai g 600 g0), (db, ai g 600 g1), (dc, ai g 600 g2), (dd, al g 600 g3), (de, al g 600 g4)] 0 0 [(5, jv j), (4, jv ((60 * t) + m)), (0, .ref o), (1, jv t), (2, jv m), (3, jv i)] 49 [Jv gg]
        have g1p : 1 ≤ gg := by rw [f_46]; exact gcdI_pos (by omega)
        have g2p : gg ≤ b3 := by rw [f_46]; exact gcdI_le (by omega)
        refine x_lstore (pc := 49) C (lv' := [(6, Jv gg), (5, jv j), (4, jv ((60 * t) + m)), (0, .ref o), (1, jv t), (2, jv m), (3, jv i)]) dX6_layLevel_49 (by decide) rfl ?_
        refine x_aload_n (pc := 51) C 3 dX6_layLevel_51 rfl ?_
        refine x_get (pc := 52) C 0 19 dX6_layLevel_52 hiX6_layLevel_6 hfX6_layLevel_42 rfl rfl rfl (by decide) rfl ?_
        refine x_iload (pc := 55) C 2 dX6_layLevel_55 rfl ?_
        refine x_iload_n (pc := 57) C 6 dX6_layLevel_57 rfl ?_
        refine x_iast (pc := 58) C (ws' := [(o, ob 6 [jv rn, .ref d1, jv e, jv nc, .ref d2, jv oc, .ref d3, jv co, .ref d4, jv un, .ref d5, jv kn, .ref d6, .ref d7, .ref d8, Jv u3, Jv b3, jv vn, .ref d9, .ref da, .ref db, .ref dc, .ref dd, .ref de, jv lk]), (d6, ai g 70 kf), (d7, ai g 70 re'), (d8, ai g 71 fw'), (d9, ai g 10 pm), (da, ai g 600 (up g0 ((60 * t) + m) i)), (db, ai g 600 g1), (dc, ai g 600 g2), (dd, al g 600 g3), (de, al g 600 g4)]) 5 dX6_layLevel_58 rfl (by omega) (by omega) (by decide) rfl ?_
        refine x_aload_n (pc := 59) C 3 dX6_layLevel_59 rfl ?_
        refine x_get (pc := 60) C 0 20 dX6_layLevel_60 hiX6_layLevel_6 hfX6_layLevel_45 rfl rfl rfl (by decide) rfl ?_
        refine x_iload (pc := 63) C 2 dX6_layLevel_63 rfl ?_
        refine x_iload (pc := 65) C 1 dX6_layLevel_65 rfl ?_
        refine x_iast (pc := 67) C (ws' := [(o, ob 6 [jv rn, .ref d1, jv e, jv nc, .ref d2, jv oc, .ref d3, jv co, .ref d4, jv un, .ref d5, jv kn, .ref d6, .ref d7, .ref d8, Jv u3, Jv b3, jv vn, .ref d9, .ref da, .ref db, .ref dc, .ref dd, .ref de, jv lk]), (d6, ai g 70 kf), (d7, ai g 70 re'), (d8, ai g 71 fw'), (d9, ai g 10 pm), (da, ai g 600 (up g0 ((60 * t) + m) i)), (db, ai g 600 (up g1 ((60 * t) + m) j)), (dc, ai g 600 g2), (dd, al g 600 g3), (de, al g 600 g4)]) 6 dX6_layLevel_67 rfl (by omega) (by omega) (by decide) rfl ?_
        refine x_aload_n (pc := 68) C 3 dX6_layLevel_68 rfl ?_
        refine x_get (pc := 69) C 0 21 dX6_layLevel_69 hiX6_layLevel_6 hfX6_layLevel_48 rfl rfl rfl (by decide) rfl ?_
        refine x_iload (pc := 72) C 2 dX6_layLevel_72 rfl ?_
        refine x_aload_n (pc := 74) C 3 dX6_layLevel_74 rfl ?_
        refine x_get (pc := 75) C 0 12 dX6_layLevel_75 hiX6_layLevel_6 hfX6_layLevel_30 rfl rfl rfl (by decide) rfl ?_
        refine x_iload_n (pc := 78) C 6 dX6_layLevel_78 rfl ?_
        refine x_iald (pc := 79) C 1 dX6_layLevel_79 rfl (by omega) (by omega) (by decide) ?_
        refine x_iast (pc := 80) C (ws' := [(o, ob 6 [jv rn, .ref d1, jv e, jv nc, .ref d2, jv oc, .ref d3, jv co, .ref d4, jv un, .ref d5, jv kn, .ref d6, .ref d7, .ref d8, Jv u3, Jv b3, jv vn, .ref d9, .ref da, .ref db, .ref dc, .ref dd, .ref de, jv lk]), (d6, ai g 70 kf), (d7, ai g 70 re'), (d8, ai g 71 fw'), (d9, ai g 10 pm), (da, ai g 600 (up g0 ((60 * t) + m) i)), (db, ai g 600 (up g1 ((60 * t) + m) j)), (dc, ai g 600 (up g2 ((60 * t) + m) (kf i))), (dd, al g 600 g3), (de, al g 600 g4)]) 7 dX6_layLevel_80 rfl (by omega) (by omega) (by decide) rfl ?_
        refine x_aload_n (pc := 81) C 3 dX6_layLevel_81 rfl ?_
        refine x_get (pc := 82) C 0 22 dX6_layLevel_82 hiX6_layLevel_6 hfX6_layLevel_51 rfl rfl rfl (by decide) rfl ?_
        refine x_iload (pc := 85) C 2 dX6_layLevel_85 rfl ?_
        refine x_aload_n (pc := 87) C 3 dX6_layLevel_87 rfl ?_
        refine x_get (pc := 88) C 0 15 dX6_layLevel_88 hiX6_layLevel_6 hfX6_layLevel_111 rfl rfl rfl (by decide) rfl ?_
        refine x_lload (pc := 91) C 0 dX6_layLevel_91 rfl ?_
        refine x_ldiv (pc := 93) C dX6_layLevel_93 ⟨by omega, by omega⟩ ⟨by omega, by omega⟩ (by first | decide | omega) ?_
        rw [show (u3).tdiv gg = u3 / gg from (Int.tdiv_eq_ediv_of_nonneg (by omega))]
        refine x_last (pc := 94) C (ws' := [(o, ob 6 [jv rn, .ref d1, jv e, jv nc, .ref d2, jv oc, .ref d3, jv co, .ref d4, jv un, .ref d5, jv kn, .ref d6, .ref d7, .ref d8, Jv u3, Jv b3, jv vn, .ref d9, .ref da, .ref db, .ref dc, .ref dd, .ref de, jv lk]), (d6, ai g 70 kf), (d7, ai g 70 re'), (d8, ai g 71 fw'), (d9, ai g 10 pm), (da, ai g 600 (up g0 ((60 * t) + m) i)), (db, ai g 600 (up g1 ((60 * t) + m) j)), (dc, ai g 600 (up g2 ((60 * t) + m) (kf i))), (dd, al g 600 (up g3 ((60 * t) + m) (u3 / gg))), (de, al g 600 g4)]) 8 dX6_layLevel_94 rfl (by omega) (by omega) (by decide) rfl ?_
        refine x_aload_n (pc := 95) C 3 dX6_layLevel_95 rfl ?_
        refine x_get (pc := 96) C 0 23 dX6_layLevel_96 hiX6_layLevel_6 hfX6_layLevel_55 rfl rfl rfl (by decide) rfl ?_
        refine x_iload (pc := 99) C 2 dX6_layLevel_99 rfl ?_
        refine x_aload_n (pc := 101) C 3 dX6_layLevel_101 rfl ?_
        refine x_get (pc := 102) C 0 16 dX6_layLevel_102 hiX6_layLevel_6 hfX6_layLevel_115 rfl rfl rfl (by decide) rfl ?_
        refine x_lload (pc := 105) C 0 dX6_layLevel_105 rfl ?_
        refine x_ldiv (pc := 107) C dX6_layLevel_107 ⟨by omega, by omega⟩ ⟨by omega, by omega⟩ (by first | decide | omega) ?_
        rw [show (b3).tdiv gg = b3 / gg from (Int.tdiv_eq_ediv_of_nonneg (by omega))]
        refine x_last (pc := 108) C (ws' := [(o, ob 6 [jv rn, .ref d1, jv e, jv nc, .ref d2, jv oc, .ref d3, jv co, .ref d4, jv un, .ref d5, jv kn, .ref d6, .ref d7, .ref d8, Jv u3, Jv b3, jv vn, .ref d9, .ref da, .ref db, .ref dc, .ref dd, .ref de, jv lk]), (d6, ai g 70 kf), (d7, ai g 70 re'), (d8, ai g 71 fw'), (d9, ai g 10 pm), (da, ai g 600 (up g0 ((60 * t) + m) i)), (db, ai g 600 (up g1 ((60 * t) + m) j)), (dc, ai g 600 (up g2 ((60 * t) + m) (kf i))), (dd, al g 600 (up g3 ((60 * t) + m) (u3 / gg))), (de, al g 600 (up g4 ((60 * t) + m) (b3 / gg)))]) 9 dX6_layLevel_108 rfl (by omega) (by omega) (by decide) rfl ?_
        refine x_iinc (pc := 109) C (lv' := [(2, jv (m + 1)), (6, Jv gg), (5, jv j), (4, jv ((60 * t) + m)), (0, .ref o), (1, jv t), (3, jv i)]) 5 dX6_layLevel_109 rfl (by decide) rfl ?_
        refine x_iload (pc := 112) C 2 dX6_layLevel_112 rfl ?_
        refine x_iconst (pc := 114) C dX6_layLevel_114 ?_
        refine x_iadd (pc := 115) C dX6_layLevel_115 ?_
        refine x_istore_n (pc := 116) C (lv' := [(3, jv (j + 1)), (2, jv (m + 1)), (6, Jv gg), (5, jv j), (4, jv ((60 * t) + m)), (0, .ref o), (1, jv t)]) dX6_layLevel_116 (by decide) rfl ?_
        refine x_goto (pc := 117) C 8 dX6_layLevel_117 rfl ?_
        refine x_locals (lv' := [(0, .ref o), (1, jv t), (2, jv (m + 1)), (3, jv (j + 1))]) [5, 6, 1, 0] rfl ?_
        refine ih8 _ _ _ _ _ _ _ _ _ ?_ ?_ ?_ ?_ ?_ ?_
        · omega
        · omega
        · rw [show (m + 1).toNat = m.toNat + 1 by omega, frm, ← hi, hjc.1]
        · omega
        · intro k k1
          rw [up_ne _ _ (by omega), up_ne _ _ (by omega), up_ne _ _ (by omega), up_ne _ _ (by omega), up_ne _ _ (by omega)]
          exact hof k k1
        · intro k k0 k1
          by_cases q : k = m
          · rw [q, up_eq, up_eq, up_eq, up_eq, up_eq]
            refine ⟨hiP, ?_, ?_, ?_, ?_⟩
            · rw [hjc.1, hiP]; rfl
            · rw [hiP]; rfl
            · rw [f_46, hu3, hb3, hiP]; rfl
            · rw [f_46, hu3, hb3, hiP]; rfl
          · rw [up_ne _ _ (by omega), up_ne _ _ (by omega), up_ne _ _ (by omega), up_ne _ _ (by omega), up_ne _ _ (by omega)]
            exact hla k k0 (by omega)
  refine x_locals (lv' := [(0, .ref o), (1, jv t), (2, jv 0), (3, jv 0)]) [2, 3, 1, 0] rfl ?_
  refine L8 _ _ _ _ _ _ _ _ _ _ (Nat.lt_succ_self _) ?_ ?_ ?_ ?_ ?_
  · omega
  · rfl
  · omega
  · exact fun _ _ => ⟨rfl, rfl, rfl, rfl, rfl⟩
  · exact fun k k0 k1 => absurd k1 (by omega)

set_option maxRecDepth 100000 in
theorem hiX6_layLevels_6 : ∀ w ∈ wsX60, w ∈ wsX6_layLevels := by decide +kernel
set_option maxRecDepth 100000 in
theorem hfX6_layLevels_139 : Cond.fieldLink RX6 139 "KeyGuessModel" "levelMany" "I" ∈ wsX6_layLevels := by decide +kernel
set_option maxRecDepth 100000 in
theorem hfX6_layLevels_69 : Cond.fieldLink RX6 69 "KeyGuessModel" "rowMany" "I" ∈ wsX6_layLevels := by decide +kernel
set_option maxRecDepth 100000 in
theorem hfX6_layLevels_122 : Cond.fieldLink RX6 122 "KeyGuessModel" "keyMany" "I" ∈ wsX6_layLevels := by decide +kernel
set_option maxRecDepth 100000 in
theorem hfX6_layLevels_39 : Cond.fieldLink RX6 39 "KeyGuessModel" "pieceMany" "[I" ∈ wsX6_layLevels := by decide +kernel
set_option maxRecDepth 100000 in
theorem hfX6_layLevels_30 : Cond.fieldLink RX6 30 "KeyGuessModel" "keys" "[I" ∈ wsX6_layLevels := by decide +kernel
set_option maxRecDepth 100000 in
theorem hfX6_layLevels_48 : Cond.fieldLink RX6 48 "KeyGuessModel" "firstKeys" "[I" ∈ wsX6_layLevels := by decide +kernel
set_option maxRecDepth 100000 in
theorem hfX6_layLevels_7 : Cond.fieldLink RX6 7 "KeyGuessModel" "row" "[I" ∈ wsX6_layLevels := by decide +kernel
set_option maxHeartbeats 4000000 in
set_option maxRecDepth 100000 in
/-- layLevels -/
theorem ctX6_layLevels (l : Launch) (g : xG) (o : Nat) (d1 : Nat) (d2 : Nat) (d3 : Nat) (d4 : Nat) (d5 : Nat) (d6 : Nat) (d7 : Nat) (d8 : Nat) (d9 : Nat) (da : Nat) (db : Nat) (dc : Nat) (dd : Nat) (de : Nat) (rn : Int) (e : Int) (nc : Int) (oc : Int) (co : Int) (un : Int) (kn : Int) (lU : Int) (lB : Int) (vn : Int) (lk : Int) (rf : Int → Int) (kf : Int → Int) (re : Int → Int) (fw : Int → Int) (pm : Int → Int) (fs : Int → Int) (la : Int → Int) (fk : Int → Int) (us : Int → Int) (bs : Int → Int) (y : Int → Int) (hr : Kr rn rf) (he : 0 ≤ e ∧ e ≤ 8) (hy : Agr rn rf y) : Ct l g yX6_layLevels wsX6_layLevels ({ frames := 4, cells := 0, slots := 0, locals := 101 } : Room) 0 0 [(o, ob 6 [jv rn, .ref d1, jv e, jv nc, .ref d2, jv oc, .ref d3, jv co, .ref d4, jv un, .ref d5, jv kn, .ref d6, .ref d7, .ref d8, Jv lU, Jv lB, jv vn, .ref d9, .ref da, .ref db, .ref dc, .ref dd, .ref de, jv lk]), (d1, ai g 61 rf), (d6, ai g 70 kf), (d7, ai g 70 re), (d8, ai g 71 fw), (d9, ai g 10 pm), (da, ai g 600 fs), (db, ai g 600 la), (dc, ai g 600 fk), (dd, al g 600 us), (de, al g 600 bs)] [.ref o] (fun rV rU => ∃ (km : Int) (v : Int) (uu : Int) (ub : Int) (kg : Int → Int) (re' : Int → Int) (fw' : Int → Int) (pm' : Int → Int) (g0 : Int → Int) (g1 : Int → Int) (g2 : Int → Int) (g3 : Int → Int) (g4 : Int → Int), rV = none ∧ rU = [(o, ob 6 [jv rn, .ref d1, jv e, jv nc, .ref d2, jv oc, .ref d3, jv co, .ref d4, jv un, .ref d5, jv km, .ref d6, .ref d7, .ref d8, Jv uu, Jv ub, jv v, .ref d9, .ref da, .ref db, .ref dc, .ref dd, .ref de, jv lk]), (d1, ai g 61 rf), (d6, ai g 70 kg), (d7, ai g 70 re'), (d8, ai g 71 fw'), (d9, ai g 10 pm'), (da, ai g 600 g0), (db, ai g 600 g1), (dc, ai g 600 g2), (dd, al g 600 g3), (de, al g 600 g4)] ∧ (LvM y e rn v pm' g0 g1 g2 g3 g4)) := by
  refine ct_of (cc := cX6_layLevels) (nL := 3) (ret := none) (by decide) rfl (Nat.le_of_ble_eq_true rfl) ?_
  intro E C Rt0
  have C : Cx l g E ({ frames := 4, cells := 0, slots := 0, locals := 101 } : Room) RX6 "layLevels" cX6_layLevels wsX6_layLevels 3 := C
  show X l g E ({ frames := 4, cells := 0, slots := 0, locals := 101 } : Room) 3 [(o, ob 6 [jv rn, .ref d1, jv e, jv nc, .ref d2, jv oc, .ref d3, jv co, .ref d4, jv un, .ref d5, jv kn, .ref d6, .ref d7, .ref d8, Jv lU, Jv lB, jv vn, .ref d9, .ref da, .ref db, .ref dc, .ref dd, .ref de, jv lk]), (d1, ai g 61 rf), (d6, ai g 70 kf), (d7, ai g 70 re), (d8, ai g 71 fw), (d9, ai g 10 pm), (da, ai g 600 fs), (db, ai g 600 la), (dc, ai g 600 fk), (dd, al g 600 us), (de, al g 600 bs)] 0 0 [(0, .ref o)] 0 []
  have rn0 := hr.1
  have rn1 := hr.2.1
  refine x_aload_n (pc := 0) C 0 dX6_layLevels_0 rfl ?_
  refine x_iconst (pc := 1) C dX6_layLevels_1 ?_
  refine x_put (pc := 2) C (ty := .int) (ws' := [(o, ob 6 [jv rn, .ref d1, jv e, jv nc, .ref d2, jv oc, .ref d3, jv co, .ref d4, jv un, .ref d5, jv kn, .ref d6, .ref d7, .ref d8, Jv lU, Jv lB, jv 0, .ref d9, .ref da, .ref db, .ref dc, .ref dd, .ref de, jv lk]), (d1, ai g 61 rf), (d6, ai g 70 kf), (d7, ai g 70 re), (d8, ai g 71 fw), (d9, ai g 10 pm), (da, ai g 600 fs), (db, ai g 600 la), (dc, ai g 600 fk), (dd, al g 600 us), (de, al g 600 bs)]) tyX6 0 17 dX6_layLevels_2 hiX6_layLevels_6 tyX6_ok nmX6 hfX6_layLevels_139 rfl rfl rfl (by decide) rfl (by decide +kernel) rfl rfl (Nat.le_of_ble_eq_true rfl) rfl ?_
  refine x_aload_n (pc := 5) C 0 dX6_layLevels_5 rfl ?_
  refine x_aload_n (pc := 6) C 0 dX6_layLevels_6 rfl ?_
  refine x_get (pc := 7) C 0 0 dX6_layLevels_7 hiX6_layLevels_6 hfX6_layLevels_69 rfl rfl rfl (by decide) rfl ?_
  refine x_put (pc := 10) C (ty := .int) (ws' := [(o, ob 6 [jv rn, .ref d1, jv e, jv nc, .ref d2, jv oc, .ref d3, jv co, .ref d4, jv un, .ref d5, jv rn, .ref d6, .ref d7, .ref d8, Jv lU, Jv lB, jv 0, .ref d9, .ref da, .ref db, .ref dc, .ref dd, .ref de, jv lk]), (d1, ai g 61 rf), (d6, ai g 70 kf), (d7, ai g 70 re), (d8, ai g 71 fw), (d9, ai g 10 pm), (da, ai g 600 fs), (db, ai g 600 la), (dc, ai g 600 fk), (dd, al g 600 us), (de, al g 600 bs)]) tyX6 0 11 dX6_layLevels_10 hiX6_layLevels_6 tyX6_ok nmX6 hfX6_layLevels_122 rfl rfl rfl (by decide) rfl (by decide +kernel) rfl rfl (Nat.le_of_ble_eq_true rfl) rfl ?_
  refine x_iconst (pc := 13) C dX6_layLevels_13 ?_
  refine x_istore_n (pc := 14) C (lv' := [(1, jv 0), (0, .ref o)]) dX6_layLevels_14 (by decide) rfl ?_
  have L15 : ∀ (kμ : Nat) (k : Int) (kg : Int → Int), (rn - k).toNat < kμ → (0 ≤ k ∧ k ≤ rn) → (Agr k kg rf) → X l g E ({ frames := 4, cells := 0, slots := 0, locals := 101 } : Room) 3 [(o, ob 6 [jv rn, .ref d1, jv e, jv nc, .ref d2, jv oc, .ref d3, jv co, .ref d4, jv un, .ref d5, jv rn, .ref d6, .ref d7, .ref d8, Jv lU, Jv lB, jv 0, .ref d9, .ref da, .ref db, .ref dc, .ref dd, .ref de, jv lk]), (d1, ai g 61 rf), (d6, ai g 70 kg), (d7, ai g 70 re), (d8, ai g 71 fw), (d9, ai g 10 pm), (da, ai g 600 fs), (db, ai g 600 la), (dc, ai g 600 fk), (dd, al g 600 us), (de, al g 600 bs)] 0 0 [(0, .ref o), (1, jv k)] 15 [] := by
    intro kμ
    induction kμ with
    | zero => intro k kg hμ; exact absurd hμ (Nat.not_lt_zero _)
    | succ kμ ih15 =>
      intro k kg hμ hk hc
      refine x_iload_n (pc := 15) C 1 dX6_layLevels_15 rfl ?_
      refine x_aload_n (pc := 16) C 0 dX6_layLevels_16 rfl ?_
      refine x_get (pc := 17) C 0 0 dX6_layLevels_17 hiX6_layLevels_6 hfX6_layLevels_69 rfl rfl rfl (by decide) rfl ?_
      refine x_icmp_ge (pc := 20) C 41 dX6_layLevels_20 rfl ⟨by omega, by omega⟩ ⟨by omega, by omega⟩ (fun c_20 => ?_) (fun c_20 => ?_)
      · refine x_aload_n (pc := 41) C 0 dX6_layLevels_41 rfl ?_
        refine x_get (pc := 42) C 0 0 dX6_layLevels_42 hiX6_layLevels_6 hfX6_layLevels_69 rfl rfl rfl (by decide) rfl ?_
        have L54 : ∀ (kμ : Nat) (more : Int) (v : Int) (t : Nat) (km : Int) (uu : Int) (ub : Int) (kg : Int → Int) (re' : Int → Int) (fw' : Int → Int) (pm' : Int → Int) (g0 : Int → Int) (g1 : Int → Int) (g2 : Int → Int) (g3 : Int → Int) (g4 : Int → Int), (10 - v).toNat < kμ → (v = (t : Int) ∧ v ≤ 6) → ((more = 1 ∧ LvGm y e rn t km kg) ∨ (more = 0 ∧ Ht y e rn v)) → (LvP y e rn t pm' g0 g1 g2 g3 g4) → X l g E ({ frames := 4, cells := 0, slots := 0, locals := 101 } : Room) 3 [(o, ob 6 [jv rn, .ref d1, jv e, jv nc, .ref d2, jv oc, .ref d3, jv co, .ref d4, jv un, .ref d5, jv km, .ref d6, .ref d7, .ref d8, Jv uu, Jv ub, jv v, .ref d9, .ref da, .ref db, .ref dc, .ref dd, .ref de, jv lk]), (d1, ai g 61 rf), (d6, ai g 70 kg), (d7, ai g 70 re'), (d8, ai g 71 fw'), (d9, ai g 10 pm'), (da, ai g 600 g0), (db, ai g 600 g1), (dc, ai g 600 g2), (dd, al g 600 g3), (de, al g 600 g4)] 0 0 [(0, .ref o), (1, jv more)] 54 [] := by
          intro kμ
          induction kμ with
          | zero => intro more v t km uu ub kg re' fw' pm' g0 g1 g2 g3 g4 hμ; exact absurd hμ (Nat.not_lt_zero _)
          | succ kμ ih54 =>
            intro more v t km uu ub kg re' fw' pm' g0 g1 g2 g3 g4 hμ hv hmo hP
            refine x_iload_n (pc := 54) C 1 dX6_layLevels_54 rfl ?_
            refine x_if_eq (pc := 55) C 142 dX6_layLevels_55 rfl (by rcases hmo with q | q <;> rw [q.1] <;> exact ⟨by decide, by decide⟩) (fun c_55 => ?_) (fun c_55 => ?_)
            · refine x_vret (pc := 142) C Rt0 dX6_layLevels_142 rfl ?_
              refine ⟨_, _, _, _, _, _, _, _, _, _, _, _, _, rfl, rfl, ?_⟩
              refine ⟨?_, by omega, by omega, ?_⟩
              · rcases hmo with q | q
                · omega
                · exact q.2
              · rw [show v.toNat = t by omega]; exact hP
            · have hgo : LvGm y e rn t km kg := by
                rcases hmo with q | q
                · exact q.2
                · omega
              have hlb := tb_1 (n := km) (m := 0) hgo.2.2.1 (by have := hgo.2.2.1; omega) hgo.2.2.2.1.2.1
              have hg7 := hgo.2.2.2.2.2.2
              refine x_aload_n (pc := 58) C 0 dX6_layLevels_58 rfl ?_
              refine x_aload_n (pc := 59) C 0 dX6_layLevels_59 rfl ?_
              refine x_get (pc := 60) C 0 17 dX6_layLevels_60 hiX6_layLevels_6 hfX6_layLevels_139 rfl rfl rfl (by decide) rfl ?_
              refine x_callV (pc := 63) C (n := 1) (q0 := 0) (rest := []) (wr := [(d1, ai g 61 rf)]) [0, 2, 3, 4, 5, 6, 7, 8, 9, 10] [1] (ctX6_layLevel l g o d1 d2 d3 d4 d5 d6 d7 d8 d9 da db dc dd de rn e nc oc co un km uu ub v lk kg re' fw' pm' g0 g1 g2 g3 g4 v hgo.2.2.2.1 he hgo.2.2.1 ⟨by omega, by omega⟩) gX6_layLevels_X6_layLevel rfl ⟨rfl, rfl⟩ (by decide +kernel) ⟨by decide, by decide⟩ rfl rfl rfl rfl rfl (by decide) (by decide) (by decide) rfl (Nat.le_of_ble_eq_true rfl) dX6_layLevels_63 ⟨by decide, by decide⟩ (fun v_63 u_63 h_63 => ?_)
              rcases h_63 with ⟨u4, b4, m4, re4, fw4, w0, w1, w2, w3, w4, rfl, rfl, f_63⟩
              refine x_world (ws' := [(o, ob 6 [jv rn, .ref d1, jv e, jv nc, .ref d2, jv oc, .ref d3, jv co, .ref d4, jv un, .ref d5, jv km, .ref d6, .ref d7, .ref d8, Jv u4, Jv b4, jv v, .ref d9, .ref da, .ref db, .ref dc, .ref dd, .ref de, jv lk]), (d1, ai g 61 rf), (d6, ai g 70 kg), (d7, ai g 70 re4), (d8, ai g 71 fw4), (d9, ai g 10 (up pm' v m4)), (da, ai g 600 w0), (db, ai g 600 w1), (dc, ai g 600 w2), (dd, al g 600 w3), (de, al g 600 w4)]) [1, 0, 2, 3, 4, 5, 6, 7, 8, 9, 10] (by decide) rfl ?_
              show X l g E ({ frames := 4, cells := 0, slots := 0, locals := 101 } : Room) 3 [(o, ob 6 [jv rn, .ref d1, jv e, jv nc, .ref d2, jv oc, .ref d3, jv co, .ref d4, jv un, .ref d5, jv km, .ref d6, .ref d7, .ref d8, Jv u4, Jv b4, jv v, .ref d9, .ref da, .ref db, .ref dc, .ref dd, .ref de, jv lk]), (d1, ai g 61 rf), (d6, ai g 70 kg), (d7, ai g 70 re4), (d8, ai g 71 fw4), (d9, ai g 10 (up pm' v m4)), (da, ai g 600 w0), (db, ai g 600 w1), (dc, ai g 600 w2), (dd, al g 600 w3), (de, al g 600 w4)] 0 0 [(0, .ref o), (1, jv more)] 66 []
              obtain ⟨hok, hm4, hof4, hla4⟩ := f_63
              have hpb := hok.pm he.1
              have hkm := hgo.2.2.2.1.2.1
              have hP2 : LvP y e rn (t + 1) (up pm' v m4) w0 w1 w2 w3 w4 := by
                rw [hm4]
                exact hP.step he.1 hv.1 hgo.2.1 hgo.2.2.2.2.1 hok hof4 (fun k k0 k1 => hla4 k k0 (by rw [hm4]; exact k1))
              refine x_aload_n (pc := 66) C 0 dX6_layLevels_66 rfl ?_
              refine x_aload_n (pc := 67) C 0 dX6_layLevels_67 rfl ?_
              refine x_get (pc := 68) C 0 18 dX6_layLevels_68 hiX6_layLevels_6 hfX6_layLevels_39 rfl rfl rfl (by decide) rfl ?_
              refine x_aload_n (pc := 71) C 0 dX6_layLevels_71 rfl ?_
              refine x_get (pc := 72) C 0 17 dX6_layLevels_72 hiX6_layLevels_6 hfX6_layLevels_139 rfl rfl rfl (by decide) rfl ?_
              refine x_iald (pc := 75) C 5 dX6_layLevels_75 rfl (by omega) (by omega) (by decide) ?_
              rw [show (up pm' v m4) v = m4 from (up_eq _ _ _)]
              refine x_put (pc := 76) C (ty := .int) (ws' := [(o, ob 6 [jv rn, .ref d1, jv e, jv nc, .ref d2, jv oc, .ref d3, jv co, .ref d4, jv un, .ref d5, jv m4, .ref d6, .ref d7, .ref d8, Jv u4, Jv b4, jv v, .ref d9, .ref da, .ref db, .ref dc, .ref dd, .ref de, jv lk]), (d1, ai g 61 rf), (d6, ai g 70 kg), (d7, ai g 70 re4), (d8, ai g 71 fw4), (d9, ai g 10 (up pm' v m4)), (da, ai g 600 w0), (db, ai g 600 w1), (dc, ai g 600 w2), (dd, al g 600 w3), (de, al g 600 w4)]) tyX6 0 11 dX6_layLevels_76 hiX6_layLevels_6 tyX6_ok nmX6 hfX6_layLevels_122 rfl rfl rfl (by decide) rfl (by decide +kernel) rfl rfl (Nat.le_of_ble_eq_true rfl) rfl ?_
              refine x_iconst (pc := 79) C dX6_layLevels_79 ?_
              refine x_istore_n (pc := 80) C (lv' := [(2, jv 0), (0, .ref o), (1, jv more)]) dX6_layLevels_80 (by decide) rfl ?_
              have L81 : ∀ (kμ : Nat) (k : Int) (kh : Int → Int), (m4 - k).toNat < kμ → (0 ≤ k ∧ k ≤ m4) → (∀ j : Int, 0 ≤ j → j < k → kh j = P2 kg e km j) → X l g E ({ frames := 4, cells := 0, slots := 0, locals := 101 } : Room) 3 [(o, ob 6 [jv rn, .ref d1, jv e, jv nc, .ref d2, jv oc, .ref d3, jv co, .ref d4, jv un, .ref d5, jv m4, .ref d6, .ref d7, .ref d8, Jv u4, Jv b4, jv v, .ref d9, .ref da, .ref db, .ref dc, .ref dd, .ref de, jv lk]), (d1, ai g 61 rf), (d6, ai g 70 kh), (d7, ai g 70 re4), (d8, ai g 71 fw4), (d9, ai g 10 (up pm' v m4)), (da, ai g 600 w0), (db, ai g 600 w1), (dc, ai g 600 w2), (dd, al g 600 w3), (de, al g 600 w4)] 0 0 [(0, .ref o), (2, jv k)] 81 [] := by
                intro kμ
                induction kμ with
                | zero => intro k kh hμ; exact absurd hμ (Nat.not_lt_zero _)
                | succ kμ ih81 =>
                  intro k kh hμ hk2 hkk
                  refine x_iload_n (pc := 81) C 1 dX6_layLevels_81 rfl ?_
                  refine x_aload_n (pc := 82) C 0 dX6_layLevels_82 rfl ?_
                  refine x_get (pc := 83) C 0 11 dX6_layLevels_83 hiX6_layLevels_6 hfX6_layLevels_122 rfl rfl rfl (by decide) rfl ?_
                  refine x_icmp_ge (pc := 86) C 115 dX6_layLevels_86 rfl ⟨by omega, by omega⟩ ⟨by omega, by omega⟩ (fun c_86 => ?_) (fun c_86 => ?_)
                  · refine x_aload_n (pc := 115) C 0 dX6_layLevels_115 rfl ?_
                    refine x_get (pc := 116) C 0 11 dX6_layLevels_116 hiX6_layLevels_6 hfX6_layLevels_122 rfl rfl rfl (by decide) rfl ?_
                    refine x_iconst (pc := 119) C dX6_layLevels_119 ?_
                    refine x_icmp_le (pc := 120) C 127 dX6_layLevels_120 rfl ⟨by omega, by omega⟩ ⟨by omega, by omega⟩ (fun c_120 => ?_) (fun c_120 => ?_)
                    · refine x_iconst (pc := 127) C dX6_layLevels_127 ?_
                      refine x_istore_n (pc := 128) C (lv' := [(1, jv 0), (0, .ref o), (2, jv k)]) dX6_layLevels_128 (by decide) rfl ?_
                      refine x_aload_n (pc := 129) C 1 dX6_layLevels_129 rfl ?_
                      refine x_dup (pc := 130) C dX6_layLevels_130 rfl ?_
                      refine x_get (pc := 131) C 0 17 dX6_layLevels_131 hiX6_layLevels_6 hfX6_layLevels_139 rfl rfl rfl (by decide) rfl ?_
                      refine x_iconst (pc := 134) C dX6_layLevels_134 ?_
                      refine x_iadd (pc := 135) C dX6_layLevels_135 ?_
                      refine x_put (pc := 136) C (ty := .int) (ws' := [(o, ob 6 [jv rn, .ref d1, jv e, jv nc, .ref d2, jv oc, .ref d3, jv co, .ref d4, jv un, .ref d5, jv m4, .ref d6, .ref d7, .ref d8, Jv u4, Jv b4, jv (v + 1), .ref d9, .ref da, .ref db, .ref dc, .ref dd, .ref de, jv lk]), (d1, ai g 61 rf), (d6, ai g 70 kh), (d7, ai g 70 re4), (d8, ai g 71 fw4), (d9, ai g 10 (up pm' v m4)), (da, ai g 600 w0), (db, ai g 600 w1), (dc, ai g 600 w2), (dd, al g 600 w3), (de, al g 600 w4)]) tyX6 0 17 dX6_layLevels_136 hiX6_layLevels_6 tyX6_ok nmX6 hfX6_layLevels_139 rfl rfl rfl (by decide) rfl (by decide +kernel) rfl rfl (Nat.le_of_ble_eq_true rfl) rfl ?_
                      refine x_goto (pc := 139) C 54 dX6_layLevels_139 rfl ?_
                      refine x_locals (lv' := [(0, .ref o), (1, jv 0)]) [1, 0] rfl ?_
                      refine ih54 _ _ (t + 1) _ _ _ _ _ _ _ _ _ _ _ _ ?_ ?_ ?_ ?_
                      · omega
                      · omega
                      · exact Or.inr ⟨rfl, by rw [hv.1]; exact hgo.last hm4 (by omega)⟩
                      · exact hP2
                    · refine x_iconst (pc := 123) C dX6_layLevels_123 ?_
                      refine x_goto (pc := 124) C 128 dX6_layLevels_124 rfl ?_
                      refine x_istore_n (pc := 128) C (lv' := [(1, jv 1), (0, .ref o), (2, jv k)]) dX6_layLevels_128 (by decide) rfl ?_
                      refine x_aload_n (pc := 129) C 1 dX6_layLevels_129 rfl ?_
                      refine x_dup (pc := 130) C dX6_layLevels_130 rfl ?_
                      refine x_get (pc := 131) C 0 17 dX6_layLevels_131 hiX6_layLevels_6 hfX6_layLevels_139 rfl rfl rfl (by decide) rfl ?_
                      refine x_iconst (pc := 134) C dX6_layLevels_134 ?_
                      refine x_iadd (pc := 135) C dX6_layLevels_135 ?_
                      refine x_put (pc := 136) C (ty := .int) (ws' := [(o, ob 6 [jv rn, .ref d1, jv e, jv nc, .ref d2, jv oc, .ref d3, jv co, .ref d4, jv un, .ref d5, jv m4, .ref d6, .ref d7, .ref d8, Jv u4, Jv b4, jv (v + 1), .ref d9, .ref da, .ref db, .ref dc, .ref dd, .ref de, jv lk]), (d1, ai g 61 rf), (d6, ai g 70 kh), (d7, ai g 70 re4), (d8, ai g 71 fw4), (d9, ai g 10 (up pm' v m4)), (da, ai g 600 w0), (db, ai g 600 w1), (dc, ai g 600 w2), (dd, al g 600 w3), (de, al g 600 w4)]) tyX6 0 17 dX6_layLevels_136 hiX6_layLevels_6 tyX6_ok nmX6 hfX6_layLevels_139 rfl rfl rfl (by decide) rfl (by decide +kernel) rfl rfl (Nat.le_of_ble_eq_true rfl) rfl ?_
                      refine x_goto (pc := 139) C 54 dX6_layLevels_139 rfl ?_
                      refine x_locals (lv' := [(0, .ref o), (1, jv 1)]) [1, 0] rfl ?_
                      refine ih54 _ _ (t + 1) _ _ _ _ _ _ _ _ _ _ _ _ ?_ ?_ ?_ ?_
                      · omega
                      · omega
                      · exact Or.inl ⟨rfl, hgo.next he.1 hok hm4 (by omega) (fun j j0 j1 => hkk j j0 (by omega))⟩
                      · exact hP2
                  · refine x_aload_n (pc := 89) C 0 dX6_layLevels_89 rfl ?_
                    refine x_get (pc := 90) C 0 12 dX6_layLevels_90 hiX6_layLevels_6 hfX6_layLevels_30 rfl rfl rfl (by decide) rfl ?_
                    refine x_iload_n (pc := 93) C 1 dX6_layLevels_93 rfl ?_
                    refine x_aload_n (pc := 94) C 0 dX6_layLevels_94 rfl ?_
                    refine x_get (pc := 95) C 0 21 dX6_layLevels_95 hiX6_layLevels_6 hfX6_layLevels_48 rfl rfl rfl (by decide) rfl ?_
                    refine x_bipush (pc := 98) C dX6_layLevels_98 rfl ?_
                    refine x_aload_n (pc := 100) C 0 dX6_layLevels_100 rfl ?_
                    refine x_get (pc := 101) C 0 17 dX6_layLevels_101 hiX6_layLevels_6 hfX6_layLevels_139 rfl rfl rfl (by decide) rfl ?_
                    refine x_imul (pc := 104) C dX6_layLevels_104 ?_
                    refine x_iload_n (pc := 105) C 1 dX6_layLevels_105 rfl ?_
                    refine x_iadd (pc := 106) C dX6_layLevels_106 ?_
                    refine x_iald (pc := 107) C 8 dX6_layLevels_107 rfl (by omega) (by omega) (by decide) ?_
                    refine x_iast (pc := 108) C (ws' := [(o, ob 6 [jv rn, .ref d1, jv e, jv nc, .ref d2, jv oc, .ref d3, jv co, .ref d4, jv un, .ref d5, jv m4, .ref d6, .ref d7, .ref d8, Jv u4, Jv b4, jv v, .ref d9, .ref da, .ref db, .ref dc, .ref dd, .ref de, jv lk]), (d1, ai g 61 rf), (d6, ai g 70 (up kh k (w2 ((60 * v) + k)))), (d7, ai g 70 re4), (d8, ai g 71 fw4), (d9, ai g 10 (up pm' v m4)), (da, ai g 600 w0), (db, ai g 600 w1), (dc, ai g 600 w2), (dd, al g 600 w3), (de, al g 600 w4)]) 2 dX6_layLevels_108 rfl (by omega) (by omega) (by decide) rfl ?_
                    refine x_iinc (pc := 109) C (lv' := [(2, jv (k + 1)), (0, .ref o)]) 1 dX6_layLevels_109 rfl (by decide) rfl ?_
                    refine x_goto (pc := 112) C 81 dX6_layLevels_112 rfl ?_
                    refine x_locals (lv' := [(0, .ref o), (2, jv (k + 1))]) [1, 0] rfl ?_
                    refine ih81 _ _ ?_ ?_ ?_
                    · omega
                    · omega
                    · exact al_s (fun i h0 h1 => by rw [up_ne _ _ (by omega)]; exact hkk i h0 h1) (by rw [up_eq]; exact (hla4 k (by omega) (by omega)).2.2.1)
              refine x_locals (lv' := [(0, .ref o), (2, jv 0)]) [1, 0] rfl ?_
              refine L81 _ _ _ (Nat.lt_succ_self _) ?_ ?_
              · omega
              · exact al_0
        refine x_if_le (pc := 45) C 52 dX6_layLevels_45 rfl ⟨by omega, by omega⟩ (fun c_45 => ?_) (fun c_45 => ?_)
        · refine x_iconst (pc := 52) C dX6_layLevels_52 ?_
          refine x_istore_n (pc := 53) C (lv' := [(1, jv 0), (0, .ref o)]) dX6_layLevels_53 (by decide) rfl ?_
          refine x_locals (lv' := [(0, .ref o), (1, jv 0)]) [1, 0] rfl ?_
          refine L54 _ _ _ 0 _ _ _ _ _ _ _ _ _ _ _ _ (Nat.lt_succ_self _) ?_ ?_ ?_
          · exact ⟨rfl, by omega⟩
          · exact Or.inr ⟨rfl, Or.inl ⟨by omega, rfl⟩⟩
          · exact fun s q => absurd q (by omega)
        · refine x_iconst (pc := 48) C dX6_layLevels_48 ?_
          refine x_goto (pc := 49) C 53 dX6_layLevels_49 rfl ?_
          refine x_istore_n (pc := 53) C (lv' := [(1, jv 1), (0, .ref o)]) dX6_layLevels_53 (by decide) rfl ?_
          refine x_locals (lv' := [(0, .ref o), (1, jv 1)]) [1, 0] rfl ?_
          refine L54 _ _ _ 0 _ _ _ _ _ _ _ _ _ _ _ _ (Nat.lt_succ_self _) ?_ ?_ ?_
          · exact ⟨rfl, by omega⟩
          · have hc2 : Agr rn kg rf := by rw [show rn = k by omega]; exact hc
            exact Or.inl ⟨rfl, LvGm.first (hr.congr hc2.symm) (by omega) (hc2.trans hy)⟩
          · exact fun s q => absurd q (by omega)
      · refine x_aload_n (pc := 23) C 0 dX6_layLevels_23 rfl ?_
        refine x_get (pc := 24) C 0 12 dX6_layLevels_24 hiX6_layLevels_6 hfX6_layLevels_30 rfl rfl rfl (by decide) rfl ?_
        refine x_iload_n (pc := 27) C 1 dX6_layLevels_27 rfl ?_
        refine x_aload_n (pc := 28) C 0 dX6_layLevels_28 rfl ?_
        refine x_get (pc := 29) C 0 1 dX6_layLevels_29 hiX6_layLevels_6 hfX6_layLevels_7 rfl rfl rfl (by decide) rfl ?_
        refine x_iload_n (pc := 32) C 1 dX6_layLevels_32 rfl ?_
        refine x_iald (pc := 33) C 1 dX6_layLevels_33 rfl (by omega) (by omega) (by decide) ?_
        refine x_iast (pc := 34) C (ws' := [(o, ob 6 [jv rn, .ref d1, jv e, jv nc, .ref d2, jv oc, .ref d3, jv co, .ref d4, jv un, .ref d5, jv rn, .ref d6, .ref d7, .ref d8, Jv lU, Jv lB, jv 0, .ref d9, .ref da, .ref db, .ref dc, .ref dd, .ref de, jv lk]), (d1, ai g 61 rf), (d6, ai g 70 (up kg k (rf k))), (d7, ai g 70 re), (d8, ai g 71 fw), (d9, ai g 10 pm), (da, ai g 600 fs), (db, ai g 600 la), (dc, ai g 600 fk), (dd, al g 600 us), (de, al g 600 bs)]) 2 dX6_layLevels_34 rfl (by omega) (by omega) (by decide) rfl ?_
        refine x_iinc (pc := 35) C (lv' := [(1, jv (k + 1)), (0, .ref o)]) 1 dX6_layLevels_35 rfl (by decide) rfl ?_
        refine x_goto (pc := 38) C 15 dX6_layLevels_38 rfl ?_
        refine x_locals (lv' := [(0, .ref o), (1, jv (k + 1))]) [1, 0] rfl ?_
        refine ih15 _ _ ?_ ?_ ?_
        · omega
        · omega
        · exact al_s (fun i h0 h1 => by rw [up_ne _ _ (by omega)]; exact hc i h0 h1) (up_eq _ _ _)
  refine x_locals (lv' := [(0, .ref o), (1, jv 0)]) [1, 0] rfl ?_
  refine L15 _ _ _ (Nat.lt_succ_self _) ?_ ?_
  · omega
  · exact al_0

set_option maxRecDepth 100000 in
theorem hiX6_makeRow_6 : ∀ w ∈ wsX60, w ∈ wsX6_makeRow := by decide +kernel
set_option maxRecDepth 100000 in
theorem hfX6_makeRow_66 : Cond.fieldLink RX6 66 "KeyGuessModel" "nowMany" "I" ∈ wsX6_makeRow := by decide +kernel
set_option maxRecDepth 100000 in
theorem hfX6_makeRow_69 : Cond.fieldLink RX6 69 "KeyGuessModel" "rowMany" "I" ∈ wsX6_makeRow := by decide +kernel
set_option maxRecDepth 100000 in
theorem hfX6_makeRow_83 : Cond.fieldLink RX6 83 "KeyGuessModel" "newMany" "I" ∈ wsX6_makeRow := by decide +kernel
set_option maxRecDepth 100000 in
theorem hfX6_makeRow_72 : Cond.fieldLink RX6 72 "KeyGuessModel" "oldMany" "I" ∈ wsX6_makeRow := by decide +kernel
set_option maxRecDepth 100000 in
theorem hfX6_makeRow_92 : Cond.fieldLink RX6 92 "KeyGuessModel" "cost" "I" ∈ wsX6_makeRow := by decide +kernel
set_option maxRecDepth 100000 in
theorem hfX6_makeRow_7 : Cond.fieldLink RX6 7 "KeyGuessModel" "row" "[I" ∈ wsX6_makeRow := by decide +kernel
set_option maxRecDepth 100000 in
theorem hfX6_makeRow_27 : Cond.fieldLink RX6 27 "KeyGuessModel" "now" "[I" ∈ wsX6_makeRow := by decide +kernel
set_option maxRecDepth 100000 in
theorem hfX6_makeRow_23 : Cond.fieldLink RX6 23 "KeyGuessModel" "bits" "[Z" ∈ wsX6_makeRow := by decide +kernel
set_option maxHeartbeats 4000000 in
set_option maxRecDepth 100000 in
/-- makeRow -/
theorem ctX6_makeRow (l : Launch) (g : xG) (o : Nat) (d1 : Nat) (d2 : Nat) (d3 : Nat) (d4 : Nat) (d5 : Nat) (d6 : Nat) (d7 : Nat) (d8 : Nat) (d9 : Nat) (da : Nat) (db : Nat) (dc : Nat) (dd : Nat) (de : Nat) (rn : Int) (e : Int) (nc : Int) (oc : Int) (co : Int) (un : Int) (kn : Int) (lU : Int) (lB : Int) (vn : Int) (lk : Int) (rf : Int → Int) (nw : Int → Int) (ol : Int → Int) (bt : Int → Bool) (uf : Int → Int) (kf : Int → Int) (re : Int → Int) (fw : Int → Int) (pm : Int → Int) (fs : Int → Int) (la : Int → Int) (fk : Int → Int) (us : Int → Int) (bs : Int → Int) (nn : Int) (nf : Int → Int) (hno : NO nn nf rn rf nc nw oc ol) (he : 0 ≤ e ∧ e ≤ 8) : Ct l g yX6_makeRow wsX6_makeRow ({ frames := 5, cells := 0, slots := 0, locals := 123 } : Room) 0 0 [(o, ob 6 [jv rn, .ref d1, jv e, jv nc, .ref d2, jv oc, .ref d3, jv co, .ref d4, jv un, .ref d5, jv kn, .ref d6, .ref d7, .ref d8, Jv lU, Jv lB, jv vn, .ref d9, .ref da, .ref db, .ref dc, .ref dd, .ref de, jv lk]), (d1, ai g 61 rf), (d2, ai g 9 nw), (d3, ai g 9 ol), (d4, az g 64 bt), (d5, ai g 70 uf), (d6, ai g 70 kf), (d7, ai g 70 re), (d8, ai g 71 fw), (d9, ai g 10 pm), (da, ai g 600 fs), (db, ai g 600 la), (dc, ai g 600 fk), (dd, al g 600 us), (de, al g 600 bs)] [.ref o] (fun rV rU => ∃ (km : Int) (v : Int) (uu : Int) (ub : Int) (r1 : Int → Int) (f' : Int → Int) (kg : Int → Int) (re' : Int → Int) (fw' : Int → Int) (pm' : Int → Int) (g0 : Int → Int) (g1 : Int → Int) (g2 : Int → Int) (g3 : Int → Int) (g4 : Int → Int) (bt' : Int → Bool), rV = none ∧ rU = [(o, ob 6 [jv nn, .ref d1, jv e, jv 0, .ref d2, jv 0, .ref d3, jv (co + nn), .ref d4, jv nn, .ref d5, jv km, .ref d6, .ref d7, .ref d8, Jv uu, Jv ub, jv v, .ref d9, .ref da, .ref db, .ref dc, .ref dd, .ref de, jv lk]), (d1, ai g 61 r1), (d2, ai g 9 nw), (d3, ai g 9 ol), (d4, az g 64 bt'), (d5, ai g 70 f'), (d6, ai g 70 kg), (d7, ai g 70 re'), (d8, ai g 71 fw'), (d9, ai g 10 pm'), (da, ai g 600 g0), (db, ai g 600 g1), (dc, ai g 600 g2), (dd, al g 600 g3), (de, al g 600 g4)] ∧ (Agr nn f' nf ∧ Agr nn r1 nf ∧ LvM nf e nn v pm' g0 g1 g2 g3 g4 ∧ ∀ j : Int, 0 ≤ j → j < 64 → bt' j = mkB nf nn.toNat j)) := by
  refine ct_of (cc := cX6_makeRow) (nL := 2) (ret := none) (by decide) rfl (Nat.le_of_ble_eq_true rfl) ?_
  intro E C Rt0
  have C : Cx l g E ({ frames := 5, cells := 0, slots := 0, locals := 123 } : Room) RX6 "makeRow" cX6_makeRow wsX6_makeRow 2 := C
  show X l g E ({ frames := 5, cells := 0, slots := 0, locals := 123 } : Room) 2 [(o, ob 6 [jv rn, .ref d1, jv e, jv nc, .ref d2, jv oc, .ref d3, jv co, .ref d4, jv un, .ref d5, jv kn, .ref d6, .ref d7, .ref d8, Jv lU, Jv lB, jv vn, .ref d9, .ref da, .ref db, .ref dc, .ref dd, .ref de, jv lk]), (d1, ai g 61 rf), (d2, ai g 9 nw), (d3, ai g 9 ol), (d4, az g 64 bt), (d5, ai g 70 uf), (d6, ai g 70 kf), (d7, ai g 70 re), (d8, ai g 71 fw), (d9, ai g 10 pm), (da, ai g 600 fs), (db, ai g 600 la), (dc, ai g 600 fk), (dd, al g 600 us), (de, al g 600 bs)] 0 0 [(0, .ref o)] 0 []
  have n1 := hno.1
  have nn0 := n1.1
  have nn1 := n1.2.1
  refine x_aload_n (pc := 0) C 0 dX6_makeRow_0 rfl ?_
  refine x_callV (pc := 1) C (n := 0) (q0 := 0) (rest := []) (wr := [(d4, az g 64 bt), (d6, ai g 70 kf), (d7, ai g 70 re), (d8, ai g 71 fw), (d9, ai g 10 pm), (da, ai g 600 fs), (db, ai g 600 la), (dc, ai g 600 fk), (dd, al g 600 us), (de, al g 600 bs)]) [0, 1, 2, 3, 5] [4, 6, 7, 8, 9, 10, 11, 12, 13, 14] (ctX6_layNow l g o d1 d2 d3 d4 d5 d6 d7 d8 d9 da db dc dd de rn e nc oc co un kn lU lB vn lk rf nw ol uf nn nf hno) gX6_makeRow_X6_layNow rfl ⟨rfl, rfl⟩ (by decide +kernel) ⟨by decide, by decide⟩ rfl rfl rfl rfl rfl (by decide) (by decide) (by decide) rfl (Nat.le_of_ble_eq_true rfl) dX6_makeRow_1 ⟨by decide, by decide⟩ (fun v_1 u_1 h_1 => ?_)
  rcases h_1 with ⟨f', rfl, rfl, f_1⟩
  refine x_world (ws' := [(o, ob 6 [jv rn, .ref d1, jv e, jv nc, .ref d2, jv oc, .ref d3, jv co, .ref d4, jv nn, .ref d5, jv kn, .ref d6, .ref d7, .ref d8, Jv lU, Jv lB, jv vn, .ref d9, .ref da, .ref db, .ref dc, .ref dd, .ref de, jv lk]), (d1, ai g 61 rf), (d2, ai g 9 nw), (d3, ai g 9 ol), (d4, az g 64 bt), (d5, ai g 70 f'), (d6, ai g 70 kf), (d7, ai g 70 re), (d8, ai g 71 fw), (d9, ai g 10 pm), (da, ai g 600 fs), (db, ai g 600 la), (dc, ai g 600 fk), (dd, al g 600 us), (de, al g 600 bs)]) [10, 11, 12, 13, 0, 14, 1, 2, 3, 4, 5, 6, 7, 8, 9] (by decide) rfl ?_
  show X l g E ({ frames := 5, cells := 0, slots := 0, locals := 123 } : Room) 2 [(o, ob 6 [jv rn, .ref d1, jv e, jv nc, .ref d2, jv oc, .ref d3, jv co, .ref d4, jv nn, .ref d5, jv kn, .ref d6, .ref d7, .ref d8, Jv lU, Jv lB, jv vn, .ref d9, .ref da, .ref db, .ref dc, .ref dd, .ref de, jv lk]), (d1, ai g 61 rf), (d2, ai g 9 nw), (d3, ai g 9 ol), (d4, az g 64 bt), (d5, ai g 70 f'), (d6, ai g 70 kf), (d7, ai g 70 re), (d8, ai g 71 fw), (d9, ai g 10 pm), (da, ai g 600 fs), (db, ai g 600 la), (dc, ai g 600 fk), (dd, al g 600 us), (de, al g 600 bs)] 0 0 [(0, .ref o)] 4 []
  refine x_iconst (pc := 4) C dX6_makeRow_4 ?_
  refine x_istore_n (pc := 5) C (lv' := [(1, jv 0), (0, .ref o)]) dX6_makeRow_5 (by decide) rfl ?_
  have L6 : ∀ (kμ : Nat) (k : Int) (c : Int → Bool), (64 - k).toNat < kμ → (0 ≤ k ∧ k ≤ 64) → (∀ j : Int, 0 ≤ j → j < k → c j = false) → X l g E ({ frames := 5, cells := 0, slots := 0, locals := 123 } : Room) 2 [(o, ob 6 [jv rn, .ref d1, jv e, jv nc, .ref d2, jv oc, .ref d3, jv co, .ref d4, jv nn, .ref d5, jv kn, .ref d6, .ref d7, .ref d8, Jv lU, Jv lB, jv vn, .ref d9, .ref da, .ref db, .ref dc, .ref dd, .ref de, jv lk]), (d1, ai g 61 rf), (d2, ai g 9 nw), (d3, ai g 9 ol), (d4, az g 64 c), (d5, ai g 70 f'), (d6, ai g 70 kf), (d7, ai g 70 re), (d8, ai g 71 fw), (d9, ai g 10 pm), (da, ai g 600 fs), (db, ai g 600 la), (dc, ai g 600 fk), (dd, al g 600 us), (de, al g 600 bs)] 0 0 [(0, .ref o), (1, jv k)] 6 [] := by
    intro kμ
    induction kμ with
    | zero => intro k c hμ; exact absurd hμ (Nat.not_lt_zero _)
    | succ kμ ih6 =>
      intro k c hμ hk hc
      refine x_iload_n (pc := 6) C 1 dX6_makeRow_6 rfl ?_
      refine x_bipush (pc := 7) C dX6_makeRow_7 rfl ?_
      refine x_icmp_ge (pc := 9) C 25 dX6_makeRow_9 rfl ⟨by omega, by omega⟩ ⟨by omega, by omega⟩ (fun c_9 => ?_) (fun c_9 => ?_)
      · refine x_aload_n (pc := 25) C 0 dX6_makeRow_25 rfl ?_
        refine x_aload_n (pc := 26) C 0 dX6_makeRow_26 rfl ?_
        refine x_get (pc := 27) C 0 9 dX6_makeRow_27 hiX6_makeRow_6 hfX6_makeRow_66 rfl rfl rfl (by decide) rfl ?_
        refine x_put (pc := 30) C (ty := .int) (ws' := [(o, ob 6 [jv nn, .ref d1, jv e, jv nc, .ref d2, jv oc, .ref d3, jv co, .ref d4, jv nn, .ref d5, jv kn, .ref d6, .ref d7, .ref d8, Jv lU, Jv lB, jv vn, .ref d9, .ref da, .ref db, .ref dc, .ref dd, .ref de, jv lk]), (d1, ai g 61 rf), (d2, ai g 9 nw), (d3, ai g 9 ol), (d4, az g 64 c), (d5, ai g 70 f'), (d6, ai g 70 kf), (d7, ai g 70 re), (d8, ai g 71 fw), (d9, ai g 10 pm), (da, ai g 600 fs), (db, ai g 600 la), (dc, ai g 600 fk), (dd, al g 600 us), (de, al g 600 bs)]) tyX6 0 0 dX6_makeRow_30 hiX6_makeRow_6 tyX6_ok nmX6 hfX6_makeRow_69 rfl rfl rfl (by decide) rfl (by decide +kernel) rfl rfl (Nat.le_of_ble_eq_true rfl) rfl ?_
        refine x_iconst (pc := 33) C dX6_makeRow_33 ?_
        refine x_istore_n (pc := 34) C (lv' := [(1, jv 0), (0, .ref o)]) dX6_makeRow_34 (by decide) rfl ?_
        have L35 : ∀ (kμ : Nat) (k : Int) (c : Int → Bool) (r1 : Int → Int), (nn - k).toNat < kμ → (0 ≤ k ∧ k ≤ nn) → (Agr k r1 nf) → (∀ j : Int, 0 ≤ j → j < 64 → c j = mkB nf k.toNat j) → X l g E ({ frames := 5, cells := 0, slots := 0, locals := 123 } : Room) 2 [(o, ob 6 [jv nn, .ref d1, jv e, jv nc, .ref d2, jv oc, .ref d3, jv co, .ref d4, jv nn, .ref d5, jv kn, .ref d6, .ref d7, .ref d8, Jv lU, Jv lB, jv vn, .ref d9, .ref da, .ref db, .ref dc, .ref dd, .ref de, jv lk]), (d1, ai g 61 r1), (d2, ai g 9 nw), (d3, ai g 9 ol), (d4, az g 64 c), (d5, ai g 70 f'), (d6, ai g 70 kf), (d7, ai g 70 re), (d8, ai g 71 fw), (d9, ai g 10 pm), (da, ai g 600 fs), (db, ai g 600 la), (dc, ai g 600 fk), (dd, al g 600 us), (de, al g 600 bs)] 0 0 [(0, .ref o), (1, jv k)] 35 [] := by
          intro kμ
          induction kμ with
          | zero => intro k c r1 hμ; exact absurd hμ (Nat.not_lt_zero _)
          | succ kμ ih35 =>
            intro k c r1 hμ hk hrk hc
            refine x_iload_n (pc := 35) C 1 dX6_makeRow_35 rfl ?_
            refine x_aload_n (pc := 36) C 0 dX6_makeRow_36 rfl ?_
            refine x_get (pc := 37) C 0 9 dX6_makeRow_37 hiX6_makeRow_6 hfX6_makeRow_66 rfl rfl rfl (by decide) rfl ?_
            refine x_icmp_ge (pc := 40) C 71 dX6_makeRow_40 rfl ⟨by omega, by omega⟩ ⟨by omega, by omega⟩ (fun c_40 => ?_) (fun c_40 => ?_)
            · have hr1 : Agr nn r1 nf := by rw [show nn = k by omega]; exact hrk
              refine x_aload_n (pc := 71) C 0 dX6_makeRow_71 rfl ?_
              refine x_iconst (pc := 72) C dX6_makeRow_72 ?_
              refine x_put (pc := 73) C (ty := .int) (ws' := [(o, ob 6 [jv nn, .ref d1, jv e, jv 0, .ref d2, jv oc, .ref d3, jv co, .ref d4, jv nn, .ref d5, jv kn, .ref d6, .ref d7, .ref d8, Jv lU, Jv lB, jv vn, .ref d9, .ref da, .ref db, .ref dc, .ref dd, .ref de, jv lk]), (d1, ai g 61 r1), (d2, ai g 9 nw), (d3, ai g 9 ol), (d4, az g 64 c), (d5, ai g 70 f'), (d6, ai g 70 kf), (d7, ai g 70 re), (d8, ai g 71 fw), (d9, ai g 10 pm), (da, ai g 600 fs), (db, ai g 600 la), (dc, ai g 600 fk), (dd, al g 600 us), (de, al g 600 bs)]) tyX6 0 3 dX6_makeRow_73 hiX6_makeRow_6 tyX6_ok nmX6 hfX6_makeRow_83 rfl rfl rfl (by decide) rfl (by decide +kernel) rfl rfl (Nat.le_of_ble_eq_true rfl) rfl ?_
              refine x_aload_n (pc := 76) C 0 dX6_makeRow_76 rfl ?_
              refine x_iconst (pc := 77) C dX6_makeRow_77 ?_
              refine x_put (pc := 78) C (ty := .int) (ws' := [(o, ob 6 [jv nn, .ref d1, jv e, jv 0, .ref d2, jv 0, .ref d3, jv co, .ref d4, jv nn, .ref d5, jv kn, .ref d6, .ref d7, .ref d8, Jv lU, Jv lB, jv vn, .ref d9, .ref da, .ref db, .ref dc, .ref dd, .ref de, jv lk]), (d1, ai g 61 r1), (d2, ai g 9 nw), (d3, ai g 9 ol), (d4, az g 64 c), (d5, ai g 70 f'), (d6, ai g 70 kf), (d7, ai g 70 re), (d8, ai g 71 fw), (d9, ai g 10 pm), (da, ai g 600 fs), (db, ai g 600 la), (dc, ai g 600 fk), (dd, al g 600 us), (de, al g 600 bs)]) tyX6 0 5 dX6_makeRow_78 hiX6_makeRow_6 tyX6_ok nmX6 hfX6_makeRow_72 rfl rfl rfl (by decide) rfl (by decide +kernel) rfl rfl (Nat.le_of_ble_eq_true rfl) rfl ?_
              refine x_aload_n (pc := 81) C 0 dX6_makeRow_81 rfl ?_
              refine x_dup (pc := 82) C dX6_makeRow_82 rfl ?_
              refine x_get (pc := 83) C 0 7 dX6_makeRow_83 hiX6_makeRow_6 hfX6_makeRow_92 rfl rfl rfl (by decide) rfl ?_
              refine x_aload_n (pc := 86) C 0 dX6_makeRow_86 rfl ?_
              refine x_get (pc := 87) C 0 0 dX6_makeRow_87 hiX6_makeRow_6 hfX6_makeRow_69 rfl rfl rfl (by decide) rfl ?_
              refine x_iadd (pc := 90) C dX6_makeRow_90 ?_
              refine x_put (pc := 91) C (ty := .int) (ws' := [(o, ob 6 [jv nn, .ref d1, jv e, jv 0, .ref d2, jv 0, .ref d3, jv (co + nn), .ref d4, jv nn, .ref d5, jv kn, .ref d6, .ref d7, .ref d8, Jv lU, Jv lB, jv vn, .ref d9, .ref da, .ref db, .ref dc, .ref dd, .ref de, jv lk]), (d1, ai g 61 r1), (d2, ai g 9 nw), (d3, ai g 9 ol), (d4, az g 64 c), (d5, ai g 70 f'), (d6, ai g 70 kf), (d7, ai g 70 re), (d8, ai g 71 fw), (d9, ai g 10 pm), (da, ai g 600 fs), (db, ai g 600 la), (dc, ai g 600 fk), (dd, al g 600 us), (de, al g 600 bs)]) tyX6 0 7 dX6_makeRow_91 hiX6_makeRow_6 tyX6_ok nmX6 hfX6_makeRow_92 rfl rfl rfl (by decide) rfl (by decide +kernel) rfl rfl (Nat.le_of_ble_eq_true rfl) rfl ?_
              refine x_aload_n (pc := 94) C 0 dX6_makeRow_94 rfl ?_
              refine x_callV (pc := 95) C (n := 0) (q0 := 0) (rest := []) (wr := [(d2, ai g 9 nw), (d3, ai g 9 ol), (d4, az g 64 c), (d5, ai g 70 f')]) [0, 1, 6, 7, 8, 9, 10, 11, 12, 13, 14] [2, 3, 4, 5] (ctX6_layLevels l g o d1 d2 d3 d4 d5 d6 d7 d8 d9 da db dc dd de nn e 0 0 (co + nn) nn kn lU lB vn lk r1 kf re fw pm fs la fk us bs nf (n1.congr hr1.symm) he hr1) gX6_makeRow_X6_layLevels rfl ⟨rfl, rfl⟩ (by decide +kernel) ⟨by decide, by decide⟩ rfl rfl rfl rfl rfl (by decide) (by decide) (by decide) rfl (Nat.le_of_ble_eq_true rfl) dX6_makeRow_95 ⟨by decide, by decide⟩ (fun v_95 u_95 h_95 => ?_)
              rcases h_95 with ⟨km, v, uu, ub, kg, re', fw', pm', g0, g1, g2, g3, g4, rfl, rfl, f_95⟩
              refine x_world (ws' := [(o, ob 6 [jv nn, .ref d1, jv e, jv 0, .ref d2, jv 0, .ref d3, jv (co + nn), .ref d4, jv nn, .ref d5, jv km, .ref d6, .ref d7, .ref d8, Jv uu, Jv ub, jv v, .ref d9, .ref da, .ref db, .ref dc, .ref dd, .ref de, jv lk]), (d1, ai g 61 r1), (d2, ai g 9 nw), (d3, ai g 9 ol), (d4, az g 64 c), (d5, ai g 70 f'), (d6, ai g 70 kg), (d7, ai g 70 re'), (d8, ai g 71 fw'), (d9, ai g 10 pm'), (da, ai g 600 g0), (db, ai g 600 g1), (dc, ai g 600 g2), (dd, al g 600 g3), (de, al g 600 g4)]) [4, 5, 0, 1, 2, 3, 6, 7, 8, 9, 10, 11, 12, 13, 14] (by decide) rfl ?_
              show X l g E ({ frames := 5, cells := 0, slots := 0, locals := 123 } : Room) 2 [(o, ob 6 [jv nn, .ref d1, jv e, jv 0, .ref d2, jv 0, .ref d3, jv (co + nn), .ref d4, jv nn, .ref d5, jv km, .ref d6, .ref d7, .ref d8, Jv uu, Jv ub, jv v, .ref d9, .ref da, .ref db, .ref dc, .ref dd, .ref de, jv lk]), (d1, ai g 61 r1), (d2, ai g 9 nw), (d3, ai g 9 ol), (d4, az g 64 c), (d5, ai g 70 f'), (d6, ai g 70 kg), (d7, ai g 70 re'), (d8, ai g 71 fw'), (d9, ai g 10 pm'), (da, ai g 600 g0), (db, ai g 600 g1), (dc, ai g 600 g2), (dd, al g 600 g3), (de, al g 600 g4)] 0 0 [(0, .ref o), (1, jv k)] 98 []
              refine x_vret (pc := 98) C Rt0 dX6_makeRow_98 rfl ?_
              refine ⟨_, _, _, _, _, _, _, _, _, _, _, _, _, _, _, _, rfl, rfl, ?_⟩
              exact ⟨f_1, hr1, f_95, by rw [show nn = k by omega]; exact hc⟩
            · refine x_aload_n (pc := 43) C 0 dX6_makeRow_43 rfl ?_
              refine x_get (pc := 44) C 0 1 dX6_makeRow_44 hiX6_makeRow_6 hfX6_makeRow_7 rfl rfl rfl (by decide) rfl ?_
              refine x_iload_n (pc := 47) C 1 dX6_makeRow_47 rfl ?_
              refine x_aload_n (pc := 48) C 0 dX6_makeRow_48 rfl ?_
              refine x_get (pc := 49) C 0 10 dX6_makeRow_49 hiX6_makeRow_6 hfX6_makeRow_27 rfl rfl rfl (by decide) rfl ?_
              refine x_iload_n (pc := 52) C 1 dX6_makeRow_52 rfl ?_
              refine x_iald (pc := 53) C 5 dX6_makeRow_53 rfl (by omega) (by omega) (by decide) ?_
              refine x_iast (pc := 54) C (ws' := [(o, ob 6 [jv nn, .ref d1, jv e, jv nc, .ref d2, jv oc, .ref d3, jv co, .ref d4, jv nn, .ref d5, jv kn, .ref d6, .ref d7, .ref d8, Jv lU, Jv lB, jv vn, .ref d9, .ref da, .ref db, .ref dc, .ref dd, .ref de, jv lk]), (d1, ai g 61 (up r1 k (f' k))), (d2, ai g 9 nw), (d3, ai g 9 ol), (d4, az g 64 c), (d5, ai g 70 f'), (d6, ai g 70 kf), (d7, ai g 70 re), (d8, ai g 71 fw), (d9, ai g 10 pm), (da, ai g 600 fs), (db, ai g 600 la), (dc, ai g 600 fk), (dd, al g 600 us), (de, al g 600 bs)]) 1 dX6_makeRow_54 rfl (by omega) (by omega) (by decide) rfl ?_
              refine x_aload_n (pc := 55) C 0 dX6_makeRow_55 rfl ?_
              refine x_aload_n (pc := 56) C 0 dX6_makeRow_56 rfl ?_
              refine x_get (pc := 57) C 0 10 dX6_makeRow_57 hiX6_makeRow_6 hfX6_makeRow_27 rfl rfl rfl (by decide) rfl ?_
              refine x_iload_n (pc := 60) C 1 dX6_makeRow_60 rfl ?_
              refine x_iald (pc := 61) C 5 dX6_makeRow_61 rfl (by omega) (by omega) (by decide) ?_
              have hfk : 0 ≤ f' k ∧ f' k ≤ 1000000 := by rw [f_1 k (by omega) (by omega)]; exact n1.2.2.1 k (by omega) (by omega)
              refine x_callV (pc := 62) C (n := 1) (q0 := 0) (rest := []) (wr := [(d1, ai g 61 (up r1 k (f' k))), (d2, ai g 9 nw), (d3, ai g 9 ol), (d5, ai g 70 f'), (d6, ai g 70 kf), (d7, ai g 70 re), (d8, ai g 71 fw), (d9, ai g 10 pm), (da, ai g 600 fs), (db, ai g 600 la), (dc, ai g 600 fk), (dd, al g 600 us), (de, al g 600 bs)]) [0, 4] [1, 2, 3, 5, 6, 7, 8, 9, 10, 11, 12, 13, 14] (ctX6_setBits l g o d1 d2 d3 d4 d5 d6 d7 d8 d9 da db dc dd de nn e nc oc co nn kn lU lB vn lk c (f' k) hfk) gX6_makeRow_X6_setBits rfl ⟨rfl, rfl⟩ (by decide +kernel) ⟨by decide, by decide⟩ rfl rfl rfl rfl rfl (by decide) (by decide) (by decide) rfl (Nat.le_of_ble_eq_true rfl) dX6_makeRow_62 ⟨by decide, by decide⟩ (fun v_62 u_62 h_62 => ?_)
              rcases h_62 with ⟨rfl, rfl, f_62⟩
              refine x_world (ws' := [(o, ob 6 [jv nn, .ref d1, jv e, jv nc, .ref d2, jv oc, .ref d3, jv co, .ref d4, jv nn, .ref d5, jv kn, .ref d6, .ref d7, .ref d8, Jv lU, Jv lB, jv vn, .ref d9, .ref da, .ref db, .ref dc, .ref dd, .ref de, jv lk]), (d1, ai g 61 (up r1 k (f' k))), (d2, ai g 9 nw), (d3, ai g 9 ol), (d4, az g 64 (setB c (f' k))), (d5, ai g 70 f'), (d6, ai g 70 kf), (d7, ai g 70 re), (d8, ai g 71 fw), (d9, ai g 10 pm), (da, ai g 600 fs), (db, ai g 600 la), (dc, ai g 600 fk), (dd, al g 600 us), (de, al g 600 bs)]) [13, 0, 1, 2, 14, 3, 4, 5, 6, 7, 8, 9, 10, 11, 12] (by decide) rfl ?_
              show X l g E ({ frames := 5, cells := 0, slots := 0, locals := 123 } : Room) 2 [(o, ob 6 [jv nn, .ref d1, jv e, jv nc, .ref d2, jv oc, .ref d3, jv co, .ref d4, jv nn, .ref d5, jv kn, .ref d6, .ref d7, .ref d8, Jv lU, Jv lB, jv vn, .ref d9, .ref da, .ref db, .ref dc, .ref dd, .ref de, jv lk]), (d1, ai g 61 (up r1 k (f' k))), (d2, ai g 9 nw), (d3, ai g 9 ol), (d4, az g 64 (setB c (f' k))), (d5, ai g 70 f'), (d6, ai g 70 kf), (d7, ai g 70 re), (d8, ai g 71 fw), (d9, ai g 10 pm), (da, ai g 600 fs), (db, ai g 600 la), (dc, ai g 600 fk), (dd, al g 600 us), (de, al g 600 bs)] 0 0 [(0, .ref o), (1, jv k)] 65 []
              refine x_iinc (pc := 65) C (lv' := [(1, jv (k + 1)), (0, .ref o)]) 1 dX6_makeRow_65 rfl (by decide) rfl ?_
              refine x_goto (pc := 68) C 35 dX6_makeRow_68 rfl ?_
              refine x_locals (lv' := [(0, .ref o), (1, jv (k + 1))]) [1, 0] rfl ?_
              refine ih35 _ _ _ ?_ ?_ ?_ ?_
              · omega
              · omega
              · exact al_s (fun i h0 h1 => by rw [up_ne _ _ (by omega)]; exact hrk i h0 h1) (by rw [up_eq]; exact f_1 k (by omega) (by omega))
              · rw [mkB_s nf hk.1, ← f_1 k (by omega) (by omega)]
                exact setB_agr hc
        refine x_locals (lv' := [(0, .ref o), (1, jv 0)]) [1, 0] rfl ?_
        refine L35 _ _ _ _ (Nat.lt_succ_self _) ?_ ?_ ?_
        · omega
        · exact al_0
        · intro j j0 j1
          exact hc j j0 (by omega)
      · refine x_aload_n (pc := 12) C 0 dX6_makeRow_12 rfl ?_
        refine x_get (pc := 13) C 0 8 dX6_makeRow_13 hiX6_makeRow_6 hfX6_makeRow_23 rfl rfl rfl (by decide) rfl ?_
        refine x_iload_n (pc := 16) C 1 dX6_makeRow_16 rfl ?_
        refine x_iconst (pc := 17) C dX6_makeRow_17 ?_
        refine x_zast (pc := 18) C false (ws' := [(o, ob 6 [jv rn, .ref d1, jv e, jv nc, .ref d2, jv oc, .ref d3, jv co, .ref d4, jv nn, .ref d5, jv kn, .ref d6, .ref d7, .ref d8, Jv lU, Jv lB, jv vn, .ref d9, .ref da, .ref db, .ref dc, .ref dd, .ref de, jv lk]), (d1, ai g 61 rf), (d2, ai g 9 nw), (d3, ai g 9 ol), (d4, az g 64 (up c k false)), (d5, ai g 70 f'), (d6, ai g 70 kf), (d7, ai g 70 re), (d8, ai g 71 fw), (d9, ai g 10 pm), (da, ai g 600 fs), (db, ai g 600 la), (dc, ai g 600 fk), (dd, al g 600 us), (de, al g 600 bs)]) 4 dX6_makeRow_18 rfl rfl (by omega) (by omega) (by decide) rfl ?_
        refine x_iinc (pc := 19) C (lv' := [(1, jv (k + 1)), (0, .ref o)]) 1 dX6_makeRow_19 rfl (by decide) rfl ?_
        refine x_goto (pc := 22) C 6 dX6_makeRow_22 rfl ?_
        refine x_locals (lv' := [(0, .ref o), (1, jv (k + 1))]) [1, 0] rfl ?_
        refine ih6 _ _ ?_ ?_ ?_
        · omega
        · omega
        · exact al_s (fun i h0 h1 => by rw [up_ne _ _ (by omega)]; exact hc i h0 h1) (up_eq _ _ _)
  refine x_locals (lv' := [(0, .ref o), (1, jv 0)]) [1, 0] rfl ?_
  refine L6 _ _ _ (Nat.lt_succ_self _) ?_ ?_
  · omega
  · exact al_0
