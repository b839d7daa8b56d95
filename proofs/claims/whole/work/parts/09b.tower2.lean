theorem mrs {a b : Int} (ha : 0 ≤ a ∧ a ≤ 60) (hb : -1000000 ≤ b ∧ b ≤ 1000000) : -100000000 ≤ a * b ∧ a * b ≤ 100000000 := by
  have h1 : a * b ≤ a * 1000000 := Int.mul_le_mul_of_nonneg_left hb.2 ha.1
  have h2 : a * (-1000000) ≤ a * b := Int.mul_le_mul_of_nonneg_left hb.1 ha.1
  omega
theorem dvb {a b : Int} (hb : 1 ≤ b) (ha : -100000000 ≤ a ∧ a ≤ 100000000) : -100000000 ≤ a / b ∧ a / b ≤ 100000000 := by
  refine ⟨?_, ?_⟩
  · rw [Int.le_ediv_iff_mul_le (by omega)]
    have : (-100000000) * b ≤ (-100000000) * 1 := Int.mul_le_mul_of_nonpos_left (by omega) (by omega)
    omega
  · rcases Int.lt_or_le a 0 with q | q
    · have := Int.ediv_neg_of_neg_of_pos q (show 0 < b by omega)
      omega
    · have := Int.ediv_le_self b q
      omega
theorem mnx (a b c : Int) : (if a < (if c < b then c else b) then (if c < b then c else b) else a) = max a (min b c) := by
  rw [Int.max_def, Int.min_def]
  repeat' split
  all_goals omega
set_option maxRecDepth 100000 in
theorem hiX4_build_4 : ∀ w ∈ wsX40, w ∈ wsX4_build := by decide +kernel
set_option maxRecDepth 100000 in
theorem hfX4_build_37 : Cond.fieldLink RX4 37 "KeyGuess$Tower" "height" "I" ∈ wsX4_build := by decide +kernel
set_option maxRecDepth 100000 in
theorem hfX4_build_49 : Cond.fieldLink RX4 49 "KeyGuess$Tower" "size" "I" ∈ wsX4_build := by decide +kernel
set_option maxRecDepth 100000 in
theorem hfX4_build_12 : Cond.fieldLink RX4 12 "KeyGuess$Tower" "base" "LKeyGuess$Keys;" ∈ wsX4_build := by decide +kernel
set_option maxHeartbeats 4000000 in
set_option maxRecDepth 100000 in
/-- Tower.build -/
theorem ctX4_build (l : Launch) (g : xG) (a : Nat) (kb : Nat) (kc : Nat) (t1 : Nat) (t2 : Nat) (t3 : Nat) (t4 : Nat) (t5 : Nat) (t6 : Nat) (h : Int) (sz : Int) (bn : Int) (bf : Int → Int) (S : Int → Int) (A0 : Int → Int) (A1 : Int → Int) (A2 : Int → Int) (A3 : Int → Int) (A4 : Int → Int) (ra : Nat) (rb : Nat) (n : Int) (f : Int → Int) (ca : Nat) (c1 : Nat) (c2 : Nat) (c3 : Nat) (c4 : Nat) (c5 : Nat) (x : Int → Int) (F : Int → Int) (Ls : Int → Int) (Nm : Int → Int) (Dn : Int → Int) (e : Int) (y : Int → Int) (hk : Kr n f) (he : 0 ≤ e ∧ e ≤ 8) (hy : Agr n f y) : Ct l g yX4_build wsX4_build ({ frames := 4, cells := 0, slots := 0, locals := 90 } : Room) 0 0 [(a, ob 4 [.ref kb, .ref t1, .ref t2, .ref t3, .ref t4, .ref t5, .ref t6, jv h, jv sz]), (kb, ob 2 [.ref kc, jv bn]), (kc, ai g 60 bf), (t1, ai g 11 S), (t2, ai g 60 A0), (t3, ai g 60 A1), (t4, ai g 60 A2), (t5, ai g 60 A3), (t6, ai g 60 A4), (ra, ob 2 [.ref rb, jv n]), (rb, ai g 60 f), (ca, ob 0 [.ref c1, .ref c2, .ref c3, .ref c4, .ref c5]), (c1, ai g 60 x), (c2, ai g 61 F), (c3, ai g 60 Ls), (c4, ai g 60 Nm), (c5, ai g 60 Dn)] [.ref a, .ref ra, .ref ca, jv e] (fun v u => ∃ (h1 : Int) (z1 : Int) (n1 : Int) (f1 : Int → Int) (S1 : Int → Int) (A0' : Int → Int) (A1' : Int → Int) (A2' : Int → Int) (A3' : Int → Int) (A4' : Int → Int) (x' : Int → Int) (F' : Int → Int) (L' : Int → Int) (N' : Int → Int) (D' : Int → Int), v = none ∧ u = [(a, ob 4 [.ref kb, .ref t1, .ref t2, .ref t3, .ref t4, .ref t5, .ref t6, jv h1, jv z1]), (kb, ob 2 [.ref kc, jv n1]), (kc, ai g 60 f1), (t1, ai g 11 S1), (t2, ai g 60 A0'), (t3, ai g 60 A1'), (t4, ai g 60 A2'), (t5, ai g 60 A3'), (t6, ai g 60 A4'), (ra, ob 2 [.ref rb, jv n]), (rb, ai g 60 f), (ca, ob 0 [.ref c1, .ref c2, .ref c3, .ref c4, .ref c5]), (c1, ai g 60 x'), (c2, ai g 61 F'), (c3, ai g 60 L'), (c4, ai g 60 N'), (c5, ai g 60 D')] ∧ (TwR y e n h1 z1 S1 A0' A1' A2' A3' A4')) := by
  refine ct_of (cc := cX4_build) (nL := 6) (ret := none) (by decide) rfl (Nat.le_of_ble_eq_true rfl) ?_
  intro E C Rt0
  have C : Cx l g E ({ frames := 4, cells := 0, slots := 0, locals := 90 } : Room) RX4 "build" cX4_build wsX4_build 6 := C
  show X l g E ({ frames := 4, cells := 0, slots := 0, locals := 90 } : Room) 6 [(a, ob 4 [.ref kb, .ref t1, .ref t2, .ref t3, .ref t4, .ref t5, .ref t6, jv h, jv sz]), (kb, ob 2 [.ref kc, jv bn]), (kc, ai g 60 bf), (t1, ai g 11 S), (t2, ai g 60 A0), (t3, ai g 60 A1), (t4, ai g 60 A2), (t5, ai g 60 A3), (t6, ai g 60 A4), (ra, ob 2 [.ref rb, jv n]), (rb, ai g 60 f), (ca, ob 0 [.ref c1, .ref c2, .ref c3, .ref c4, .ref c5]), (c1, ai g 60 x), (c2, ai g 61 F), (c3, ai g 60 Ls), (c4, ai g 60 Nm), (c5, ai g 60 Dn)] 0 0 [(0, .ref a), (1, .ref ra), (2, .ref ca), (3, jv e)] 0 []
  have hn0 := hk.1
  have hn1 := hk.2.1
  have hky : Kr n y := hk.congr hy
  refine x_aload_n (pc := 0) C 0 dX4_build_0 rfl ?_
  refine x_iconst (pc := 1) C dX4_build_1 ?_
  refine x_put (pc := 2) C (ty := .int) (ws' := [(a, ob 4 [.ref kb, .ref t1, .ref t2, .ref t3, .ref t4, .ref t5, .ref t6, jv 0, jv sz]), (kb, ob 2 [.ref kc, jv bn]), (kc, ai g 60 bf), (t1, ai g 11 S), (t2, ai g 60 A0), (t3, ai g 60 A1), (t4, ai g 60 A2), (t5, ai g 60 A3), (t6, ai g 60 A4), (ra, ob 2 [.ref rb, jv n]), (rb, ai g 60 f), (ca, ob 0 [.ref c1, .ref c2, .ref c3, .ref c4, .ref c5]), (c1, ai g 60 x), (c2, ai g 61 F), (c3, ai g 60 Ls), (c4, ai g 60 Nm), (c5, ai g 60 Dn)]) tyX4 0 7 dX4_build_2 hiX4_build_4 tyX4_ok nmX4 hfX4_build_37 rfl rfl rfl (by decide) rfl (by decide +kernel) rfl rfl (Nat.le_of_ble_eq_true rfl) rfl ?_
  refine x_aload_n (pc := 5) C 0 dX4_build_5 rfl ?_
  refine x_iconst (pc := 6) C dX4_build_6 ?_
  refine x_put (pc := 7) C (ty := .int) (ws' := [(a, ob 4 [.ref kb, .ref t1, .ref t2, .ref t3, .ref t4, .ref t5, .ref t6, jv 0, jv 0]), (kb, ob 2 [.ref kc, jv bn]), (kc, ai g 60 bf), (t1, ai g 11 S), (t2, ai g 60 A0), (t3, ai g 60 A1), (t4, ai g 60 A2), (t5, ai g 60 A3), (t6, ai g 60 A4), (ra, ob 2 [.ref rb, jv n]), (rb, ai g 60 f), (ca, ob 0 [.ref c1, .ref c2, .ref c3, .ref c4, .ref c5]), (c1, ai g 60 x), (c2, ai g 61 F), (c3, ai g 60 Ls), (c4, ai g 60 Nm), (c5, ai g 60 Dn)]) tyX4 0 8 dX4_build_7 hiX4_build_4 tyX4_ok nmX4 hfX4_build_49 rfl rfl rfl (by decide) rfl (by decide +kernel) rfl rfl (Nat.le_of_ble_eq_true rfl) rfl ?_
  refine x_aload_n (pc := 10) C 0 dX4_build_10 rfl ?_
  refine x_get (pc := 11) C 0 0 dX4_build_11 hiX4_build_4 hfX4_build_12 rfl rfl rfl (by decide) rfl ?_
  refine x_aload_n (pc := 14) C 1 dX4_build_14 rfl ?_
  refine x_callV (pc := 15) C (n := 1) (q0 := 0) (rest := []) (wr := [(a, ob 4 [.ref kb, .ref t1, .ref t2, .ref t3, .ref t4, .ref t5, .ref t6, jv 0, jv 0]), (t1, ai g 11 S), (t2, ai g 60 A0), (t3, ai g 60 A1), (t4, ai g 60 A2), (t5, ai g 60 A3), (t6, ai g 60 A4), (ca, ob 0 [.ref c1, .ref c2, .ref c3, .ref c4, .ref c5]), (c1, ai g 60 x), (c2, ai g 61 F), (c3, ai g 60 Ls), (c4, ai g 60 Nm), (c5, ai g 60 Dn)]) [1, 2, 9, 10] [0, 3, 4, 5, 6, 7, 8, 11, 12, 13, 14, 15, 16] (ctX2_copy l g kb kc bn bf ra rb n f ⟨hn0, hn1⟩) gX4_build_X2_copy rfl ⟨rfl, rfl⟩ (by decide +kernel) ⟨by decide, by decide⟩ rfl rfl rfl rfl rfl (by decide) (by decide) (by decide) rfl (Nat.le_of_ble_eq_true rfl) dX4_build_15 ⟨by decide, by decide⟩ (fun v_15 u_15 h_15 => ?_)
  rcases h_15 with ⟨g0, rfl, rfl, f_15⟩
  refine x_world (ws' := [(a, ob 4 [.ref kb, .ref t1, .ref t2, .ref t3, .ref t4, .ref t5, .ref t6, jv 0, jv 0]), (kb, ob 2 [.ref kc, jv n]), (kc, ai g 60 g0), (t1, ai g 11 S), (t2, ai g 60 A0), (t3, ai g 60 A1), (t4, ai g 60 A2), (t5, ai g 60 A3), (t6, ai g 60 A4), (ra, ob 2 [.ref rb, jv n]), (rb, ai g 60 f), (ca, ob 0 [.ref c1, .ref c2, .ref c3, .ref c4, .ref c5]), (c1, ai g 60 x), (c2, ai g 61 F), (c3, ai g 60 Ls), (c4, ai g 60 Nm), (c5, ai g 60 Dn)]) [0, 13, 14, 1, 2, 3, 4, 5, 6, 15, 16, 7, 8, 9, 10, 11, 12] (by decide) rfl ?_
  show X l g E ({ frames := 4, cells := 0, slots := 0, locals := 90 } : Room) 6 [(a, ob 4 [.ref kb, .ref t1, .ref t2, .ref t3, .ref t4, .ref t5, .ref t6, jv 0, jv 0]), (kb, ob 2 [.ref kc, jv n]), (kc, ai g 60 g0), (t1, ai g 11 S), (t2, ai g 60 A0), (t3, ai g 60 A1), (t4, ai g 60 A2), (t5, ai g 60 A3), (t6, ai g 60 A4), (ra, ob 2 [.ref rb, jv n]), (rb, ai g 60 f), (ca, ob 0 [.ref c1, .ref c2, .ref c3, .ref c4, .ref c5]), (c1, ai g 60 x), (c2, ai g 61 F), (c3, ai g 60 Ls), (c4, ai g 60 Nm), (c5, ai g 60 Dn)] 0 0 [(0, .ref a), (1, .ref ra), (2, .ref ca), (3, jv e)] 18 []
  refine x_aload_n (pc := 18) C 0 dX4_build_18 rfl ?_
  refine x_get (pc := 19) C 0 0 dX4_build_19 hiX4_build_4 hfX4_build_12 rfl rfl rfl (by decide) rfl ?_
  refine x_callV (pc := 22) C (n := 0) (q0 := 0) (rest := []) (wr := [(a, ob 4 [.ref kb, .ref t1, .ref t2, .ref t3, .ref t4, .ref t5, .ref t6, jv 0, jv 0]), (t1, ai g 11 S), (t2, ai g 60 A0), (t3, ai g 60 A1), (t4, ai g 60 A2), (t5, ai g 60 A3), (t6, ai g 60 A4), (ra, ob 2 [.ref rb, jv n]), (rb, ai g 60 f), (ca, ob 0 [.ref c1, .ref c2, .ref c3, .ref c4, .ref c5]), (c1, ai g 60 x), (c2, ai g 61 F), (c3, ai g 60 Ls), (c4, ai g 60 Nm), (c5, ai g 60 Dn)]) [1, 2] [0, 3, 4, 5, 6, 7, 8, 9, 10, 11, 12, 13, 14, 15, 16] (ctX2_size l g kb kc n g0 ⟨hn0, hn1⟩) gX4_build_X2_size rfl ⟨rfl, rfl⟩ (by decide +kernel) ⟨by decide, by decide⟩ rfl rfl rfl rfl rfl (by decide) (by decide) (by decide) rfl (Nat.le_of_ble_eq_true rfl) dX4_build_22 ⟨by decide, by decide⟩ (fun v_22 u_22 h_22 => ?_)
  rcases h_22 with ⟨rfl, rfl, f_22⟩
  refine x_world (ws' := [(a, ob 4 [.ref kb, .ref t1, .ref t2, .ref t3, .ref t4, .ref t5, .ref t6, jv 0, jv 0]), (kb, ob 2 [.ref kc, jv n]), (kc, ai g 60 g0), (t1, ai g 11 S), (t2, ai g 60 A0), (t3, ai g 60 A1), (t4, ai g 60 A2), (t5, ai g 60 A3), (t6, ai g 60 A4), (ra, ob 2 [.ref rb, jv n]), (rb, ai g 60 f), (ca, ob 0 [.ref c1, .ref c2, .ref c3, .ref c4, .ref c5]), (c1, ai g 60 x), (c2, ai g 61 F), (c3, ai g 60 Ls), (c4, ai g 60 Nm), (c5, ai g 60 Dn)]) [0, 15, 16, 1, 2, 3, 4, 5, 6, 7, 8, 9, 10, 11, 12, 13, 14] (by decide) rfl ?_
  show X l g E ({ frames := 4, cells := 0, slots := 0, locals := 90 } : Room) 6 [(a, ob 4 [.ref kb, .ref t1, .ref t2, .ref t3, .ref t4, .ref t5, .ref t6, jv 0, jv 0]), (kb, ob 2 [.ref kc, jv n]), (kc, ai g 60 g0), (t1, ai g 11 S), (t2, ai g 60 A0), (t3, ai g 60 A1), (t4, ai g 60 A2), (t5, ai g 60 A3), (t6, ai g 60 A4), (ra, ob 2 [.ref rb, jv n]), (rb, ai g 60 f), (ca, ob 0 [.ref c1, .ref c2, .ref c3, .ref c4, .ref c5]), (c1, ai g 60 x), (c2, ai g 61 F), (c3, ai g 60 Ls), (c4, ai g 60 Nm), (c5, ai g 60 Dn)] 0 0 [(0, .ref a), (1, .ref ra), (2, .ref ca), (3, jv e)] 25 [jv n]
  have L38 : ∀ (nn : Nat) (mo : Int) (v : Int) (t : Nat) (z : Int) (bm : Int) (bg : Int → Int) (S1 : Int → Int) (B0 : Int → Int) (B1 : Int → Int) (B2 : Int → Int) (B3 : Int → Int) (B4 : Int → Int) (x' : Int → Int) (F' : Int → Int) (L' : Int → Int) (N' : Int → Int) (D' : Int → Int), (10 - v).toNat < nn → (v = (t : Int) ∧ v ≤ 6) → ((mo = 1 ∧ LvGo y e n t bm bg) ∨ (mo = 0 ∧ Ht y e n v)) → (TwP y e n t z S1 B0 B1 B2 B3 B4) → (z ≤ 60) → X l g E ({ frames := 4, cells := 0, slots := 0, locals := 90 } : Room) 6 [(a, ob 4 [.ref kb, .ref t1, .ref t2, .ref t3, .ref t4, .ref t5, .ref t6, jv v, jv z]), (kb, ob 2 [.ref kc, jv bm]), (kc, ai g 60 bg), (t1, ai g 11 S1), (t2, ai g 60 B0), (t3, ai g 60 B1), (t4, ai g 60 B2), (t5, ai g 60 B3), (t6, ai g 60 B4), (ra, ob 2 [.ref rb, jv n]), (rb, ai g 60 f), (ca, ob 0 [.ref c1, .ref c2, .ref c3, .ref c4, .ref c5]), (c1, ai g 60 x'), (c2, ai g 61 F'), (c3, ai g 60 L'), (c4, ai g 60 N'), (c5, ai g 60 D')] 0 0 [(0, .ref a), (1, .ref ra), (2, .ref ca), (3, jv e), (4, jv mo), (5, jv v)] 38 [] := by
    intro nn
    induction nn with
    | zero => intro mo v t z bm bg S1 B0 B1 B2 B3 B4 x' F' L' N' D' hμ; exact absurd hμ (Nat.not_lt_zero _)
    | succ nn ih38 =>
      intro mo v t z bm bg S1 B0 B1 B2 B3 B4 x' F' L' N' D' hμ hv hmo hT hz
      refine x_iload (pc := 38) C 5 dX4_build_38 rfl ?_
      refine x_bipush (pc := 40) C dX4_build_40 rfl ?_
      refine x_icmp_ge (pc := 42) C 95 dX4_build_42 rfl ⟨by omega, by omega⟩ ⟨by omega, by omega⟩ (fun c_42 => ?_) (fun c_42 => ?_)
      · omega
      · refine x_iload (pc := 45) C 4 dX4_build_45 rfl ?_
        refine x_if_eq (pc := 47) C 95 dX4_build_47 rfl ⟨by omega, by omega⟩ (fun c_47 => ?_) (fun c_47 => ?_)
        · refine x_vret (pc := 95) C Rt0 dX4_build_95 rfl ?_
          refine ⟨_, _, _, _, _, _, _, _, _, _, _, _, _, _, _, rfl, rfl, ?_⟩
          refine ⟨?_, by omega, by omega, hz, ?_⟩
          · rcases hmo with q | q
            · omega
            · exact q.2
          · rw [show v.toNat = t by omega]; exact hT
        · have hgo : LvGo y e n t bm bg := by
            rcases hmo with q | q
            · exact q.2
            · omega
          have hkb : Kr bm bg := hgo.2.2.2.1.congr hgo.2.2.2.2.1.symm
          have hg3 := hgo.2.2.1
          have hg6 := hgo.2.2.2.2.2.2.1
          have hg7 := hgo.2.2.2.2.2.2.2
          have hlb := tb_1 (n := bm) (m := 0) hg3 (by omega) hkb.2.1
          have hst := St_mono (x := y) (n := n) he.1 (t := t) (fun s q => (hT.2.2 s q).1) t (Nat.le_refl _)
          refine x_aload_n (pc := 50) C 2 dX4_build_50 rfl ?_
          refine x_aload_n (pc := 51) C 0 dX4_build_51 rfl ?_
          refine x_get (pc := 52) C 0 0 dX4_build_52 hiX4_build_4 hfX4_build_12 rfl rfl rfl (by decide) rfl ?_
          refine x_iload_n (pc := 55) C 3 dX4_build_55 rfl ?_
          refine x_callV (pc := 56) C (n := 2) (q0 := 0) (rest := []) (wr := [(a, ob 4 [.ref kb, .ref t1, .ref t2, .ref t3, .ref t4, .ref t5, .ref t6, jv v, jv z]), (t1, ai g 11 S1), (t2, ai g 60 B0), (t3, ai g 60 B1), (t4, ai g 60 B2), (t5, ai g 60 B3), (t6, ai g 60 B4), (ra, ob 2 [.ref rb, jv n]), (rb, ai g 60 f)]) [11, 12, 13, 14, 15, 16, 1, 2] [0, 3, 4, 5, 6, 7, 8, 9, 10] (ctX0_cut l g ca c1 c2 c3 c4 c5 x' F' L' N' D' kb kc bm bg e hkb he) gX4_build_X0_cut rfl ⟨rfl, rfl⟩ (by decide +kernel) ⟨by decide, by decide⟩ rfl rfl rfl rfl rfl (by decide) (by decide) (by decide) rfl (Nat.le_of_ble_eq_true rfl) dX4_build_56 ⟨by decide, by decide⟩ (fun v_56 u_56 h_56 => ?_)
          rcases h_56 with ⟨x2, F2, L2, N2, D2, rfl, rfl, f_56⟩
          refine x_world (ws' := [(a, ob 4 [.ref kb, .ref t1, .ref t2, .ref t3, .ref t4, .ref t5, .ref t6, jv v, jv z]), (kb, ob 2 [.ref kc, jv bm]), (kc, ai g 60 bg), (t1, ai g 11 S1), (t2, ai g 60 B0), (t3, ai g 60 B1), (t4, ai g 60 B2), (t5, ai g 60 B3), (t6, ai g 60 B4), (ra, ob 2 [.ref rb, jv n]), (rb, ai g 60 f), (ca, ob 0 [.ref c1, .ref c2, .ref c3, .ref c4, .ref c5]), (c1, ai g 60 x2), (c2, ai g 61 F2), (c3, ai g 60 L2), (c4, ai g 60 N2), (c5, ai g 60 D2)]) [0, 15, 16, 1, 2, 3, 4, 5, 6, 7, 8, 9, 10, 11, 12, 13, 14] (by decide) rfl ?_
          show X l g E ({ frames := 4, cells := 0, slots := 0, locals := 90 } : Room) 6 [(a, ob 4 [.ref kb, .ref t1, .ref t2, .ref t3, .ref t4, .ref t5, .ref t6, jv v, jv z]), (kb, ob 2 [.ref kc, jv bm]), (kc, ai g 60 bg), (t1, ai g 11 S1), (t2, ai g 60 B0), (t3, ai g 60 B1), (t4, ai g 60 B2), (t5, ai g 60 B3), (t6, ai g 60 B4), (ra, ob 2 [.ref rb, jv n]), (rb, ai g 60 f), (ca, ob 0 [.ref c1, .ref c2, .ref c3, .ref c4, .ref c5]), (c1, ai g 60 x2), (c2, ai g 61 F2), (c3, ai g 60 L2), (c4, ai g 60 N2), (c5, ai g 60 D2)] 0 0 [(0, .ref a), (1, .ref ra), (2, .ref ca), (3, jv e), (4, jv mo), (5, jv v)] 59 []
          have hok := hgo.ok f_56.1
          have hpm : F2 0 = PM (lvl y e n t).1 e (lvl y e n t).2 := by
            rw [pm_of (by omega) hok.2, ← hgo.2.1]
          have hpb := hok.1.pm he.1
          have hptb := tb_1 (n := bm) (m := F2 0) hg3 (by rw [hpm, hgo.2.1]; exact hpb.2) hkb.2.1
          refine x_aload_n (pc := 59) C 0 dX4_build_59 rfl ?_
          refine x_iload (pc := 60) C 5 dX4_build_60 rfl ?_
          refine x_aload_n (pc := 62) C 2 dX4_build_62 rfl ?_
          refine x_callV (pc := 63) C (n := 2) (q0 := 0) (rest := []) (wr := [(ra, ob 2 [.ref rb, jv n]), (rb, ai g 60 f)]) [0, 1, 2, 3, 4, 5, 6, 7, 8, 11, 12, 13, 14, 15, 16] [9, 10] (ctX4_raise l g a kb kc t1 t2 t3 t4 t5 t6 v z bm bg S1 B0 B1 B2 B3 B4 ca c1 c2 c3 c4 c5 x2 F2 L2 N2 D2 v e ⟨by omega, by omega⟩ he hkb hgo.2.2.1 f_56.1 ⟨by rw [hT.1]; exact hst.1, by rw [hpm, hT.1]; omega⟩) gX4_build_X4_raise rfl ⟨rfl, rfl⟩ (by decide +kernel) ⟨by decide, by decide⟩ rfl rfl rfl rfl rfl (by decide) (by decide) (by decide) rfl (Nat.le_of_ble_eq_true rfl) dX4_build_63 ⟨by decide, by decide⟩ (fun v_63 u_63 h_63 => ?_)
          rcases h_63 with ⟨z2, E0, E1, E2, E3, E4, rfl, rfl, f_63⟩
          refine x_world (ws' := [(a, ob 4 [.ref kb, .ref t1, .ref t2, .ref t3, .ref t4, .ref t5, .ref t6, jv (v + 1), jv z2]), (kb, ob 2 [.ref kc, jv bm]), (kc, ai g 60 bg), (t1, ai g 11 (up (up S1 v z) (v + 1) z2)), (t2, ai g 60 E0), (t3, ai g 60 E1), (t4, ai g 60 E2), (t5, ai g 60 E3), (t6, ai g 60 E4), (ra, ob 2 [.ref rb, jv n]), (rb, ai g 60 f), (ca, ob 0 [.ref c1, .ref c2, .ref c3, .ref c4, .ref c5]), (c1, ai g 60 x2), (c2, ai g 61 F2), (c3, ai g 60 L2), (c4, ai g 60 N2), (c5, ai g 60 D2)]) [2, 3, 4, 5, 6, 7, 8, 9, 10, 0, 1, 11, 12, 13, 14, 15, 16] (by decide) rfl ?_
          show X l g E ({ frames := 4, cells := 0, slots := 0, locals := 90 } : Room) 6 [(a, ob 4 [.ref kb, .ref t1, .ref t2, .ref t3, .ref t4, .ref t5, .ref t6, jv (v + 1), jv z2]), (kb, ob 2 [.ref kc, jv bm]), (kc, ai g 60 bg), (t1, ai g 11 (up (up S1 v z) (v + 1) z2)), (t2, ai g 60 E0), (t3, ai g 60 E1), (t4, ai g 60 E2), (t5, ai g 60 E3), (t6, ai g 60 E4), (ra, ob 2 [.ref rb, jv n]), (rb, ai g 60 f), (ca, ob 0 [.ref c1, .ref c2, .ref c3, .ref c4, .ref c5]), (c1, ai g 60 x2), (c2, ai g 61 F2), (c3, ai g 60 L2), (c4, ai g 60 N2), (c5, ai g 60 D2)] 0 0 [(0, .ref a), (1, .ref ra), (2, .ref ca), (3, jv e), (4, jv mo), (5, jv v)] 66 []
          obtain ⟨r1, r2, r3, r4, r5, r6, r7⟩ := f_63
          have hT2 : TwP y e n (t + 1) z2 (up (up S1 v z) (v + 1) z2) E0 E1 E2 E3 E4 := by
            rw [hv.1]
            refine hT.step he.1 hok.1 (by rw [r1, hpm]) r2 r3 r4 r5 r6 (fun j j0 j1 => ?_)
            have q := r7 j j0 (by rw [hpm]; exact j1)
            have pp := pc_of (by omega) hok.2 hgo.2.2.2.2.1 j0 (by rw [hpm]; exact j1)
            rw [hgo.2.1] at pp
            rw [q.1, q.2.1, q.2.2.1, q.2.2.2.1, q.2.2.2.2]
            exact pp
          have hz2 : z2 ≤ 60 := by rw [r1, hT.1]; omega
          have hF2 : TwF (v + 1) z2 (up (up S1 v z) (v + 1) z2) := hT2.F he.1 hz2 (by omega) (by omega)
          have hS1 : up (up S1 v z) (v + 1) z2 (v + 1) = z2 := up_eq _ _ _
          have hS0 : up (up S1 v z) (v + 1) z2 v = z := by rw [up_ne _ _ (by omega), up_eq]
          refine x_aload_n (pc := 66) C 0 dX4_build_66 rfl ?_
          refine x_iload (pc := 67) C 5 dX4_build_67 rfl ?_
          refine x_callV (pc := 69) C (n := 1) (q0 := 0) (rest := []) (wr := [(ra, ob 2 [.ref rb, jv n]), (rb, ai g 60 f), (ca, ob 0 [.ref c1, .ref c2, .ref c3, .ref c4, .ref c5]), (c1, ai g 60 x2), (c2, ai g 61 F2), (c3, ai g 60 L2), (c4, ai g 60 N2), (c5, ai g 60 D2)]) [0, 1, 2, 3, 4, 5, 6, 7, 8] [9, 10, 11, 12, 13, 14, 15, 16] (ctX4_width l g a kb kc t1 t2 t3 t4 t5 t6 (v + 1) z2 bm bg (up (up S1 v z) (v + 1) z2) E0 E1 E2 E3 E4 v hF2 ⟨by omega, by omega⟩) gX4_build_X4_width rfl ⟨rfl, rfl⟩ (by decide +kernel) ⟨by decide, by decide⟩ rfl rfl rfl rfl rfl (by decide) (by decide) (by decide) rfl (Nat.le_of_ble_eq_true rfl) dX4_build_69 ⟨by decide, by decide⟩ (fun v_69 u_69 h_69 => ?_)
          rcases h_69 with ⟨rfl, rfl, f_69⟩ | ⟨rfl, rfl, f_69⟩
          · refine x_world (ws' := [(a, ob 4 [.ref kb, .ref t1, .ref t2, .ref t3, .ref t4, .ref t5, .ref t6, jv (v + 1), jv z2]), (kb, ob 2 [.ref kc, jv bm]), (kc, ai g 60 bg), (t1, ai g 11 (up (up S1 v z) (v + 1) z2)), (t2, ai g 60 E0), (t3, ai g 60 E1), (t4, ai g 60 E2), (t5, ai g 60 E3), (t6, ai g 60 E4), (ra, ob 2 [.ref rb, jv n]), (rb, ai g 60 f), (ca, ob 0 [.ref c1, .ref c2, .ref c3, .ref c4, .ref c5]), (c1, ai g 60 x2), (c2, ai g 61 F2), (c3, ai g 60 L2), (c4, ai g 60 N2), (c5, ai g 60 D2)]) [8, 9, 10, 11, 12, 13, 14, 15, 16, 0, 1, 2, 3, 4, 5, 6, 7] (by decide) rfl ?_
            show X l g E ({ frames := 4, cells := 0, slots := 0, locals := 90 } : Room) 6 [(a, ob 4 [.ref kb, .ref t1, .ref t2, .ref t3, .ref t4, .ref t5, .ref t6, jv (v + 1), jv z2]), (kb, ob 2 [.ref kc, jv bm]), (kc, ai g 60 bg), (t1, ai g 11 (up (up S1 v z) (v + 1) z2)), (t2, ai g 60 E0), (t3, ai g 60 E1), (t4, ai g 60 E2), (t5, ai g 60 E3), (t6, ai g 60 E4), (ra, ob 2 [.ref rb, jv n]), (rb, ai g 60 f), (ca, ob 0 [.ref c1, .ref c2, .ref c3, .ref c4, .ref c5]), (c1, ai g 60 x2), (c2, ai g 61 F2), (c3, ai g 60 L2), (c4, ai g 60 N2), (c5, ai g 60 D2)] 0 0 [(0, .ref a), (1, .ref ra), (2, .ref ca), (3, jv e), (4, jv mo), (5, jv v)] 72 [jv ((up (up S1 v z) (v + 1) z2) (v + 1) - (up (up S1 v z) (v + 1) z2) v)]
            rw [hS1, hS0]
            refine x_iconst (pc := 72) C dX4_build_72 ?_
            refine x_icmp_le (pc := 73) C 80 dX4_build_73 rfl ⟨by omega, by omega⟩ ⟨by omega, by omega⟩ (fun c_73 => ?_) (fun c_73 => ?_)
            · refine x_iconst (pc := 80) C dX4_build_80 ?_
              refine x_istore (pc := 81) C (lv' := [(4, jv 0), (0, .ref a), (1, .ref ra), (2, .ref ca), (3, jv e), (5, jv v)]) dX4_build_81 (by decide) rfl ?_
              refine x_aload_n (pc := 83) C 1 dX4_build_83 rfl ?_
              refine x_iload (pc := 84) C 5 dX4_build_84 rfl ?_
              refine x_callV (pc := 86) C (n := 1) (q0 := 0) (rest := []) (wr := [(ra, ob 2 [.ref rb, jv n]), (rb, ai g 60 f), (ca, ob 0 [.ref c1, .ref c2, .ref c3, .ref c4, .ref c5]), (c1, ai g 60 x2), (c2, ai g 61 F2), (c3, ai g 60 L2), (c4, ai g 60 N2), (c5, ai g 60 D2)]) [0, 1, 2, 3, 4, 5, 6, 7, 8] [9, 10, 11, 12, 13, 14, 15, 16] (ctX4_layBase l g a kb kc t1 t2 t3 t4 t5 t6 (v + 1) z2 bm bg (up (up S1 v z) (v + 1) z2) E0 E1 E2 E3 E4 v hF2 ⟨by omega, by omega⟩ ⟨by omega, hgo.2.2.2.1.2.1⟩) gX4_build_X4_layBase rfl ⟨rfl, rfl⟩ (by decide +kernel) ⟨by decide, by decide⟩ rfl rfl rfl rfl rfl (by decide) (by decide) (by decide) rfl (Nat.le_of_ble_eq_true rfl) dX4_build_86 ⟨by decide, by decide⟩ (fun v_86 u_86 h_86 => ?_)
              rcases h_86 with ⟨w2, g2, rfl, rfl, f_86⟩
              refine x_world (ws' := [(a, ob 4 [.ref kb, .ref t1, .ref t2, .ref t3, .ref t4, .ref t5, .ref t6, jv (v + 1), jv z2]), (kb, ob 2 [.ref kc, jv w2]), (kc, ai g 60 g2), (t1, ai g 11 (up (up S1 v z) (v + 1) z2)), (t2, ai g 60 E0), (t3, ai g 60 E1), (t4, ai g 60 E2), (t5, ai g 60 E3), (t6, ai g 60 E4), (ra, ob 2 [.ref rb, jv n]), (rb, ai g 60 f), (ca, ob 0 [.ref c1, .ref c2, .ref c3, .ref c4, .ref c5]), (c1, ai g 60 x2), (c2, ai g 61 F2), (c3, ai g 60 L2), (c4, ai g 60 N2), (c5, ai g 60 D2)]) [8, 9, 10, 11, 12, 13, 14, 15, 16, 0, 1, 2, 3, 4, 5, 6, 7] (by decide) rfl ?_
              show X l g E ({ frames := 4, cells := 0, slots := 0, locals := 90 } : Room) 6 [(a, ob 4 [.ref kb, .ref t1, .ref t2, .ref t3, .ref t4, .ref t5, .ref t6, jv (v + 1), jv z2]), (kb, ob 2 [.ref kc, jv w2]), (kc, ai g 60 g2), (t1, ai g 11 (up (up S1 v z) (v + 1) z2)), (t2, ai g 60 E0), (t3, ai g 60 E1), (t4, ai g 60 E2), (t5, ai g 60 E3), (t6, ai g 60 E4), (ra, ob 2 [.ref rb, jv n]), (rb, ai g 60 f), (ca, ob 0 [.ref c1, .ref c2, .ref c3, .ref c4, .ref c5]), (c1, ai g 60 x2), (c2, ai g 61 F2), (c3, ai g 60 L2), (c4, ai g 60 N2), (c5, ai g 60 D2)] 0 0 [(4, jv 0), (0, .ref a), (1, .ref ra), (2, .ref ca), (3, jv e), (5, jv v)] 89 []
              refine x_iinc (pc := 89) C (lv' := [(5, jv (v + 1)), (4, jv 0), (0, .ref a), (1, .ref ra), (2, .ref ca), (3, jv e)]) 5 dX4_build_89 rfl (by decide) rfl ?_
              refine x_goto (pc := 92) C 38 dX4_build_92 rfl ?_
              refine x_locals (lv' := [(0, .ref a), (1, .ref ra), (2, .ref ca), (3, jv e), (4, jv 0), (5, jv (v + 1))]) [2, 3, 4, 5, 1, 0] rfl ?_
              refine ih38 _ _ (t + 1) _ _ _ _ _ _ _ _ _ _ _ _ _ _ ?_ ?_ ?_ ?_ ?_
              · omega
              · omega
              · exact Or.inr ⟨rfl, by rw [hv.1]; exact hgo.last he.1 hpm (by omega)⟩
              · exact hT2
              · exact hz2
            · refine x_iconst (pc := 76) C dX4_build_76 ?_
              refine x_goto (pc := 77) C 81 dX4_build_77 rfl ?_
              refine x_istore (pc := 81) C (lv' := [(4, jv 1), (0, .ref a), (1, .ref ra), (2, .ref ca), (3, jv e), (5, jv v)]) dX4_build_81 (by decide) rfl ?_
              refine x_aload_n (pc := 83) C 1 dX4_build_83 rfl ?_
              refine x_iload (pc := 84) C 5 dX4_build_84 rfl ?_
              refine x_callV (pc := 86) C (n := 1) (q0 := 0) (rest := []) (wr := [(ra, ob 2 [.ref rb, jv n]), (rb, ai g 60 f), (ca, ob 0 [.ref c1, .ref c2, .ref c3, .ref c4, .ref c5]), (c1, ai g 60 x2), (c2, ai g 61 F2), (c3, ai g 60 L2), (c4, ai g 60 N2), (c5, ai g 60 D2)]) [0, 1, 2, 3, 4, 5, 6, 7, 8] [9, 10, 11, 12, 13, 14, 15, 16] (ctX4_layBase l g a kb kc t1 t2 t3 t4 t5 t6 (v + 1) z2 bm bg (up (up S1 v z) (v + 1) z2) E0 E1 E2 E3 E4 v hF2 ⟨by omega, by omega⟩ ⟨by omega, hgo.2.2.2.1.2.1⟩) gX4_build_X4_layBase rfl ⟨rfl, rfl⟩ (by decide +kernel) ⟨by decide, by decide⟩ rfl rfl rfl rfl rfl (by decide) (by decide) (by decide) rfl (Nat.le_of_ble_eq_true rfl) dX4_build_86 ⟨by decide, by decide⟩ (fun v_86 u_86 h_86 => ?_)
              rcases h_86 with ⟨w2, g2, rfl, rfl, f_86⟩
              refine x_world (ws' := [(a, ob 4 [.ref kb, .ref t1, .ref t2, .ref t3, .ref t4, .ref t5, .ref t6, jv (v + 1), jv z2]), (kb, ob 2 [.ref kc, jv w2]), (kc, ai g 60 g2), (t1, ai g 11 (up (up S1 v z) (v + 1) z2)), (t2, ai g 60 E0), (t3, ai g 60 E1), (t4, ai g 60 E2), (t5, ai g 60 E3), (t6, ai g 60 E4), (ra, ob 2 [.ref rb, jv n]), (rb, ai g 60 f), (ca, ob 0 [.ref c1, .ref c2, .ref c3, .ref c4, .ref c5]), (c1, ai g 60 x2), (c2, ai g 61 F2), (c3, ai g 60 L2), (c4, ai g 60 N2), (c5, ai g 60 D2)]) [8, 9, 10, 11, 12, 13, 14, 15, 16, 0, 1, 2, 3, 4, 5, 6, 7] (by decide) rfl ?_
              show X l g E ({ frames := 4, cells := 0, slots := 0, locals := 90 } : Room) 6 [(a, ob 4 [.ref kb, .ref t1, .ref t2, .ref t3, .ref t4, .ref t5, .ref t6, jv (v + 1), jv z2]), (kb, ob 2 [.ref kc, jv w2]), (kc, ai g 60 g2), (t1, ai g 11 (up (up S1 v z) (v + 1) z2)), (t2, ai g 60 E0), (t3, ai g 60 E1), (t4, ai g 60 E2), (t5, ai g 60 E3), (t6, ai g 60 E4), (ra, ob 2 [.ref rb, jv n]), (rb, ai g 60 f), (ca, ob 0 [.ref c1, .ref c2, .ref c3, .ref c4, .ref c5]), (c1, ai g 60 x2), (c2, ai g 61 F2), (c3, ai g 60 L2), (c4, ai g 60 N2), (c5, ai g 60 D2)] 0 0 [(4, jv 1), (0, .ref a), (1, .ref ra), (2, .ref ca), (3, jv e), (5, jv v)] 89 []
              refine x_iinc (pc := 89) C (lv' := [(5, jv (v + 1)), (4, jv 1), (0, .ref a), (1, .ref ra), (2, .ref ca), (3, jv e)]) 5 dX4_build_89 rfl (by decide) rfl ?_
              refine x_goto (pc := 92) C 38 dX4_build_92 rfl ?_
              refine x_locals (lv' := [(0, .ref a), (1, .ref ra), (2, .ref ca), (3, jv e), (4, jv 1), (5, jv (v + 1))]) [2, 3, 4, 5, 1, 0] rfl ?_
              refine ih38 _ _ (t + 1) _ _ _ _ _ _ _ _ _ _ _ _ _ _ ?_ ?_ ?_ ?_ ?_
              · omega
              · omega
              · refine Or.inl ⟨rfl, hgo.next he.1 hok.1 (by rw [f_86.1, hS1, hS0, ← hpm]; omega) (by rw [f_86.1, hS1, hS0]; omega) (fun j j0 j1 => ?_)⟩
                rw [f_86.2 j j0 j1, hS0]
                have q := hT2.2.2 t (by omega)
                have q2 := (q.2 j j0 (by rw [← hpm]; rw [f_86.1, hS1, hS0] at j1; omega)).2.2.1
                rw [← hT.1] at q2
                exact q2
              · exact hT2
              · exact hz2
          · refine x_world (ws' := [(a, ob 4 [.ref kb, .ref t1, .ref t2, .ref t3, .ref t4, .ref t5, .ref t6, jv (v + 1), jv z2]), (kb, ob 2 [.ref kc, jv bm]), (kc, ai g 60 bg), (t1, ai g 11 (up (up S1 v z) (v + 1) z2)), (t2, ai g 60 E0), (t3, ai g 60 E1), (t4, ai g 60 E2), (t5, ai g 60 E3), (t6, ai g 60 E4), (ra, ob 2 [.ref rb, jv n]), (rb, ai g 60 f), (ca, ob 0 [.ref c1, .ref c2, .ref c3, .ref c4, .ref c5]), (c1, ai g 60 x2), (c2, ai g 61 F2), (c3, ai g 60 L2), (c4, ai g 60 N2), (c5, ai g 60 D2)]) [8, 9, 10, 11, 12, 13, 14, 15, 16, 0, 1, 2, 3, 4, 5, 6, 7] (by decide) rfl ?_
            show X l g E ({ frames := 4, cells := 0, slots := 0, locals := 90 } : Room) 6 [(a, ob 4 [.ref kb, .ref t1, .ref t2, .ref t3, .ref t4, .ref t5, .ref t6, jv (v + 1), jv z2]), (kb, ob 2 [.ref kc, jv bm]), (kc, ai g 60 bg), (t1, ai g 11 (up (up S1 v z) (v + 1) z2)), (t2, ai g 60 E0), (t3, ai g 60 E1), (t4, ai g 60 E2), (t5, ai g 60 E3), (t6, ai g 60 E4), (ra, ob 2 [.ref rb, jv n]), (rb, ai g 60 f), (ca, ob 0 [.ref c1, .ref c2, .ref c3, .ref c4, .ref c5]), (c1, ai g 60 x2), (c2, ai g 61 F2), (c3, ai g 60 L2), (c4, ai g 60 N2), (c5, ai g 60 D2)] 0 0 [(0, .ref a), (1, .ref ra), (2, .ref ca), (3, jv e), (4, jv mo), (5, jv v)] 72 [jv 0]
            omega
  refine x_if_le (pc := 25) C 32 dX4_build_25 rfl ⟨by omega, by omega⟩ (fun c_25 => ?_) (fun c_25 => ?_)
  · refine x_iconst (pc := 32) C dX4_build_32 ?_
    refine x_istore (pc := 33) C (lv' := [(4, jv 0), (0, .ref a), (1, .ref ra), (2, .ref ca), (3, jv e)]) dX4_build_33 (by decide) rfl ?_
    refine x_iconst (pc := 35) C dX4_build_35 ?_
    refine x_istore (pc := 36) C (lv' := [(5, jv 0), (4, jv 0), (0, .ref a), (1, .ref ra), (2, .ref ca), (3, jv e)]) dX4_build_36 (by decide) rfl ?_
    refine x_locals (lv' := [(0, .ref a), (1, .ref ra), (2, .ref ca), (3, jv e), (4, jv 0), (5, jv 0)]) [2, 3, 4, 5, 1, 0] rfl ?_
    refine L38 _ _ _ 0 _ _ _ _ _ _ _ _ _ _ _ _ _ _ (Nat.lt_succ_self _) ?_ ?_ ?_ ?_
    · exact ⟨rfl, by omega⟩
    · exact Or.inr ⟨rfl, Or.inl ⟨by omega, rfl⟩⟩
    · exact ⟨rfl, fun q => absurd q (by omega), fun s q => absurd q (by omega)⟩
    · omega
  · refine x_iconst (pc := 28) C dX4_build_28 ?_
    refine x_goto (pc := 29) C 33 dX4_build_29 rfl ?_
    refine x_istore (pc := 33) C (lv' := [(4, jv 1), (0, .ref a), (1, .ref ra), (2, .ref ca), (3, jv e)]) dX4_build_33 (by decide) rfl ?_
    refine x_iconst (pc := 35) C dX4_build_35 ?_
    refine x_istore (pc := 36) C (lv' := [(5, jv 0), (4, jv 1), (0, .ref a), (1, .ref ra), (2, .ref ca), (3, jv e)]) dX4_build_36 (by decide) rfl ?_
    refine x_locals (lv' := [(0, .ref a), (1, .ref ra), (2, .ref ca), (3, jv e), (4, jv 1), (5, jv 0)]) [2, 3, 4, 5, 1, 0] rfl ?_
    refine L38 _ _ _ 0 _ _ _ _ _ _ _ _ _ _ _ _ _ _ (Nat.lt_succ_self _) ?_ ?_ ?_ ?_
    · exact ⟨rfl, by omega⟩
    · exact Or.inl ⟨rfl, LvGo.first hky (by omega) (f_15.trans hy)⟩
    · exact ⟨rfl, fun q => absurd q (by omega), fun s q => absurd q (by omega)⟩
    · omega

set_option maxRecDepth 100000 in
theorem hiX4_pieceFor_4 : ∀ w ∈ wsX40, w ∈ wsX4_pieceFor := by decide +kernel
set_option maxRecDepth 100000 in
theorem hfX4_pieceFor_28 : Cond.fieldLink RX4 28 "KeyGuess$Tower" "firsts" "[I" ∈ wsX4_pieceFor := by decide +kernel
set_option maxHeartbeats 4000000 in
set_option maxRecDepth 100000 in
/-- Tower.pieceFor -/
theorem ctX4_pieceFor (l : Launch) (g : xG) (a : Nat) (kb : Nat) (kc : Nat) (t1 : Nat) (t2 : Nat) (t3 : Nat) (t4 : Nat) (t5 : Nat) (t6 : Nat) (h : Int) (sz : Int) (bn : Int) (bf : Int → Int) (S : Int → Int) (A0 : Int → Int) (A1 : Int → Int) (A2 : Int → Int) (A3 : Int → Int) (A4 : Int → Int) (f : Int → Int) (e : Int) (n : Int) (x : Int) (he : 0 ≤ e ∧ e ≤ 8) (hT : TwR f e n h sz S A0 A1 A2 A3 A4) (h1 : 1 ≤ h) (hx : 0 ≤ x ∧ x ≤ 1000000) : Ct l g yX4_pieceFor wsX4_pieceFor ({ frames := 1, cells := 0, slots := 0, locals := 21 } : Room) 0 0 [(a, ob 4 [.ref kb, .ref t1, .ref t2, .ref t3, .ref t4, .ref t5, .ref t6, jv h, jv sz]), (kb, ob 2 [.ref kc, jv bn]), (kc, ai g 60 bf), (t1, ai g 11 S), (t2, ai g 60 A0), (t3, ai g 60 A1), (t4, ai g 60 A2), (t5, ai g 60 A3), (t6, ai g 60 A4)] [.ref a, jv x] (fun v u => ∃ (p : Int), v = some (jv p) ∧ u = [(a, ob 4 [.ref kb, .ref t1, .ref t2, .ref t3, .ref t4, .ref t5, .ref t6, jv h, jv sz]), (kb, ob 2 [.ref kc, jv bn]), (kc, ai g 60 bf), (t1, ai g 11 S), (t2, ai g 60 A0), (t3, ai g 60 A1), (t4, ai g 60 A2), (t5, ai g 60 A3), (t6, ai g 60 A4)] ∧ (Pf (PM f e n) (P2 f e n) x p)) := by
  refine ct_of (cc := cX4_pieceFor) (nL := 4) (ret := (some .int)) (by decide) rfl (Nat.le_of_ble_eq_true rfl) ?_
  intro E C Rt0
  have C : Cx l g E ({ frames := 1, cells := 0, slots := 0, locals := 21 } : Room) RX4 "pieceFor" cX4_pieceFor wsX4_pieceFor 4 := C
  show X l g E ({ frames := 1, cells := 0, slots := 0, locals := 21 } : Room) 4 [(a, ob 4 [.ref kb, .ref t1, .ref t2, .ref t3, .ref t4, .ref t5, .ref t6, jv h, jv sz]), (kb, ob 2 [.ref kc, jv bn]), (kc, ai g 60 bf), (t1, ai g 11 S), (t2, ai g 60 A0), (t3, ai g 60 A1), (t4, ai g 60 A2), (t5, ai g 60 A3), (t6, ai g 60 A4)] 0 0 [(0, .ref a), (1, jv x)] 0 []
  obtain ⟨hok, hS0, hS1, hpz, hA⟩ := hT.l0 he.1 h1
  have hpm := hok.pm he.1
  have hn1 := hok.1.2.1
  have hz := hT.2.2.2.1
  have hF : TwF h sz S := hT.2.2.2.2.F he.1 hz (by have := hT.2.2.1; omega) (by have := hT.2.1; omega)
  have hz0 := hF.2.2.1
  refine x_iconst (pc := 0) C dX4_pieceFor_0 ?_
  refine x_istore_n (pc := 1) C (lv' := [(2, jv 0), (0, .ref a), (1, jv x)]) dX4_pieceFor_1 (by decide) rfl ?_
  refine x_iconst (pc := 2) C dX4_pieceFor_2 ?_
  refine x_istore_n (pc := 3) C (lv' := [(3, jv 1), (2, jv 0), (0, .ref a), (1, jv x)]) dX4_pieceFor_3 (by decide) rfl ?_
  have L4 : ∀ (nn : Nat) (u : Int) (p : Int), (PM f e n - p).toNat < nn → (1 ≤ p ∧ p ≤ PM f e n ∧ u = p - 1) → (∀ q : Int, 1 ≤ q → q < p → P2 f e n q ≤ x) → X l g E ({ frames := 1, cells := 0, slots := 0, locals := 21 } : Room) 4 [(a, ob 4 [.ref kb, .ref t1, .ref t2, .ref t3, .ref t4, .ref t5, .ref t6, jv h, jv sz]), (kb, ob 2 [.ref kc, jv bn]), (kc, ai g 60 bf), (t1, ai g 11 S), (t2, ai g 60 A0), (t3, ai g 60 A1), (t4, ai g 60 A2), (t5, ai g 60 A3), (t6, ai g 60 A4)] 0 0 [(0, .ref a), (1, jv x), (2, jv u), (3, jv p)] 4 [] := by
    intro nn
    induction nn with
    | zero => intro u p hμ; exact absurd hμ (Nat.not_lt_zero _)
    | succ nn ih4 =>
      intro u p hμ hp hlo
      refine x_iload_n (pc := 4) C 3 dX4_pieceFor_4 rfl ?_
      refine x_aload_n (pc := 5) C 0 dX4_pieceFor_5 rfl ?_
      refine x_iconst (pc := 6) C dX4_pieceFor_6 ?_
      refine x_callV (pc := 7) C (n := 1) (q0 := 0) (rest := [jv p]) (wr := []) [0, 1, 2, 3, 4, 5, 6, 7, 8] [] (ctX4_width l g a kb kc t1 t2 t3 t4 t5 t6 h sz bn bf S A0 A1 A2 A3 A4 0 hF ⟨by omega, by omega⟩) gX4_pieceFor_X4_width rfl ⟨rfl, rfl⟩ (by decide +kernel) ⟨by decide, by decide⟩ rfl rfl rfl rfl rfl (by decide) (by decide) (by decide) rfl (Nat.le_of_ble_eq_true rfl) dX4_pieceFor_7 ⟨by decide, by decide⟩ (fun v_7 u_7 h_7 => ?_)
      rcases h_7 with ⟨rfl, rfl, f_7⟩ | ⟨rfl, rfl, f_7⟩
      · refine x_world (ws' := [(a, ob 4 [.ref kb, .ref t1, .ref t2, .ref t3, .ref t4, .ref t5, .ref t6, jv h, jv sz]), (kb, ob 2 [.ref kc, jv bn]), (kc, ai g 60 bf), (t1, ai g 11 S), (t2, ai g 60 A0), (t3, ai g 60 A1), (t4, ai g 60 A2), (t5, ai g 60 A3), (t6, ai g 60 A4)]) [0, 1, 2, 3, 4, 5, 6, 7, 8] (by decide) rfl ?_
        show X l g E ({ frames := 1, cells := 0, slots := 0, locals := 21 } : Room) 4 [(a, ob 4 [.ref kb, .ref t1, .ref t2, .ref t3, .ref t4, .ref t5, .ref t6, jv h, jv sz]), (kb, ob 2 [.ref kc, jv bn]), (kc, ai g 60 bf), (t1, ai g 11 S), (t2, ai g 60 A0), (t3, ai g 60 A1), (t4, ai g 60 A2), (t5, ai g 60 A3), (t6, ai g 60 A4)] 0 0 [(0, .ref a), (1, jv x), (2, jv u), (3, jv p)] 10 [jv (S (0 + 1) - S 0), jv p]
        rw [show (0 : Int) + 1 = 1 from rfl, hS0, hS1]
        refine x_icmp_ge (pc := 10) C 39 dX4_pieceFor_10 rfl ⟨by omega, by omega⟩ ⟨by omega, by omega⟩ (fun c_10 => ?_) (fun c_10 => ?_)
        · refine x_iload_n (pc := 39) C 2 dX4_pieceFor_39 rfl ?_
          refine x_iret (pc := 40) C Rt0 dX4_pieceFor_40 rfl ?_
          refine ⟨_, rfl, rfl, ?_⟩
          refine ⟨by omega, by omega, fun q q1 q2 => hlo q q1 (by omega), fun q q1 q2 => ?_⟩
          omega
        · refine x_aload_n (pc := 13) C 0 dX4_pieceFor_13 rfl ?_
          refine x_iload_n (pc := 14) C 3 dX4_pieceFor_14 rfl ?_
          refine x_callV (pc := 15) C (n := 1) (q0 := 0) (rest := []) (wr := []) [0, 1, 2, 3, 4, 5, 6, 7, 8] [] (ctX4_isPiece l g a kb kc t1 t2 t3 t4 t5 t6 h sz bn bf S A0 A1 A2 A3 A4 p ⟨hz0, hz⟩ ⟨by omega, by omega⟩) gX4_pieceFor_X4_isPiece rfl ⟨rfl, rfl⟩ (by decide +kernel) ⟨by decide, by decide⟩ rfl rfl rfl rfl rfl (by decide) (by decide) (by decide) rfl (Nat.le_of_ble_eq_true rfl) dX4_pieceFor_15 ⟨by decide, by decide⟩ (fun v_15 u_15 h_15 => ?_)
          rcases h_15 with ⟨rfl, rfl, f_15⟩ | ⟨rfl, rfl, f_15⟩
          · refine x_world (ws' := [(a, ob 4 [.ref kb, .ref t1, .ref t2, .ref t3, .ref t4, .ref t5, .ref t6, jv h, jv sz]), (kb, ob 2 [.ref kc, jv bn]), (kc, ai g 60 bf), (t1, ai g 11 S), (t2, ai g 60 A0), (t3, ai g 60 A1), (t4, ai g 60 A2), (t5, ai g 60 A3), (t6, ai g 60 A4)]) [0, 1, 2, 3, 4, 5, 6, 7, 8] (by decide) rfl ?_
            show X l g E ({ frames := 1, cells := 0, slots := 0, locals := 21 } : Room) 4 [(a, ob 4 [.ref kb, .ref t1, .ref t2, .ref t3, .ref t4, .ref t5, .ref t6, jv h, jv sz]), (kb, ob 2 [.ref kc, jv bn]), (kc, ai g 60 bf), (t1, ai g 11 S), (t2, ai g 60 A0), (t3, ai g 60 A1), (t4, ai g 60 A2), (t5, ai g 60 A3), (t6, ai g 60 A4)] 0 0 [(0, .ref a), (1, jv x), (2, jv u), (3, jv p)] 18 [jv 1]
            refine x_if_eq (pc := 18) C 39 dX4_pieceFor_18 rfl ⟨by decide, by decide⟩ (fun h => absurd h (by decide)) (fun _ => ?_)
            refine x_aload_n (pc := 21) C 0 dX4_pieceFor_21 rfl ?_
            refine x_get (pc := 22) C 0 4 dX4_pieceFor_22 hiX4_pieceFor_4 hfX4_pieceFor_28 rfl rfl rfl (by decide) rfl ?_
            refine x_iload_n (pc := 25) C 3 dX4_pieceFor_25 rfl ?_
            refine x_iald (pc := 26) C 6 dX4_pieceFor_26 rfl (by omega) (by omega) (by decide) ?_
            have ha := (hA p (by omega) (by omega)).2.2.1
            have hb := hok.p he.1 (k := p) (by omega) (by omega)
            refine x_iload_n (pc := 27) C 1 dX4_pieceFor_27 rfl ?_
            refine x_icmp_gt (pc := 28) C 39 dX4_pieceFor_28 rfl ⟨by omega, by omega⟩ ⟨by omega, by omega⟩ (fun c_28 => ?_) (fun c_28 => ?_)
            · refine x_iload_n (pc := 39) C 2 dX4_pieceFor_39 rfl ?_
              refine x_iret (pc := 40) C Rt0 dX4_pieceFor_40 rfl ?_
              refine ⟨_, rfl, rfl, ?_⟩
              refine ⟨by omega, by omega, fun q q1 q2 => hlo q q1 (by omega), fun q q1 q2 => ?_⟩
              have hkr := hok.next he.1
              have := hkr.le (i := p) (j := q) (by omega) (by omega) q2
              omega
            · refine x_iload_n (pc := 31) C 3 dX4_pieceFor_31 rfl ?_
              refine x_istore_n (pc := 32) C (lv' := [(2, jv p), (0, .ref a), (1, jv x), (3, jv p)]) dX4_pieceFor_32 (by decide) rfl ?_
              refine x_iinc (pc := 33) C (lv' := [(3, jv (p + 1)), (2, jv p), (0, .ref a), (1, jv x)]) 3 dX4_pieceFor_33 rfl (by decide) rfl ?_
              refine x_goto (pc := 36) C 4 dX4_pieceFor_36 rfl ?_
              refine x_locals (lv' := [(0, .ref a), (1, jv x), (2, jv p), (3, jv (p + 1))]) [2, 3, 1, 0] rfl ?_
              refine ih4 _ _ ?_ ?_ ?_
              · omega
              · omega
              · intro q q1 q2
                by_cases z : q = p
                · rw [z]; omega
                · exact hlo q q1 (by omega)
          · refine x_world (ws' := [(a, ob 4 [.ref kb, .ref t1, .ref t2, .ref t3, .ref t4, .ref t5, .ref t6, jv h, jv sz]), (kb, ob 2 [.ref kc, jv bn]), (kc, ai g 60 bf), (t1, ai g 11 S), (t2, ai g 60 A0), (t3, ai g 60 A1), (t4, ai g 60 A2), (t5, ai g 60 A3), (t6, ai g 60 A4)]) [0, 1, 2, 3, 4, 5, 6, 7, 8] (by decide) rfl ?_
            show X l g E ({ frames := 1, cells := 0, slots := 0, locals := 21 } : Room) 4 [(a, ob 4 [.ref kb, .ref t1, .ref t2, .ref t3, .ref t4, .ref t5, .ref t6, jv h, jv sz]), (kb, ob 2 [.ref kc, jv bn]), (kc, ai g 60 bf), (t1, ai g 11 S), (t2, ai g 60 A0), (t3, ai g 60 A1), (t4, ai g 60 A2), (t5, ai g 60 A3), (t6, ai g 60 A4)] 0 0 [(0, .ref a), (1, jv x), (2, jv u), (3, jv p)] 18 [jv 0]
            omega
      · refine x_world (ws' := [(a, ob 4 [.ref kb, .ref t1, .ref t2, .ref t3, .ref t4, .ref t5, .ref t6, jv h, jv sz]), (kb, ob 2 [.ref kc, jv bn]), (kc, ai g 60 bf), (t1, ai g 11 S), (t2, ai g 60 A0), (t3, ai g 60 A1), (t4, ai g 60 A2), (t5, ai g 60 A3), (t6, ai g 60 A4)]) [0, 1, 2, 3, 4, 5, 6, 7, 8] (by decide) rfl ?_
        show X l g E ({ frames := 1, cells := 0, slots := 0, locals := 21 } : Room) 4 [(a, ob 4 [.ref kb, .ref t1, .ref t2, .ref t3, .ref t4, .ref t5, .ref t6, jv h, jv sz]), (kb, ob 2 [.ref kc, jv bn]), (kc, ai g 60 bf), (t1, ai g 11 S), (t2, ai g 60 A0), (t3, ai g 60 A1), (t4, ai g 60 A2), (t5, ai g 60 A3), (t6, ai g 60 A4)] 0 0 [(0, .ref a), (1, jv x), (2, jv u), (3, jv p)] 10 [jv 0, jv p]
        omega
  refine x_locals (lv' := [(0, .ref a), (1, jv x), (2, jv 0), (3, jv 1)]) [2, 3, 1, 0] rfl ?_
  refine L4 _ _ _ (Nat.lt_succ_self _) ?_ ?_
  · omega
  · exact fun q q1 q2 => absurd q1 (by omega)

set_option maxRecDepth 100000 in
theorem hiX4_fromOf_4 : ∀ w ∈ wsX40, w ∈ wsX4_fromOf := by decide +kernel
set_option maxRecDepth 100000 in
theorem hfX4_fromOf_22 : Cond.fieldLink RX4 22 "KeyGuess$Tower" "froms" "[I" ∈ wsX4_fromOf := by decide +kernel
set_option maxHeartbeats 4000000 in
set_option maxRecDepth 100000 in
/-- Tower.fromOf -/
theorem ctX4_fromOf (l : Launch) (g : xG) (a : Nat) (kb : Nat) (kc : Nat) (t1 : Nat) (t2 : Nat) (t3 : Nat) (t4 : Nat) (t5 : Nat) (t6 : Nat) (h : Int) (sz : Int) (bn : Int) (bf : Int → Int) (S : Int → Int) (A0 : Int → Int) (A1 : Int → Int) (A2 : Int → Int) (A3 : Int → Int) (A4 : Int → Int) (f : Int → Int) (e : Int) (n : Int) (p : Int) (he : 0 ≤ e ∧ e ≤ 8) (hT : TwR f e n h sz S A0 A1 A2 A3 A4) (h1 : 1 ≤ h) (hp : 0 ≤ p ∧ p < PM f e n) : Ct l g yX4_fromOf wsX4_fromOf ({ frames := 1, cells := 0, slots := 0, locals := 21 } : Room) 0 0 [(a, ob 4 [.ref kb, .ref t1, .ref t2, .ref t3, .ref t4, .ref t5, .ref t6, jv h, jv sz]), (kb, ob 2 [.ref kc, jv bn]), (kc, ai g 60 bf), (t1, ai g 11 S), (t2, ai g 60 A0), (t3, ai g 60 A1), (t4, ai g 60 A2), (t5, ai g 60 A3), (t6, ai g 60 A4)] [.ref a, jv p] (fun v u => ∃ (r : Int), v = some (jv r) ∧ u = [(a, ob 4 [.ref kb, .ref t1, .ref t2, .ref t3, .ref t4, .ref t5, .ref t6, jv h, jv sz]), (kb, ob 2 [.ref kc, jv bn]), (kc, ai g 60 bf), (t1, ai g 11 S), (t2, ai g 60 A0), (t3, ai g 60 A1), (t4, ai g 60 A2), (t5, ai g 60 A3), (t6, ai g 60 A4)] ∧ (r = P0 f e n p)) := by
  refine ct_of (cc := cX4_fromOf) (nL := 2) (ret := (some .int)) (by decide) rfl (Nat.le_of_ble_eq_true rfl) ?_
  intro E C Rt0
  have C : Cx l g E ({ frames := 1, cells := 0, slots := 0, locals := 21 } : Room) RX4 "fromOf" cX4_fromOf wsX4_fromOf 2 := C
  show X l g E ({ frames := 1, cells := 0, slots := 0, locals := 21 } : Room) 2 [(a, ob 4 [.ref kb, .ref t1, .ref t2, .ref t3, .ref t4, .ref t5, .ref t6, jv h, jv sz]), (kb, ob 2 [.ref kc, jv bn]), (kc, ai g 60 bf), (t1, ai g 11 S), (t2, ai g 60 A0), (t3, ai g 60 A1), (t4, ai g 60 A2), (t5, ai g 60 A3), (t6, ai g 60 A4)] 0 0 [(0, .ref a), (1, jv p)] 0 []
  obtain ⟨hok, hS0, hS1, hpz, hA⟩ := hT.l0 he.1 h1
  have hpm := hok.pm he.1
  have hn1 := hok.1.2.1
  have hz := hT.2.2.2.1
  have hF : TwF h sz S := hT.2.2.2.2.F he.1 hz (by have := hT.2.2.1; omega) (by have := hT.2.1; omega)
  have hz0 := hF.2.2.1
  refine x_aload_n (pc := 0) C 0 dX4_fromOf_0 rfl ?_
  refine x_iload_n (pc := 1) C 1 dX4_fromOf_1 rfl ?_
  refine x_callV (pc := 2) C (n := 1) (q0 := 0) (rest := []) (wr := []) [0, 1, 2, 3, 4, 5, 6, 7, 8] [] (ctX4_isPiece l g a kb kc t1 t2 t3 t4 t5 t6 h sz bn bf S A0 A1 A2 A3 A4 p ⟨hz0, hz⟩ ⟨by omega, by omega⟩) gX4_fromOf_X4_isPiece rfl ⟨rfl, rfl⟩ (by decide +kernel) ⟨by decide, by decide⟩ rfl rfl rfl rfl rfl (by decide) (by decide) (by decide) rfl (Nat.le_of_ble_eq_true rfl) dX4_fromOf_2 ⟨by decide, by decide⟩ (fun v_2 u_2 h_2 => ?_)
  rcases h_2 with ⟨rfl, rfl, f_2⟩ | ⟨rfl, rfl, f_2⟩
  · refine x_world (ws' := [(a, ob 4 [.ref kb, .ref t1, .ref t2, .ref t3, .ref t4, .ref t5, .ref t6, jv h, jv sz]), (kb, ob 2 [.ref kc, jv bn]), (kc, ai g 60 bf), (t1, ai g 11 S), (t2, ai g 60 A0), (t3, ai g 60 A1), (t4, ai g 60 A2), (t5, ai g 60 A3), (t6, ai g 60 A4)]) [0, 1, 2, 3, 4, 5, 6, 7, 8] (by decide) rfl ?_
    show X l g E ({ frames := 1, cells := 0, slots := 0, locals := 21 } : Room) 2 [(a, ob 4 [.ref kb, .ref t1, .ref t2, .ref t3, .ref t4, .ref t5, .ref t6, jv h, jv sz]), (kb, ob 2 [.ref kc, jv bn]), (kc, ai g 60 bf), (t1, ai g 11 S), (t2, ai g 60 A0), (t3, ai g 60 A1), (t4, ai g 60 A2), (t5, ai g 60 A3), (t6, ai g 60 A4)] 0 0 [(0, .ref a), (1, jv p)] 5 [jv 1]
    refine x_if_eq (pc := 5) C 17 dX4_fromOf_5 rfl ⟨by decide, by decide⟩ (fun h => absurd h (by decide)) (fun _ => ?_)
    refine x_aload_n (pc := 8) C 0 dX4_fromOf_8 rfl ?_
    refine x_get (pc := 9) C 0 2 dX4_fromOf_9 hiX4_fromOf_4 hfX4_fromOf_22 rfl rfl rfl (by decide) rfl ?_
    refine x_iload_n (pc := 12) C 1 dX4_fromOf_12 rfl ?_
    refine x_iald (pc := 13) C 4 dX4_fromOf_13 rfl (by omega) (by omega) (by decide) ?_
    refine x_goto (pc := 14) C 18 dX4_fromOf_14 rfl ?_
    refine x_iret (pc := 18) C Rt0 dX4_fromOf_18 rfl ?_
    refine ⟨_, rfl, rfl, ?_⟩
    exact (hA p hp.1 hp.2).1
  · refine x_world (ws' := [(a, ob 4 [.ref kb, .ref t1, .ref t2, .ref t3, .ref t4, .ref t5, .ref t6, jv h, jv sz]), (kb, ob 2 [.ref kc, jv bn]), (kc, ai g 60 bf), (t1, ai g 11 S), (t2, ai g 60 A0), (t3, ai g 60 A1), (t4, ai g 60 A2), (t5, ai g 60 A3), (t6, ai g 60 A4)]) [0, 1, 2, 3, 4, 5, 6, 7, 8] (by decide) rfl ?_
    show X l g E ({ frames := 1, cells := 0, slots := 0, locals := 21 } : Room) 2 [(a, ob 4 [.ref kb, .ref t1, .ref t2, .ref t3, .ref t4, .ref t5, .ref t6, jv h, jv sz]), (kb, ob 2 [.ref kc, jv bn]), (kc, ai g 60 bf), (t1, ai g 11 S), (t2, ai g 60 A0), (t3, ai g 60 A1), (t4, ai g 60 A2), (t5, ai g 60 A3), (t6, ai g 60 A4)] 0 0 [(0, .ref a), (1, jv p)] 5 [jv 0]
    omega

set_option maxRecDepth 100000 in
theorem hiX4_lastOf_4 : ∀ w ∈ wsX40, w ∈ wsX4_lastOf := by decide +kernel
set_option maxRecDepth 100000 in
theorem hfX4_lastOf_25 : Cond.fieldLink RX4 25 "KeyGuess$Tower" "lasts" "[I" ∈ wsX4_lastOf := by decide +kernel
set_option maxHeartbeats 4000000 in
set_option maxRecDepth 100000 in
/-- Tower.lastOf -/
theorem ctX4_lastOf (l : Launch) (g : xG) (a : Nat) (kb : Nat) (kc : Nat) (t1 : Nat) (t2 : Nat) (t3 : Nat) (t4 : Nat) (t5 : Nat) (t6 : Nat) (h : Int) (sz : Int) (bn : Int) (bf : Int → Int) (S : Int → Int) (A0 : Int → Int) (A1 : Int → Int) (A2 : Int → Int) (A3 : Int → Int) (A4 : Int → Int) (f : Int → Int) (e : Int) (n : Int) (p : Int) (he : 0 ≤ e ∧ e ≤ 8) (hT : TwR f e n h sz S A0 A1 A2 A3 A4) (h1 : 1 ≤ h) (hp : 0 ≤ p ∧ p < PM f e n) : Ct l g yX4_lastOf wsX4_lastOf ({ frames := 1, cells := 0, slots := 0, locals := 21 } : Room) 0 0 [(a, ob 4 [.ref kb, .ref t1, .ref t2, .ref t3, .ref t4, .ref t5, .ref t6, jv h, jv sz]), (kb, ob 2 [.ref kc, jv bn]), (kc, ai g 60 bf), (t1, ai g 11 S), (t2, ai g 60 A0), (t3, ai g 60 A1), (t4, ai g 60 A2), (t5, ai g 60 A3), (t6, ai g 60 A4)] [.ref a, jv p] (fun v u => ∃ (r : Int), v = some (jv r) ∧ u = [(a, ob 4 [.ref kb, .ref t1, .ref t2, .ref t3, .ref t4, .ref t5, .ref t6, jv h, jv sz]), (kb, ob 2 [.ref kc, jv bn]), (kc, ai g 60 bf), (t1, ai g 11 S), (t2, ai g 60 A0), (t3, ai g 60 A1), (t4, ai g 60 A2), (t5, ai g 60 A3), (t6, ai g 60 A4)] ∧ (r = P1 f e n p)) := by
  refine ct_of (cc := cX4_lastOf) (nL := 2) (ret := (some .int)) (by decide) rfl (Nat.le_of_ble_eq_true rfl) ?_
  intro E C Rt0
  have C : Cx l g E ({ frames := 1, cells := 0, slots := 0, locals := 21 } : Room) RX4 "lastOf" cX4_lastOf wsX4_lastOf 2 := C
  show X l g E ({ frames := 1, cells := 0, slots := 0, locals := 21 } : Room) 2 [(a, ob 4 [.ref kb, .ref t1, .ref t2, .ref t3, .ref t4, .ref t5, .ref t6, jv h, jv sz]), (kb, ob 2 [.ref kc, jv bn]), (kc, ai g 60 bf), (t1, ai g 11 S), (t2, ai g 60 A0), (t3, ai g 60 A1), (t4, ai g 60 A2), (t5, ai g 60 A3), (t6, ai g 60 A4)] 0 0 [(0, .ref a), (1, jv p)] 0 []
  obtain ⟨hok, hS0, hS1, hpz, hA⟩ := hT.l0 he.1 h1
  have hpm := hok.pm he.1
  have hn1 := hok.1.2.1
  have hz := hT.2.2.2.1
  have hF : TwF h sz S := hT.2.2.2.2.F he.1 hz (by have := hT.2.2.1; omega) (by have := hT.2.1; omega)
  have hz0 := hF.2.2.1
  refine x_aload_n (pc := 0) C 0 dX4_lastOf_0 rfl ?_
  refine x_iload_n (pc := 1) C 1 dX4_lastOf_1 rfl ?_
  refine x_callV (pc := 2) C (n := 1) (q0 := 0) (rest := []) (wr := []) [0, 1, 2, 3, 4, 5, 6, 7, 8] [] (ctX4_isPiece l g a kb kc t1 t2 t3 t4 t5 t6 h sz bn bf S A0 A1 A2 A3 A4 p ⟨hz0, hz⟩ ⟨by omega, by omega⟩) gX4_lastOf_X4_isPiece rfl ⟨rfl, rfl⟩ (by decide +kernel) ⟨by decide, by decide⟩ rfl rfl rfl rfl rfl (by decide) (by decide) (by decide) rfl (Nat.le_of_ble_eq_true rfl) dX4_lastOf_2 ⟨by decide, by decide⟩ (fun v_2 u_2 h_2 => ?_)
  rcases h_2 with ⟨rfl, rfl, f_2⟩ | ⟨rfl, rfl, f_2⟩
  · refine x_world (ws' := [(a, ob 4 [.ref kb, .ref t1, .ref t2, .ref t3, .ref t4, .ref t5, .ref t6, jv h, jv sz]), (kb, ob 2 [.ref kc, jv bn]), (kc, ai g 60 bf), (t1, ai g 11 S), (t2, ai g 60 A0), (t3, ai g 60 A1), (t4, ai g 60 A2), (t5, ai g 60 A3), (t6, ai g 60 A4)]) [0, 1, 2, 3, 4, 5, 6, 7, 8] (by decide) rfl ?_
    show X l g E ({ frames := 1, cells := 0, slots := 0, locals := 21 } : Room) 2 [(a, ob 4 [.ref kb, .ref t1, .ref t2, .ref t3, .ref t4, .ref t5, .ref t6, jv h, jv sz]), (kb, ob 2 [.ref kc, jv bn]), (kc, ai g 60 bf), (t1, ai g 11 S), (t2, ai g 60 A0), (t3, ai g 60 A1), (t4, ai g 60 A2), (t5, ai g 60 A3), (t6, ai g 60 A4)] 0 0 [(0, .ref a), (1, jv p)] 5 [jv 1]
    refine x_if_eq (pc := 5) C 17 dX4_lastOf_5 rfl ⟨by decide, by decide⟩ (fun h => absurd h (by decide)) (fun _ => ?_)
    refine x_aload_n (pc := 8) C 0 dX4_lastOf_8 rfl ?_
    refine x_get (pc := 9) C 0 3 dX4_lastOf_9 hiX4_lastOf_4 hfX4_lastOf_25 rfl rfl rfl (by decide) rfl ?_
    refine x_iload_n (pc := 12) C 1 dX4_lastOf_12 rfl ?_
    refine x_iald (pc := 13) C 5 dX4_lastOf_13 rfl (by omega) (by omega) (by decide) ?_
    refine x_goto (pc := 14) C 18 dX4_lastOf_14 rfl ?_
    refine x_iret (pc := 18) C Rt0 dX4_lastOf_18 rfl ?_
    refine ⟨_, rfl, rfl, ?_⟩
    exact (hA p hp.1 hp.2).2.1
  · refine x_world (ws' := [(a, ob 4 [.ref kb, .ref t1, .ref t2, .ref t3, .ref t4, .ref t5, .ref t6, jv h, jv sz]), (kb, ob 2 [.ref kc, jv bn]), (kc, ai g 60 bf), (t1, ai g 11 S), (t2, ai g 60 A0), (t3, ai g 60 A1), (t4, ai g 60 A2), (t5, ai g 60 A3), (t6, ai g 60 A4)]) [0, 1, 2, 3, 4, 5, 6, 7, 8] (by decide) rfl ?_
    show X l g E ({ frames := 1, cells := 0, slots := 0, locals := 21 } : Room) 2 [(a, ob 4 [.ref kb, .ref t1, .ref t2, .ref t3, .ref t4, .ref t5, .ref t6, jv h, jv sz]), (kb, ob 2 [.ref kc, jv bn]), (kc, ai g 60 bf), (t1, ai g 11 S), (t2, ai g 60 A0), (t3, ai g 60 A1), (t4, ai g 60 A2), (t5, ai g 60 A3), (t6, ai g 60 A4)] 0 0 [(0, .ref a), (1, jv p)] 5 [jv 0]
    omega

set_option maxRecDepth 100000 in
theorem hiX4_rankBy_4 : ∀ w ∈ wsX40, w ∈ wsX4_rankBy := by decide +kernel
set_option maxRecDepth 100000 in
theorem hfX4_rankBy_34 : Cond.fieldLink RX4 34 "KeyGuess$Tower" "slopeDens" "[I" ∈ wsX4_rankBy := by decide +kernel
set_option maxRecDepth 100000 in
theorem hfX4_rankBy_31 : Cond.fieldLink RX4 31 "KeyGuess$Tower" "slopeNums" "[I" ∈ wsX4_rankBy := by decide +kernel
set_option maxRecDepth 100000 in
theorem hfX4_rankBy_28 : Cond.fieldLink RX4 28 "KeyGuess$Tower" "firsts" "[I" ∈ wsX4_rankBy := by decide +kernel
set_option maxRecDepth 100000 in
theorem hfX4_rankBy_22 : Cond.fieldLink RX4 22 "KeyGuess$Tower" "froms" "[I" ∈ wsX4_rankBy := by decide +kernel
set_option maxRecDepth 100000 in
theorem hfX4_rankBy_25 : Cond.fieldLink RX4 25 "KeyGuess$Tower" "lasts" "[I" ∈ wsX4_rankBy := by decide +kernel
set_option maxHeartbeats 4000000 in
set_option maxRecDepth 100000 in
/-- Tower.rankBy -/
theorem ctX4_rankBy (l : Launch) (g : xG) (a : Nat) (kb : Nat) (kc : Nat) (t1 : Nat) (t2 : Nat) (t3 : Nat) (t4 : Nat) (t5 : Nat) (t6 : Nat) (h : Int) (sz : Int) (bn : Int) (bf : Int → Int) (S : Int → Int) (A0 : Int → Int) (A1 : Int → Int) (A2 : Int → Int) (A3 : Int → Int) (A4 : Int → Int) (f : Int → Int) (e : Int) (n : Int) (p : Int) (x : Int) (he : 0 ≤ e ∧ e ≤ 8) (hT : TwR f e n h sz S A0 A1 A2 A3 A4) (h1 : 1 ≤ h) (hp : 0 ≤ p ∧ p < PM f e n) (hx : 0 ≤ x ∧ x ≤ 1000000) : Ct l g yX4_rankBy wsX4_rankBy ({ frames := 1, cells := 0, slots := 0, locals := 22 } : Room) 0 0 [(a, ob 4 [.ref kb, .ref t1, .ref t2, .ref t3, .ref t4, .ref t5, .ref t6, jv h, jv sz]), (kb, ob 2 [.ref kc, jv bn]), (kc, ai g 60 bf), (t1, ai g 11 S), (t2, ai g 60 A0), (t3, ai g 60 A1), (t4, ai g 60 A2), (t5, ai g 60 A3), (t6, ai g 60 A4)] [.ref a, jv p, jv x] (fun v u => ∃ (r : Int), v = some (jv r) ∧ u = [(a, ob 4 [.ref kb, .ref t1, .ref t2, .ref t3, .ref t4, .ref t5, .ref t6, jv h, jv sz]), (kb, ob 2 [.ref kc, jv bn]), (kc, ai g 60 bf), (t1, ai g 11 S), (t2, ai g 60 A0), (t3, ai g 60 A1), (t4, ai g 60 A2), (t5, ai g 60 A3), (t6, ai g 60 A4)] ∧ (r = gs f e n p x)) := by
  refine ct_of (cc := cX4_rankBy) (nL := 4) (ret := (some .int)) (by decide) rfl (Nat.le_of_ble_eq_true rfl) ?_
  intro E C Rt0
  have C : Cx l g E ({ frames := 1, cells := 0, slots := 0, locals := 22 } : Room) RX4 "rankBy" cX4_rankBy wsX4_rankBy 4 := C
  show X l g E ({ frames := 1, cells := 0, slots := 0, locals := 22 } : Room) 4 [(a, ob 4 [.ref kb, .ref t1, .ref t2, .ref t3, .ref t4, .ref t5, .ref t6, jv h, jv sz]), (kb, ob 2 [.ref kc, jv bn]), (kc, ai g 60 bf), (t1, ai g 11 S), (t2, ai g 60 A0), (t3, ai g 60 A1), (t4, ai g 60 A2), (t5, ai g 60 A3), (t6, ai g 60 A4)] 0 0 [(0, .ref a), (1, jv p), (2, jv x)] 0 []
  obtain ⟨hok, hS0, hS1, hpz, hA⟩ := hT.l0 he.1 h1
  have hpm := hok.pm he.1
  have hn1 := hok.1.2.1
  have hz := hT.2.2.2.1
  have hF : TwF h sz S := hT.2.2.2.2.F he.1 hz (by have := hT.2.2.1; omega) (by have := hT.2.1; omega)
  have hz0 := hF.2.2.1
  obtain ⟨a0, a1, a2, a3, a4⟩ := hA p hp.1 hp.2
  obtain ⟨b0, b1, b2, b3, b4, b5, b6, b7, b8⟩ := hok.p he.1 hp.1 hp.2
  have hmb : -100000000 ≤ A3 p * (x - A2 p) ∧ A3 p * (x - A2 p) ≤ 100000000 := by
    rw [a3, a2]; exact mrs (by omega) (by omega)
  have hdb : -100000000 ≤ A3 p * (x - A2 p) / A4 p ∧ A3 p * (x - A2 p) / A4 p ≤ 100000000 := dvb (by omega) hmb
  refine x_aload_n (pc := 0) C 0 dX4_rankBy_0 rfl ?_
  refine x_iload_n (pc := 1) C 1 dX4_rankBy_1 rfl ?_
  refine x_callV (pc := 2) C (n := 1) (q0 := 0) (rest := []) (wr := []) [0, 1, 2, 3, 4, 5, 6, 7, 8] [] (ctX4_isPiece l g a kb kc t1 t2 t3 t4 t5 t6 h sz bn bf S A0 A1 A2 A3 A4 p ⟨hz0, hz⟩ ⟨by omega, by omega⟩) gX4_rankBy_X4_isPiece rfl ⟨rfl, rfl⟩ (by decide +kernel) ⟨by decide, by decide⟩ rfl rfl rfl rfl rfl (by decide) (by decide) (by decide) rfl (Nat.le_of_ble_eq_true rfl) dX4_rankBy_2 ⟨by decide, by decide⟩ (fun v_2 u_2 h_2 => ?_)
  rcases h_2 with ⟨rfl, rfl, f_2⟩ | ⟨rfl, rfl, f_2⟩
  · refine x_world (ws' := [(a, ob 4 [.ref kb, .ref t1, .ref t2, .ref t3, .ref t4, .ref t5, .ref t6, jv h, jv sz]), (kb, ob 2 [.ref kc, jv bn]), (kc, ai g 60 bf), (t1, ai g 11 S), (t2, ai g 60 A0), (t3, ai g 60 A1), (t4, ai g 60 A2), (t5, ai g 60 A3), (t6, ai g 60 A4)]) [0, 1, 2, 3, 4, 5, 6, 7, 8] (by decide) rfl ?_
    show X l g E ({ frames := 1, cells := 0, slots := 0, locals := 22 } : Room) 4 [(a, ob 4 [.ref kb, .ref t1, .ref t2, .ref t3, .ref t4, .ref t5, .ref t6, jv h, jv sz]), (kb, ob 2 [.ref kc, jv bn]), (kc, ai g 60 bf), (t1, ai g 11 S), (t2, ai g 60 A0), (t3, ai g 60 A1), (t4, ai g 60 A2), (t5, ai g 60 A3), (t6, ai g 60 A4)] 0 0 [(0, .ref a), (1, jv p), (2, jv x)] 5 [jv 1]
    refine x_if_eq (pc := 5) C 17 dX4_rankBy_5 rfl ⟨by decide, by decide⟩ (fun h => absurd h (by decide)) (fun _ => ?_)
    refine x_aload_n (pc := 8) C 0 dX4_rankBy_8 rfl ?_
    refine x_get (pc := 9) C 0 6 dX4_rankBy_9 hiX4_rankBy_4 hfX4_rankBy_34 rfl rfl rfl (by decide) rfl ?_
    refine x_iload_n (pc := 12) C 1 dX4_rankBy_12 rfl ?_
    refine x_iald (pc := 13) C 8 dX4_rankBy_13 rfl (by omega) (by omega) (by decide) ?_
    refine x_if_gt (pc := 14) C 19 dX4_rankBy_14 rfl ⟨by omega, by omega⟩ (fun c_14 => ?_) (fun c_14 => ?_)
    · refine x_aload_n (pc := 19) C 0 dX4_rankBy_19 rfl ?_
      refine x_get (pc := 20) C 0 5 dX4_rankBy_20 hiX4_rankBy_4 hfX4_rankBy_31 rfl rfl rfl (by decide) rfl ?_
      refine x_iload_n (pc := 23) C 1 dX4_rankBy_23 rfl ?_
      refine x_iald (pc := 24) C 7 dX4_rankBy_24 rfl (by omega) (by omega) (by decide) ?_
      refine x_iload_n (pc := 25) C 2 dX4_rankBy_25 rfl ?_
      refine x_aload_n (pc := 26) C 0 dX4_rankBy_26 rfl ?_
      refine x_get (pc := 27) C 0 4 dX4_rankBy_27 hiX4_rankBy_4 hfX4_rankBy_28 rfl rfl rfl (by decide) rfl ?_
      refine x_iload_n (pc := 30) C 1 dX4_rankBy_30 rfl ?_
      refine x_iald (pc := 31) C 6 dX4_rankBy_31 rfl (by omega) (by omega) (by decide) ?_
      refine x_isub (pc := 32) C dX4_rankBy_32 ?_
      refine x_imul (pc := 33) C dX4_rankBy_33 ?_
      refine x_aload_n (pc := 34) C 0 dX4_rankBy_34 rfl ?_
      refine x_get (pc := 35) C 0 6 dX4_rankBy_35 hiX4_rankBy_4 hfX4_rankBy_34 rfl rfl rfl (by decide) rfl ?_
      refine x_iload_n (pc := 38) C 1 dX4_rankBy_38 rfl ?_
      refine x_iald (pc := 39) C 8 dX4_rankBy_39 rfl (by omega) (by omega) (by decide) ?_
      refine x_callS (pc := 40) C (n := 2) (rest := []) (wr := [(a, ob 4 [.ref kb, .ref t1, .ref t2, .ref t3, .ref t4, .ref t5, .ref t6, jv h, jv sz]), (kb, ob 2 [.ref kc, jv bn]), (kc, ai g 60 bf), (t1, ai g 11 S), (t2, ai g 60 A0), (t3, ai g 60 A1), (t4, ai g 60 A2), (t5, ai g 60 A3), (t6, ai g 60 A4)]) [] [0, 1, 2, 3, 4, 5, 6, 7, 8] (ctJ9_floorDiv_7cf53 l g (A3 p * (x - A2 p)) (A4 p) ⟨by omega, by omega⟩ ⟨by omega, by omega⟩) gX4_rankBy_J9_floorDiv_7cf53 rfl (by decide +kernel) ⟨rfl, rfl⟩ ⟨by decide, by decide⟩ rfl rfl rfl (by decide) (by decide) (by decide) rfl (Nat.le_of_ble_eq_true rfl) dX4_rankBy_40 ⟨by decide, by decide⟩ (fun v_40 u_40 h_40 => ?_)
      rcases h_40 with ⟨r, rfl, rfl, f_40⟩
      refine x_world (ws' := [(a, ob 4 [.ref kb, .ref t1, .ref t2, .ref t3, .ref t4, .ref t5, .ref t6, jv h, jv sz]), (kb, ob 2 [.ref kc, jv bn]), (kc, ai g 60 bf), (t1, ai g 11 S), (t2, ai g 60 A0), (t3, ai g 60 A1), (t4, ai g 60 A2), (t5, ai g 60 A3), (t6, ai g 60 A4)]) [0, 1, 2, 3, 4, 5, 6, 7, 8] (by decide) rfl ?_
      show X l g E ({ frames := 1, cells := 0, slots := 0, locals := 22 } : Room) 4 [(a, ob 4 [.ref kb, .ref t1, .ref t2, .ref t3, .ref t4, .ref t5, .ref t6, jv h, jv sz]), (kb, ob 2 [.ref kc, jv bn]), (kc, ai g 60 bf), (t1, ai g 11 S), (t2, ai g 60 A0), (t3, ai g 60 A1), (t4, ai g 60 A2), (t5, ai g 60 A3), (t6, ai g 60 A4)] 0 0 [(0, .ref a), (1, jv p), (2, jv x)] 43 [jv r]
      refine x_istore_n (pc := 43) C (lv' := [(3, jv r), (0, .ref a), (1, jv p), (2, jv x)]) dX4_rankBy_43 (by decide) rfl ?_
      refine x_aload_n (pc := 44) C 1 dX4_rankBy_44 rfl ?_
      refine x_get (pc := 45) C 0 2 dX4_rankBy_45 hiX4_rankBy_4 hfX4_rankBy_22 rfl rfl rfl (by decide) rfl ?_
      refine x_iload_n (pc := 48) C 2 dX4_rankBy_48 rfl ?_
      refine x_iald (pc := 49) C 4 dX4_rankBy_49 rfl (by omega) (by omega) (by decide) ?_
      refine x_aload_n (pc := 50) C 1 dX4_rankBy_50 rfl ?_
      refine x_get (pc := 51) C 0 3 dX4_rankBy_51 hiX4_rankBy_4 hfX4_rankBy_25 rfl rfl rfl (by decide) rfl ?_
      refine x_iload_n (pc := 54) C 2 dX4_rankBy_54 rfl ?_
      refine x_iald (pc := 55) C 5 dX4_rankBy_55 rfl (by omega) (by omega) (by decide) ?_
      refine x_aload_n (pc := 56) C 1 dX4_rankBy_56 rfl ?_
      refine x_get (pc := 57) C 0 2 dX4_rankBy_57 hiX4_rankBy_4 hfX4_rankBy_22 rfl rfl rfl (by decide) rfl ?_
      refine x_iload_n (pc := 60) C 2 dX4_rankBy_60 rfl ?_
      refine x_iald (pc := 61) C 4 dX4_rankBy_61 rfl (by omega) (by omega) (by decide) ?_
      refine x_iload_n (pc := 62) C 0 dX4_rankBy_62 rfl ?_
      refine x_iadd (pc := 63) C dX4_rankBy_63 ?_
      refine x_mmin (pc := 64) C dX4_rankBy_64 (by decide +kernel) (by decide +kernel) (by decide +kernel) (by decide +kernel) (by decide) (Nat.le_of_ble_eq_true rfl) (by decide) (by decide) ⟨by omega, by omega⟩ ⟨by omega, by omega⟩ ?_
      refine x_mmax (pc := 67) C dX4_rankBy_67 (by decide +kernel) (by decide +kernel) (by decide +kernel) (by decide +kernel) (by decide) (Nat.le_of_ble_eq_true rfl) (by decide) (by decide) ⟨by omega, by omega⟩ ⟨by split <;> omega, by split <;> omega⟩ ?_
      refine x_iret (pc := 70) C Rt0 dX4_rankBy_70 rfl ?_
      refine ⟨_, rfl, rfl, ?_⟩
      rw [f_40, a0, a1, a2, a3, a4]; exact mnx _ _ _
    · omega
  · refine x_world (ws' := [(a, ob 4 [.ref kb, .ref t1, .ref t2, .ref t3, .ref t4, .ref t5, .ref t6, jv h, jv sz]), (kb, ob 2 [.ref kc, jv bn]), (kc, ai g 60 bf), (t1, ai g 11 S), (t2, ai g 60 A0), (t3, ai g 60 A1), (t4, ai g 60 A2), (t5, ai g 60 A3), (t6, ai g 60 A4)]) [0, 1, 2, 3, 4, 5, 6, 7, 8] (by decide) rfl ?_
    show X l g E ({ frames := 1, cells := 0, slots := 0, locals := 22 } : Room) 4 [(a, ob 4 [.ref kb, .ref t1, .ref t2, .ref t3, .ref t4, .ref t5, .ref t6, jv h, jv sz]), (kb, ob 2 [.ref kc, jv bn]), (kc, ai g 60 bf), (t1, ai g 11 S), (t2, ai g 60 A0), (t3, ai g 60 A1), (t4, ai g 60 A2), (t5, ai g 60 A3), (t6, ai g 60 A4)] 0 0 [(0, .ref a), (1, jv p), (2, jv x)] 5 [jv 0]
    omega
