set_option maxHeartbeats 4000000 in
set_option maxRecDepth 100000 in
/-- Look.away -/
theorem ctX3_away (l : Launch) (g : xG) (k : Int) (hk : 0 ≤ k ∧ k ≤ 1000) : Ct l g yX3_away wsX3_away ({ frames := 0, cells := 0, slots := 0, locals := 0 } : Room) 0 0 [] [jv k] (fun v u => ∃ (r : Int), v = some (jv r) ∧ u = [] ∧ (r = aw k)) := by
  refine ct_of (cc := cX3_away) (nL := 1) (ret := (some .int)) (by decide) rfl (Nat.le_of_ble_eq_true rfl) ?_
  intro E C Rt0
  have C : Cx l g E ({ frames := 0, cells := 0, slots := 0, locals := 0 } : Room) RX3 "away" cX3_away wsX3_away 1 := C
  show X l g E ({ frames := 0, cells := 0, slots := 0, locals := 0 } : Room) 1 [] 0 0 [(0, jv k)] 0 []
  refine x_iload_n (pc := 0) C 0 dX3_away_0 rfl ?_
  refine x_iconst (pc := 1) C dX3_away_1 ?_
  refine x_irem (pc := 2) C dX3_away_2 ⟨by omega, by omega⟩ ⟨by omega, by omega⟩ (by first | decide | omega) ?_
  rw [Int.tmod_eq_emod_of_nonneg hk.1]
  refine x_if_ne (pc := 3) C 12 dX3_away_3 rfl ⟨by omega, by omega⟩ (fun c_3 => ?_) (fun c_3 => ?_)
  · refine x_iload_n (pc := 12) C 0 dX3_away_12 rfl ?_
    refine x_iconst (pc := 13) C dX3_away_13 ?_
    refine x_iadd (pc := 14) C dX3_away_14 ?_
    refine x_ineg (pc := 15) C dX3_away_15 ?_
    refine x_iconst (pc := 16) C dX3_away_16 ?_
    refine x_idiv (pc := 17) C dX3_away_17 ⟨by omega, by omega⟩ ⟨by omega, by omega⟩ (by first | decide | omega) ?_
    rw [show (-(k + 1)).tdiv 2 = -((k + 1) / 2) from (by rw [Int.neg_tdiv, Int.tdiv_eq_ediv_of_nonneg (by omega)])]
    refine x_iret (pc := 18) C Rt0 dX3_away_18 rfl ?_
    refine ⟨_, rfl, rfl, ?_⟩
    unfold aw; rw [if_neg c_3]
  · refine x_iload_n (pc := 6) C 0 dX3_away_6 rfl ?_
    refine x_iconst (pc := 7) C dX3_away_7 ?_
    refine x_idiv (pc := 8) C dX3_away_8 ⟨by omega, by omega⟩ ⟨by omega, by omega⟩ (by first | decide | omega) ?_
    rw [show (k).tdiv 2 = k / 2 from (Int.tdiv_eq_ediv_of_nonneg hk.1)]
    refine x_goto (pc := 9) C 18 dX3_away_9 rfl ?_
    refine x_iret (pc := 18) C Rt0 dX3_away_18 rfl ?_
    refine ⟨_, rfl, rfl, ?_⟩
    unfold aw; rw [if_pos (by omega)]

set_option maxRecDepth 100000 in
theorem hiX3_met_3 : ∀ w ∈ wsX30, w ∈ wsX3_met := by decide +kernel
set_option maxRecDepth 100000 in
theorem hfX3_met_9 : Cond.fieldLink RX3 9 "KeyGuess$Look" "met" "I" ∈ wsX3_met := by decide +kernel
set_option maxHeartbeats 4000000 in
set_option maxRecDepth 100000 in
/-- Look.met -/
theorem ctX3_met (l : Launch) (g : xG) (la : Nat) (m : Int) (s : Int)  : Ct l g yX3_met wsX3_met ({ frames := 0, cells := 0, slots := 0, locals := 0 } : Room) 0 0 [(la, ob 3 [jv m, jv s])] [.ref la] (fun v u => v = some (jv m) ∧ u = [(la, ob 3 [jv m, jv s])] ∧ (True)) := by
  refine ct_of (cc := cX3_met) (nL := 1) (ret := (some .int)) (by decide) rfl (Nat.le_of_ble_eq_true rfl) ?_
  intro E C Rt0
  have C : Cx l g E ({ frames := 0, cells := 0, slots := 0, locals := 0 } : Room) RX3 "met" cX3_met wsX3_met 1 := C
  show X l g E ({ frames := 0, cells := 0, slots := 0, locals := 0 } : Room) 1 [(la, ob 3 [jv m, jv s])] 0 0 [(0, .ref la)] 0 []
  refine x_aload_n (pc := 0) C 0 dX3_met_0 rfl ?_
  refine x_get (pc := 1) C 0 0 dX3_met_1 hiX3_met_3 hfX3_met_9 rfl rfl rfl (by decide) rfl ?_
  refine x_iret (pc := 4) C Rt0 dX3_met_4 rfl ?_
  refine ⟨rfl, rfl, ?_⟩
  trivial

set_option maxRecDepth 100000 in
theorem hiX3_ranksSeen_3 : ∀ w ∈ wsX30, w ∈ wsX3_ranksSeen := by decide +kernel
set_option maxRecDepth 100000 in
theorem hfX3_ranksSeen_15 : Cond.fieldLink RX3 15 "KeyGuess$Look" "seen" "I" ∈ wsX3_ranksSeen := by decide +kernel
set_option maxHeartbeats 4000000 in
set_option maxRecDepth 100000 in
/-- Look.ranksSeen -/
theorem ctX3_ranksSeen (l : Launch) (g : xG) (la : Nat) (m : Int) (s : Int)  : Ct l g yX3_ranksSeen wsX3_ranksSeen ({ frames := 0, cells := 0, slots := 0, locals := 0 } : Room) 0 0 [(la, ob 3 [jv m, jv s])] [.ref la] (fun v u => v = some (jv s) ∧ u = [(la, ob 3 [jv m, jv s])] ∧ (True)) := by
  refine ct_of (cc := cX3_ranksSeen) (nL := 1) (ret := (some .int)) (by decide) rfl (Nat.le_of_ble_eq_true rfl) ?_
  intro E C Rt0
  have C : Cx l g E ({ frames := 0, cells := 0, slots := 0, locals := 0 } : Room) RX3 "ranksSeen" cX3_ranksSeen wsX3_ranksSeen 1 := C
  show X l g E ({ frames := 0, cells := 0, slots := 0, locals := 0 } : Room) 1 [(la, ob 3 [jv m, jv s])] 0 0 [(0, .ref la)] 0 []
  refine x_aload_n (pc := 0) C 0 dX3_ranksSeen_0 rfl ?_
  refine x_get (pc := 1) C 0 1 dX3_ranksSeen_1 hiX3_ranksSeen_3 hfX3_ranksSeen_15 rfl rfl rfl (by decide) rfl ?_
  refine x_iret (pc := 4) C Rt0 dX3_ranksSeen_4 rfl ?_
  refine ⟨rfl, rfl, ?_⟩
  trivial

set_option maxRecDepth 100000 in
theorem hiX3_run_3 : ∀ w ∈ wsX30, w ∈ wsX3_run := by decide +kernel
set_option maxRecDepth 100000 in
theorem hfX3_run_9 : Cond.fieldLink RX3 9 "KeyGuess$Look" "met" "I" ∈ wsX3_run := by decide +kernel
set_option maxRecDepth 100000 in
theorem hfX3_run_15 : Cond.fieldLink RX3 15 "KeyGuess$Look" "seen" "I" ∈ wsX3_run := by decide +kernel
set_option maxHeartbeats 4000000 in
set_option maxRecDepth 100000 in
/-- Look.run -/
theorem ctX3_run (l : Launch) (g : xG) (la : Nat) (m0 : Int) (q0 : Int) (ra : Nat) (rb : Nat) (n : Int) (f : Int → Int) (a : Nat) (kb : Nat) (kc : Nat) (t1 : Nat) (t2 : Nat) (t3 : Nat) (t4 : Nat) (t5 : Nat) (t6 : Nat) (h : Int) (sz : Int) (bn : Int) (bf : Int → Int) (S : Int → Int) (A0 : Int → Int) (A1 : Int → Int) (A2 : Int → Int) (A3 : Int → Int) (A4 : Int → Int) (x : Int) (e : Int) (y : Int → Int) (hk : Kr n f) (he : 0 ≤ e ∧ e ≤ 8) (hy : Agr n f y) (hT : TwR y e n h sz S A0 A1 A2 A3 A4) (hx : 0 ≤ x ∧ x ≤ 1000000) : Ct l g yX3_run wsX3_run ({ frames := 2, cells := 0, slots := 0, locals := 45 } : Room) 0 0 [(la, ob 3 [jv m0, jv q0]), (ra, ob 2 [.ref rb, jv n]), (rb, ai g 60 f), (a, ob 4 [.ref kb, .ref t1, .ref t2, .ref t3, .ref t4, .ref t5, .ref t6, jv h, jv sz]), (kb, ob 2 [.ref kc, jv bn]), (kc, ai g 60 bf), (t1, ai g 11 S), (t2, ai g 60 A0), (t3, ai g 60 A1), (t4, ai g 60 A2), (t5, ai g 60 A3), (t6, ai g 60 A4)] [.ref la, .ref ra, .ref a, jv x, jv e] (fun v u => ∃ (mt : Int) (sn : Int), v = none ∧ u = [(la, ob 3 [jv mt, jv sn]), (ra, ob 2 [.ref rb, jv n]), (rb, ai g 60 f), (a, ob 4 [.ref kb, .ref t1, .ref t2, .ref t3, .ref t4, .ref t5, .ref t6, jv h, jv sz]), (kb, ob 2 [.ref kc, jv bn]), (kc, ai g 60 bf), (t1, ai g 11 S), (t2, ai g 60 A0), (t3, ai g 60 A1), (t4, ai g 60 A2), (t5, ai g 60 A3), (t6, ai g 60 A4)] ∧ (LkR y e n x mt sn)) := by
  refine ct_of (cc := cX3_run) (nL := 9) (ret := none) (by decide) rfl (Nat.le_of_ble_eq_true rfl) ?_
  intro E C Rt0
  have C : Cx l g E ({ frames := 2, cells := 0, slots := 0, locals := 45 } : Room) RX3 "run" cX3_run wsX3_run 9 := C
  show X l g E ({ frames := 2, cells := 0, slots := 0, locals := 45 } : Room) 9 [(la, ob 3 [jv m0, jv q0]), (ra, ob 2 [.ref rb, jv n]), (rb, ai g 60 f), (a, ob 4 [.ref kb, .ref t1, .ref t2, .ref t3, .ref t4, .ref t5, .ref t6, jv h, jv sz]), (kb, ob 2 [.ref kc, jv bn]), (kc, ai g 60 bf), (t1, ai g 11 S), (t2, ai g 60 A0), (t3, ai g 60 A1), (t4, ai g 60 A2), (t5, ai g 60 A3), (t6, ai g 60 A4)] 0 0 [(0, .ref la), (1, .ref ra), (2, .ref a), (3, jv x), (4, jv e)] 0 []
  have hn0 := hk.1
  have hn1 := hk.2.1
  have hz := hT.1.zero hn0
  have hh6 := hT.2.2.1
  refine x_aload_n (pc := 0) C 0 dX3_run_0 rfl ?_
  refine x_iconst (pc := 1) C dX3_run_1 ?_
  refine x_put (pc := 2) C (ty := .int) (ws' := [(la, ob 3 [jv (-1), jv q0]), (ra, ob 2 [.ref rb, jv n]), (rb, ai g 60 f), (a, ob 4 [.ref kb, .ref t1, .ref t2, .ref t3, .ref t4, .ref t5, .ref t6, jv h, jv sz]), (kb, ob 2 [.ref kc, jv bn]), (kc, ai g 60 bf), (t1, ai g 11 S), (t2, ai g 60 A0), (t3, ai g 60 A1), (t4, ai g 60 A2), (t5, ai g 60 A3), (t6, ai g 60 A4)]) tyX3 0 0 dX3_run_2 hiX3_run_3 tyX3_ok nmX3 hfX3_run_9 rfl rfl rfl (by decide) rfl (by decide +kernel) rfl rfl (Nat.le_of_ble_eq_true rfl) rfl ?_
  refine x_aload_n (pc := 5) C 0 dX3_run_5 rfl ?_
  refine x_iconst (pc := 6) C dX3_run_6 ?_
  refine x_put (pc := 7) C (ty := .int) (ws' := [(la, ob 3 [jv (-1), jv 0]), (ra, ob 2 [.ref rb, jv n]), (rb, ai g 60 f), (a, ob 4 [.ref kb, .ref t1, .ref t2, .ref t3, .ref t4, .ref t5, .ref t6, jv h, jv sz]), (kb, ob 2 [.ref kc, jv bn]), (kc, ai g 60 bf), (t1, ai g 11 S), (t2, ai g 60 A0), (t3, ai g 60 A1), (t4, ai g 60 A2), (t5, ai g 60 A3), (t6, ai g 60 A4)]) tyX3 0 1 dX3_run_7 hiX3_run_3 tyX3_ok nmX3 hfX3_run_15 rfl rfl rfl (by decide) rfl (by decide +kernel) rfl rfl (Nat.le_of_ble_eq_true rfl) rfl ?_
  refine x_aload_n (pc := 10) C 2 dX3_run_10 rfl ?_
  refine x_callV (pc := 11) C (n := 0) (q0 := 0) (rest := []) (wr := [(la, ob 3 [jv (-1), jv 0]), (ra, ob 2 [.ref rb, jv n]), (rb, ai g 60 f)]) [3, 4, 5, 6, 7, 8, 9, 10, 11] [0, 1, 2] (ctX4_height l g a kb kc t1 t2 t3 t4 t5 t6 h sz bn bf S A0 A1 A2 A3 A4 ) gX3_run_X4_height rfl ⟨rfl, rfl⟩ (by decide +kernel) ⟨by decide, by decide⟩ rfl rfl rfl rfl rfl (by decide) (by decide) (by decide) rfl (Nat.le_of_ble_eq_true rfl) dX3_run_11 ⟨by decide, by decide⟩ (fun v_11 u_11 h_11 => ?_)
  rcases h_11 with ⟨rfl, rfl, f_11⟩
  refine x_world (ws' := [(la, ob 3 [jv (-1), jv 0]), (ra, ob 2 [.ref rb, jv n]), (rb, ai g 60 f), (a, ob 4 [.ref kb, .ref t1, .ref t2, .ref t3, .ref t4, .ref t5, .ref t6, jv h, jv sz]), (kb, ob 2 [.ref kc, jv bn]), (kc, ai g 60 bf), (t1, ai g 11 S), (t2, ai g 60 A0), (t3, ai g 60 A1), (t4, ai g 60 A2), (t5, ai g 60 A3), (t6, ai g 60 A4)]) [0, 1, 2, 3, 4, 5, 6, 7, 8, 9, 10, 11] (by decide) rfl ?_
  show X l g E ({ frames := 2, cells := 0, slots := 0, locals := 45 } : Room) 9 [(la, ob 3 [jv (-1), jv 0]), (ra, ob 2 [.ref rb, jv n]), (rb, ai g 60 f), (a, ob 4 [.ref kb, .ref t1, .ref t2, .ref t3, .ref t4, .ref t5, .ref t6, jv h, jv sz]), (kb, ob 2 [.ref kc, jv bn]), (kc, ai g 60 bf), (t1, ai g 11 S), (t2, ai g 60 A0), (t3, ai g 60 A1), (t4, ai g 60 A2), (t5, ai g 60 A3), (t6, ai g 60 A4)] 0 0 [(0, .ref la), (1, .ref ra), (2, .ref a), (3, jv x), (4, jv e)] 14 [jv h]
  refine x_if_ne (pc := 14) C 18 dX3_run_14 rfl ⟨by omega, by omega⟩ (fun c_14 => ?_) (fun c_14 => ?_)
  · refine x_aload_n (pc := 18) C 2 dX3_run_18 rfl ?_
    refine x_iload_n (pc := 19) C 3 dX3_run_19 rfl ?_
    refine x_callV (pc := 20) C (n := 1) (q0 := 0) (rest := []) (wr := [(la, ob 3 [jv (-1), jv 0]), (ra, ob 2 [.ref rb, jv n]), (rb, ai g 60 f)]) [3, 4, 5, 6, 7, 8, 9, 10, 11] [0, 1, 2] (ctX4_pieceFor l g a kb kc t1 t2 t3 t4 t5 t6 h sz bn bf S A0 A1 A2 A3 A4 y e n x he hT (by omega) hx) gX3_run_X4_pieceFor rfl ⟨rfl, rfl⟩ (by decide +kernel) ⟨by decide, by decide⟩ rfl rfl rfl rfl rfl (by decide) (by decide) (by decide) rfl (Nat.le_of_ble_eq_true rfl) dX3_run_20 ⟨by decide, by decide⟩ (fun v_20 u_20 h_20 => ?_)
    rcases h_20 with ⟨p, rfl, rfl, f_20⟩
    refine x_world (ws' := [(la, ob 3 [jv (-1), jv 0]), (ra, ob 2 [.ref rb, jv n]), (rb, ai g 60 f), (a, ob 4 [.ref kb, .ref t1, .ref t2, .ref t3, .ref t4, .ref t5, .ref t6, jv h, jv sz]), (kb, ob 2 [.ref kc, jv bn]), (kc, ai g 60 bf), (t1, ai g 11 S), (t2, ai g 60 A0), (t3, ai g 60 A1), (t4, ai g 60 A2), (t5, ai g 60 A3), (t6, ai g 60 A4)]) [0, 1, 2, 3, 4, 5, 6, 7, 8, 9, 10, 11] (by decide) rfl ?_
    show X l g E ({ frames := 2, cells := 0, slots := 0, locals := 45 } : Room) 9 [(la, ob 3 [jv (-1), jv 0]), (ra, ob 2 [.ref rb, jv n]), (rb, ai g 60 f), (a, ob 4 [.ref kb, .ref t1, .ref t2, .ref t3, .ref t4, .ref t5, .ref t6, jv h, jv sz]), (kb, ob 2 [.ref kc, jv bn]), (kc, ai g 60 bf), (t1, ai g 11 S), (t2, ai g 60 A0), (t3, ai g 60 A1), (t4, ai g 60 A2), (t5, ai g 60 A3), (t6, ai g 60 A4)] 0 0 [(0, .ref la), (1, .ref ra), (2, .ref a), (3, jv x), (4, jv e)] 23 [jv p]
    have hpp : 0 ≤ p ∧ p < PM y e n := ⟨f_20.1, f_20.2.1⟩
    refine x_istore (pc := 23) C (lv' := [(5, jv p), (0, .ref la), (1, .ref ra), (2, .ref a), (3, jv x), (4, jv e)]) dX3_run_23 (by decide) rfl ?_
    refine x_aload_n (pc := 25) C 3 dX3_run_25 rfl ?_
    refine x_iload (pc := 26) C 0 dX3_run_26 rfl ?_
    refine x_iload_n (pc := 28) C 4 dX3_run_28 rfl ?_
    refine x_callV (pc := 29) C (n := 2) (q0 := 0) (rest := []) (wr := [(la, ob 3 [jv (-1), jv 0]), (ra, ob 2 [.ref rb, jv n]), (rb, ai g 60 f)]) [3, 4, 5, 6, 7, 8, 9, 10, 11] [0, 1, 2] (ctX4_rankBy l g a kb kc t1 t2 t3 t4 t5 t6 h sz bn bf S A0 A1 A2 A3 A4 y e n p x he hT (by omega) hpp hx) gX3_run_X4_rankBy rfl ⟨rfl, rfl⟩ (by decide +kernel) ⟨by decide, by decide⟩ rfl rfl rfl rfl rfl (by decide) (by decide) (by decide) rfl (Nat.le_of_ble_eq_true rfl) dX3_run_29 ⟨by decide, by decide⟩ (fun v_29 u_29 h_29 => ?_)
    rcases h_29 with ⟨r, rfl, rfl, f_29⟩
    refine x_world (ws' := [(la, ob 3 [jv (-1), jv 0]), (ra, ob 2 [.ref rb, jv n]), (rb, ai g 60 f), (a, ob 4 [.ref kb, .ref t1, .ref t2, .ref t3, .ref t4, .ref t5, .ref t6, jv h, jv sz]), (kb, ob 2 [.ref kc, jv bn]), (kc, ai g 60 bf), (t1, ai g 11 S), (t2, ai g 60 A0), (t3, ai g 60 A1), (t4, ai g 60 A2), (t5, ai g 60 A3), (t6, ai g 60 A4)]) [0, 1, 2, 3, 4, 5, 6, 7, 8, 9, 10, 11] (by decide) rfl ?_
    show X l g E ({ frames := 2, cells := 0, slots := 0, locals := 45 } : Room) 9 [(la, ob 3 [jv (-1), jv 0]), (ra, ob 2 [.ref rb, jv n]), (rb, ai g 60 f), (a, ob 4 [.ref kb, .ref t1, .ref t2, .ref t3, .ref t4, .ref t5, .ref t6, jv h, jv sz]), (kb, ob 2 [.ref kc, jv bn]), (kc, ai g 60 bf), (t1, ai g 11 S), (t2, ai g 60 A0), (t3, ai g 60 A1), (t4, ai g 60 A2), (t5, ai g 60 A3), (t6, ai g 60 A4)] 0 0 [(5, jv p), (0, .ref la), (1, .ref ra), (2, .ref a), (3, jv x), (4, jv e)] 32 [jv r]
    have hpb := (hT.l0 he.1 (by omega)).1.p he.1 hpp.1 hpp.2
    have hg : P0 y e n p ≤ r ∧ r ≤ P1 y e n p := by
      rw [f_29]; unfold gs; omega
    refine x_istore (pc := 32) C (lv' := [(6, jv r), (5, jv p), (0, .ref la), (1, .ref ra), (2, .ref a), (3, jv x), (4, jv e)]) dX3_run_32 (by decide) rfl ?_
    refine x_iconst (pc := 34) C dX3_run_34 ?_
    refine x_istore (pc := 35) C (lv' := [(7, jv 0), (6, jv r), (5, jv p), (0, .ref la), (1, .ref ra), (2, .ref a), (3, jv x), (4, jv e)]) dX3_run_35 (by decide) rfl ?_
    have L37 : ∀ (nn : Nat) (t : Int) (mt : Int) (sn : Int), (2 * e + 1 - t).toNat < nn → (0 ≤ t ∧ t ≤ 2 * e + 1) → (-1 ≤ mt ∧ mt < 60 ∧ 0 ≤ sn ∧ sn ≤ t) → ((mt, sn) = lkS y x (P0 y e n p) (P1 y e n p) (gs y e n p x) t.toNat) → X l g E ({ frames := 2, cells := 0, slots := 0, locals := 45 } : Room) 9 [(la, ob 3 [jv mt, jv sn]), (ra, ob 2 [.ref rb, jv n]), (rb, ai g 60 f), (a, ob 4 [.ref kb, .ref t1, .ref t2, .ref t3, .ref t4, .ref t5, .ref t6, jv h, jv sz]), (kb, ob 2 [.ref kc, jv bn]), (kc, ai g 60 bf), (t1, ai g 11 S), (t2, ai g 60 A0), (t3, ai g 60 A1), (t4, ai g 60 A2), (t5, ai g 60 A3), (t6, ai g 60 A4)] 0 0 [(0, .ref la), (1, .ref ra), (2, .ref a), (3, jv x), (4, jv e), (5, jv p), (6, jv r), (7, jv t)] 37 [] := by
      intro nn
      induction nn with
      | zero => intro t mt sn hμ; exact absurd hμ (Nat.not_lt_zero _)
      | succ nn ih37 =>
        intro t mt sn hμ ht hb hs
        refine x_iload (pc := 37) C 7 dX3_run_37 rfl ?_
        refine x_iconst (pc := 39) C dX3_run_39 ?_
        refine x_iload (pc := 40) C 4 dX3_run_40 rfl ?_
        refine x_imul (pc := 42) C dX3_run_42 ?_
        refine x_icmp_gt (pc := 43) C 122 dX3_run_43 rfl ⟨by omega, by omega⟩ ⟨by omega, by omega⟩ (fun c_43 => ?_) (fun c_43 => ?_)
        · refine x_vret (pc := 122) C Rt0 dX3_run_122 rfl ?_
          refine ⟨_, _, rfl, rfl, ?_⟩
          refine Or.inr ⟨by omega, p, f_20, ?_⟩
          rw [hs, show (2 * e + 1).toNat = t.toNat by omega]
        · refine x_aload_n (pc := 46) C 0 dX3_run_46 rfl ?_
          refine x_get (pc := 47) C 0 0 dX3_run_47 hiX3_run_3 hfX3_run_9 rfl rfl rfl (by decide) rfl ?_
          refine x_iconst (pc := 50) C dX3_run_50 ?_
          refine x_icmp_ne (pc := 51) C 122 dX3_run_51 rfl ⟨by omega, by omega⟩ ⟨by omega, by omega⟩ (fun c_51 => ?_) (fun c_51 => ?_)
          · refine x_vret (pc := 122) C Rt0 dX3_run_122 rfl ?_
            refine ⟨_, _, rfl, rfl, ?_⟩
            refine Or.inr ⟨by omega, p, f_20, ?_⟩
            rw [hs, show (2 * e + 1).toNat = t.toNat + (2 * e + 1 - t).toNat by omega]
            exact (lkS_stop (by rw [← hs]; omega) _).symm
          · refine x_iload (pc := 54) C 6 dX3_run_54 rfl ?_
            refine x_iload (pc := 56) C 7 dX3_run_56 rfl ?_
            refine x_callS (pc := 58) C (n := 1) (rest := [jv r]) (wr := [(la, ob 3 [jv mt, jv sn]), (ra, ob 2 [.ref rb, jv n]), (rb, ai g 60 f), (a, ob 4 [.ref kb, .ref t1, .ref t2, .ref t3, .ref t4, .ref t5, .ref t6, jv h, jv sz]), (kb, ob 2 [.ref kc, jv bn]), (kc, ai g 60 bf), (t1, ai g 11 S), (t2, ai g 60 A0), (t3, ai g 60 A1), (t4, ai g 60 A2), (t5, ai g 60 A3), (t6, ai g 60 A4)]) [] [0, 1, 2, 3, 4, 5, 6, 7, 8, 9, 10, 11] (ctX3_away l g t ⟨by omega, by omega⟩) gX3_run_X3_away rfl (by decide +kernel) ⟨rfl, rfl⟩ ⟨by decide, by decide⟩ rfl rfl rfl (by decide) (by decide) (by decide) rfl (Nat.le_of_ble_eq_true rfl) dX3_run_58 ⟨by decide, by decide⟩ (fun v_58 u_58 h_58 => ?_)
            rcases h_58 with ⟨w, rfl, rfl, f_58⟩
            refine x_world (ws' := [(la, ob 3 [jv mt, jv sn]), (ra, ob 2 [.ref rb, jv n]), (rb, ai g 60 f), (a, ob 4 [.ref kb, .ref t1, .ref t2, .ref t3, .ref t4, .ref t5, .ref t6, jv h, jv sz]), (kb, ob 2 [.ref kc, jv bn]), (kc, ai g 60 bf), (t1, ai g 11 S), (t2, ai g 60 A0), (t3, ai g 60 A1), (t4, ai g 60 A2), (t5, ai g 60 A3), (t6, ai g 60 A4)]) [0, 1, 2, 3, 4, 5, 6, 7, 8, 9, 10, 11] (by decide) rfl ?_
            show X l g E ({ frames := 2, cells := 0, slots := 0, locals := 45 } : Room) 9 [(la, ob 3 [jv mt, jv sn]), (ra, ob 2 [.ref rb, jv n]), (rb, ai g 60 f), (a, ob 4 [.ref kb, .ref t1, .ref t2, .ref t3, .ref t4, .ref t5, .ref t6, jv h, jv sz]), (kb, ob 2 [.ref kc, jv bn]), (kc, ai g 60 bf), (t1, ai g 11 S), (t2, ai g 60 A0), (t3, ai g 60 A1), (t4, ai g 60 A2), (t5, ai g 60 A3), (t6, ai g 60 A4)] 0 0 [(0, .ref la), (1, .ref ra), (2, .ref a), (3, jv x), (4, jv e), (5, jv p), (6, jv r), (7, jv t)] 61 [jv w, jv r]
            have hw : -1000 ≤ w ∧ w ≤ 1000 := by
              rw [f_58]; unfold aw; split <;> omega
            refine x_iadd (pc := 61) C dX3_run_61 ?_
            refine x_istore (pc := 62) C (lv' := [(8, jv (r + w)), (0, .ref la), (1, .ref ra), (2, .ref a), (3, jv x), (4, jv e), (5, jv p), (6, jv r), (7, jv t)]) dX3_run_62 (by decide) rfl ?_
            refine x_iload (pc := 64) C 0 dX3_run_64 rfl ?_
            refine x_aload_n (pc := 66) C 3 dX3_run_66 rfl ?_
            refine x_iload (pc := 67) C 6 dX3_run_67 rfl ?_
            refine x_callV (pc := 69) C (n := 1) (q0 := 0) (rest := [jv (r + w)]) (wr := [(la, ob 3 [jv mt, jv sn]), (ra, ob 2 [.ref rb, jv n]), (rb, ai g 60 f)]) [3, 4, 5, 6, 7, 8, 9, 10, 11] [0, 1, 2] (ctX4_fromOf l g a kb kc t1 t2 t3 t4 t5 t6 h sz bn bf S A0 A1 A2 A3 A4 y e n p he hT (by omega) hpp) gX3_run_X4_fromOf rfl ⟨rfl, rfl⟩ (by decide +kernel) ⟨by decide, by decide⟩ rfl rfl rfl rfl rfl (by decide) (by decide) (by decide) rfl (Nat.le_of_ble_eq_true rfl) dX3_run_69 ⟨by decide, by decide⟩ (fun v_69 u_69 h_69 => ?_)
            rcases h_69 with ⟨lo, rfl, rfl, f_69⟩
            refine x_world (ws' := [(la, ob 3 [jv mt, jv sn]), (ra, ob 2 [.ref rb, jv n]), (rb, ai g 60 f), (a, ob 4 [.ref kb, .ref t1, .ref t2, .ref t3, .ref t4, .ref t5, .ref t6, jv h, jv sz]), (kb, ob 2 [.ref kc, jv bn]), (kc, ai g 60 bf), (t1, ai g 11 S), (t2, ai g 60 A0), (t3, ai g 60 A1), (t4, ai g 60 A2), (t5, ai g 60 A3), (t6, ai g 60 A4)]) [0, 1, 2, 3, 4, 5, 6, 7, 8, 9, 10, 11] (by decide) rfl ?_
            show X l g E ({ frames := 2, cells := 0, slots := 0, locals := 45 } : Room) 9 [(la, ob 3 [jv mt, jv sn]), (ra, ob 2 [.ref rb, jv n]), (rb, ai g 60 f), (a, ob 4 [.ref kb, .ref t1, .ref t2, .ref t3, .ref t4, .ref t5, .ref t6, jv h, jv sz]), (kb, ob 2 [.ref kc, jv bn]), (kc, ai g 60 bf), (t1, ai g 11 S), (t2, ai g 60 A0), (t3, ai g 60 A1), (t4, ai g 60 A2), (t5, ai g 60 A3), (t6, ai g 60 A4)] 0 0 [(8, jv (r + w)), (0, .ref la), (1, .ref ra), (2, .ref a), (3, jv x), (4, jv e), (5, jv p), (6, jv r), (7, jv t)] 72 [jv lo, jv (r + w)]
            refine x_icmp_lt (pc := 72) C 116 dX3_run_72 rfl ⟨by omega, by omega⟩ ⟨by omega, by omega⟩ (fun c_72 => ?_) (fun c_72 => ?_)
            · refine x_iinc (pc := 116) C (lv' := [(7, jv (t + 1)), (8, jv (r + w)), (0, .ref la), (1, .ref ra), (2, .ref a), (3, jv x), (4, jv e), (5, jv p), (6, jv r)]) 8 dX3_run_116 rfl (by decide) rfl ?_
              refine x_goto (pc := 119) C 37 dX3_run_119 rfl ?_
              refine x_locals (lv' := [(0, .ref la), (1, .ref ra), (2, .ref a), (3, jv x), (4, jv e), (5, jv p), (6, jv r), (7, jv (t + 1))]) [2, 3, 4, 5, 6, 7, 8, 0] rfl ?_
              refine ih37 _ _ _ ?_ ?_ ?_ ?_
              · omega
              · omega
              · omega
              · have hm : (lkS y x (P0 y e n p) (P1 y e n p) (gs y e n p x) t.toNat).1 = -1 := by rw [← hs]; omega
                have hw2 : r + w = gs y e n p x + aw ((t.toNat : Nat) : Int) := by rw [f_29, f_58, Int.toNat_of_nonneg ht.1]
                rw [show (t + 1).toNat = t.toNat + 1 by omega]
                rw [lkS_out hm (by rw [← hw2]; omega)]; exact hs
            · refine x_iload (pc := 75) C 0 dX3_run_75 rfl ?_
              refine x_aload_n (pc := 77) C 3 dX3_run_77 rfl ?_
              refine x_iload (pc := 78) C 6 dX3_run_78 rfl ?_
              refine x_callV (pc := 80) C (n := 1) (q0 := 0) (rest := [jv (r + w)]) (wr := [(la, ob 3 [jv mt, jv sn]), (ra, ob 2 [.ref rb, jv n]), (rb, ai g 60 f)]) [3, 4, 5, 6, 7, 8, 9, 10, 11] [0, 1, 2] (ctX4_lastOf l g a kb kc t1 t2 t3 t4 t5 t6 h sz bn bf S A0 A1 A2 A3 A4 y e n p he hT (by omega) hpp) gX3_run_X4_lastOf rfl ⟨rfl, rfl⟩ (by decide +kernel) ⟨by decide, by decide⟩ rfl rfl rfl rfl rfl (by decide) (by decide) (by decide) rfl (Nat.le_of_ble_eq_true rfl) dX3_run_80 ⟨by decide, by decide⟩ (fun v_80 u_80 h_80 => ?_)
              rcases h_80 with ⟨hi, rfl, rfl, f_80⟩
              refine x_world (ws' := [(la, ob 3 [jv mt, jv sn]), (ra, ob 2 [.ref rb, jv n]), (rb, ai g 60 f), (a, ob 4 [.ref kb, .ref t1, .ref t2, .ref t3, .ref t4, .ref t5, .ref t6, jv h, jv sz]), (kb, ob 2 [.ref kc, jv bn]), (kc, ai g 60 bf), (t1, ai g 11 S), (t2, ai g 60 A0), (t3, ai g 60 A1), (t4, ai g 60 A2), (t5, ai g 60 A3), (t6, ai g 60 A4)]) [0, 1, 2, 3, 4, 5, 6, 7, 8, 9, 10, 11] (by decide) rfl ?_
              show X l g E ({ frames := 2, cells := 0, slots := 0, locals := 45 } : Room) 9 [(la, ob 3 [jv mt, jv sn]), (ra, ob 2 [.ref rb, jv n]), (rb, ai g 60 f), (a, ob 4 [.ref kb, .ref t1, .ref t2, .ref t3, .ref t4, .ref t5, .ref t6, jv h, jv sz]), (kb, ob 2 [.ref kc, jv bn]), (kc, ai g 60 bf), (t1, ai g 11 S), (t2, ai g 60 A0), (t3, ai g 60 A1), (t4, ai g 60 A2), (t5, ai g 60 A3), (t6, ai g 60 A4)] 0 0 [(8, jv (r + w)), (0, .ref la), (1, .ref ra), (2, .ref a), (3, jv x), (4, jv e), (5, jv p), (6, jv r), (7, jv t)] 83 [jv hi, jv (r + w)]
              refine x_icmp_gt (pc := 83) C 116 dX3_run_83 rfl ⟨by omega, by omega⟩ ⟨by omega, by omega⟩ (fun c_83 => ?_) (fun c_83 => ?_)
              · refine x_iinc (pc := 116) C (lv' := [(7, jv (t + 1)), (8, jv (r + w)), (0, .ref la), (1, .ref ra), (2, .ref a), (3, jv x), (4, jv e), (5, jv p), (6, jv r)]) 8 dX3_run_116 rfl (by decide) rfl ?_
                refine x_goto (pc := 119) C 37 dX3_run_119 rfl ?_
                refine x_locals (lv' := [(0, .ref la), (1, .ref ra), (2, .ref a), (3, jv x), (4, jv e), (5, jv p), (6, jv r), (7, jv (t + 1))]) [2, 3, 4, 5, 6, 7, 8, 0] rfl ?_
                refine ih37 _ _ _ ?_ ?_ ?_ ?_
                · omega
                · omega
                · omega
                · have hm : (lkS y x (P0 y e n p) (P1 y e n p) (gs y e n p x) t.toNat).1 = -1 := by rw [← hs]; omega
                  have hw2 : r + w = gs y e n p x + aw ((t.toNat : Nat) : Int) := by rw [f_29, f_58, Int.toNat_of_nonneg ht.1]
                  rw [show (t + 1).toNat = t.toNat + 1 by omega]
                  rw [lkS_out hm (by rw [← hw2]; omega)]; exact hs
              · refine x_aload_n (pc := 86) C 1 dX3_run_86 rfl ?_
                refine x_dup (pc := 87) C dX3_run_87 rfl ?_
                refine x_get (pc := 88) C 0 1 dX3_run_88 hiX3_run_3 hfX3_run_15 rfl rfl rfl (by decide) rfl ?_
                refine x_iconst (pc := 91) C dX3_run_91 ?_
                refine x_iadd (pc := 92) C dX3_run_92 ?_
                refine x_put (pc := 93) C (ty := .int) (ws' := [(la, ob 3 [jv mt, jv (sn + 1)]), (ra, ob 2 [.ref rb, jv n]), (rb, ai g 60 f), (a, ob 4 [.ref kb, .ref t1, .ref t2, .ref t3, .ref t4, .ref t5, .ref t6, jv h, jv sz]), (kb, ob 2 [.ref kc, jv bn]), (kc, ai g 60 bf), (t1, ai g 11 S), (t2, ai g 60 A0), (t3, ai g 60 A1), (t4, ai g 60 A2), (t5, ai g 60 A3), (t6, ai g 60 A4)]) tyX3 0 1 dX3_run_93 hiX3_run_3 tyX3_ok nmX3 hfX3_run_15 rfl rfl rfl (by decide) rfl (by decide +kernel) rfl rfl (Nat.le_of_ble_eq_true rfl) rfl ?_
                refine x_aload_n (pc := 96) C 1 dX3_run_96 rfl ?_
                refine x_aload_n (pc := 97) C 2 dX3_run_97 rfl ?_
                refine x_iload (pc := 98) C 0 dX3_run_98 rfl ?_
                refine x_callV (pc := 100) C (n := 1) (q0 := 0) (rest := [.ref la]) (wr := [(la, ob 3 [jv mt, jv (sn + 1)]), (a, ob 4 [.ref kb, .ref t1, .ref t2, .ref t3, .ref t4, .ref t5, .ref t6, jv h, jv sz]), (kb, ob 2 [.ref kc, jv bn]), (kc, ai g 60 bf), (t1, ai g 11 S), (t2, ai g 60 A0), (t3, ai g 60 A1), (t4, ai g 60 A2), (t5, ai g 60 A3), (t6, ai g 60 A4)]) [1, 2] [0, 3, 4, 5, 6, 7, 8, 9, 10, 11] (ctX2_key l g ra rb n f (r + w) ⟨hn0, hn1⟩ ⟨by omega, by omega⟩) gX3_run_X2_key rfl ⟨rfl, rfl⟩ (by decide +kernel) ⟨by decide, by decide⟩ rfl rfl rfl rfl rfl (by decide) (by decide) (by decide) rfl (Nat.le_of_ble_eq_true rfl) dX3_run_100 ⟨by decide, by decide⟩ (fun v_100 u_100 h_100 => ?_)
                rcases h_100 with ⟨rfl, rfl, f_100⟩ | ⟨rfl, rfl, f_100⟩
                · refine x_world (ws' := [(la, ob 3 [jv mt, jv (sn + 1)]), (ra, ob 2 [.ref rb, jv n]), (rb, ai g 60 f), (a, ob 4 [.ref kb, .ref t1, .ref t2, .ref t3, .ref t4, .ref t5, .ref t6, jv h, jv sz]), (kb, ob 2 [.ref kc, jv bn]), (kc, ai g 60 bf), (t1, ai g 11 S), (t2, ai g 60 A0), (t3, ai g 60 A1), (t4, ai g 60 A2), (t5, ai g 60 A3), (t6, ai g 60 A4)]) [0, 10, 11, 1, 2, 3, 4, 5, 6, 7, 8, 9] (by decide) rfl ?_
                  show X l g E ({ frames := 2, cells := 0, slots := 0, locals := 45 } : Room) 9 [(la, ob 3 [jv mt, jv (sn + 1)]), (ra, ob 2 [.ref rb, jv n]), (rb, ai g 60 f), (a, ob 4 [.ref kb, .ref t1, .ref t2, .ref t3, .ref t4, .ref t5, .ref t6, jv h, jv sz]), (kb, ob 2 [.ref kc, jv bn]), (kc, ai g 60 bf), (t1, ai g 11 S), (t2, ai g 60 A0), (t3, ai g 60 A1), (t4, ai g 60 A2), (t5, ai g 60 A3), (t6, ai g 60 A4)] 0 0 [(8, jv (r + w)), (0, .ref la), (1, .ref ra), (2, .ref a), (3, jv x), (4, jv e), (5, jv p), (6, jv r), (7, jv t)] 103 [jv (f (r + w)), .ref la]
                  refine x_iload_n (pc := 103) C 4 dX3_run_103 rfl ?_
                  have hfr := hk.2.2.1 (r + w) (by omega) (by omega)
                  have hyr := hy (r + w) (by omega) (by omega)
                  refine x_icmp_ne (pc := 104) C 112 dX3_run_104 rfl ⟨by omega, by omega⟩ ⟨by omega, by omega⟩ (fun c_104 => ?_) (fun c_104 => ?_)
                  · refine x_iconst (pc := 112) C dX3_run_112 ?_
                    refine x_put (pc := 113) C (ty := .int) (ws' := [(la, ob 3 [jv (-1), jv (sn + 1)]), (ra, ob 2 [.ref rb, jv n]), (rb, ai g 60 f), (a, ob 4 [.ref kb, .ref t1, .ref t2, .ref t3, .ref t4, .ref t5, .ref t6, jv h, jv sz]), (kb, ob 2 [.ref kc, jv bn]), (kc, ai g 60 bf), (t1, ai g 11 S), (t2, ai g 60 A0), (t3, ai g 60 A1), (t4, ai g 60 A2), (t5, ai g 60 A3), (t6, ai g 60 A4)]) tyX3 0 0 dX3_run_113 hiX3_run_3 tyX3_ok nmX3 hfX3_run_9 rfl rfl rfl (by decide) rfl (by decide +kernel) rfl rfl (Nat.le_of_ble_eq_true rfl) rfl ?_
                    refine x_iinc (pc := 116) C (lv' := [(7, jv (t + 1)), (8, jv (r + w)), (0, .ref la), (1, .ref ra), (2, .ref a), (3, jv x), (4, jv e), (5, jv p), (6, jv r)]) 8 dX3_run_116 rfl (by decide) rfl ?_
                    refine x_goto (pc := 119) C 37 dX3_run_119 rfl ?_
                    refine x_locals (lv' := [(0, .ref la), (1, .ref ra), (2, .ref a), (3, jv x), (4, jv e), (5, jv p), (6, jv r), (7, jv (t + 1))]) [2, 3, 4, 5, 6, 7, 8, 0] rfl ?_
                    refine ih37 _ _ _ ?_ ?_ ?_ ?_
                    · omega
                    · omega
                    · omega
                    · have hm : (lkS y x (P0 y e n p) (P1 y e n p) (gs y e n p x) t.toNat).1 = -1 := by rw [← hs]; omega
                      have hw2 : r + w = gs y e n p x + aw ((t.toNat : Nat) : Int) := by rw [f_29, f_58, Int.toNat_of_nonneg ht.1]
                      rw [show (t + 1).toNat = t.toNat + 1 by omega]
                      rw [lkS_in hm (by rw [← hw2]; omega), ← hw2, ← hs]
                      rw [if_neg (by rw [← hyr]; exact c_104)]
                  · refine x_iload (pc := 107) C 0 dX3_run_107 rfl ?_
                    refine x_goto (pc := 109) C 113 dX3_run_109 rfl ?_
                    refine x_put (pc := 113) C (ty := .int) (ws' := [(la, ob 3 [jv (r + w), jv (sn + 1)]), (ra, ob 2 [.ref rb, jv n]), (rb, ai g 60 f), (a, ob 4 [.ref kb, .ref t1, .ref t2, .ref t3, .ref t4, .ref t5, .ref t6, jv h, jv sz]), (kb, ob 2 [.ref kc, jv bn]), (kc, ai g 60 bf), (t1, ai g 11 S), (t2, ai g 60 A0), (t3, ai g 60 A1), (t4, ai g 60 A2), (t5, ai g 60 A3), (t6, ai g 60 A4)]) tyX3 0 0 dX3_run_113 hiX3_run_3 tyX3_ok nmX3 hfX3_run_9 rfl rfl rfl (by decide) rfl (by decide +kernel) rfl rfl (Nat.le_of_ble_eq_true rfl) rfl ?_
                    refine x_iinc (pc := 116) C (lv' := [(7, jv (t + 1)), (8, jv (r + w)), (0, .ref la), (1, .ref ra), (2, .ref a), (3, jv x), (4, jv e), (5, jv p), (6, jv r)]) 8 dX3_run_116 rfl (by decide) rfl ?_
                    refine x_goto (pc := 119) C 37 dX3_run_119 rfl ?_
                    refine x_locals (lv' := [(0, .ref la), (1, .ref ra), (2, .ref a), (3, jv x), (4, jv e), (5, jv p), (6, jv r), (7, jv (t + 1))]) [2, 3, 4, 5, 6, 7, 8, 0] rfl ?_
                    refine ih37 _ _ _ ?_ ?_ ?_ ?_
                    · omega
                    · omega
                    · omega
                    · have hm : (lkS y x (P0 y e n p) (P1 y e n p) (gs y e n p x) t.toNat).1 = -1 := by rw [← hs]; omega
                      have hw2 : r + w = gs y e n p x + aw ((t.toNat : Nat) : Int) := by rw [f_29, f_58, Int.toNat_of_nonneg ht.1]
                      rw [show (t + 1).toNat = t.toNat + 1 by omega]
                      rw [lkS_in hm (by rw [← hw2]; omega), ← hw2, ← hs]
                      rw [if_pos (by rw [← hyr]; omega)]
                · refine x_world (ws' := [(la, ob 3 [jv mt, jv (sn + 1)]), (ra, ob 2 [.ref rb, jv n]), (rb, ai g 60 f), (a, ob 4 [.ref kb, .ref t1, .ref t2, .ref t3, .ref t4, .ref t5, .ref t6, jv h, jv sz]), (kb, ob 2 [.ref kc, jv bn]), (kc, ai g 60 bf), (t1, ai g 11 S), (t2, ai g 60 A0), (t3, ai g 60 A1), (t4, ai g 60 A2), (t5, ai g 60 A3), (t6, ai g 60 A4)]) [0, 10, 11, 1, 2, 3, 4, 5, 6, 7, 8, 9] (by decide) rfl ?_
                  show X l g E ({ frames := 2, cells := 0, slots := 0, locals := 45 } : Room) 9 [(la, ob 3 [jv mt, jv (sn + 1)]), (ra, ob 2 [.ref rb, jv n]), (rb, ai g 60 f), (a, ob 4 [.ref kb, .ref t1, .ref t2, .ref t3, .ref t4, .ref t5, .ref t6, jv h, jv sz]), (kb, ob 2 [.ref kc, jv bn]), (kc, ai g 60 bf), (t1, ai g 11 S), (t2, ai g 60 A0), (t3, ai g 60 A1), (t4, ai g 60 A2), (t5, ai g 60 A3), (t6, ai g 60 A4)] 0 0 [(8, jv (r + w)), (0, .ref la), (1, .ref ra), (2, .ref a), (3, jv x), (4, jv e), (5, jv p), (6, jv r), (7, jv t)] 103 [jv (-1), .ref la]
                  omega
    refine x_locals (lv' := [(0, .ref la), (1, .ref ra), (2, .ref a), (3, jv x), (4, jv e), (5, jv p), (6, jv r), (7, jv 0)]) [3, 4, 5, 6, 7, 2, 1, 0] rfl ?_
    refine L37 _ _ _ _ (Nat.lt_succ_self _) ?_ ?_ ?_
    · omega
    · omega
    · rfl
  · refine x_vret (pc := 17) C Rt0 dX3_run_17 rfl ?_
    refine ⟨_, _, rfl, rfl, ?_⟩
    exact Or.inl ⟨by omega, rfl, rfl⟩
