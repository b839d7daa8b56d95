set_option maxHeartbeats 4000000 in
set_option maxRecDepth 100000 in
/-- Cuts.isRank -/
theorem ctX0_isRank (l : Launch) (g : xG) (i : Int) (hr : Rg i) : Ct l g yX0_isRank wsX0_isRank ({ frames := 0, cells := 0, slots := 0, locals := 0 } : Room) 0 0 [] [jv i] (fun v u => (v = some (jv 1) ∧ u = [] ∧ (0 ≤ i ∧ i < 60)) ∨ (v = some (jv 0) ∧ u = [] ∧ (i < 0 ∨ 60 ≤ i))) := by
  refine ct_of (cc := cX0_isRank) (nL := 1) (ret := (some .boolean)) (by decide) rfl (Nat.le_of_ble_eq_true rfl) ?_
  intro E C Rt0
  have C : Cx l g E ({ frames := 0, cells := 0, slots := 0, locals := 0 } : Room) RX0 "isRank" cX0_isRank wsX0_isRank 1 := C
  show X l g E ({ frames := 0, cells := 0, slots := 0, locals := 0 } : Room) 1 [] 0 0 [(0, jv i)] 0 []
  have hr1 := hr.1
  have hr2 := hr.2
  refine x_iload_n (pc := 0) C 0 dX0_isRank_0 rfl ?_
  refine x_if_lt (pc := 1) C 14 dX0_isRank_1 rfl ⟨by omega, by omega⟩ (fun c_1 => ?_) (fun c_1 => ?_)
  · refine x_iconst (pc := 14) C dX0_isRank_14 ?_
    refine x_zret (pc := 15) C Rt0 dX0_isRank_15 rfl rfl ?_
    refine Or.inr (⟨rfl, rfl, ?_⟩)
    omega
  · refine x_iload_n (pc := 4) C 0 dX0_isRank_4 rfl ?_
    refine x_bipush (pc := 5) C dX0_isRank_5 rfl ?_
    refine x_icmp_ge (pc := 7) C 14 dX0_isRank_7 rfl ⟨by omega, by omega⟩ ⟨by omega, by omega⟩ (fun c_7 => ?_) (fun c_7 => ?_)
    · refine x_iconst (pc := 14) C dX0_isRank_14 ?_
      refine x_zret (pc := 15) C Rt0 dX0_isRank_15 rfl rfl ?_
      refine Or.inr (⟨rfl, rfl, ?_⟩)
      omega
    · refine x_iconst (pc := 10) C dX0_isRank_10 ?_
      refine x_goto (pc := 11) C 15 dX0_isRank_11 rfl ?_
      refine x_zret (pc := 15) C Rt0 dX0_isRank_15 rfl rfl ?_
      refine Or.inl ⟨rfl, rfl, ?_⟩
      omega

set_option maxRecDepth 100000 in
theorem hiX0_fewestFrom_0 : ∀ w ∈ wsX00, w ∈ wsX0_fewestFrom := by decide +kernel
set_option maxRecDepth 100000 in
theorem hfX0_fewestFrom_15 : Cond.fieldLink RX0 15 "KeyGuess$Cuts" "fewest" "[I" ∈ wsX0_fewestFrom := by decide +kernel
set_option maxHeartbeats 4000000 in
set_option maxRecDepth 100000 in
/-- Cuts.fewestFrom -/
theorem ctX0_fewestFrom (l : Launch) (g : xG) (a : Nat) (c1 : Nat) (c2 : Nat) (c3 : Nat) (c4 : Nat) (c5 : Nat) (x : Int → Int) (F : Int → Int) (Ls : Int → Int) (Nm : Int → Int) (Dn : Int → Int) (i : Int) (hi : 0 ≤ i ∧ i < 60) : Ct l g yX0_fewestFrom wsX0_fewestFrom ({ frames := 1, cells := 0, slots := 0, locals := 20 } : Room) 0 0 [(a, ob 0 [.ref c1, .ref c2, .ref c3, .ref c4, .ref c5]), (c1, ai g 60 x), (c2, ai g 61 F), (c3, ai g 60 Ls), (c4, ai g 60 Nm), (c5, ai g 60 Dn)] [.ref a, jv i] (fun v u => v = some (jv (F i)) ∧ u = [(a, ob 0 [.ref c1, .ref c2, .ref c3, .ref c4, .ref c5]), (c1, ai g 60 x), (c2, ai g 61 F), (c3, ai g 60 Ls), (c4, ai g 60 Nm), (c5, ai g 60 Dn)] ∧ (True)) := by
  refine ct_of (cc := cX0_fewestFrom) (nL := 2) (ret := (some .int)) (by decide) rfl (Nat.le_of_ble_eq_true rfl) ?_
  intro E C Rt0
  have C : Cx l g E ({ frames := 1, cells := 0, slots := 0, locals := 20 } : Room) RX0 "fewestFrom" cX0_fewestFrom wsX0_fewestFrom 2 := C
  show X l g E ({ frames := 1, cells := 0, slots := 0, locals := 20 } : Room) 2 [(a, ob 0 [.ref c1, .ref c2, .ref c3, .ref c4, .ref c5]), (c1, ai g 60 x), (c2, ai g 61 F), (c3, ai g 60 Ls), (c4, ai g 60 Nm), (c5, ai g 60 Dn)] 0 0 [(0, .ref a), (1, jv i)] 0 []
  refine x_iload_n (pc := 0) C 1 dX0_fewestFrom_0 rfl ?_
  refine x_callS (pc := 1) C (n := 1) (rest := []) (wr := [(a, ob 0 [.ref c1, .ref c2, .ref c3, .ref c4, .ref c5]), (c1, ai g 60 x), (c2, ai g 61 F), (c3, ai g 60 Ls), (c4, ai g 60 Nm), (c5, ai g 60 Dn)]) [] [0, 1, 2, 3, 4, 5] (ctX0_isRank l g i ⟨by omega, by omega⟩) gX0_fewestFrom_X0_isRank rfl (by decide +kernel) ⟨rfl, rfl⟩ ⟨by decide, by decide⟩ rfl rfl rfl (by decide) (by decide) (by decide) rfl (Nat.le_of_ble_eq_true rfl) dX0_fewestFrom_1 ⟨by decide, by decide⟩ (fun v_1 u_1 h_1 => ?_)
  rcases h_1 with ⟨rfl, rfl, f_1⟩ | ⟨rfl, rfl, f_1⟩
  · refine x_world (ws' := [(a, ob 0 [.ref c1, .ref c2, .ref c3, .ref c4, .ref c5]), (c1, ai g 60 x), (c2, ai g 61 F), (c3, ai g 60 Ls), (c4, ai g 60 Nm), (c5, ai g 60 Dn)]) [0, 1, 2, 3, 4, 5] (by decide) rfl ?_
    show X l g E ({ frames := 1, cells := 0, slots := 0, locals := 20 } : Room) 2 [(a, ob 0 [.ref c1, .ref c2, .ref c3, .ref c4, .ref c5]), (c1, ai g 60 x), (c2, ai g 61 F), (c3, ai g 60 Ls), (c4, ai g 60 Nm), (c5, ai g 60 Dn)] 0 0 [(0, .ref a), (1, jv i)] 4 [jv 1]
    refine x_if_eq (pc := 4) C 16 dX0_fewestFrom_4 rfl ⟨by decide, by decide⟩ (fun h => absurd h (by decide)) (fun _ => ?_)
    refine x_aload_n (pc := 7) C 0 dX0_fewestFrom_7 rfl ?_
    refine x_get (pc := 8) C 0 1 dX0_fewestFrom_8 hiX0_fewestFrom_0 hfX0_fewestFrom_15 rfl rfl rfl (by decide) rfl ?_
    refine x_iload_n (pc := 11) C 1 dX0_fewestFrom_11 rfl ?_
    refine x_iald (pc := 12) C 2 dX0_fewestFrom_12 rfl (by omega) (by omega) (by decide) ?_
    refine x_goto (pc := 13) C 17 dX0_fewestFrom_13 rfl ?_
    refine x_iret (pc := 17) C Rt0 dX0_fewestFrom_17 rfl ?_
    refine ⟨rfl, rfl, ?_⟩
    trivial
  · refine x_world (ws' := [(a, ob 0 [.ref c1, .ref c2, .ref c3, .ref c4, .ref c5]), (c1, ai g 60 x), (c2, ai g 61 F), (c3, ai g 60 Ls), (c4, ai g 60 Nm), (c5, ai g 60 Dn)]) [0, 1, 2, 3, 4, 5] (by decide) rfl ?_
    show X l g E ({ frames := 1, cells := 0, slots := 0, locals := 20 } : Room) 2 [(a, ob 0 [.ref c1, .ref c2, .ref c3, .ref c4, .ref c5]), (c1, ai g 60 x), (c2, ai g 61 F), (c3, ai g 60 Ls), (c4, ai g 60 Nm), (c5, ai g 60 Dn)] 0 0 [(0, .ref a), (1, jv i)] 4 [jv 0]
    exact absurd f_1 (by omega)

set_option maxRecDepth 100000 in
theorem hiX0_lastOf_0 : ∀ w ∈ wsX00, w ∈ wsX0_lastOf := by decide +kernel
set_option maxRecDepth 100000 in
theorem hfX0_lastOf_18 : Cond.fieldLink RX0 18 "KeyGuess$Cuts" "lasts" "[I" ∈ wsX0_lastOf := by decide +kernel
set_option maxHeartbeats 4000000 in
set_option maxRecDepth 100000 in
/-- Cuts.lastOf -/
theorem ctX0_lastOf (l : Launch) (g : xG) (a : Nat) (c1 : Nat) (c2 : Nat) (c3 : Nat) (c4 : Nat) (c5 : Nat) (x : Int → Int) (F : Int → Int) (Ls : Int → Int) (Nm : Int → Int) (Dn : Int → Int) (i : Int) (hi : 0 ≤ i ∧ i < 60) : Ct l g yX0_lastOf wsX0_lastOf ({ frames := 1, cells := 0, slots := 0, locals := 20 } : Room) 0 0 [(a, ob 0 [.ref c1, .ref c2, .ref c3, .ref c4, .ref c5]), (c1, ai g 60 x), (c2, ai g 61 F), (c3, ai g 60 Ls), (c4, ai g 60 Nm), (c5, ai g 60 Dn)] [.ref a, jv i] (fun v u => v = some (jv (Ls i)) ∧ u = [(a, ob 0 [.ref c1, .ref c2, .ref c3, .ref c4, .ref c5]), (c1, ai g 60 x), (c2, ai g 61 F), (c3, ai g 60 Ls), (c4, ai g 60 Nm), (c5, ai g 60 Dn)] ∧ (True)) := by
  refine ct_of (cc := cX0_lastOf) (nL := 2) (ret := (some .int)) (by decide) rfl (Nat.le_of_ble_eq_true rfl) ?_
  intro E C Rt0
  have C : Cx l g E ({ frames := 1, cells := 0, slots := 0, locals := 20 } : Room) RX0 "lastOf" cX0_lastOf wsX0_lastOf 2 := C
  show X l g E ({ frames := 1, cells := 0, slots := 0, locals := 20 } : Room) 2 [(a, ob 0 [.ref c1, .ref c2, .ref c3, .ref c4, .ref c5]), (c1, ai g 60 x), (c2, ai g 61 F), (c3, ai g 60 Ls), (c4, ai g 60 Nm), (c5, ai g 60 Dn)] 0 0 [(0, .ref a), (1, jv i)] 0 []
  refine x_iload_n (pc := 0) C 1 dX0_lastOf_0 rfl ?_
  refine x_callS (pc := 1) C (n := 1) (rest := []) (wr := [(a, ob 0 [.ref c1, .ref c2, .ref c3, .ref c4, .ref c5]), (c1, ai g 60 x), (c2, ai g 61 F), (c3, ai g 60 Ls), (c4, ai g 60 Nm), (c5, ai g 60 Dn)]) [] [0, 1, 2, 3, 4, 5] (ctX0_isRank l g i ⟨by omega, by omega⟩) gX0_lastOf_X0_isRank rfl (by decide +kernel) ⟨rfl, rfl⟩ ⟨by decide, by decide⟩ rfl rfl rfl (by decide) (by decide) (by decide) rfl (Nat.le_of_ble_eq_true rfl) dX0_lastOf_1 ⟨by decide, by decide⟩ (fun v_1 u_1 h_1 => ?_)
  rcases h_1 with ⟨rfl, rfl, f_1⟩ | ⟨rfl, rfl, f_1⟩
  · refine x_world (ws' := [(a, ob 0 [.ref c1, .ref c2, .ref c3, .ref c4, .ref c5]), (c1, ai g 60 x), (c2, ai g 61 F), (c3, ai g 60 Ls), (c4, ai g 60 Nm), (c5, ai g 60 Dn)]) [0, 1, 2, 3, 4, 5] (by decide) rfl ?_
    show X l g E ({ frames := 1, cells := 0, slots := 0, locals := 20 } : Room) 2 [(a, ob 0 [.ref c1, .ref c2, .ref c3, .ref c4, .ref c5]), (c1, ai g 60 x), (c2, ai g 61 F), (c3, ai g 60 Ls), (c4, ai g 60 Nm), (c5, ai g 60 Dn)] 0 0 [(0, .ref a), (1, jv i)] 4 [jv 1]
    refine x_if_eq (pc := 4) C 16 dX0_lastOf_4 rfl ⟨by decide, by decide⟩ (fun h => absurd h (by decide)) (fun _ => ?_)
    refine x_aload_n (pc := 7) C 0 dX0_lastOf_7 rfl ?_
    refine x_get (pc := 8) C 0 2 dX0_lastOf_8 hiX0_lastOf_0 hfX0_lastOf_18 rfl rfl rfl (by decide) rfl ?_
    refine x_iload_n (pc := 11) C 1 dX0_lastOf_11 rfl ?_
    refine x_iald (pc := 12) C 3 dX0_lastOf_12 rfl (by omega) (by omega) (by decide) ?_
    refine x_goto (pc := 13) C 17 dX0_lastOf_13 rfl ?_
    refine x_iret (pc := 17) C Rt0 dX0_lastOf_17 rfl ?_
    refine ⟨rfl, rfl, ?_⟩
    trivial
  · refine x_world (ws' := [(a, ob 0 [.ref c1, .ref c2, .ref c3, .ref c4, .ref c5]), (c1, ai g 60 x), (c2, ai g 61 F), (c3, ai g 60 Ls), (c4, ai g 60 Nm), (c5, ai g 60 Dn)]) [0, 1, 2, 3, 4, 5] (by decide) rfl ?_
    show X l g E ({ frames := 1, cells := 0, slots := 0, locals := 20 } : Room) 2 [(a, ob 0 [.ref c1, .ref c2, .ref c3, .ref c4, .ref c5]), (c1, ai g 60 x), (c2, ai g 61 F), (c3, ai g 60 Ls), (c4, ai g 60 Nm), (c5, ai g 60 Dn)] 0 0 [(0, .ref a), (1, jv i)] 4 [jv 0]
    exact absurd f_1 (by omega)

set_option maxRecDepth 100000 in
theorem hiX0_slopeNum_0 : ∀ w ∈ wsX00, w ∈ wsX0_slopeNum := by decide +kernel
set_option maxRecDepth 100000 in
theorem hfX0_slopeNum_21 : Cond.fieldLink RX0 21 "KeyGuess$Cuts" "slopeNums" "[I" ∈ wsX0_slopeNum := by decide +kernel
set_option maxHeartbeats 4000000 in
set_option maxRecDepth 100000 in
/-- Cuts.slopeNum -/
theorem ctX0_slopeNum (l : Launch) (g : xG) (a : Nat) (c1 : Nat) (c2 : Nat) (c3 : Nat) (c4 : Nat) (c5 : Nat) (x : Int → Int) (F : Int → Int) (Ls : Int → Int) (Nm : Int → Int) (Dn : Int → Int) (i : Int) (hi : 0 ≤ i ∧ i < 60) : Ct l g yX0_slopeNum wsX0_slopeNum ({ frames := 1, cells := 0, slots := 0, locals := 20 } : Room) 0 0 [(a, ob 0 [.ref c1, .ref c2, .ref c3, .ref c4, .ref c5]), (c1, ai g 60 x), (c2, ai g 61 F), (c3, ai g 60 Ls), (c4, ai g 60 Nm), (c5, ai g 60 Dn)] [.ref a, jv i] (fun v u => v = some (jv (Nm i)) ∧ u = [(a, ob 0 [.ref c1, .ref c2, .ref c3, .ref c4, .ref c5]), (c1, ai g 60 x), (c2, ai g 61 F), (c3, ai g 60 Ls), (c4, ai g 60 Nm), (c5, ai g 60 Dn)] ∧ (True)) := by
  refine ct_of (cc := cX0_slopeNum) (nL := 2) (ret := (some .int)) (by decide) rfl (Nat.le_of_ble_eq_true rfl) ?_
  intro E C Rt0
  have C : Cx l g E ({ frames := 1, cells := 0, slots := 0, locals := 20 } : Room) RX0 "slopeNum" cX0_slopeNum wsX0_slopeNum 2 := C
  show X l g E ({ frames := 1, cells := 0, slots := 0, locals := 20 } : Room) 2 [(a, ob 0 [.ref c1, .ref c2, .ref c3, .ref c4, .ref c5]), (c1, ai g 60 x), (c2, ai g 61 F), (c3, ai g 60 Ls), (c4, ai g 60 Nm), (c5, ai g 60 Dn)] 0 0 [(0, .ref a), (1, jv i)] 0 []
  refine x_iload_n (pc := 0) C 1 dX0_slopeNum_0 rfl ?_
  refine x_callS (pc := 1) C (n := 1) (rest := []) (wr := [(a, ob 0 [.ref c1, .ref c2, .ref c3, .ref c4, .ref c5]), (c1, ai g 60 x), (c2, ai g 61 F), (c3, ai g 60 Ls), (c4, ai g 60 Nm), (c5, ai g 60 Dn)]) [] [0, 1, 2, 3, 4, 5] (ctX0_isRank l g i ⟨by omega, by omega⟩) gX0_slopeNum_X0_isRank rfl (by decide +kernel) ⟨rfl, rfl⟩ ⟨by decide, by decide⟩ rfl rfl rfl (by decide) (by decide) (by decide) rfl (Nat.le_of_ble_eq_true rfl) dX0_slopeNum_1 ⟨by decide, by decide⟩ (fun v_1 u_1 h_1 => ?_)
  rcases h_1 with ⟨rfl, rfl, f_1⟩ | ⟨rfl, rfl, f_1⟩
  · refine x_world (ws' := [(a, ob 0 [.ref c1, .ref c2, .ref c3, .ref c4, .ref c5]), (c1, ai g 60 x), (c2, ai g 61 F), (c3, ai g 60 Ls), (c4, ai g 60 Nm), (c5, ai g 60 Dn)]) [0, 1, 2, 3, 4, 5] (by decide) rfl ?_
    show X l g E ({ frames := 1, cells := 0, slots := 0, locals := 20 } : Room) 2 [(a, ob 0 [.ref c1, .ref c2, .ref c3, .ref c4, .ref c5]), (c1, ai g 60 x), (c2, ai g 61 F), (c3, ai g 60 Ls), (c4, ai g 60 Nm), (c5, ai g 60 Dn)] 0 0 [(0, .ref a), (1, jv i)] 4 [jv 1]
    refine x_if_eq (pc := 4) C 16 dX0_slopeNum_4 rfl ⟨by decide, by decide⟩ (fun h => absurd h (by decide)) (fun _ => ?_)
    refine x_aload_n (pc := 7) C 0 dX0_slopeNum_7 rfl ?_
    refine x_get (pc := 8) C 0 3 dX0_slopeNum_8 hiX0_slopeNum_0 hfX0_slopeNum_21 rfl rfl rfl (by decide) rfl ?_
    refine x_iload_n (pc := 11) C 1 dX0_slopeNum_11 rfl ?_
    refine x_iald (pc := 12) C 4 dX0_slopeNum_12 rfl (by omega) (by omega) (by decide) ?_
    refine x_goto (pc := 13) C 17 dX0_slopeNum_13 rfl ?_
    refine x_iret (pc := 17) C Rt0 dX0_slopeNum_17 rfl ?_
    refine ⟨rfl, rfl, ?_⟩
    trivial
  · refine x_world (ws' := [(a, ob 0 [.ref c1, .ref c2, .ref c3, .ref c4, .ref c5]), (c1, ai g 60 x), (c2, ai g 61 F), (c3, ai g 60 Ls), (c4, ai g 60 Nm), (c5, ai g 60 Dn)]) [0, 1, 2, 3, 4, 5] (by decide) rfl ?_
    show X l g E ({ frames := 1, cells := 0, slots := 0, locals := 20 } : Room) 2 [(a, ob 0 [.ref c1, .ref c2, .ref c3, .ref c4, .ref c5]), (c1, ai g 60 x), (c2, ai g 61 F), (c3, ai g 60 Ls), (c4, ai g 60 Nm), (c5, ai g 60 Dn)] 0 0 [(0, .ref a), (1, jv i)] 4 [jv 0]
    exact absurd f_1 (by omega)

set_option maxRecDepth 100000 in
theorem hiX0_slopeDen_0 : ∀ w ∈ wsX00, w ∈ wsX0_slopeDen := by decide +kernel
set_option maxRecDepth 100000 in
theorem hfX0_slopeDen_24 : Cond.fieldLink RX0 24 "KeyGuess$Cuts" "slopeDens" "[I" ∈ wsX0_slopeDen := by decide +kernel
set_option maxHeartbeats 4000000 in
set_option maxRecDepth 100000 in
/-- Cuts.slopeDen -/
theorem ctX0_slopeDen (l : Launch) (g : xG) (a : Nat) (c1 : Nat) (c2 : Nat) (c3 : Nat) (c4 : Nat) (c5 : Nat) (x : Int → Int) (F : Int → Int) (Ls : Int → Int) (Nm : Int → Int) (Dn : Int → Int) (i : Int) (hi : 0 ≤ i ∧ i < 60) : Ct l g yX0_slopeDen wsX0_slopeDen ({ frames := 1, cells := 0, slots := 0, locals := 20 } : Room) 0 0 [(a, ob 0 [.ref c1, .ref c2, .ref c3, .ref c4, .ref c5]), (c1, ai g 60 x), (c2, ai g 61 F), (c3, ai g 60 Ls), (c4, ai g 60 Nm), (c5, ai g 60 Dn)] [.ref a, jv i] (fun v u => v = some (jv (Dn i)) ∧ u = [(a, ob 0 [.ref c1, .ref c2, .ref c3, .ref c4, .ref c5]), (c1, ai g 60 x), (c2, ai g 61 F), (c3, ai g 60 Ls), (c4, ai g 60 Nm), (c5, ai g 60 Dn)] ∧ (True)) := by
  refine ct_of (cc := cX0_slopeDen) (nL := 2) (ret := (some .int)) (by decide) rfl (Nat.le_of_ble_eq_true rfl) ?_
  intro E C Rt0
  have C : Cx l g E ({ frames := 1, cells := 0, slots := 0, locals := 20 } : Room) RX0 "slopeDen" cX0_slopeDen wsX0_slopeDen 2 := C
  show X l g E ({ frames := 1, cells := 0, slots := 0, locals := 20 } : Room) 2 [(a, ob 0 [.ref c1, .ref c2, .ref c3, .ref c4, .ref c5]), (c1, ai g 60 x), (c2, ai g 61 F), (c3, ai g 60 Ls), (c4, ai g 60 Nm), (c5, ai g 60 Dn)] 0 0 [(0, .ref a), (1, jv i)] 0 []
  refine x_iload_n (pc := 0) C 1 dX0_slopeDen_0 rfl ?_
  refine x_callS (pc := 1) C (n := 1) (rest := []) (wr := [(a, ob 0 [.ref c1, .ref c2, .ref c3, .ref c4, .ref c5]), (c1, ai g 60 x), (c2, ai g 61 F), (c3, ai g 60 Ls), (c4, ai g 60 Nm), (c5, ai g 60 Dn)]) [] [0, 1, 2, 3, 4, 5] (ctX0_isRank l g i ⟨by omega, by omega⟩) gX0_slopeDen_X0_isRank rfl (by decide +kernel) ⟨rfl, rfl⟩ ⟨by decide, by decide⟩ rfl rfl rfl (by decide) (by decide) (by decide) rfl (Nat.le_of_ble_eq_true rfl) dX0_slopeDen_1 ⟨by decide, by decide⟩ (fun v_1 u_1 h_1 => ?_)
  rcases h_1 with ⟨rfl, rfl, f_1⟩ | ⟨rfl, rfl, f_1⟩
  · refine x_world (ws' := [(a, ob 0 [.ref c1, .ref c2, .ref c3, .ref c4, .ref c5]), (c1, ai g 60 x), (c2, ai g 61 F), (c3, ai g 60 Ls), (c4, ai g 60 Nm), (c5, ai g 60 Dn)]) [0, 1, 2, 3, 4, 5] (by decide) rfl ?_
    show X l g E ({ frames := 1, cells := 0, slots := 0, locals := 20 } : Room) 2 [(a, ob 0 [.ref c1, .ref c2, .ref c3, .ref c4, .ref c5]), (c1, ai g 60 x), (c2, ai g 61 F), (c3, ai g 60 Ls), (c4, ai g 60 Nm), (c5, ai g 60 Dn)] 0 0 [(0, .ref a), (1, jv i)] 4 [jv 1]
    refine x_if_eq (pc := 4) C 16 dX0_slopeDen_4 rfl ⟨by decide, by decide⟩ (fun h => absurd h (by decide)) (fun _ => ?_)
    refine x_aload_n (pc := 7) C 0 dX0_slopeDen_7 rfl ?_
    refine x_get (pc := 8) C 0 4 dX0_slopeDen_8 hiX0_slopeDen_0 hfX0_slopeDen_24 rfl rfl rfl (by decide) rfl ?_
    refine x_iload_n (pc := 11) C 1 dX0_slopeDen_11 rfl ?_
    refine x_iald (pc := 12) C 5 dX0_slopeDen_12 rfl (by omega) (by omega) (by decide) ?_
    refine x_goto (pc := 13) C 17 dX0_slopeDen_13 rfl ?_
    refine x_iret (pc := 17) C Rt0 dX0_slopeDen_17 rfl ?_
    refine ⟨rfl, rfl, ?_⟩
    trivial
  · refine x_world (ws' := [(a, ob 0 [.ref c1, .ref c2, .ref c3, .ref c4, .ref c5]), (c1, ai g 60 x), (c2, ai g 61 F), (c3, ai g 60 Ls), (c4, ai g 60 Nm), (c5, ai g 60 Dn)]) [0, 1, 2, 3, 4, 5] (by decide) rfl ?_
    show X l g E ({ frames := 1, cells := 0, slots := 0, locals := 20 } : Room) 2 [(a, ob 0 [.ref c1, .ref c2, .ref c3, .ref c4, .ref c5]), (c1, ai g 60 x), (c2, ai g 61 F), (c3, ai g 60 Ls), (c4, ai g 60 Nm), (c5, ai g 60 Dn)] 0 0 [(0, .ref a), (1, jv i)] 4 [jv 0]
    exact absurd f_1 (by omega)

set_option maxRecDepth 100000 in
theorem hiX0_cutFrom_0 : ∀ w ∈ wsX00, w ∈ wsX0_cutFrom := by decide +kernel
set_option maxRecDepth 100000 in
theorem hfX0_cutFrom_15 : Cond.fieldLink RX0 15 "KeyGuess$Cuts" "fewest" "[I" ∈ wsX0_cutFrom := by decide +kernel
set_option maxRecDepth 100000 in
theorem hfX0_cutFrom_18 : Cond.fieldLink RX0 18 "KeyGuess$Cuts" "lasts" "[I" ∈ wsX0_cutFrom := by decide +kernel
set_option maxRecDepth 100000 in
theorem hfX0_cutFrom_21 : Cond.fieldLink RX0 21 "KeyGuess$Cuts" "slopeNums" "[I" ∈ wsX0_cutFrom := by decide +kernel
set_option maxRecDepth 100000 in
theorem hfX0_cutFrom_24 : Cond.fieldLink RX0 24 "KeyGuess$Cuts" "slopeDens" "[I" ∈ wsX0_cutFrom := by decide +kernel
set_option maxRecDepth 100000 in
theorem hfX0_cutFrom_9 : Cond.fieldLink RX0 9 "KeyGuess$Cuts" "cells" "[I" ∈ wsX0_cutFrom := by decide +kernel
set_option maxHeartbeats 4000000 in
set_option maxRecDepth 100000 in
/-- Cuts.cutFrom -/
theorem ctX0_cutFrom (l : Launch) (g : xG) (a : Nat) (c1 : Nat) (c2 : Nat) (c3 : Nat) (c4 : Nat) (c5 : Nat) (x : Int → Int) (F : Int → Int) (Ls : Int → Int) (Nm : Int → Int) (Dn : Int → Int) (i : Int) (n : Int) (e : Int) (hk : Kr n x) (he : 0 ≤ e ∧ e ≤ 8) (hi : 0 ≤ i ∧ i < n) (hF : ∀ k : Int, i < k → k ≤ n → 0 ≤ F k ∧ F k ≤ 60) : Ct l g yX0_cutFrom wsX0_cutFrom ({ frames := 0, cells := 0, slots := 0, locals := 0 } : Room) 0 0 [(a, ob 0 [.ref c1, .ref c2, .ref c3, .ref c4, .ref c5]), (c1, ai g 60 x), (c2, ai g 61 F), (c3, ai g 60 Ls), (c4, ai g 60 Nm), (c5, ai g 60 Dn)] [.ref a, jv i, jv n, jv e] (fun v u => ∃ (F' : Int → Int) (L' : Int → Int) (N' : Int → Int) (D' : Int → Int), v = none ∧ u = [(a, ob 0 [.ref c1, .ref c2, .ref c3, .ref c4, .ref c5]), (c1, ai g 60 x), (c2, ai g 61 F'), (c3, ai g 60 L'), (c4, ai g 60 N'), (c5, ai g 60 D')] ∧ ((∀ k : Int, k ≠ i → F' k = F k) ∧ (∀ k : Int, k ≠ i → L' k = Ls k) ∧ (∀ k : Int, k ≠ i → N' k = Nm k) ∧ (∀ k : Int, k ≠ i → D' k = Dn k) ∧ Cs x e n F' i (L' i) (N' i) (D' i))) := by
  refine ct_of (cc := cX0_cutFrom) (nL := 12) (ret := none) (by decide) rfl (Nat.le_of_ble_eq_true rfl) ?_
  intro E C Rt0
  have C : Cx l g E ({ frames := 0, cells := 0, slots := 0, locals := 0 } : Room) RX0 "cutFrom" cX0_cutFrom wsX0_cutFrom 12 := C
  show X l g E ({ frames := 0, cells := 0, slots := 0, locals := 0 } : Room) 12 [(a, ob 0 [.ref c1, .ref c2, .ref c3, .ref c4, .ref c5]), (c1, ai g 60 x), (c2, ai g 61 F), (c3, ai g 60 Ls), (c4, ai g 60 Nm), (c5, ai g 60 Dn)] 0 0 [(0, .ref a), (1, jv i), (2, jv n), (3, jv e)] 0 []
  have hn0 := hk.1
  have hn1 := hk.2.1
  refine x_iload_n (pc := 0) C 1 dX0_cutFrom_0 rfl ?_
  refine x_if_lt (pc := 1) C 15 dX0_cutFrom_1 rfl ⟨by omega, by omega⟩ (fun c_1 => ?_) (fun c_1 => ?_)
  · omega
  · refine x_iload_n (pc := 4) C 1 dX0_cutFrom_4 rfl ?_
    refine x_iload_n (pc := 5) C 2 dX0_cutFrom_5 rfl ?_
    refine x_icmp_ge (pc := 6) C 15 dX0_cutFrom_6 rfl ⟨by omega, by omega⟩ ⟨by omega, by omega⟩ (fun c_6 => ?_) (fun c_6 => ?_)
    · omega
    · refine x_iload_n (pc := 9) C 2 dX0_cutFrom_9 rfl ?_
      refine x_bipush (pc := 10) C dX0_cutFrom_10 rfl ?_
      refine x_icmp_le (pc := 12) C 16 dX0_cutFrom_12 rfl ⟨by omega, by omega⟩ ⟨by omega, by omega⟩ (fun c_12 => ?_) (fun c_12 => ?_)
      · refine x_iconst (pc := 16) C dX0_cutFrom_16 ?_
        refine x_istore (pc := 17) C (lv' := [(4, jv 0), (0, .ref a), (1, jv i), (2, jv n), (3, jv e)]) dX0_cutFrom_17 (by decide) rfl ?_
        refine x_iconst (pc := 19) C dX0_cutFrom_19 ?_
        refine x_istore (pc := 20) C (lv' := [(5, jv 1), (4, jv 0), (0, .ref a), (1, jv i), (2, jv n), (3, jv e)]) dX0_cutFrom_20 (by decide) rfl ?_
        refine x_iconst (pc := 22) C dX0_cutFrom_22 ?_
        refine x_istore (pc := 23) C (lv' := [(6, jv 1), (5, jv 1), (4, jv 0), (0, .ref a), (1, jv i), (2, jv n), (3, jv e)]) dX0_cutFrom_23 (by decide) rfl ?_
        refine x_iconst (pc := 25) C dX0_cutFrom_25 ?_
        refine x_istore (pc := 26) C (lv' := [(7, jv 0), (6, jv 1), (5, jv 1), (4, jv 0), (0, .ref a), (1, jv i), (2, jv n), (3, jv e)]) dX0_cutFrom_26 (by decide) rfl ?_
        refine x_aload_n (pc := 28) C 4 dX0_cutFrom_28 rfl ?_
        refine x_get (pc := 29) C 0 1 dX0_cutFrom_29 hiX0_cutFrom_0 hfX0_cutFrom_15 rfl rfl rfl (by decide) rfl ?_
        refine x_iload_n (pc := 32) C 5 dX0_cutFrom_32 rfl ?_
        refine x_aload_n (pc := 33) C 4 dX0_cutFrom_33 rfl ?_
        refine x_get (pc := 34) C 0 1 dX0_cutFrom_34 hiX0_cutFrom_0 hfX0_cutFrom_15 rfl rfl rfl (by decide) rfl ?_
        refine x_iload_n (pc := 37) C 5 dX0_cutFrom_37 rfl ?_
        refine x_iconst (pc := 38) C dX0_cutFrom_38 ?_
        refine x_iadd (pc := 39) C dX0_cutFrom_39 ?_
        have hF1 := hF (i + 1) (by omega) (by omega)
        refine x_iald (pc := 40) C 2 dX0_cutFrom_40 rfl (by omega) (by omega) (by decide) ?_
        refine x_iconst (pc := 41) C dX0_cutFrom_41 ?_
        refine x_iadd (pc := 42) C dX0_cutFrom_42 ?_
        refine x_iast (pc := 43) C (ws' := [(a, ob 0 [.ref c1, .ref c2, .ref c3, .ref c4, .ref c5]), (c1, ai g 60 x), (c2, ai g 61 (up F i ((F (i + 1)) + 1))), (c3, ai g 60 Ls), (c4, ai g 60 Nm), (c5, ai g 60 Dn)]) 2 dX0_cutFrom_43 rfl (by omega) (by omega) (by decide) rfl ?_
        refine x_aload_n (pc := 44) C 4 dX0_cutFrom_44 rfl ?_
        refine x_get (pc := 45) C 0 2 dX0_cutFrom_45 hiX0_cutFrom_0 hfX0_cutFrom_18 rfl rfl rfl (by decide) rfl ?_
        refine x_iload_n (pc := 48) C 5 dX0_cutFrom_48 rfl ?_
        refine x_iload_n (pc := 49) C 5 dX0_cutFrom_49 rfl ?_
        refine x_iast (pc := 50) C (ws' := [(a, ob 0 [.ref c1, .ref c2, .ref c3, .ref c4, .ref c5]), (c1, ai g 60 x), (c2, ai g 61 (up F i ((F (i + 1)) + 1))), (c3, ai g 60 (up Ls i i)), (c4, ai g 60 Nm), (c5, ai g 60 Dn)]) 3 dX0_cutFrom_50 rfl (by omega) (by omega) (by decide) rfl ?_
        refine x_aload_n (pc := 51) C 4 dX0_cutFrom_51 rfl ?_
        refine x_get (pc := 52) C 0 3 dX0_cutFrom_52 hiX0_cutFrom_0 hfX0_cutFrom_21 rfl rfl rfl (by decide) rfl ?_
        refine x_iload_n (pc := 55) C 5 dX0_cutFrom_55 rfl ?_
        refine x_iload (pc := 56) C 3 dX0_cutFrom_56 rfl ?_
        refine x_iast (pc := 58) C (ws' := [(a, ob 0 [.ref c1, .ref c2, .ref c3, .ref c4, .ref c5]), (c1, ai g 60 x), (c2, ai g 61 (up F i ((F (i + 1)) + 1))), (c3, ai g 60 (up Ls i i)), (c4, ai g 60 (up Nm i 0)), (c5, ai g 60 Dn)]) 4 dX0_cutFrom_58 rfl (by omega) (by omega) (by decide) rfl ?_
        refine x_aload_n (pc := 59) C 4 dX0_cutFrom_59 rfl ?_
        refine x_get (pc := 60) C 0 4 dX0_cutFrom_60 hiX0_cutFrom_0 hfX0_cutFrom_24 rfl rfl rfl (by decide) rfl ?_
        refine x_iload_n (pc := 63) C 5 dX0_cutFrom_63 rfl ?_
        refine x_iload (pc := 64) C 2 dX0_cutFrom_64 rfl ?_
        refine x_iast (pc := 66) C (ws' := [(a, ob 0 [.ref c1, .ref c2, .ref c3, .ref c4, .ref c5]), (c1, ai g 60 x), (c2, ai g 61 (up F i ((F (i + 1)) + 1))), (c3, ai g 60 (up Ls i i)), (c4, ai g 60 (up Nm i 0)), (c5, ai g 60 (up Dn i 1))]) 5 dX0_cutFrom_66 rfl (by omega) (by omega) (by decide) rfl ?_
        refine x_iload_n (pc := 67) C 5 dX0_cutFrom_67 rfl ?_
        refine x_iconst (pc := 68) C dX0_cutFrom_68 ?_
        refine x_iadd (pc := 69) C dX0_cutFrom_69 ?_
        refine x_istore (pc := 70) C (lv' := [(8, jv (i + 1)), (7, jv 0), (6, jv 1), (5, jv 1), (4, jv 0), (0, .ref a), (1, jv i), (2, jv n), (3, jv e)]) dX0_cutFrom_70 (by decide) rfl ?_
        have L72 : ∀ (nn : Nat) (j : Int) (d : Nat) (ln : Int) (ld : Int) (hn : Int) (hd : Int) (F' : Int → Int) (L' : Int → Int) (N' : Int → Int) (D' : Int → Int), (n - j).toNat < nn → (j = i + (d : Int) + 1 ∧ j ≤ n) → (ln = (lw x e i d).1 ∧ ld = (lw x e i d).2) → (hgh x e i d hn hd) → (okd x e i d) → ((∀ k : Int, k ≠ i → F' k = F k) ∧ (∀ k : Int, k ≠ i → L' k = Ls k) ∧ (∀ k : Int, k ≠ i → N' k = Nm k) ∧ (∀ k : Int, k ≠ i → D' k = Dn k)) → (∃ b : Nat, b ≤ d ∧ L' i = i + (b : Int) ∧ F' i = F (i + (b : Int) + 1) + 1 ∧ (∀ d' : Nat, d' ≤ d → F' i ≤ F (i + (d' : Int) + 1) + 1) ∧ (∀ d' : Nat, b < d' → d' ≤ d → F' i < F (i + (d' : Int) + 1) + 1) ∧ N' i = (lw x e i b).1 ∧ D' i = (lw x e i b).2) → X l g E ({ frames := 0, cells := 0, slots := 0, locals := 0 } : Room) 12 [(a, ob 0 [.ref c1, .ref c2, .ref c3, .ref c4, .ref c5]), (c1, ai g 60 x), (c2, ai g 61 F'), (c3, ai g 60 L'), (c4, ai g 60 N'), (c5, ai g 60 D')] 0 0 [(0, .ref a), (1, jv i), (2, jv n), (3, jv e), (4, jv ln), (5, jv ld), (6, jv hn), (7, jv hd), (8, jv j)] 72 [] := by
          intro nn
          induction nn with
          | zero => intro j d ln ld hn hd F' L' N' D' hμ; exact absurd hμ (Nat.not_lt_zero _)
          | succ nn ih72 =>
            intro j d ln ld hn hd F' L' N' D' hμ hj hl hh hok hoff hbest
            refine x_iload (pc := 72) C 8 dX0_cutFrom_72 rfl ?_
            refine x_iload_n (pc := 74) C 2 dX0_cutFrom_74 rfl ?_
            refine x_icmp_ge (pc := 75) C 235 dX0_cutFrom_75 rfl ⟨by omega, by omega⟩ ⟨by omega, by omega⟩ (fun c_75 => ?_) (fun c_75 => ?_)
            · refine x_vret (pc := 235) C Rt0 dX0_cutFrom_235 rfl ?_
              refine ⟨_, _, _, _, rfl, rfl, ?_⟩
              obtain ⟨b, b1, b2, b3, b4, b5, b6, b7⟩ := hbest
              refine ⟨hoff.1, hoff.2.1, hoff.2.2.1, hoff.2.2.2, b, by omega, okd_le hok b1, b2, by rw [hoff.1 (i + (b : Int) + 1) (by omega)]; exact b3, fun d' q1 q2 => ?_, fun d' q0 q1 q2 => ?_, b6, b7⟩
              · rw [hoff.1 (i + (d' : Int) + 1) (by omega)]; exact b4 d' (by omega)
              · rw [hoff.1 (i + (d' : Int) + 1) (by omega)]; exact b5 d' q0 (by omega)
            · have hlr := lw_rg hk he.1 hi.1 d (by omega)
              have hhr := hgh_rg hk he hi.1 (d := d) (by omega) hh
              have hgp := hk.gap hi.1 (j := j) (by omega) (by omega)
              refine x_aload_n (pc := 78) C 0 dX0_cutFrom_78 rfl ?_
              refine x_get (pc := 79) C 0 0 dX0_cutFrom_79 hiX0_cutFrom_0 hfX0_cutFrom_9 rfl rfl rfl (by decide) rfl ?_
              refine x_iload (pc := 82) C 8 dX0_cutFrom_82 rfl ?_
              refine x_iald (pc := 84) C 1 dX0_cutFrom_84 rfl (by omega) (by omega) (by decide) ?_
              refine x_aload_n (pc := 85) C 0 dX0_cutFrom_85 rfl ?_
              refine x_get (pc := 86) C 0 0 dX0_cutFrom_86 hiX0_cutFrom_0 hfX0_cutFrom_9 rfl rfl rfl (by decide) rfl ?_
              refine x_iload_n (pc := 89) C 1 dX0_cutFrom_89 rfl ?_
              refine x_iald (pc := 90) C 1 dX0_cutFrom_90 rfl (by omega) (by omega) (by decide) ?_
              refine x_isub (pc := 91) C dX0_cutFrom_91 ?_
              refine x_istore (pc := 92) C (lv' := [(9, jv ((x j) - (x i))), (0, .ref a), (1, jv i), (2, jv n), (3, jv e), (4, jv ln), (5, jv ld), (6, jv hn), (7, jv hd), (8, jv j)]) dX0_cutFrom_92 (by decide) rfl ?_
              refine x_iload (pc := 94) C 9 dX0_cutFrom_94 rfl ?_
              refine x_iload_n (pc := 96) C 2 dX0_cutFrom_96 rfl ?_
              refine x_isub (pc := 97) C dX0_cutFrom_97 ?_
              refine x_iload_n (pc := 98) C 4 dX0_cutFrom_98 rfl ?_
              refine x_isub (pc := 99) C dX0_cutFrom_99 ?_
              refine x_istore (pc := 100) C (lv' := [(10, jv ((j - i) - e)), (9, jv ((x j) - (x i))), (0, .ref a), (1, jv i), (2, jv n), (3, jv e), (4, jv ln), (5, jv ld), (6, jv hn), (7, jv hd), (8, jv j)]) dX0_cutFrom_100 (by decide) rfl ?_
              refine x_iload (pc := 102) C 10 dX0_cutFrom_102 rfl ?_
              refine x_iload_n (pc := 104) C 3 dX0_cutFrom_104 rfl ?_
              refine x_isub (pc := 105) C dX0_cutFrom_105 ?_
              refine x_iload_n (pc := 106) C 5 dX0_cutFrom_106 rfl ?_
              refine x_iadd (pc := 107) C dX0_cutFrom_107 ?_
              refine x_istore (pc := 108) C (lv' := [(11, jv ((j - i) + e)), (10, jv ((j - i) - e)), (9, jv ((x j) - (x i))), (0, .ref a), (1, jv i), (2, jv n), (3, jv e), (4, jv ln), (5, jv ld), (6, jv hn), (7, jv hd), (8, jv j)]) dX0_cutFrom_108 (by decide) rfl ?_
              have L131 : ∀ (ln2 : Int) (ld2 : Int), (ln2 = (lw x e i (d + 1)).1 ∧ ld2 = (lw x e i (d + 1)).2) → X l g E ({ frames := 0, cells := 0, slots := 0, locals := 0 } : Room) 12 [(a, ob 0 [.ref c1, .ref c2, .ref c3, .ref c4, .ref c5]), (c1, ai g 60 x), (c2, ai g 61 F'), (c3, ai g 60 L'), (c4, ai g 60 N'), (c5, ai g 60 D')] 0 0 [(0, .ref a), (1, jv i), (2, jv n), (3, jv e), (4, jv ln2), (5, jv ld2), (6, jv hn), (7, jv hd), (8, jv j), (9, jv ((x j) - (x i))), (11, jv ((j - i) + e))] 131 [] := by
                intro ln2 ld2 hl2
                have L152 : ∀ (hn2 : Int) (hd2 : Int), (hgh x e i (d + 1) hn2 hd2) → X l g E ({ frames := 0, cells := 0, slots := 0, locals := 0 } : Room) 12 [(a, ob 0 [.ref c1, .ref c2, .ref c3, .ref c4, .ref c5]), (c1, ai g 60 x), (c2, ai g 61 F'), (c3, ai g 60 L'), (c4, ai g 60 N'), (c5, ai g 60 D')] 0 0 [(0, .ref a), (1, jv i), (2, jv n), (3, jv e), (4, jv ln2), (5, jv ld2), (6, jv hn2), (7, jv hd2), (8, jv j), (9, jv ((x j) - (x i)))] 152 [] := by
                  intro hn2 hd2 hh2
                  have hlr2 := lw_rg hk he.1 hi.1 (d + 1) (by omega)
                  have hhr2 := hgh_rg hk he hi.1 (d := d + 1) (by omega) hh2
                  have hpr1 := mrg (a := ln2) (b := hd2) (by omega) (by omega)
                  have hpr2 := mrg (a := hn2) (b := ld2) (by omega) (by omega)
                  refine x_iload (pc := 152) C 4 dX0_cutFrom_152 rfl ?_
                  refine x_iload (pc := 154) C 7 dX0_cutFrom_154 rfl ?_
                  refine x_imul (pc := 156) C dX0_cutFrom_156 ?_
                  refine x_iload (pc := 157) C 6 dX0_cutFrom_157 rfl ?_
                  refine x_iload (pc := 159) C 5 dX0_cutFrom_159 rfl ?_
                  refine x_imul (pc := 161) C dX0_cutFrom_161 ?_
                  refine x_icmp_le (pc := 162) C 168 dX0_cutFrom_162 rfl ⟨by omega, by omega⟩ ⟨by omega, by omega⟩ (fun c_162 => ?_) (fun c_162 => ?_)
                  · refine x_aload_n (pc := 168) C 0 dX0_cutFrom_168 rfl ?_
                    refine x_get (pc := 169) C 0 1 dX0_cutFrom_169 hiX0_cutFrom_0 hfX0_cutFrom_15 rfl rfl rfl (by decide) rfl ?_
                    refine x_iload (pc := 172) C 8 dX0_cutFrom_172 rfl ?_
                    refine x_iconst (pc := 174) C dX0_cutFrom_174 ?_
                    refine x_iadd (pc := 175) C dX0_cutFrom_175 ?_
                    refine x_iald (pc := 176) C 2 dX0_cutFrom_176 rfl (by omega) (by omega) (by decide) ?_
                    refine x_iconst (pc := 177) C dX0_cutFrom_177 ?_
                    refine x_iadd (pc := 178) C dX0_cutFrom_178 ?_
                    refine x_aload_n (pc := 179) C 0 dX0_cutFrom_179 rfl ?_
                    refine x_get (pc := 180) C 0 1 dX0_cutFrom_180 hiX0_cutFrom_0 hfX0_cutFrom_15 rfl rfl rfl (by decide) rfl ?_
                    refine x_iload_n (pc := 183) C 1 dX0_cutFrom_183 rfl ?_
                    refine x_iald (pc := 184) C 2 dX0_cutFrom_184 rfl (by omega) (by omega) (by decide) ?_
                    have hFj := hF (j + 1) (by omega) (by omega)
                    have hFj' := hoff.1 (j + 1) (by omega)
                    have hFi : 0 ≤ F' i ∧ F' i ≤ 61 := by
                      obtain ⟨b, b1, b2, b3, _⟩ := hbest
                      have := hF (i + (b : Int) + 1) (by omega) (by omega)
                      omega
                    refine x_icmp_gt (pc := 185) C 229 dX0_cutFrom_185 rfl ⟨by omega, by omega⟩ ⟨by omega, by omega⟩ (fun c_185 => ?_) (fun c_185 => ?_)
                    · refine x_iinc (pc := 229) C (lv' := [(8, jv (j + 1)), (0, .ref a), (1, jv i), (2, jv n), (3, jv e), (4, jv ln2), (5, jv ld2), (6, jv hn2), (7, jv hd2), (9, jv ((x j) - (x i)))]) 8 dX0_cutFrom_229 rfl (by decide) rfl ?_
                      refine x_goto (pc := 232) C 72 dX0_cutFrom_232 rfl ?_
                      refine x_locals (lv' := [(0, .ref a), (1, jv i), (2, jv n), (3, jv e), (4, jv ln2), (5, jv ld2), (6, jv hn2), (7, jv hd2), (8, jv (j + 1))]) [1, 2, 3, 4, 5, 6, 7, 8, 0] rfl ?_
                      refine ih72 _ (d + 1) _ _ _ _ _ _ _ _ ?_ ?_ ?_ ?_ ?_ ?_ ?_
                      · omega
                      · omega
                      · exact hl2
                      · exact hh2
                      · exact okd_s hok ((hgh_kp hk he hi.1 (by omega) hh2).mp (by rw [← hl2.1, ← hl2.2]; omega))
                      · exact hoff
                      · obtain ⟨b, b1, b2, b3, b4, b5, b6, b7⟩ := hbest
                        rw [hoff.1 (j + 1) (by omega)] at c_185
                        have hj2 : F (j + 1) = F (i + ((d + 1 : Nat) : Int) + 1) := by rw [show j + 1 = i + ((d + 1 : Nat) : Int) + 1 by omega]
                        refine ⟨b, by omega, b2, b3, fun d' hd' => ?_, fun d' h1 h2 => ?_, b6, b7⟩
                        · by_cases q : d' = d + 1
                          · rw [q]; omega
                          · exact b4 d' (by omega)
                        · by_cases q : d' = d + 1
                          · rw [q]; omega
                          · exact b5 d' h1 (by omega)
                    · refine x_aload_n (pc := 188) C 0 dX0_cutFrom_188 rfl ?_
                      refine x_get (pc := 189) C 0 1 dX0_cutFrom_189 hiX0_cutFrom_0 hfX0_cutFrom_15 rfl rfl rfl (by decide) rfl ?_
                      refine x_iload_n (pc := 192) C 1 dX0_cutFrom_192 rfl ?_
                      refine x_aload_n (pc := 193) C 0 dX0_cutFrom_193 rfl ?_
                      refine x_get (pc := 194) C 0 1 dX0_cutFrom_194 hiX0_cutFrom_0 hfX0_cutFrom_15 rfl rfl rfl (by decide) rfl ?_
                      refine x_iload (pc := 197) C 8 dX0_cutFrom_197 rfl ?_
                      refine x_iconst (pc := 199) C dX0_cutFrom_199 ?_
                      refine x_iadd (pc := 200) C dX0_cutFrom_200 ?_
                      refine x_iald (pc := 201) C 2 dX0_cutFrom_201 rfl (by omega) (by omega) (by decide) ?_
                      refine x_iconst (pc := 202) C dX0_cutFrom_202 ?_
                      refine x_iadd (pc := 203) C dX0_cutFrom_203 ?_
                      refine x_iast (pc := 204) C (ws' := [(a, ob 0 [.ref c1, .ref c2, .ref c3, .ref c4, .ref c5]), (c1, ai g 60 x), (c2, ai g 61 (up F' i ((F' (j + 1)) + 1))), (c3, ai g 60 L'), (c4, ai g 60 N'), (c5, ai g 60 D')]) 2 dX0_cutFrom_204 rfl (by omega) (by omega) (by decide) rfl ?_
                      refine x_aload_n (pc := 205) C 0 dX0_cutFrom_205 rfl ?_
                      refine x_get (pc := 206) C 0 2 dX0_cutFrom_206 hiX0_cutFrom_0 hfX0_cutFrom_18 rfl rfl rfl (by decide) rfl ?_
                      refine x_iload_n (pc := 209) C 1 dX0_cutFrom_209 rfl ?_
                      refine x_iload (pc := 210) C 8 dX0_cutFrom_210 rfl ?_
                      refine x_iast (pc := 212) C (ws' := [(a, ob 0 [.ref c1, .ref c2, .ref c3, .ref c4, .ref c5]), (c1, ai g 60 x), (c2, ai g 61 (up F' i ((F' (j + 1)) + 1))), (c3, ai g 60 (up L' i j)), (c4, ai g 60 N'), (c5, ai g 60 D')]) 3 dX0_cutFrom_212 rfl (by omega) (by omega) (by decide) rfl ?_
                      refine x_aload_n (pc := 213) C 0 dX0_cutFrom_213 rfl ?_
                      refine x_get (pc := 214) C 0 3 dX0_cutFrom_214 hiX0_cutFrom_0 hfX0_cutFrom_21 rfl rfl rfl (by decide) rfl ?_
                      refine x_iload_n (pc := 217) C 1 dX0_cutFrom_217 rfl ?_
                      refine x_iload (pc := 218) C 4 dX0_cutFrom_218 rfl ?_
                      refine x_iast (pc := 220) C (ws' := [(a, ob 0 [.ref c1, .ref c2, .ref c3, .ref c4, .ref c5]), (c1, ai g 60 x), (c2, ai g 61 (up F' i ((F' (j + 1)) + 1))), (c3, ai g 60 (up L' i j)), (c4, ai g 60 (up N' i ln2)), (c5, ai g 60 D')]) 4 dX0_cutFrom_220 rfl (by omega) (by omega) (by decide) rfl ?_
                      refine x_aload_n (pc := 221) C 0 dX0_cutFrom_221 rfl ?_
                      refine x_get (pc := 222) C 0 4 dX0_cutFrom_222 hiX0_cutFrom_0 hfX0_cutFrom_24 rfl rfl rfl (by decide) rfl ?_
                      refine x_iload_n (pc := 225) C 1 dX0_cutFrom_225 rfl ?_
                      refine x_iload (pc := 226) C 5 dX0_cutFrom_226 rfl ?_
                      refine x_iast (pc := 228) C (ws' := [(a, ob 0 [.ref c1, .ref c2, .ref c3, .ref c4, .ref c5]), (c1, ai g 60 x), (c2, ai g 61 (up F' i ((F' (j + 1)) + 1))), (c3, ai g 60 (up L' i j)), (c4, ai g 60 (up N' i ln2)), (c5, ai g 60 (up D' i ld2))]) 5 dX0_cutFrom_228 rfl (by omega) (by omega) (by decide) rfl ?_
                      refine x_iinc (pc := 229) C (lv' := [(8, jv (j + 1)), (0, .ref a), (1, jv i), (2, jv n), (3, jv e), (4, jv ln2), (5, jv ld2), (6, jv hn2), (7, jv hd2), (9, jv ((x j) - (x i)))]) 8 dX0_cutFrom_229 rfl (by decide) rfl ?_
                      refine x_goto (pc := 232) C 72 dX0_cutFrom_232 rfl ?_
                      refine x_locals (lv' := [(0, .ref a), (1, jv i), (2, jv n), (3, jv e), (4, jv ln2), (5, jv ld2), (6, jv hn2), (7, jv hd2), (8, jv (j + 1))]) [1, 2, 3, 4, 5, 6, 7, 8, 0] rfl ?_
                      refine ih72 _ (d + 1) _ _ _ _ _ _ _ _ ?_ ?_ ?_ ?_ ?_ ?_ ?_
                      · omega
                      · omega
                      · exact hl2
                      · exact hh2
                      · exact okd_s hok ((hgh_kp hk he hi.1 (by omega) hh2).mp (by rw [← hl2.1, ← hl2.2]; omega))
                      · exact ⟨fun k h => by rw [up_ne _ _ h]; exact hoff.1 k h, fun k h => by rw [up_ne _ _ h]; exact hoff.2.1 k h, fun k h => by rw [up_ne _ _ h]; exact hoff.2.2.1 k h, fun k h => by rw [up_ne _ _ h]; exact hoff.2.2.2 k h⟩
                      · obtain ⟨b, b1, b2, b3, b4, b5, b6, b7⟩ := hbest
                        rw [hoff.1 (j + 1) (by omega)] at c_185 ⊢
                        have hj2 : F (j + 1) = F (i + ((d + 1 : Nat) : Int) + 1) := by rw [show j + 1 = i + ((d + 1 : Nat) : Int) + 1 by omega]
                        refine ⟨d + 1, Nat.le_refl _, by rw [up_eq]; omega, by rw [up_eq, hj2], fun d' hd' => ?_, fun d' h1 h2 => absurd h1 (by omega), by rw [up_eq]; exact hl2.1, by rw [up_eq]; exact hl2.2⟩
                        rw [up_eq]
                        by_cases q : d' = d + 1
                        · rw [q]; omega
                        · have := b4 d' (by omega)
                          omega
                  · refine x_goto (pc := 165) C 235 dX0_cutFrom_165 rfl ?_
                    refine x_vret (pc := 235) C Rt0 dX0_cutFrom_235 rfl ?_
                    refine ⟨_, _, _, _, rfl, rfl, ?_⟩
                    obtain ⟨b, b1, b2, b3, b4, b5, b6, b7⟩ := hbest
                    refine ⟨hoff.1, hoff.2.1, hoff.2.2.1, hoff.2.2.2, b, by omega, okd_le hok b1, b2, by rw [hoff.1 (i + (b : Int) + 1) (by omega)]; exact b3, fun d' q1 q2 => ?_, fun d' q0 q1 q2 => ?_, b6, b7⟩
                    · rw [hoff.1 (i + (d' : Int) + 1) (by omega)]
                      rcases Nat.lt_or_ge d d' with z | z
                      · exact absurd ((hgh_kp hk he hi.1 (by omega) hh2).mpr (q1 (d + 1) (by omega) (by omega))) (by rw [← hl2.1, ← hl2.2]; omega)
                      · exact b4 d' z
                    · rw [hoff.1 (i + (d' : Int) + 1) (by omega)]
                      rcases Nat.lt_or_ge d d' with z | z
                      · exact absurd ((hgh_kp hk he hi.1 (by omega) hh2).mpr (q1 (d + 1) (by omega) (by omega))) (by rw [← hl2.1, ← hl2.2]; omega)
                      · exact b5 d' q0 z
                refine x_iload (pc := 131) C 10 dX0_cutFrom_131 rfl ?_
                refine x_iload (pc := 133) C 7 dX0_cutFrom_133 rfl ?_
                refine x_imul (pc := 135) C dX0_cutFrom_135 ?_
                refine x_iload (pc := 136) C 6 dX0_cutFrom_136 rfl ?_
                refine x_iload (pc := 138) C 9 dX0_cutFrom_138 rfl ?_
                refine x_imul (pc := 140) C dX0_cutFrom_140 ?_
                refine x_icmp_ge (pc := 141) C 152 dX0_cutFrom_141 rfl (mrgR (by omega) (by omega)) (mrgR (by omega) (by omega)) (fun c_141 => ?_) (fun c_141 => ?_)
                · refine x_locals (lv' := [(0, .ref a), (1, jv i), (2, jv n), (3, jv e), (4, jv ln2), (5, jv ld2), (6, jv hn), (7, jv hd), (8, jv j), (9, jv ((x j) - (x i)))]) [0, 1, 2, 3, 4, 5, 6, 7, 8, 9] rfl ?_
                  refine L152 _ _ ?_
                  · exact hgh_f hk he hi.1 hj.1 (by omega) hh (Int.not_lt.mpr c_141)
                · refine x_iload (pc := 144) C 10 dX0_cutFrom_144 rfl ?_
                  refine x_istore (pc := 146) C (lv' := [(6, jv ((j - i) + e)), (0, .ref a), (1, jv i), (2, jv n), (3, jv e), (4, jv ln2), (5, jv ld2), (7, jv hd), (8, jv j), (9, jv ((x j) - (x i))), (11, jv ((j - i) + e))]) dX0_cutFrom_146 (by decide) rfl ?_
                  refine x_iload (pc := 148) C 9 dX0_cutFrom_148 rfl ?_
                  refine x_istore (pc := 150) C (lv' := [(7, jv ((x j) - (x i))), (6, jv ((j - i) + e)), (0, .ref a), (1, jv i), (2, jv n), (3, jv e), (4, jv ln2), (5, jv ld2), (8, jv j), (9, jv ((x j) - (x i))), (11, jv ((j - i) + e))]) dX0_cutFrom_150 (by decide) rfl ?_
                  refine x_locals (lv' := [(0, .ref a), (1, jv i), (2, jv n), (3, jv e), (4, jv ln2), (5, jv ld2), (6, jv ((j - i) + e)), (7, jv ((x j) - (x i))), (8, jv j), (9, jv ((x j) - (x i)))]) [2, 3, 4, 5, 6, 7, 1, 0, 8, 9] rfl ?_
                  refine L152 _ _ ?_
                  · exact hgh_t hk he hi.1 hj.1 (by omega) hh (Int.not_le.mp c_141)
              refine x_iload (pc := 110) C 1 dX0_cutFrom_110 rfl ?_
              refine x_iload (pc := 112) C 8 dX0_cutFrom_112 rfl ?_
              refine x_imul (pc := 114) C dX0_cutFrom_114 ?_
              refine x_iload (pc := 115) C 7 dX0_cutFrom_115 rfl ?_
              refine x_iload (pc := 117) C 2 dX0_cutFrom_117 rfl ?_
              refine x_imul (pc := 119) C dX0_cutFrom_119 ?_
              refine x_icmp_le (pc := 120) C 131 dX0_cutFrom_120 rfl (mrgR (by omega) (by omega)) (mrgR (by omega) (by omega)) (fun c_120 => ?_) (fun c_120 => ?_)
              · refine x_locals (lv' := [(0, .ref a), (1, jv i), (2, jv n), (3, jv e), (4, jv ln), (5, jv ld), (6, jv hn), (7, jv hd), (8, jv j), (9, jv ((x j) - (x i))), (11, jv ((j - i) + e))]) [3, 4, 5, 6, 7, 8, 9, 10, 11, 2, 0] rfl ?_
                refine L131 _ _ ?_
                · have q := lw_f (x := x) hj.1 (by rw [← hl.1, ← hl.2]; exact Int.not_lt.mpr c_120)
                  rw [q]; exact hl
              · refine x_iload (pc := 123) C 1 dX0_cutFrom_123 rfl ?_
                refine x_istore (pc := 125) C (lv' := [(4, jv ((j - i) - e)), (11, jv ((j - i) + e)), (10, jv ((j - i) - e)), (9, jv ((x j) - (x i))), (0, .ref a), (1, jv i), (2, jv n), (3, jv e), (5, jv ld), (6, jv hn), (7, jv hd), (8, jv j)]) dX0_cutFrom_125 (by decide) rfl ?_
                refine x_iload (pc := 127) C 3 dX0_cutFrom_127 rfl ?_
                refine x_istore (pc := 129) C (lv' := [(5, jv ((x j) - (x i))), (4, jv ((j - i) - e)), (11, jv ((j - i) + e)), (10, jv ((j - i) - e)), (9, jv ((x j) - (x i))), (0, .ref a), (1, jv i), (2, jv n), (3, jv e), (6, jv hn), (7, jv hd), (8, jv j)]) dX0_cutFrom_129 (by decide) rfl ?_
                refine x_locals (lv' := [(0, .ref a), (1, jv i), (2, jv n), (3, jv e), (4, jv ((j - i) - e)), (5, jv ((x j) - (x i))), (6, jv hn), (7, jv hd), (8, jv j), (9, jv ((x j) - (x i))), (11, jv ((j - i) + e))]) [5, 6, 7, 8, 1, 0, 9, 10, 11, 4, 2] rfl ?_
                refine L131 _ _ ?_
                · have q := lw_t (x := x) hj.1 (by rw [← hl.1, ← hl.2]; exact Int.not_le.mp c_120)
                  rw [q]; exact ⟨rfl, rfl⟩
        refine x_locals (lv' := [(0, .ref a), (1, jv i), (2, jv n), (3, jv e), (4, jv 0), (5, jv 1), (6, jv 1), (7, jv 0), (8, jv (i + 1))]) [5, 6, 7, 8, 4, 3, 2, 1, 0] rfl ?_
        refine L72 _ _ 0 _ _ _ _ _ _ _ _ (Nat.lt_succ_self _) ?_ ?_ ?_ ?_ ?_ ?_
        · omega
        · exact ⟨rfl, rfl⟩
        · exact Or.inl ⟨rfl, rfl, rfl⟩
        · exact okd_0 _ _ _
        · exact ⟨fun k h => up_ne _ _ h, fun k h => up_ne _ _ h, fun k h => up_ne _ _ h, fun k h => up_ne _ _ h⟩
        · refine ⟨0, Nat.le_refl _, by rw [up_eq]; omega, by rw [up_eq]; rw [show i + ((0 : Nat) : Int) + 1 = i + 1 by omega], fun d' hd' => ?_, fun d' h1 h2 => absurd h1 (by omega), by rw [up_eq]; rfl, by rw [up_eq]; rfl⟩
          rw [up_eq, show d' = 0 by omega, show i + ((0 : Nat) : Int) + 1 = i + 1 by omega]
          omega
      · omega

set_option maxRecDepth 100000 in
theorem hiX0_cut_0 : ∀ w ∈ wsX00, w ∈ wsX0_cut := by decide +kernel
set_option maxRecDepth 100000 in
theorem hfX0_cut_15 : Cond.fieldLink RX0 15 "KeyGuess$Cuts" "fewest" "[I" ∈ wsX0_cut := by decide +kernel
set_option maxRecDepth 100000 in
theorem hfX0_cut_9 : Cond.fieldLink RX0 9 "KeyGuess$Cuts" "cells" "[I" ∈ wsX0_cut := by decide +kernel
set_option maxHeartbeats 4000000 in
set_option maxRecDepth 100000 in
/-- Cuts.cut -/
theorem ctX0_cut (l : Launch) (g : xG) (a : Nat) (c1 : Nat) (c2 : Nat) (c3 : Nat) (c4 : Nat) (c5 : Nat) (x : Int → Int) (F : Int → Int) (Ls : Int → Int) (Nm : Int → Int) (Dn : Int → Int) (ka : Nat) (kb : Nat) (n : Int) (f : Int → Int) (e : Int) (hk : Kr n f) (he : 0 ≤ e ∧ e ≤ 8) : Ct l g yX0_cut wsX0_cut ({ frames := 1, cells := 0, slots := 0, locals := 31 } : Room) 0 0 [(a, ob 0 [.ref c1, .ref c2, .ref c3, .ref c4, .ref c5]), (c1, ai g 60 x), (c2, ai g 61 F), (c3, ai g 60 Ls), (c4, ai g 60 Nm), (c5, ai g 60 Dn), (ka, ob 2 [.ref kb, jv n]), (kb, ai g 60 f)] [.ref a, .ref ka, jv e] (fun v u => ∃ (x' : Int → Int) (F' : Int → Int) (L' : Int → Int) (N' : Int → Int) (D' : Int → Int), v = none ∧ u = [(a, ob 0 [.ref c1, .ref c2, .ref c3, .ref c4, .ref c5]), (c1, ai g 60 x'), (c2, ai g 61 F'), (c3, ai g 60 L'), (c4, ai g 60 N'), (c5, ai g 60 D'), (ka, ob 2 [.ref kb, jv n]), (kb, ai g 60 f)] ∧ (Cut4 f e n F' L' N' D' ∧ ∀ k : Int, 0 ≤ k → k ≤ n → 0 ≤ F' k ∧ F' k ≤ n - k)) := by
  refine ct_of (cc := cX0_cut) (nL := 5) (ret := none) (by decide) rfl (Nat.le_of_ble_eq_true rfl) ?_
  intro E C Rt0
  have C : Cx l g E ({ frames := 1, cells := 0, slots := 0, locals := 31 } : Room) RX0 "cut" cX0_cut wsX0_cut 5 := C
  show X l g E ({ frames := 1, cells := 0, slots := 0, locals := 31 } : Room) 5 [(a, ob 0 [.ref c1, .ref c2, .ref c3, .ref c4, .ref c5]), (c1, ai g 60 x), (c2, ai g 61 F), (c3, ai g 60 Ls), (c4, ai g 60 Nm), (c5, ai g 60 Dn), (ka, ob 2 [.ref kb, jv n]), (kb, ai g 60 f)] 0 0 [(0, .ref a), (1, .ref ka), (2, jv e)] 0 []
  have hn0 := hk.1
  have hn1 := hk.2.1
  refine x_aload_n (pc := 0) C 1 dX0_cut_0 rfl ?_
  refine x_callV (pc := 1) C (n := 0) (q0 := 0) (rest := []) (wr := [(a, ob 0 [.ref c1, .ref c2, .ref c3, .ref c4, .ref c5]), (c1, ai g 60 x), (c2, ai g 61 F), (c3, ai g 60 Ls), (c4, ai g 60 Nm), (c5, ai g 60 Dn)]) [6, 7] [0, 1, 2, 3, 4, 5] (ctX2_size l g ka kb n f ⟨hn0, hn1⟩) gX0_cut_X2_size rfl ⟨rfl, rfl⟩ (by decide +kernel) ⟨by decide, by decide⟩ rfl rfl rfl rfl rfl (by decide) (by decide) (by decide) rfl (Nat.le_of_ble_eq_true rfl) dX0_cut_1 ⟨by decide, by decide⟩ (fun v_1 u_1 h_1 => ?_)
  rcases h_1 with ⟨rfl, rfl, f_1⟩
  refine x_world (ws' := [(a, ob 0 [.ref c1, .ref c2, .ref c3, .ref c4, .ref c5]), (c1, ai g 60 x), (c2, ai g 61 F), (c3, ai g 60 Ls), (c4, ai g 60 Nm), (c5, ai g 60 Dn), (ka, ob 2 [.ref kb, jv n]), (kb, ai g 60 f)]) [0, 1, 2, 3, 4, 5, 6, 7] (by decide) rfl ?_
  show X l g E ({ frames := 1, cells := 0, slots := 0, locals := 31 } : Room) 5 [(a, ob 0 [.ref c1, .ref c2, .ref c3, .ref c4, .ref c5]), (c1, ai g 60 x), (c2, ai g 61 F), (c3, ai g 60 Ls), (c4, ai g 60 Nm), (c5, ai g 60 Dn), (ka, ob 2 [.ref kb, jv n]), (kb, ai g 60 f)] 0 0 [(0, .ref a), (1, .ref ka), (2, jv e)] 4 [jv n]
  refine x_bipush (pc := 4) C dX0_cut_4 rfl ?_
  refine x_mmin (pc := 6) C dX0_cut_6 (by decide +kernel) (by decide +kernel) (by decide +kernel) (by decide +kernel) (by decide) (by decide) (by decide) (by decide) ⟨by omega, by omega⟩ ⟨by omega, by omega⟩ ?_
  rw [show (if 60 < n then 60 else n) = n from (if_neg (by omega))]
  refine x_istore_n (pc := 9) C (lv' := [(3, jv n), (0, .ref a), (1, .ref ka), (2, jv e)]) dX0_cut_9 (by decide) rfl ?_
  refine x_iconst (pc := 10) C dX0_cut_10 ?_
  refine x_istore (pc := 11) C (lv' := [(4, jv 0), (3, jv n), (0, .ref a), (1, .ref ka), (2, jv e)]) dX0_cut_11 (by decide) rfl ?_
  have L13 : ∀ (nn : Nat) (k : Int) (x' : Int → Int), (n - k).toNat < nn → (0 ≤ k ∧ k ≤ n) → (Agr k x' f) → X l g E ({ frames := 1, cells := 0, slots := 0, locals := 31 } : Room) 5 [(a, ob 0 [.ref c1, .ref c2, .ref c3, .ref c4, .ref c5]), (c1, ai g 60 x'), (c2, ai g 61 F), (c3, ai g 60 Ls), (c4, ai g 60 Nm), (c5, ai g 60 Dn), (ka, ob 2 [.ref kb, jv n]), (kb, ai g 60 f)] 0 0 [(0, .ref a), (1, .ref ka), (2, jv e), (3, jv n), (4, jv k)] 13 [] := by
    intro nn
    induction nn with
    | zero => intro k x' hμ; exact absurd hμ (Nat.not_lt_zero _)
    | succ nn ih13 =>
      intro k x' hμ hi hc
      refine x_iload (pc := 13) C 4 dX0_cut_13 rfl ?_
      refine x_iload_n (pc := 15) C 3 dX0_cut_15 rfl ?_
      refine x_icmp_ge (pc := 16) C 38 dX0_cut_16 rfl ⟨by omega, by omega⟩ ⟨by omega, by omega⟩ (fun c_16 => ?_) (fun c_16 => ?_)
      · have hc : Agr n x' f := by rw [show n = k by omega]; exact hc
        have hk2 : Kr n x' := hk.congr hc.symm
        refine x_aload_n (pc := 38) C 0 dX0_cut_38 rfl ?_
        refine x_get (pc := 39) C 0 1 dX0_cut_39 hiX0_cut_0 hfX0_cut_15 rfl rfl rfl (by decide) rfl ?_
        refine x_iload_n (pc := 42) C 3 dX0_cut_42 rfl ?_
        refine x_iconst (pc := 43) C dX0_cut_43 ?_
        refine x_iast (pc := 44) C (ws' := [(a, ob 0 [.ref c1, .ref c2, .ref c3, .ref c4, .ref c5]), (c1, ai g 60 x'), (c2, ai g 61 (up F n 0)), (c3, ai g 60 Ls), (c4, ai g 60 Nm), (c5, ai g 60 Dn), (ka, ob 2 [.ref kb, jv n]), (kb, ai g 60 f)]) 2 dX0_cut_44 rfl (by omega) (by omega) (by decide) rfl ?_
        refine x_iload_n (pc := 45) C 3 dX0_cut_45 rfl ?_
        refine x_iconst (pc := 46) C dX0_cut_46 ?_
        refine x_isub (pc := 47) C dX0_cut_47 ?_
        refine x_istore (pc := 48) C (lv' := [(4, jv (n - 1)), (0, .ref a), (1, .ref ka), (2, jv e), (3, jv n)]) dX0_cut_48 (by decide) rfl ?_
        have L50 : ∀ (nn : Nat) (i : Int) (F'' : Int → Int) (L'' : Int → Int) (N'' : Int → Int) (D'' : Int → Int), (i + 1).toNat < nn → (-1 ≤ i ∧ i < n) → (F'' n = 0 ∧ (∀ k : Int, i < k → k < n → Cs x' e n F'' k (L'' k) (N'' k) (D'' k)) ∧ ∀ k : Int, i < k → k ≤ n → 0 ≤ F'' k ∧ F'' k ≤ n - k) → X l g E ({ frames := 1, cells := 0, slots := 0, locals := 31 } : Room) 5 [(a, ob 0 [.ref c1, .ref c2, .ref c3, .ref c4, .ref c5]), (c1, ai g 60 x'), (c2, ai g 61 F''), (c3, ai g 60 L''), (c4, ai g 60 N''), (c5, ai g 60 D''), (ka, ob 2 [.ref kb, jv n]), (kb, ai g 60 f)] 0 0 [(0, .ref a), (2, jv e), (3, jv n), (4, jv i)] 50 [] := by
          intro nn
          induction nn with
          | zero => intro i F'' L'' N'' D'' hμ; exact absurd hμ (Nat.not_lt_zero _)
          | succ nn ih50 =>
            intro i F'' L'' N'' D'' hμ hi2 hdone
            refine x_iload (pc := 50) C 3 dX0_cut_50 rfl ?_
            refine x_if_lt (pc := 52) C 69 dX0_cut_52 rfl ⟨by omega, by omega⟩ (fun c_52 => ?_) (fun c_52 => ?_)
            · refine x_vret (pc := 69) C Rt0 dX0_cut_69 rfl ?_
              refine ⟨_, _, _, _, _, rfl, rfl, ?_⟩
              exact ⟨⟨hdone.1, fun k h0 h1 => (hdone.2.1 k (by omega) h1).congr hc h0 (fun _ _ _ => rfl)⟩, fun k h0 h1 => hdone.2.2 k (by omega) h1⟩
            · refine x_aload_n (pc := 55) C 0 dX0_cut_55 rfl ?_
              refine x_iload (pc := 56) C 3 dX0_cut_56 rfl ?_
              refine x_iload_n (pc := 58) C 2 dX0_cut_58 rfl ?_
              refine x_iload_n (pc := 59) C 1 dX0_cut_59 rfl ?_
              refine x_callV (pc := 60) C (n := 3) (q0 := 0) (rest := []) (wr := [(ka, ob 2 [.ref kb, jv n]), (kb, ai g 60 f)]) [0, 1, 2, 3, 4, 5] [6, 7] (ctX0_cutFrom l g a c1 c2 c3 c4 c5 x' F'' L'' N'' D'' i n e hk2 he ⟨by omega, by omega⟩ (fun k h1 h2 => by have := hdone.2.2 k h1 h2; omega)) gX0_cut_X0_cutFrom rfl ⟨rfl, rfl⟩ (by decide +kernel) ⟨by decide, by decide⟩ rfl rfl rfl rfl rfl (by decide) (by decide) (by decide) rfl (Nat.le_of_ble_eq_true rfl) dX0_cut_60 ⟨by decide, by decide⟩ (fun v_60 u_60 h_60 => ?_)
              rcases h_60 with ⟨F3, L3, N3, D3, rfl, rfl, f_60⟩
              refine x_world (ws' := [(a, ob 0 [.ref c1, .ref c2, .ref c3, .ref c4, .ref c5]), (c1, ai g 60 x'), (c2, ai g 61 F3), (c3, ai g 60 L3), (c4, ai g 60 N3), (c5, ai g 60 D3), (ka, ob 2 [.ref kb, jv n]), (kb, ai g 60 f)]) [2, 3, 4, 5, 6, 7, 0, 1] (by decide) rfl ?_
              show X l g E ({ frames := 1, cells := 0, slots := 0, locals := 31 } : Room) 5 [(a, ob 0 [.ref c1, .ref c2, .ref c3, .ref c4, .ref c5]), (c1, ai g 60 x'), (c2, ai g 61 F3), (c3, ai g 60 L3), (c4, ai g 60 N3), (c5, ai g 60 D3), (ka, ob 2 [.ref kb, jv n]), (kb, ai g 60 f)] 0 0 [(0, .ref a), (2, jv e), (3, jv n), (4, jv i)] 63 []
              refine x_iinc (pc := 63) C (lv' := [(4, jv (i + (-1))), (0, .ref a), (2, jv e), (3, jv n)]) 3 dX0_cut_63 rfl (by decide) rfl ?_
              refine x_goto (pc := 66) C 50 dX0_cut_66 rfl ?_
              refine x_locals (lv' := [(0, .ref a), (2, jv e), (3, jv n), (4, jv (i + (-1)))]) [1, 2, 3, 0] rfl ?_
              refine ih50 _ _ _ _ _ ?_ ?_ ?_
              · omega
              · omega
              · obtain ⟨o1, o2, o3, o4, hcs⟩ := f_60
                obtain ⟨d1, d2, d3⟩ := hdone
                refine ⟨by rw [o1 n (by omega)]; exact d1, fun k h1 h2 => ?_, fun k h1 h2 => ?_⟩
                · by_cases q : k = i
                  · rw [q]; exact hcs
                  · rw [o2 k q, o3 k q, o4 k q]
                    exact (d2 k (by omega) h2).congr (fun _ _ _ => rfl) (by omega) (fun m m1 m2 => (o1 m (by omega)).symm)
                · by_cases q : k = i
                  · obtain ⟨d, q1, q2, q3, q4, _⟩ := hcs
                    have := d3 (i + (d : Int) + 1) (by omega) (by omega)
                    rw [o1 (i + (d : Int) + 1) (by omega)] at q4
                    rw [q]; omega
                  · rw [o1 k q]; exact d3 k (by omega) h2
        refine x_locals (lv' := [(0, .ref a), (2, jv e), (3, jv n), (4, jv (n - 1))]) [1, 3, 4, 0] rfl ?_
        refine L50 _ _ _ _ _ _ (Nat.lt_succ_self _) ?_ ?_
        · omega
        · exact ⟨up_eq _ _ _, fun k h1 h2 => absurd h1 (by omega), fun k h1 h2 => by rw [show k = n by omega, up_eq]; omega⟩
      · refine x_aload_n (pc := 19) C 0 dX0_cut_19 rfl ?_
        refine x_get (pc := 20) C 0 0 dX0_cut_20 hiX0_cut_0 hfX0_cut_9 rfl rfl rfl (by decide) rfl ?_
        refine x_iload (pc := 23) C 4 dX0_cut_23 rfl ?_
        refine x_aload_n (pc := 25) C 1 dX0_cut_25 rfl ?_
        refine x_iload (pc := 26) C 4 dX0_cut_26 rfl ?_
        refine x_callV (pc := 28) C (n := 1) (q0 := 0) (rest := [jv k, .ref c1]) (wr := [(a, ob 0 [.ref c1, .ref c2, .ref c3, .ref c4, .ref c5]), (c1, ai g 60 x'), (c2, ai g 61 F), (c3, ai g 60 Ls), (c4, ai g 60 Nm), (c5, ai g 60 Dn)]) [6, 7] [0, 1, 2, 3, 4, 5] (ctX2_key l g ka kb n f k ⟨hn0, hn1⟩ ⟨by omega, by omega⟩) gX0_cut_X2_key rfl ⟨rfl, rfl⟩ (by decide +kernel) ⟨by decide, by decide⟩ rfl rfl rfl rfl rfl (by decide) (by decide) (by decide) rfl (Nat.le_of_ble_eq_true rfl) dX0_cut_28 ⟨by decide, by decide⟩ (fun v_28 u_28 h_28 => ?_)
        rcases h_28 with ⟨rfl, rfl, f_28⟩ | ⟨rfl, rfl, f_28⟩
        · refine x_world (ws' := [(a, ob 0 [.ref c1, .ref c2, .ref c3, .ref c4, .ref c5]), (c1, ai g 60 x'), (c2, ai g 61 F), (c3, ai g 60 Ls), (c4, ai g 60 Nm), (c5, ai g 60 Dn), (ka, ob 2 [.ref kb, jv n]), (kb, ai g 60 f)]) [0, 1, 2, 3, 4, 5, 6, 7] (by decide) rfl ?_
          show X l g E ({ frames := 1, cells := 0, slots := 0, locals := 31 } : Room) 5 [(a, ob 0 [.ref c1, .ref c2, .ref c3, .ref c4, .ref c5]), (c1, ai g 60 x'), (c2, ai g 61 F), (c3, ai g 60 Ls), (c4, ai g 60 Nm), (c5, ai g 60 Dn), (ka, ob 2 [.ref kb, jv n]), (kb, ai g 60 f)] 0 0 [(0, .ref a), (1, .ref ka), (2, jv e), (3, jv n), (4, jv k)] 31 [jv (f k), jv k, .ref c1]
          refine x_iast (pc := 31) C (ws' := [(a, ob 0 [.ref c1, .ref c2, .ref c3, .ref c4, .ref c5]), (c1, ai g 60 (up x' k (f k))), (c2, ai g 61 F), (c3, ai g 60 Ls), (c4, ai g 60 Nm), (c5, ai g 60 Dn), (ka, ob 2 [.ref kb, jv n]), (kb, ai g 60 f)]) 1 dX0_cut_31 rfl (by omega) (by omega) (by decide) rfl ?_
          refine x_iinc (pc := 32) C (lv' := [(4, jv (k + 1)), (0, .ref a), (1, .ref ka), (2, jv e), (3, jv n)]) 4 dX0_cut_32 rfl (by decide) rfl ?_
          refine x_goto (pc := 35) C 13 dX0_cut_35 rfl ?_
          refine x_locals (lv' := [(0, .ref a), (1, .ref ka), (2, jv e), (3, jv n), (4, jv (k + 1))]) [1, 2, 3, 4, 0] rfl ?_
          refine ih13 _ _ ?_ ?_ ?_
          · omega
          · omega
          · exact al_s (fun i h0 h1 => by rw [up_ne _ _ (by omega)]; exact hc i h0 h1) (up_eq _ _ _)
        · refine x_world (ws' := [(a, ob 0 [.ref c1, .ref c2, .ref c3, .ref c4, .ref c5]), (c1, ai g 60 x'), (c2, ai g 61 F), (c3, ai g 60 Ls), (c4, ai g 60 Nm), (c5, ai g 60 Dn), (ka, ob 2 [.ref kb, jv n]), (kb, ai g 60 f)]) [0, 1, 2, 3, 4, 5, 6, 7] (by decide) rfl ?_
          show X l g E ({ frames := 1, cells := 0, slots := 0, locals := 31 } : Room) 5 [(a, ob 0 [.ref c1, .ref c2, .ref c3, .ref c4, .ref c5]), (c1, ai g 60 x'), (c2, ai g 61 F), (c3, ai g 60 Ls), (c4, ai g 60 Nm), (c5, ai g 60 Dn), (ka, ob 2 [.ref kb, jv n]), (kb, ai g 60 f)] 0 0 [(0, .ref a), (1, .ref ka), (2, jv e), (3, jv n), (4, jv k)] 31 [jv (-1), jv k, .ref c1]
          exact absurd f_28 (by omega)
  refine x_locals (lv' := [(0, .ref a), (1, .ref ka), (2, jv e), (3, jv n), (4, jv 0)]) [2, 3, 4, 1, 0] rfl ?_
  refine L13 _ _ _ (Nat.lt_succ_self _) ?_ ?_
  · omega
  · exact al_0
