set_option maxHeartbeats 4000000 in
set_option maxRecDepth 100000 in
/-- Filter.bitsOf -/
theorem ctX1_bitsOf (l : Launch) (g : xG) (x : Int) (hx : 0 ≤ x ∧ x ≤ 1000000) : Ct l g yX1_bitsOf wsX1_bitsOf ({ frames := 0, cells := 0, slots := 0, locals := 0 } : Room) 0 0 [] [jv x] (fun v u => v = some (.long (bo x)) ∧ u = [] ∧ (True)) := by
  refine ct_of (cc := cX1_bitsOf) (nL := 1) (ret := (some .long)) (by decide) rfl (Nat.le_of_ble_eq_true rfl) ?_
  intro E C Rt0
  have C : Cx l g E ({ frames := 0, cells := 0, slots := 0, locals := 0 } : Room) RX1 "bitsOf" cX1_bitsOf wsX1_bitsOf 1 := C
  show X l g E ({ frames := 0, cells := 0, slots := 0, locals := 0 } : Room) 1 [] 0 0 [(0, jv x)] 0 []
  refine x_lconstR (pc := 0) C (z := 1) dX1_bitsOf_0 rfl ?_
  refine x_iload_n (pc := 1) C 0 dX1_bitsOf_1 rfl ?_
  refine x_bipush (pc := 2) C dX1_bitsOf_2 rfl ?_
  refine x_irem (pc := 4) C dX1_bitsOf_4 ⟨by omega, by omega⟩ ⟨by omega, by omega⟩ (by first | decide | omega) ?_
  rw [show (x).tmod 61 = x % 61 from (Int.tmod_eq_emod_of_nonneg hx.1)]
  refine x_lshlR (pc := 5) C dX1_bitsOf_5 ?_
  refine x_lconstR (pc := 6) C (z := 1) dX1_bitsOf_6 rfl ?_
  refine x_iload_n (pc := 7) C 0 dX1_bitsOf_7 rfl ?_
  refine x_bipush (pc := 8) C dX1_bitsOf_8 rfl ?_
  refine x_idiv (pc := 10) C dX1_bitsOf_10 ⟨by omega, by omega⟩ ⟨by omega, by omega⟩ (by first | decide | omega) ?_
  rw [show (x).tdiv 61 = x / 61 from (Int.tdiv_eq_ediv_of_nonneg hx.1)]
  refine x_bipush (pc := 11) C dX1_bitsOf_11 rfl ?_
  refine x_irem (pc := 13) C dX1_bitsOf_13 ⟨by omega, by omega⟩ ⟨by omega, by omega⟩ (by first | decide | omega) ?_
  rw [show (x / 61).tmod 64 = x / 61 % 64 from (Int.tmod_eq_emod_of_nonneg (Int.ediv_nonneg hx.1 (by omega)))]
  refine x_lshlR (pc := 14) C dX1_bitsOf_14 ?_
  refine x_lorR (pc := 15) C dX1_bitsOf_15 ?_
  refine x_lret (pc := 16) C Rt0 dX1_bitsOf_16 rfl ?_
  refine ⟨rfl, rfl, ?_⟩
  trivial

set_option maxRecDepth 100000 in
theorem hiX1_clear_1 : ∀ w ∈ wsX10, w ∈ wsX1_clear := by decide +kernel
set_option maxRecDepth 100000 in
theorem hfX1_clear_7 : Cond.fieldLink RX1 7 "KeyGuess$Filter" "bits" "J" ∈ wsX1_clear := by decide +kernel
set_option maxHeartbeats 4000000 in
set_option maxRecDepth 100000 in
/-- Filter.clear -/
theorem ctX1_clear (l : Launch) (g : xG) (a : Nat) (b : Int64)  : Ct l g yX1_clear wsX1_clear ({ frames := 0, cells := 0, slots := 0, locals := 0 } : Room) 0 0 [(a, ob 1 [.long b])] [.ref a] (fun v u => v = none ∧ u = [(a, ob 1 [.long 0])] ∧ (True)) := by
  refine ct_of (cc := cX1_clear) (nL := 1) (ret := none) (by decide) rfl (Nat.le_of_ble_eq_true rfl) ?_
  intro E C Rt0
  have C : Cx l g E ({ frames := 0, cells := 0, slots := 0, locals := 0 } : Room) RX1 "clear" cX1_clear wsX1_clear 1 := C
  show X l g E ({ frames := 0, cells := 0, slots := 0, locals := 0 } : Room) 1 [(a, ob 1 [.long b])] 0 0 [(0, .ref a)] 0 []
  refine x_aload_n (pc := 0) C 0 dX1_clear_0 rfl ?_
  refine x_lconstR (pc := 1) C (z := 0) dX1_clear_1 rfl ?_
  refine x_put (pc := 2) C (ty := .long) (ws' := [(a, ob 1 [.long 0])]) tyX1 0 0 dX1_clear_2 hiX1_clear_1 tyX1_ok nmX1 hfX1_clear_7 rfl rfl rfl (by decide) rfl (by decide +kernel) rfl rfl (Nat.le_of_ble_eq_true rfl) rfl ?_
  refine x_vret (pc := 5) C Rt0 dX1_clear_5 rfl ?_
  refine ⟨rfl, rfl, ?_⟩
  trivial

set_option maxRecDepth 100000 in
theorem hiX1_add_1 : ∀ w ∈ wsX10, w ∈ wsX1_add := by decide +kernel
set_option maxRecDepth 100000 in
theorem hfX1_add_7 : Cond.fieldLink RX1 7 "KeyGuess$Filter" "bits" "J" ∈ wsX1_add := by decide +kernel
set_option maxHeartbeats 4000000 in
set_option maxRecDepth 100000 in
/-- Filter.add -/
theorem ctX1_add (l : Launch) (g : xG) (a : Nat) (b : Int64) (x : Int) (hx : 0 ≤ x ∧ x ≤ 1000000) : Ct l g yX1_add wsX1_add ({ frames := 1, cells := 0, slots := 0, locals := 20 } : Room) 0 0 [(a, ob 1 [.long b])] [.ref a, jv x] (fun v u => v = none ∧ u = [(a, ob 1 [.long (b ||| bo x)])] ∧ (True)) := by
  refine ct_of (cc := cX1_add) (nL := 2) (ret := none) (by decide) rfl (Nat.le_of_ble_eq_true rfl) ?_
  intro E C Rt0
  have C : Cx l g E ({ frames := 1, cells := 0, slots := 0, locals := 20 } : Room) RX1 "add" cX1_add wsX1_add 2 := C
  show X l g E ({ frames := 1, cells := 0, slots := 0, locals := 20 } : Room) 2 [(a, ob 1 [.long b])] 0 0 [(0, .ref a), (1, jv x)] 0 []
  refine x_aload_n (pc := 0) C 0 dX1_add_0 rfl ?_
  refine x_dup (pc := 1) C dX1_add_1 rfl ?_
  refine x_get (pc := 2) C 0 0 dX1_add_2 hiX1_add_1 hfX1_add_7 rfl rfl rfl (by decide) rfl ?_
  refine x_iload_n (pc := 5) C 1 dX1_add_5 rfl ?_
  refine x_callS (pc := 6) C (n := 1) (rest := [.long b, .ref a]) (wr := [(a, ob 1 [.long b])]) [] [0] (ctX1_bitsOf l g x hx) gX1_add_X1_bitsOf rfl (by decide +kernel) ⟨rfl, rfl⟩ ⟨by decide, by decide⟩ rfl rfl rfl (by decide) (by decide) (by decide) rfl (Nat.le_of_ble_eq_true rfl) dX1_add_6 ⟨by decide, by decide⟩ (fun v_6 u_6 h_6 => ?_)
  rcases h_6 with ⟨rfl, rfl, f_6⟩
  refine x_world (ws' := [(a, ob 1 [.long b])]) [0] (by decide) rfl ?_
  show X l g E ({ frames := 1, cells := 0, slots := 0, locals := 20 } : Room) 2 [(a, ob 1 [.long b])] 0 0 [(0, .ref a), (1, jv x)] 9 [.long (bo x), .long b, .ref a]
  refine x_lorR (pc := 9) C dX1_add_9 ?_
  refine x_put (pc := 10) C (ty := .long) (ws' := [(a, ob 1 [.long (b ||| (bo x))])]) tyX1 0 0 dX1_add_10 hiX1_add_1 tyX1_ok nmX1 hfX1_add_7 rfl rfl rfl (by decide) rfl (by decide +kernel) rfl rfl (Nat.le_of_ble_eq_true rfl) rfl ?_
  refine x_vret (pc := 13) C Rt0 dX1_add_13 rfl ?_
  refine ⟨rfl, rfl, ?_⟩
  trivial

set_option maxRecDepth 100000 in
theorem hiX1_passes_1 : ∀ w ∈ wsX10, w ∈ wsX1_passes := by decide +kernel
set_option maxRecDepth 100000 in
theorem hfX1_passes_7 : Cond.fieldLink RX1 7 "KeyGuess$Filter" "bits" "J" ∈ wsX1_passes := by decide +kernel
set_option maxHeartbeats 4000000 in
set_option maxRecDepth 100000 in
/-- Filter.passes -/
theorem ctX1_passes (l : Launch) (g : xG) (a : Nat) (b : Int64) (x : Int) (hx : 0 ≤ x ∧ x ≤ 1000000) : Ct l g yX1_passes wsX1_passes ({ frames := 1, cells := 0, slots := 0, locals := 20 } : Room) 0 0 [(a, ob 1 [.long b])] [.ref a, jv x] (fun v u => (v = some (jv 1) ∧ u = [(a, ob 1 [.long b])] ∧ (b &&& bo x = bo x)) ∨ (v = some (jv 0) ∧ u = [(a, ob 1 [.long b])] ∧ (¬ b &&& bo x = bo x))) := by
  refine ct_of (cc := cX1_passes) (nL := 4) (ret := (some .boolean)) (by decide) rfl (Nat.le_of_ble_eq_true rfl) ?_
  intro E C Rt0
  have C : Cx l g E ({ frames := 1, cells := 0, slots := 0, locals := 20 } : Room) RX1 "passes" cX1_passes wsX1_passes 4 := C
  show X l g E ({ frames := 1, cells := 0, slots := 0, locals := 20 } : Room) 4 [(a, ob 1 [.long b])] 0 0 [(0, .ref a), (1, jv x)] 0 []
  refine x_iload_n (pc := 0) C 1 dX1_passes_0 rfl ?_
  refine x_callS (pc := 1) C (n := 1) (rest := []) (wr := [(a, ob 1 [.long b])]) [] [0] (ctX1_bitsOf l g x hx) gX1_passes_X1_bitsOf rfl (by decide +kernel) ⟨rfl, rfl⟩ ⟨by decide, by decide⟩ rfl rfl rfl (by decide) (by decide) (by decide) rfl (Nat.le_of_ble_eq_true rfl) dX1_passes_1 ⟨by decide, by decide⟩ (fun v_1 u_1 h_1 => ?_)
  rcases h_1 with ⟨rfl, rfl, f_1⟩
  refine x_world (ws' := [(a, ob 1 [.long b])]) [0] (by decide) rfl ?_
  show X l g E ({ frames := 1, cells := 0, slots := 0, locals := 20 } : Room) 4 [(a, ob 1 [.long b])] 0 0 [(0, .ref a), (1, jv x)] 4 [.long (bo x)]
  refine x_lstore_nR (pc := 4) C (lv' := [(2, .long (bo x)), (0, .ref a), (1, jv x)]) dX1_passes_4 (by decide) rfl ?_
  refine x_aload_n (pc := 5) C 1 dX1_passes_5 rfl ?_
  refine x_get (pc := 6) C 0 0 dX1_passes_6 hiX1_passes_1 hfX1_passes_7 rfl rfl rfl (by decide) rfl ?_
  refine x_lload_nR (pc := 9) C 0 dX1_passes_9 rfl ?_
  refine x_landR (pc := 10) C dX1_passes_10 ?_
  refine x_lload_nR (pc := 11) C 0 dX1_passes_11 rfl ?_
  refine x_lcmpR (pc := 12) C 20 dX1_passes_12 dX1_passes_13 rfl (fun c_12 => ?_) (fun c_12 => ?_)
  · refine x_iconst (pc := 20) C dX1_passes_20 ?_
    refine x_zret (pc := 21) C Rt0 dX1_passes_21 rfl rfl ?_
    refine Or.inr (⟨rfl, rfl, ?_⟩)
    exact c_12
  · refine x_iconst (pc := 16) C dX1_passes_16 ?_
    refine x_goto (pc := 17) C 21 dX1_passes_17 rfl ?_
    refine x_zret (pc := 21) C Rt0 dX1_passes_21 rfl rfl ?_
    refine Or.inl ⟨rfl, rfl, ?_⟩
    exact c_12
