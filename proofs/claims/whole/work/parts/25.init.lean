set_option maxRecDepth 100000 in
theorem hiX2_init_2 : ∀ w ∈ wsX20, w ∈ wsX2_init := by decide +kernel
set_option maxRecDepth 100000 in
theorem hfX2_init_9 : Cond.fieldLink RX2 9 "KeyGuess$Keys" "cells" "[I" ∈ wsX2_init := by decide +kernel
set_option maxHeartbeats 4000000 in
set_option maxRecDepth 100000 in
/-- Keys() -/
theorem ctX2_init (l : Launch) (g : xG) (a : Nat)  : Ct l g yX2_init wsX2_init ({ frames := 1, cells := 1, slots := 60, locals := 12 } : Room) 1 60 [(a, ob 2 [.null, jv 0])] [.ref a] (fun rV rU => ∃ (q7 : Nat), rV = none ∧ rU = [(a, ob 2 [.ref q7, jv 0]), (q7, ai g 60 (fun _ => 0))] ∧ (True)) := by
  refine ct_of (cc := cX2_init) (nL := 1) (ret := none) (by decide) rfl (Nat.le_of_ble_eq_true rfl) ?_
  intro E C Rt0
  have C : Cx l g E ({ frames := 1, cells := 1, slots := 60, locals := 12 } : Room) RX2 "<init>" cX2_init wsX2_init 1 := C
  show X l g E ({ frames := 1, cells := 1, slots := 60, locals := 12 } : Room) 1 [(a, ob 2 [.null, jv 0])] 0 0 [(0, .ref a)] 0 []
  refine x_aload_n (pc := 0) C 0 dX2_init_0 rfl ?_
  refine x_objInit (pc := 1) C dX2_init_1 (by decide +kernel) (by decide +kernel) (List.mem_of_getElem? (i := 3) rfl) (by decide) (Nat.le_of_ble_eq_true rfl) ?_
  refine x_aload_n (pc := 4) C 0 dX2_init_4 rfl ?_
  refine x_bipush (pc := 5) C dX2_init_5 rfl ?_
  refine x_newi (pc := 7) C (N := 60) dX2_init_7 (by decide +kernel) (by decide) (by decide) (by decide) (fun q7 => ?_)
  show X l g E ({ frames := 1, cells := 1, slots := 60, locals := 12 } : Room) 1 [(a, ob 2 [.null, jv 0]), (q7, ai g 60 (fun _ => 0))] 1 60 [(0, .ref a)] 9 [.ref q7, .ref a]
  refine x_putF (pc := 9) C (ty := .array .int) (ws' := [(a, ob 2 [.ref q7, jv 0]), (q7, ai g 60 (fun _ => 0))]) tyX2 0 0 dX2_init_9 hiX2_init_2 tyX2_ok nmX2 hfX2_init_9 rfl rfl rfl (by decide) rfl rfl (by decide +kernel) rfl rfl (Nat.le_of_ble_eq_true rfl) rfl ?_
  refine x_vret (pc := 12) C Rt0 dX2_init_12 rfl ?_
  refine ⟨_, rfl, rfl, ?_⟩
  trivial

set_option maxRecDepth 100000 in
theorem hiX0_init_0 : ∀ w ∈ wsX00, w ∈ wsX0_init := by decide +kernel
set_option maxRecDepth 100000 in
theorem hfX0_init_9 : Cond.fieldLink RX0 9 "KeyGuess$Cuts" "cells" "[I" ∈ wsX0_init := by decide +kernel
set_option maxRecDepth 100000 in
theorem hfX0_init_15 : Cond.fieldLink RX0 15 "KeyGuess$Cuts" "fewest" "[I" ∈ wsX0_init := by decide +kernel
set_option maxRecDepth 100000 in
theorem hfX0_init_18 : Cond.fieldLink RX0 18 "KeyGuess$Cuts" "lasts" "[I" ∈ wsX0_init := by decide +kernel
set_option maxRecDepth 100000 in
theorem hfX0_init_21 : Cond.fieldLink RX0 21 "KeyGuess$Cuts" "slopeNums" "[I" ∈ wsX0_init := by decide +kernel
set_option maxRecDepth 100000 in
theorem hfX0_init_24 : Cond.fieldLink RX0 24 "KeyGuess$Cuts" "slopeDens" "[I" ∈ wsX0_init := by decide +kernel
set_option maxHeartbeats 4000000 in
set_option maxRecDepth 100000 in
/-- Cuts() -/
theorem ctX0_init (l : Launch) (g : xG) (a : Nat)  : Ct l g yX0_init wsX0_init ({ frames := 1, cells := 5, slots := 301, locals := 12 } : Room) 5 301 [(a, ob 0 [.null, .null, .null, .null, .null])] [.ref a] (fun rV rU => ∃ (q7 : Nat) (q15 : Nat) (q23 : Nat) (q31 : Nat) (q39 : Nat), rV = none ∧ rU = [(a, ob 0 [.ref q7, .ref q15, .ref q23, .ref q31, .ref q39]), (q7, ai g 60 (fun _ => 0)), (q15, ai g 61 (fun _ => 0)), (q23, ai g 60 (fun _ => 0)), (q31, ai g 60 (fun _ => 0)), (q39, ai g 60 (fun _ => 0))] ∧ (True)) := by
  refine ct_of (cc := cX0_init) (nL := 1) (ret := none) (by decide) rfl (Nat.le_of_ble_eq_true rfl) ?_
  intro E C Rt0
  have C : Cx l g E ({ frames := 1, cells := 5, slots := 301, locals := 12 } : Room) RX0 "<init>" cX0_init wsX0_init 1 := C
  show X l g E ({ frames := 1, cells := 5, slots := 301, locals := 12 } : Room) 1 [(a, ob 0 [.null, .null, .null, .null, .null])] 0 0 [(0, .ref a)] 0 []
  refine x_aload_n (pc := 0) C 0 dX0_init_0 rfl ?_
  refine x_objInit (pc := 1) C dX0_init_1 (by decide +kernel) (by decide +kernel) (List.mem_of_getElem? (i := 3) rfl) (by decide) (Nat.le_of_ble_eq_true rfl) ?_
  refine x_aload_n (pc := 4) C 0 dX0_init_4 rfl ?_
  refine x_bipush (pc := 5) C dX0_init_5 rfl ?_
  refine x_newi (pc := 7) C (N := 60) dX0_init_7 (by decide +kernel) (by decide) (by decide) (by decide) (fun q7 => ?_)
  show X l g E ({ frames := 1, cells := 5, slots := 301, locals := 12 } : Room) 1 [(a, ob 0 [.null, .null, .null, .null, .null]), (q7, ai g 60 (fun _ => 0))] 1 60 [(0, .ref a)] 9 [.ref q7, .ref a]
  refine x_putF (pc := 9) C (ty := .array .int) (ws' := [(a, ob 0 [.ref q7, .null, .null, .null, .null]), (q7, ai g 60 (fun _ => 0))]) tyX0 0 0 dX0_init_9 hiX0_init_0 tyX0_ok nmX0 hfX0_init_9 rfl rfl rfl (by decide) rfl rfl (by decide +kernel) rfl rfl (Nat.le_of_ble_eq_true rfl) rfl ?_
  refine x_aload_n (pc := 12) C 0 dX0_init_12 rfl ?_
  refine x_bipush (pc := 13) C dX0_init_13 rfl ?_
  refine x_newi (pc := 15) C (N := 61) dX0_init_15 (by decide +kernel) (by decide) (by decide) (by decide) (fun q15 => ?_)
  show X l g E ({ frames := 1, cells := 5, slots := 301, locals := 12 } : Room) 1 [(a, ob 0 [.ref q7, .null, .null, .null, .null]), (q7, ai g 60 (fun _ => 0)), (q15, ai g 61 (fun _ => 0))] 2 121 [(0, .ref a)] 17 [.ref q15, .ref a]
  refine x_putF (pc := 17) C (ty := .array .int) (ws' := [(a, ob 0 [.ref q7, .ref q15, .null, .null, .null]), (q7, ai g 60 (fun _ => 0)), (q15, ai g 61 (fun _ => 0))]) tyX0 0 1 dX0_init_17 hiX0_init_0 tyX0_ok nmX0 hfX0_init_15 rfl rfl rfl (by decide) rfl rfl (by decide +kernel) rfl rfl (Nat.le_of_ble_eq_true rfl) rfl ?_
  refine x_aload_n (pc := 20) C 0 dX0_init_20 rfl ?_
  refine x_bipush (pc := 21) C dX0_init_21 rfl ?_
  refine x_newi (pc := 23) C (N := 60) dX0_init_23 (by decide +kernel) (by decide) (by decide) (by decide) (fun q23 => ?_)
  show X l g E ({ frames := 1, cells := 5, slots := 301, locals := 12 } : Room) 1 [(a, ob 0 [.ref q7, .ref q15, .null, .null, .null]), (q7, ai g 60 (fun _ => 0)), (q15, ai g 61 (fun _ => 0)), (q23, ai g 60 (fun _ => 0))] 3 181 [(0, .ref a)] 25 [.ref q23, .ref a]
  refine x_putF (pc := 25) C (ty := .array .int) (ws' := [(a, ob 0 [.ref q7, .ref q15, .ref q23, .null, .null]), (q7, ai g 60 (fun _ => 0)), (q15, ai g 61 (fun _ => 0)), (q23, ai g 60 (fun _ => 0))]) tyX0 0 2 dX0_init_25 hiX0_init_0 tyX0_ok nmX0 hfX0_init_18 rfl rfl rfl (by decide) rfl rfl (by decide +kernel) rfl rfl (Nat.le_of_ble_eq_true rfl) rfl ?_
  refine x_aload_n (pc := 28) C 0 dX0_init_28 rfl ?_
  refine x_bipush (pc := 29) C dX0_init_29 rfl ?_
  refine x_newi (pc := 31) C (N := 60) dX0_init_31 (by decide +kernel) (by decide) (by decide) (by decide) (fun q31 => ?_)
  show X l g E ({ frames := 1, cells := 5, slots := 301, locals := 12 } : Room) 1 [(a, ob 0 [.ref q7, .ref q15, .ref q23, .null, .null]), (q7, ai g 60 (fun _ => 0)), (q15, ai g 61 (fun _ => 0)), (q23, ai g 60 (fun _ => 0)), (q31, ai g 60 (fun _ => 0))] 4 241 [(0, .ref a)] 33 [.ref q31, .ref a]
  refine x_putF (pc := 33) C (ty := .array .int) (ws' := [(a, ob 0 [.ref q7, .ref q15, .ref q23, .ref q31, .null]), (q7, ai g 60 (fun _ => 0)), (q15, ai g 61 (fun _ => 0)), (q23, ai g 60 (fun _ => 0)), (q31, ai g 60 (fun _ => 0))]) tyX0 0 3 dX0_init_33 hiX0_init_0 tyX0_ok nmX0 hfX0_init_21 rfl rfl rfl (by decide) rfl rfl (by decide +kernel) rfl rfl (Nat.le_of_ble_eq_true rfl) rfl ?_
  refine x_aload_n (pc := 36) C 0 dX0_init_36 rfl ?_
  refine x_bipush (pc := 37) C dX0_init_37 rfl ?_
  refine x_newi (pc := 39) C (N := 60) dX0_init_39 (by decide +kernel) (by decide) (by decide) (by decide) (fun q39 => ?_)
  show X l g E ({ frames := 1, cells := 5, slots := 301, locals := 12 } : Room) 1 [(a, ob 0 [.ref q7, .ref q15, .ref q23, .ref q31, .null]), (q7, ai g 60 (fun _ => 0)), (q15, ai g 61 (fun _ => 0)), (q23, ai g 60 (fun _ => 0)), (q31, ai g 60 (fun _ => 0)), (q39, ai g 60 (fun _ => 0))] 5 301 [(0, .ref a)] 41 [.ref q39, .ref a]
  refine x_putF (pc := 41) C (ty := .array .int) (ws' := [(a, ob 0 [.ref q7, .ref q15, .ref q23, .ref q31, .ref q39]), (q7, ai g 60 (fun _ => 0)), (q15, ai g 61 (fun _ => 0)), (q23, ai g 60 (fun _ => 0)), (q31, ai g 60 (fun _ => 0)), (q39, ai g 60 (fun _ => 0))]) tyX0 0 4 dX0_init_41 hiX0_init_0 tyX0_ok nmX0 hfX0_init_24 rfl rfl rfl (by decide) rfl rfl (by decide +kernel) rfl rfl (Nat.le_of_ble_eq_true rfl) rfl ?_
  refine x_vret (pc := 44) C Rt0 dX0_init_44 rfl ?_
  refine ⟨_, _, _, _, _, rfl, rfl, ?_⟩
  trivial

set_option maxHeartbeats 4000000 in
set_option maxRecDepth 100000 in
/-- Filter() -/
theorem ctX1_init (l : Launch) (g : xG) (a : Nat) (b : Int64)  : Ct l g yX1_init wsX1_init ({ frames := 1, cells := 0, slots := 0, locals := 12 } : Room) 0 0 [(a, ob 1 [.long b])] [.ref a] (fun rV rU => rV = none ∧ rU = [(a, ob 1 [.long b])] ∧ (True)) := by
  refine ct_of (cc := cX1_init) (nL := 1) (ret := none) (by decide) rfl (Nat.le_of_ble_eq_true rfl) ?_
  intro E C Rt0
  have C : Cx l g E ({ frames := 1, cells := 0, slots := 0, locals := 12 } : Room) RX1 "<init>" cX1_init wsX1_init 1 := C
  show X l g E ({ frames := 1, cells := 0, slots := 0, locals := 12 } : Room) 1 [(a, ob 1 [.long b])] 0 0 [(0, .ref a)] 0 []
  refine x_aload_n (pc := 0) C 0 dX1_init_0 rfl ?_
  refine x_objInit (pc := 1) C dX1_init_1 (by decide +kernel) (by decide +kernel) (List.mem_of_getElem? (i := 3) rfl) (by decide) (Nat.le_of_ble_eq_true rfl) ?_
  refine x_vret (pc := 4) C Rt0 dX1_init_4 rfl ?_
  refine ⟨rfl, rfl, ?_⟩
  trivial

set_option maxHeartbeats 4000000 in
set_option maxRecDepth 100000 in
/-- Look() -/
theorem ctX3_init (l : Launch) (g : xG) (a : Nat) (m : Int) (s : Int)  : Ct l g yX3_init wsX3_init ({ frames := 1, cells := 0, slots := 0, locals := 12 } : Room) 0 0 [(a, ob 3 [jv m, jv s])] [.ref a] (fun rV rU => rV = none ∧ rU = [(a, ob 3 [jv m, jv s])] ∧ (True)) := by
  refine ct_of (cc := cX3_init) (nL := 1) (ret := none) (by decide) rfl (Nat.le_of_ble_eq_true rfl) ?_
  intro E C Rt0
  have C : Cx l g E ({ frames := 1, cells := 0, slots := 0, locals := 12 } : Room) RX3 "<init>" cX3_init wsX3_init 1 := C
  show X l g E ({ frames := 1, cells := 0, slots := 0, locals := 12 } : Room) 1 [(a, ob 3 [jv m, jv s])] 0 0 [(0, .ref a)] 0 []
  refine x_aload_n (pc := 0) C 0 dX3_init_0 rfl ?_
  refine x_objInit (pc := 1) C dX3_init_1 (by decide +kernel) (by decide +kernel) (List.mem_of_getElem? (i := 3) rfl) (by decide) (Nat.le_of_ble_eq_true rfl) ?_
  refine x_vret (pc := 4) C Rt0 dX3_init_4 rfl ?_
  refine ⟨rfl, rfl, ?_⟩
  trivial

set_option maxRecDepth 100000 in
theorem hiX4_init_2 : ∀ w ∈ wsX20, w ∈ wsX4_init := by decide +kernel
set_option maxRecDepth 100000 in
theorem hiX4_init_4 : ∀ w ∈ wsX40, w ∈ wsX4_init := by decide +kernel
set_option maxRecDepth 100000 in
theorem hfX4_init_12 : Cond.fieldLink RX4 12 "KeyGuess$Tower" "base" "LKeyGuess$Keys;" ∈ wsX4_init := by decide +kernel
set_option maxRecDepth 100000 in
theorem hfX4_init_18 : Cond.fieldLink RX4 18 "KeyGuess$Tower" "starts" "[I" ∈ wsX4_init := by decide +kernel
set_option maxRecDepth 100000 in
theorem hfX4_init_22 : Cond.fieldLink RX4 22 "KeyGuess$Tower" "froms" "[I" ∈ wsX4_init := by decide +kernel
set_option maxRecDepth 100000 in
theorem hfX4_init_25 : Cond.fieldLink RX4 25 "KeyGuess$Tower" "lasts" "[I" ∈ wsX4_init := by decide +kernel
set_option maxRecDepth 100000 in
theorem hfX4_init_28 : Cond.fieldLink RX4 28 "KeyGuess$Tower" "firsts" "[I" ∈ wsX4_init := by decide +kernel
set_option maxRecDepth 100000 in
theorem hfX4_init_31 : Cond.fieldLink RX4 31 "KeyGuess$Tower" "slopeNums" "[I" ∈ wsX4_init := by decide +kernel
set_option maxRecDepth 100000 in
theorem hfX4_init_34 : Cond.fieldLink RX4 34 "KeyGuess$Tower" "slopeDens" "[I" ∈ wsX4_init := by decide +kernel
set_option maxHeartbeats 4000000 in
set_option maxRecDepth 100000 in
/-- Tower() -/
theorem ctX4_init (l : Launch) (g : xG) (a : Nat)  : Ct l g yX4_init wsX4_init ({ frames := 2, cells := 8, slots := 373, locals := 32 } : Room) 8 373 [(a, ob 4 [.null, .null, .null, .null, .null, .null, .null, jv 0, jv 0])] [.ref a] (fun rV rU => ∃ (q5 : Nat) (kc : Nat) (q18 : Nat) (q26 : Nat) (q34 : Nat) (q42 : Nat) (q50 : Nat) (q58 : Nat), rV = none ∧ rU = [(a, ob 4 [.ref q5, .ref q18, .ref q26, .ref q34, .ref q42, .ref q50, .ref q58, jv 0, jv 0]), (q5, ob 2 [.ref kc, jv 0]), (kc, ai g 60 (fun _ => 0)), (q18, ai g 11 (fun _ => 0)), (q26, ai g 60 (fun _ => 0)), (q34, ai g 60 (fun _ => 0)), (q42, ai g 60 (fun _ => 0)), (q50, ai g 60 (fun _ => 0)), (q58, ai g 60 (fun _ => 0))] ∧ (True)) := by
  refine ct_of (cc := cX4_init) (nL := 1) (ret := none) (by decide) rfl (Nat.le_of_ble_eq_true rfl) ?_
  intro E C Rt0
  have C : Cx l g E ({ frames := 2, cells := 8, slots := 373, locals := 32 } : Room) RX4 "<init>" cX4_init wsX4_init 1 := C
  show X l g E ({ frames := 2, cells := 8, slots := 373, locals := 32 } : Room) 1 [(a, ob 4 [.null, .null, .null, .null, .null, .null, .null, jv 0, jv 0])] 0 0 [(0, .ref a)] 0 []
  refine x_aload_n (pc := 0) C 0 dX4_init_0 rfl ?_
  refine x_objInit (pc := 1) C dX4_init_1 (by decide +kernel) (by decide +kernel) (List.mem_of_getElem? (i := 3) rfl) (by decide) (Nat.le_of_ble_eq_true rfl) ?_
  refine x_aload_n (pc := 4) C 0 dX4_init_4 rfl ?_
  refine x_new (pc := 5) C (fs := [.null, jv 0]) (ci := 2) tyX2 dX4_init_5 hiX4_init_2 tyX2_ok (by decide +kernel) (by decide +kernel) (by decide +kernel) rfl (fun j hj => by match j, hj with | 0, _ => rfl | 1, _ => rfl | k + 2, h => exact absurd h (by omega)) (by decide) (by decide) (fun q5 => ?_)
  show X l g E ({ frames := 2, cells := 8, slots := 373, locals := 32 } : Room) 1 [(a, ob 4 [.null, .null, .null, .null, .null, .null, .null, jv 0, jv 0]), (q5, ob 2 [.null, jv 0])] 1 2 [(0, .ref a)] 8 [.ref q5, .ref a]
  refine x_dup (pc := 8) C dX4_init_8 rfl ?_
  refine x_callI (pc := 9) C (n := 0) (rest := [.ref q5, .ref a]) (wr := [(a, ob 4 [.null, .null, .null, .null, .null, .null, .null, jv 0, jv 0])]) [1] [0] (ctX2_init l g q5 ) ggX4_init_X2_init rfl (by decide +kernel) (by decide +kernel) (by decide +kernel) (by decide +kernel) rfl ⟨rfl, rfl⟩ ⟨by decide, by decide⟩ rfl rfl rfl (by decide) (by decide) (by decide) rfl (Nat.le_of_ble_eq_true rfl) dX4_init_9 ⟨by decide, by decide⟩ (fun v_9 u_9 h_9 => ?_)
  rcases h_9 with ⟨kc, rfl, rfl, f_9⟩
  refine x_world (ws' := [(a, ob 4 [.null, .null, .null, .null, .null, .null, .null, jv 0, jv 0]), (q5, ob 2 [.ref kc, jv 0]), (kc, ai g 60 (fun _ => 0))]) [0, 1, 2] (by decide) rfl ?_
  show X l g E ({ frames := 2, cells := 8, slots := 373, locals := 32 } : Room) 1 [(a, ob 4 [.null, .null, .null, .null, .null, .null, .null, jv 0, jv 0]), (q5, ob 2 [.ref kc, jv 0]), (kc, ai g 60 (fun _ => 0))] 2 62 [(0, .ref a)] 12 [.ref q5, .ref a]
  refine x_putF (pc := 12) C (ty := .object "KeyGuess$Keys") (ws' := [(a, ob 4 [.ref q5, .null, .null, .null, .null, .null, .null, jv 0, jv 0]), (q5, ob 2 [.ref kc, jv 0]), (kc, ai g 60 (fun _ => 0))]) tyX4 0 0 dX4_init_12 hiX4_init_4 tyX4_ok nmX4 hfX4_init_12 rfl rfl rfl (by decide) rfl rfl (by decide +kernel) rfl rfl (Nat.le_of_ble_eq_true rfl) rfl ?_
  refine x_aload_n (pc := 15) C 0 dX4_init_15 rfl ?_
  refine x_bipush (pc := 16) C dX4_init_16 rfl ?_
  refine x_newi (pc := 18) C (N := 11) dX4_init_18 (by decide +kernel) (by decide) (by decide) (by decide) (fun q18 => ?_)
  show X l g E ({ frames := 2, cells := 8, slots := 373, locals := 32 } : Room) 1 [(a, ob 4 [.ref q5, .null, .null, .null, .null, .null, .null, jv 0, jv 0]), (q5, ob 2 [.ref kc, jv 0]), (kc, ai g 60 (fun _ => 0)), (q18, ai g 11 (fun _ => 0))] 3 73 [(0, .ref a)] 20 [.ref q18, .ref a]
  refine x_putF (pc := 20) C (ty := .array .int) (ws' := [(a, ob 4 [.ref q5, .ref q18, .null, .null, .null, .null, .null, jv 0, jv 0]), (q5, ob 2 [.ref kc, jv 0]), (kc, ai g 60 (fun _ => 0)), (q18, ai g 11 (fun _ => 0))]) tyX4 0 1 dX4_init_20 hiX4_init_4 tyX4_ok nmX4 hfX4_init_18 rfl rfl rfl (by decide) rfl rfl (by decide +kernel) rfl rfl (Nat.le_of_ble_eq_true rfl) rfl ?_
  refine x_aload_n (pc := 23) C 0 dX4_init_23 rfl ?_
  refine x_bipush (pc := 24) C dX4_init_24 rfl ?_
  refine x_newi (pc := 26) C (N := 60) dX4_init_26 (by decide +kernel) (by decide) (by decide) (by decide) (fun q26 => ?_)
  show X l g E ({ frames := 2, cells := 8, slots := 373, locals := 32 } : Room) 1 [(a, ob 4 [.ref q5, .ref q18, .null, .null, .null, .null, .null, jv 0, jv 0]), (q5, ob 2 [.ref kc, jv 0]), (kc, ai g 60 (fun _ => 0)), (q18, ai g 11 (fun _ => 0)), (q26, ai g 60 (fun _ => 0))] 4 133 [(0, .ref a)] 28 [.ref q26, .ref a]
  refine x_putF (pc := 28) C (ty := .array .int) (ws' := [(a, ob 4 [.ref q5, .ref q18, .ref q26, .null, .null, .null, .null, jv 0, jv 0]), (q5, ob 2 [.ref kc, jv 0]), (kc, ai g 60 (fun _ => 0)), (q18, ai g 11 (fun _ => 0)), (q26, ai g 60 (fun _ => 0))]) tyX4 0 2 dX4_init_28 hiX4_init_4 tyX4_ok nmX4 hfX4_init_22 rfl rfl rfl (by decide) rfl rfl (by decide +kernel) rfl rfl (Nat.le_of_ble_eq_true rfl) rfl ?_
  refine x_aload_n (pc := 31) C 0 dX4_init_31 rfl ?_
  refine x_bipush (pc := 32) C dX4_init_32 rfl ?_
  refine x_newi (pc := 34) C (N := 60) dX4_init_34 (by decide +kernel) (by decide) (by decide) (by decide) (fun q34 => ?_)
  show X l g E ({ frames := 2, cells := 8, slots := 373, locals := 32 } : Room) 1 [(a, ob 4 [.ref q5, .ref q18, .ref q26, .null, .null, .null, .null, jv 0, jv 0]), (q5, ob 2 [.ref kc, jv 0]), (kc, ai g 60 (fun _ => 0)), (q18, ai g 11 (fun _ => 0)), (q26, ai g 60 (fun _ => 0)), (q34, ai g 60 (fun _ => 0))] 5 193 [(0, .ref a)] 36 [.ref q34, .ref a]
  refine x_putF (pc := 36) C (ty := .array .int) (ws' := [(a, ob 4 [.ref q5, .ref q18, .ref q26, .ref q34, .null, .null, .null, jv 0, jv 0]), (q5, ob 2 [.ref kc, jv 0]), (kc, ai g 60 (fun _ => 0)), (q18, ai g 11 (fun _ => 0)), (q26, ai g 60 (fun _ => 0)), (q34, ai g 60 (fun _ => 0))]) tyX4 0 3 dX4_init_36 hiX4_init_4 tyX4_ok nmX4 hfX4_init_25 rfl rfl rfl (by decide) rfl rfl (by decide +kernel) rfl rfl (Nat.le_of_ble_eq_true rfl) rfl ?_
  refine x_aload_n (pc := 39) C 0 dX4_init_39 rfl ?_
  refine x_bipush (pc := 40) C dX4_init_40 rfl ?_
  refine x_newi (pc := 42) C (N := 60) dX4_init_42 (by decide +kernel) (by decide) (by decide) (by decide) (fun q42 => ?_)
  show X l g E ({ frames := 2, cells := 8, slots := 373, locals := 32 } : Room) 1 [(a, ob 4 [.ref q5, .ref q18, .ref q26, .ref q34, .null, .null, .null, jv 0, jv 0]), (q5, ob 2 [.ref kc, jv 0]), (kc, ai g 60 (fun _ => 0)), (q18, ai g 11 (fun _ => 0)), (q26, ai g 60 (fun _ => 0)), (q34, ai g 60 (fun _ => 0)), (q42, ai g 60 (fun _ => 0))] 6 253 [(0, .ref a)] 44 [.ref q42, .ref a]
  refine x_putF (pc := 44) C (ty := .array .int) (ws' := [(a, ob 4 [.ref q5, .ref q18, .ref q26, .ref q34, .ref q42, .null, .null, jv 0, jv 0]), (q5, ob 2 [.ref kc, jv 0]), (kc, ai g 60 (fun _ => 0)), (q18, ai g 11 (fun _ => 0)), (q26, ai g 60 (fun _ => 0)), (q34, ai g 60 (fun _ => 0)), (q42, ai g 60 (fun _ => 0))]) tyX4 0 4 dX4_init_44 hiX4_init_4 tyX4_ok nmX4 hfX4_init_28 rfl rfl rfl (by decide) rfl rfl (by decide +kernel) rfl rfl (Nat.le_of_ble_eq_true rfl) rfl ?_
  refine x_aload_n (pc := 47) C 0 dX4_init_47 rfl ?_
  refine x_bipush (pc := 48) C dX4_init_48 rfl ?_
  refine x_newi (pc := 50) C (N := 60) dX4_init_50 (by decide +kernel) (by decide) (by decide) (by decide) (fun q50 => ?_)
  show X l g E ({ frames := 2, cells := 8, slots := 373, locals := 32 } : Room) 1 [(a, ob 4 [.ref q5, .ref q18, .ref q26, .ref q34, .ref q42, .null, .null, jv 0, jv 0]), (q5, ob 2 [.ref kc, jv 0]), (kc, ai g 60 (fun _ => 0)), (q18, ai g 11 (fun _ => 0)), (q26, ai g 60 (fun _ => 0)), (q34, ai g 60 (fun _ => 0)), (q42, ai g 60 (fun _ => 0)), (q50, ai g 60 (fun _ => 0))] 7 313 [(0, .ref a)] 52 [.ref q50, .ref a]
  refine x_putF (pc := 52) C (ty := .array .int) (ws' := [(a, ob 4 [.ref q5, .ref q18, .ref q26, .ref q34, .ref q42, .ref q50, .null, jv 0, jv 0]), (q5, ob 2 [.ref kc, jv 0]), (kc, ai g 60 (fun _ => 0)), (q18, ai g 11 (fun _ => 0)), (q26, ai g 60 (fun _ => 0)), (q34, ai g 60 (fun _ => 0)), (q42, ai g 60 (fun _ => 0)), (q50, ai g 60 (fun _ => 0))]) tyX4 0 5 dX4_init_52 hiX4_init_4 tyX4_ok nmX4 hfX4_init_31 rfl rfl rfl (by decide) rfl rfl (by decide +kernel) rfl rfl (Nat.le_of_ble_eq_true rfl) rfl ?_
  refine x_aload_n (pc := 55) C 0 dX4_init_55 rfl ?_
  refine x_bipush (pc := 56) C dX4_init_56 rfl ?_
  refine x_newi (pc := 58) C (N := 60) dX4_init_58 (by decide +kernel) (by decide) (by decide) (by decide) (fun q58 => ?_)
  show X l g E ({ frames := 2, cells := 8, slots := 373, locals := 32 } : Room) 1 [(a, ob 4 [.ref q5, .ref q18, .ref q26, .ref q34, .ref q42, .ref q50, .null, jv 0, jv 0]), (q5, ob 2 [.ref kc, jv 0]), (kc, ai g 60 (fun _ => 0)), (q18, ai g 11 (fun _ => 0)), (q26, ai g 60 (fun _ => 0)), (q34, ai g 60 (fun _ => 0)), (q42, ai g 60 (fun _ => 0)), (q50, ai g 60 (fun _ => 0)), (q58, ai g 60 (fun _ => 0))] 8 373 [(0, .ref a)] 60 [.ref q58, .ref a]
  refine x_putF (pc := 60) C (ty := .array .int) (ws' := [(a, ob 4 [.ref q5, .ref q18, .ref q26, .ref q34, .ref q42, .ref q50, .ref q58, jv 0, jv 0]), (q5, ob 2 [.ref kc, jv 0]), (kc, ai g 60 (fun _ => 0)), (q18, ai g 11 (fun _ => 0)), (q26, ai g 60 (fun _ => 0)), (q34, ai g 60 (fun _ => 0)), (q42, ai g 60 (fun _ => 0)), (q50, ai g 60 (fun _ => 0)), (q58, ai g 60 (fun _ => 0))]) tyX4 0 6 dX4_init_60 hiX4_init_4 tyX4_ok nmX4 hfX4_init_34 rfl rfl rfl (by decide) rfl rfl (by decide +kernel) rfl rfl (Nat.le_of_ble_eq_true rfl) rfl ?_
  refine x_vret (pc := 63) C Rt0 dX4_init_63 rfl ?_
  refine ⟨_, _, _, _, _, _, _, _, rfl, rfl, ?_⟩
  trivial
