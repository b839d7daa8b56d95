theorem Inr.mono {k m : Int} {f : Int → Int} {x : Int} (h : Inr k f x) (hm : k ≤ m) : Inr m f x := by
  obtain ⟨i, i0, i1, i2⟩ := h
  exact ⟨i, i0, by omega, i2⟩
theorem Inr.less {k : Int} {f : Int → Int} {x : Int} (h : Inr (k + 1) f x) (hx : ¬ x = f k) : Inr k f x := by
  obtain ⟨i, i0, i1, i2⟩ := h
  refine ⟨i, i0, ?_, i2⟩
  by_cases q : i = k
  · exact absurd (by rw [← i2, q]) hx
  · omega
def KpR (kf : Int → Int) (e i j uu ub k r : Int) : Prop := (r = 1 ∧ ∀ m : Nat, 1 ≤ m → i + (m : Int) < k → uu * (kf (i + (m : Int)) - kf i) ≤ ((m : Int) + e) * ub) ∨ (r = 0 ∧ ∃ m : Nat, 1 ≤ m ∧ i + (m : Int) ≤ j ∧ ¬ uu * (kf (i + (m : Int)) - kf i) ≤ ((m : Int) + e) * ub)
theorem KpR.is {kf : Int → Int} {e i j uu ub k r : Int} (h : KpR kf e i j uu ub k r) : r = 0 ∨ r = 1 := by
  rcases h with h | h
  · exact Or.inr h.1
  · exact Or.inl h.1
theorem KpR.rg {kf : Int → Int} {e i j uu ub k r : Int} (h : KpR kf e i j uu ub k r) : Rg r := by
  rcases h.is with h | h <;> rw [h] <;> exact ⟨by decide, by decide⟩
def Bst (fw fx : Int → Int) (i k : Int) : Prop := (k = i ∧ fx i = 68) ∨ ((∃ d : Nat, i + (d : Int) < k ∧ fx i = fw (i + (d : Int) + 1) + 1) ∧ ∀ d : Nat, i + (d : Int) < k → fx i ≤ fw (i + (d : Int) + 1) + 1)
theorem nb01 {v : Int} (h : v = 0 ∨ v = 1) : narrow .boolean (jv v) = jv v := by
  rcases h with h | h <;> rw [h] <;> rfl
set_option maxHeartbeats 4000000 in
set_option maxRecDepth 100000 in
/-- in -/
theorem ctX6_in (l : Launch) (g : xG) (v : Int) (u : Int) (w : Int) (rv : Rg v) (ru : Rg u) (rw : Rg w) : Ct l g yX6_in wsX6_in ({ frames := 0, cells := 0, slots := 0, locals := 0 } : Room) 0 0 [] [jv v, jv u, jv w] (fun rV rU => (rV = some (jv 1) ∧ rU = [] ∧ (u ≤ v ∧ v ≤ w)) ∨ (rV = some (jv 0) ∧ rU = [] ∧ (v < u ∨ w < v))) := by
  refine ct_of (cc := cX6_in) (nL := 3) (ret := (some .boolean)) (by decide) rfl (Nat.le_of_ble_eq_true rfl) ?_
  intro E C Rt0
  have C : Cx l g E ({ frames := 0, cells := 0, slots := 0, locals := 0 } : Room) RX6 "in" cX6_in wsX6_in 3 := C
  show X l g E ({ frames := 0, cells := 0, slots := 0, locals := 0 } : Room) 3 [] 0 0 [(0, jv v), (1, jv u), (2, jv w)] 0 []
  have rv1 := rv.1
  have rv2 := rv.2
  have ru1 := ru.1
  have ru2 := ru.2
  have rw1 := rw.1
  have rw2 := rw.2
  refine x_iload_n (pc := 0) C 0 dX6_in_0 rfl ?_
  refine x_iload_n (pc := 1) C 1 dX6_in_1 rfl ?_
  refine x_icmp_lt (pc := 2) C 14 dX6_in_2 rfl ⟨by omega, by omega⟩ ⟨by omega, by omega⟩ (fun c_2 => ?_) (fun c_2 => ?_)
  · refine x_iconst (pc := 14) C dX6_in_14 ?_
    refine x_zret (pc := 15) C Rt0 dX6_in_15 rfl rfl ?_
    refine Or.inr (⟨rfl, rfl, ?_⟩)
    omega
  · refine x_iload_n (pc := 5) C 0 dX6_in_5 rfl ?_
    refine x_iload_n (pc := 6) C 2 dX6_in_6 rfl ?_
    refine x_icmp_gt (pc := 7) C 14 dX6_in_7 rfl ⟨by omega, by omega⟩ ⟨by omega, by omega⟩ (fun c_7 => ?_) (fun c_7 => ?_)
    · refine x_iconst (pc := 14) C dX6_in_14 ?_
      refine x_zret (pc := 15) C Rt0 dX6_in_15 rfl rfl ?_
      refine Or.inr (⟨rfl, rfl, ?_⟩)
      omega
    · refine x_iconst (pc := 10) C dX6_in_10 ?_
      refine x_goto (pc := 11) C 15 dX6_in_11 rfl ?_
      refine x_zret (pc := 15) C Rt0 dX6_in_15 rfl rfl ?_
      refine Or.inl ⟨rfl, rfl, ?_⟩
      omega

set_option maxHeartbeats 4000000 in
set_option maxRecDepth 100000 in
/-- isNumber -/
theorem ctX6_isNumber (l : Launch) (g : xG) (u : Int) (ru : Rg u) : Ct l g yX6_isNumber wsX6_isNumber ({ frames := 1, cells := 0, slots := 0, locals := 22 } : Room) 0 0 [] [jv u] (fun rV rU => (rV = some (jv 1) ∧ rU = [] ∧ (0 ≤ u ∧ u ≤ 1000000)) ∨ (rV = some (jv 0) ∧ rU = [] ∧ (u < 0 ∨ 1000000 < u))) := by
  refine ct_of (cc := cX6_isNumber) (nL := 1) (ret := (some .boolean)) (by decide) rfl (Nat.le_of_ble_eq_true rfl) ?_
  intro E C Rt0
  have C : Cx l g E ({ frames := 1, cells := 0, slots := 0, locals := 22 } : Room) RX6 "isNumber" cX6_isNumber wsX6_isNumber 1 := C
  show X l g E ({ frames := 1, cells := 0, slots := 0, locals := 22 } : Room) 1 [] 0 0 [(0, jv u)] 0 []
  refine x_iload_n (pc := 0) C 0 dX6_isNumber_0 rfl ?_
  refine x_iconst (pc := 1) C dX6_isNumber_1 ?_
  refine x_ldc (pc := 2) C (z := 1000000) dX6_isNumber_2 (fun h => h (.constant RX6 61 (1000000)) (by decide +kernel)) rfl ?_
  refine x_callS (pc := 4) C (n := 3) (rest := []) (wr := []) [] [] (ctX6_in l g u 0 1000000 ru ⟨by omega, by omega⟩ ⟨by omega, by omega⟩) gX6_isNumber_X6_in rfl (by decide +kernel) ⟨rfl, rfl⟩ ⟨by decide, by decide⟩ rfl rfl rfl (by decide) (by decide) (by decide) rfl (Nat.le_of_ble_eq_true rfl) dX6_isNumber_4 ⟨by decide, by decide⟩ (fun v_4 u_4 h_4 => ?_)
  rcases h_4 with ⟨rfl, rfl, f_4⟩ | ⟨rfl, rfl, f_4⟩
  · refine x_world (ws' := []) [] (by decide) rfl ?_
    show X l g E ({ frames := 1, cells := 0, slots := 0, locals := 22 } : Room) 1 [] 0 0 [(0, jv u)] 7 [jv 1]
    refine x_zret (pc := 7) C Rt0 dX6_isNumber_7 rfl rfl ?_
    refine Or.inl ⟨rfl, rfl, ?_⟩
    omega
  · refine x_world (ws' := []) [] (by decide) rfl ?_
    show X l g E ({ frames := 1, cells := 0, slots := 0, locals := 22 } : Room) 1 [] 0 0 [(0, jv u)] 7 [jv 0]
    refine x_zret (pc := 7) C Rt0 dX6_isNumber_7 rfl rfl ?_
    refine Or.inr (⟨rfl, rfl, ?_⟩)
    omega

set_option maxHeartbeats 4000000 in
set_option maxRecDepth 100000 in
/-- isSpan -/
theorem ctX6_isSpan (l : Launch) (g : xG) (u : Int) (v : Int) (ru : Rg u) (rv : Rg v) : Ct l g yX6_isSpan wsX6_isSpan ({ frames := 2, cells := 0, slots := 0, locals := 42 } : Room) 0 0 [] [jv u, jv v] (fun rV rU => (rV = some (jv 1) ∧ rU = [] ∧ (0 ≤ u ∧ u ≤ v ∧ v ≤ 1000000)) ∨ (rV = some (jv 0) ∧ rU = [] ∧ (u < 0 ∨ 1000000 < u ∨ v < 0 ∨ 1000000 < v ∨ v < u))) := by
  refine ct_of (cc := cX6_isSpan) (nL := 2) (ret := (some .boolean)) (by decide) rfl (Nat.le_of_ble_eq_true rfl) ?_
  intro E C Rt0
  have C : Cx l g E ({ frames := 2, cells := 0, slots := 0, locals := 42 } : Room) RX6 "isSpan" cX6_isSpan wsX6_isSpan 2 := C
  show X l g E ({ frames := 2, cells := 0, slots := 0, locals := 42 } : Room) 2 [] 0 0 [(0, jv u), (1, jv v)] 0 []
  refine x_iload_n (pc := 0) C 0 dX6_isSpan_0 rfl ?_
  refine x_callS (pc := 1) C (n := 1) (rest := []) (wr := []) [] [] (ctX6_isNumber l g u ru) gX6_isSpan_X6_isNumber rfl (by decide +kernel) ⟨rfl, rfl⟩ ⟨by decide, by decide⟩ rfl rfl rfl (by decide) (by decide) (by decide) rfl (Nat.le_of_ble_eq_true rfl) dX6_isSpan_1 ⟨by decide, by decide⟩ (fun v_1 u_1 h_1 => ?_)
  rcases h_1 with ⟨rfl, rfl, f_1⟩ | ⟨rfl, rfl, f_1⟩
  · refine x_world (ws' := []) [] (by decide) rfl ?_
    show X l g E ({ frames := 2, cells := 0, slots := 0, locals := 42 } : Room) 2 [] 0 0 [(0, jv u), (1, jv v)] 4 [jv 1]
    refine x_if_eq (pc := 4) C 23 dX6_isSpan_4 rfl ⟨by decide, by decide⟩ (fun h => absurd h (by decide)) (fun _ => ?_)
    refine x_iload_n (pc := 7) C 1 dX6_isSpan_7 rfl ?_
    refine x_callS (pc := 8) C (n := 1) (rest := []) (wr := []) [] [] (ctX6_isNumber l g v rv) gX6_isSpan_X6_isNumber rfl (by decide +kernel) ⟨rfl, rfl⟩ ⟨by decide, by decide⟩ rfl rfl rfl (by decide) (by decide) (by decide) rfl (Nat.le_of_ble_eq_true rfl) dX6_isSpan_8 ⟨by decide, by decide⟩ (fun v_8 u_8 h_8 => ?_)
    rcases h_8 with ⟨rfl, rfl, f_8⟩ | ⟨rfl, rfl, f_8⟩
    · refine x_world (ws' := []) [] (by decide) rfl ?_
      show X l g E ({ frames := 2, cells := 0, slots := 0, locals := 42 } : Room) 2 [] 0 0 [(0, jv u), (1, jv v)] 11 [jv 1]
      refine x_if_eq (pc := 11) C 23 dX6_isSpan_11 rfl ⟨by decide, by decide⟩ (fun h => absurd h (by decide)) (fun _ => ?_)
      refine x_iload_n (pc := 14) C 0 dX6_isSpan_14 rfl ?_
      refine x_iload_n (pc := 15) C 1 dX6_isSpan_15 rfl ?_
      refine x_icmp_gt (pc := 16) C 23 dX6_isSpan_16 rfl ⟨by omega, by omega⟩ ⟨by omega, by omega⟩ (fun c_16 => ?_) (fun c_16 => ?_)
      · refine x_iconst (pc := 23) C dX6_isSpan_23 ?_
        refine x_zret (pc := 24) C Rt0 dX6_isSpan_24 rfl rfl ?_
        refine Or.inr (⟨rfl, rfl, ?_⟩)
        omega
      · refine x_iconst (pc := 19) C dX6_isSpan_19 ?_
        refine x_goto (pc := 20) C 24 dX6_isSpan_20 rfl ?_
        refine x_zret (pc := 24) C Rt0 dX6_isSpan_24 rfl rfl ?_
        refine Or.inl ⟨rfl, rfl, ?_⟩
        omega
    · refine x_world (ws' := []) [] (by decide) rfl ?_
      show X l g E ({ frames := 2, cells := 0, slots := 0, locals := 42 } : Room) 2 [] 0 0 [(0, jv u), (1, jv v)] 11 [jv 0]
      refine x_if_eq (pc := 11) C 23 dX6_isSpan_11 rfl ⟨by decide, by decide⟩ (fun _ => ?_) (fun h => absurd h (by decide))
      refine x_iconst (pc := 23) C dX6_isSpan_23 ?_
      refine x_zret (pc := 24) C Rt0 dX6_isSpan_24 rfl rfl ?_
      refine Or.inr (⟨rfl, rfl, ?_⟩)
      omega
  · refine x_world (ws' := []) [] (by decide) rfl ?_
    show X l g E ({ frames := 2, cells := 0, slots := 0, locals := 42 } : Room) 2 [] 0 0 [(0, jv u), (1, jv v)] 4 [jv 0]
    refine x_if_eq (pc := 4) C 23 dX6_isSpan_4 rfl ⟨by decide, by decide⟩ (fun _ => ?_) (fun h => absurd h (by decide))
    refine x_iconst (pc := 23) C dX6_isSpan_23 ?_
    refine x_zret (pc := 24) C Rt0 dX6_isSpan_24 rfl rfl ?_
    refine Or.inr (⟨rfl, rfl, ?_⟩)
    omega

set_option maxHeartbeats 4000000 in
set_option maxRecDepth 100000 in
/-- placeIn -/
theorem ctX6_placeIn (l : Launch) (g : xG) (d : Nat) (N : Nat) (n : Int) (x : Int) (f : Int → Int) (hN : 0 ≤ n ∧ n ≤ N ∧ N ≤ 70) (hf : ∀ i : Int, 0 ≤ i → i < n → 0 ≤ f i ∧ f i ≤ 1000000) (hx : Rg x) : Ct l g yX6_placeIn wsX6_placeIn ({ frames := 0, cells := 0, slots := 0, locals := 0 } : Room) 0 0 [(d, ai g N f)] [.ref d, jv n, jv x] (fun rV rU => (∃ (k : Int), rV = some (jv k) ∧ rU = [(d, ai g N f)] ∧ (0 ≤ k ∧ k < n ∧ f k = x)) ∨ (rV = some (jv (-1)) ∧ rU = [(d, ai g N f)] ∧ (¬ Inr n f x))) := by
  refine ct_of (cc := cX6_placeIn) (nL := 4) (ret := (some .int)) (by decide) rfl (Nat.le_of_ble_eq_true rfl) ?_
  intro E C Rt0
  have C : Cx l g E ({ frames := 0, cells := 0, slots := 0, locals := 0 } : Room) RX6 "placeIn" cX6_placeIn wsX6_placeIn 4 := C
  show X l g E ({ frames := 0, cells := 0, slots := 0, locals := 0 } : Room) 4 [(d, ai g N f)] 0 0 [(0, .ref d), (1, jv n), (2, jv x)] 0 []
  refine x_iconst (pc := 0) C dX6_placeIn_0 ?_
  refine x_istore_n (pc := 1) C (lv' := [(3, jv 0), (0, .ref d), (1, jv n), (2, jv x)]) dX6_placeIn_1 (by decide) rfl ?_
  have L2 : ∀ (nn : Nat) (k : Int), (n - k).toNat < nn → (0 ≤ k ∧ k ≤ n) → (∀ i : Int, 0 ≤ i → i < k → f i ≠ x) → X l g E ({ frames := 0, cells := 0, slots := 0, locals := 0 } : Room) 4 [(d, ai g N f)] 0 0 [(0, .ref d), (1, jv n), (2, jv x), (3, jv k)] 2 [] := by
    intro nn
    induction nn with
    | zero => intro k hμ; exact absurd hμ (Nat.not_lt_zero _)
    | succ nn ih2 =>
      intro k hμ hk hno
      refine x_iload_n (pc := 2) C 3 dX6_placeIn_2 rfl ?_
      refine x_iload_n (pc := 3) C 1 dX6_placeIn_3 rfl ?_
      refine x_icmp_ge (pc := 4) C 22 dX6_placeIn_4 rfl ⟨by omega, by omega⟩ ⟨by omega, by omega⟩ (fun c_4 => ?_) (fun c_4 => ?_)
      · refine x_iconst (pc := 22) C dX6_placeIn_22 ?_
        refine x_iret (pc := 23) C Rt0 dX6_placeIn_23 rfl ?_
        refine Or.inr (⟨rfl, rfl, ?_⟩)
        intro ⟨i, i0, i1, i2⟩
        exact hno i i0 (by omega) i2
      · refine x_aload_n (pc := 7) C 0 dX6_placeIn_7 rfl ?_
        refine x_iload_n (pc := 8) C 3 dX6_placeIn_8 rfl ?_
        have hN2 : (n : Int) ≤ (N : Int) := hN.2.1
        refine x_iald (pc := 9) C 0 dX6_placeIn_9 rfl (by omega) (by omega) (by omega) ?_
        have hb := hf k (by omega) (by omega)
        refine x_iload_n (pc := 10) C 2 dX6_placeIn_10 rfl ?_
        refine x_icmp_ne (pc := 11) C 16 dX6_placeIn_11 rfl ⟨by omega, by omega⟩ hx (fun c_11 => ?_) (fun c_11 => ?_)
        · refine x_iinc (pc := 16) C (lv' := [(3, jv (k + 1)), (0, .ref d), (1, jv n), (2, jv x)]) 3 dX6_placeIn_16 rfl (by decide) rfl ?_
          refine x_goto (pc := 19) C 2 dX6_placeIn_19 rfl ?_
          refine x_locals (lv' := [(0, .ref d), (1, jv n), (2, jv x), (3, jv (k + 1))]) [1, 2, 3, 0] rfl ?_
          refine ih2 _ ?_ ?_ ?_
          · omega
          · omega
          · exact al_s hno c_11
        · refine x_iload_n (pc := 14) C 3 dX6_placeIn_14 rfl ?_
          refine x_iret (pc := 15) C Rt0 dX6_placeIn_15 rfl ?_
          refine Or.inl ⟨_, rfl, rfl, ?_⟩
          omega
  refine x_locals (lv' := [(0, .ref d), (1, jv n), (2, jv x), (3, jv 0)]) [1, 2, 3, 0] rfl ?_
  refine L2 _ _ (Nat.lt_succ_self _) ?_ ?_
  · omega
  · exact al_0

set_option maxRecDepth 100000 in
theorem hiX6_insertNow_6 : ∀ w ∈ wsX60, w ∈ wsX6_insertNow := by decide +kernel
set_option maxRecDepth 100000 in
theorem hfX6_insertNow_66 : Cond.fieldLink RX6 66 "KeyGuessModel" "nowMany" "I" ∈ wsX6_insertNow := by decide +kernel
set_option maxRecDepth 100000 in
theorem hfX6_insertNow_27 : Cond.fieldLink RX6 27 "KeyGuessModel" "now" "[I" ∈ wsX6_insertNow := by decide +kernel
set_option maxHeartbeats 4000000 in
set_option maxRecDepth 100000 in
/-- insertNow -/
theorem ctX6_insertNow (l : Launch) (g : xG) (o : Nat) (d1 : Nat) (d2 : Nat) (d3 : Nat) (d4 : Nat) (d5 : Nat) (d6 : Nat) (d7 : Nat) (d8 : Nat) (d9 : Nat) (da : Nat) (db : Nat) (dc : Nat) (dd : Nat) (de : Nat) (rn : Int) (e : Int) (nc : Int) (oc : Int) (co : Int) (un : Int) (kn : Int) (lU : Int) (lB : Int) (vn : Int) (lk : Int) (uf : Int → Int) (x : Int) (hs : Ks un uf) (hu : un < 70) (hx : 0 ≤ x ∧ x ≤ 1000000) (hi : ¬ Inr un uf x) : Ct l g yX6_insertNow wsX6_insertNow ({ frames := 0, cells := 0, slots := 0, locals := 0 } : Room) 0 0 [(o, ob 6 [jv rn, .ref d1, jv e, jv nc, .ref d2, jv oc, .ref d3, jv co, .ref d4, jv un, .ref d5, jv kn, .ref d6, .ref d7, .ref d8, Jv lU, Jv lB, jv vn, .ref d9, .ref da, .ref db, .ref dc, .ref dd, .ref de, jv lk]), (d5, ai g 70 uf)] [.ref o, jv x] (fun rV rU => ∃ (k : Int) (f' : Int → Int), rV = none ∧ rU = [(o, ob 6 [jv rn, .ref d1, jv e, jv nc, .ref d2, jv oc, .ref d3, jv co, .ref d4, jv (un + 1), .ref d5, jv kn, .ref d6, .ref d7, .ref d8, Jv lU, Jv lB, jv vn, .ref d9, .ref da, .ref db, .ref dc, .ref dd, .ref de, jv lk]), (d5, ai g 70 f')] ∧ (Ins un uf x k f')) := by
  refine ct_of (cc := cX6_insertNow) (nL := 3) (ret := none) (by decide) rfl (Nat.le_of_ble_eq_true rfl) ?_
  intro E C Rt0
  have C : Cx l g E ({ frames := 0, cells := 0, slots := 0, locals := 0 } : Room) RX6 "insertNow" cX6_insertNow wsX6_insertNow 3 := C
  show X l g E ({ frames := 0, cells := 0, slots := 0, locals := 0 } : Room) 3 [(o, ob 6 [jv rn, .ref d1, jv e, jv nc, .ref d2, jv oc, .ref d3, jv co, .ref d4, jv un, .ref d5, jv kn, .ref d6, .ref d7, .ref d8, Jv lU, Jv lB, jv vn, .ref d9, .ref da, .ref db, .ref dc, .ref dd, .ref de, jv lk]), (d5, ai g 70 uf)] 0 0 [(0, .ref o), (1, jv x)] 0 []
  have hu0 := hs.1
  refine x_aload_n (pc := 0) C 0 dX6_insertNow_0 rfl ?_
  refine x_get (pc := 1) C 0 9 dX6_insertNow_1 hiX6_insertNow_6 hfX6_insertNow_66 rfl rfl rfl (by decide) rfl ?_
  refine x_istore_n (pc := 4) C (lv' := [(2, jv un), (0, .ref o), (1, jv x)]) dX6_insertNow_4 (by decide) rfl ?_
  have L5 : ∀ (nn : Nat) (i : Int) (h : Int → Int), (i).toNat < nn → (0 ≤ i ∧ i ≤ un) → (∀ j : Int, 0 ≤ j → j < i → h j = uf j) → (∀ j : Int, i < j → j ≤ un → h j = uf (j - 1)) → (∀ j : Int, i ≤ j → j < un → x < uf j) → X l g E ({ frames := 0, cells := 0, slots := 0, locals := 0 } : Room) 3 [(o, ob 6 [jv rn, .ref d1, jv e, jv nc, .ref d2, jv oc, .ref d3, jv co, .ref d4, jv un, .ref d5, jv kn, .ref d6, .ref d7, .ref d8, Jv lU, Jv lB, jv vn, .ref d9, .ref da, .ref db, .ref dc, .ref dd, .ref de, jv lk]), (d5, ai g 70 h)] 0 0 [(0, .ref o), (1, jv x), (2, jv i)] 5 [] := by
    intro nn
    induction nn with
    | zero => intro i h hμ; exact absurd hμ (Nat.not_lt_zero _)
    | succ nn ih5 =>
      intro i h hμ hi0 ha hb hc
      refine x_iload_n (pc := 5) C 2 dX6_insertNow_5 rfl ?_
      refine x_if_le (pc := 6) C 41 dX6_insertNow_6 rfl ⟨by omega, by omega⟩ (fun c_6 => ?_) (fun c_6 => ?_)
      · refine x_aload_n (pc := 41) C 0 dX6_insertNow_41 rfl ?_
        refine x_get (pc := 42) C 0 10 dX6_insertNow_42 hiX6_insertNow_6 hfX6_insertNow_27 rfl rfl rfl (by decide) rfl ?_
        refine x_iload_n (pc := 45) C 2 dX6_insertNow_45 rfl ?_
        refine x_iload_n (pc := 46) C 1 dX6_insertNow_46 rfl ?_
        refine x_iast (pc := 47) C (ws' := [(o, ob 6 [jv rn, .ref d1, jv e, jv nc, .ref d2, jv oc, .ref d3, jv co, .ref d4, jv un, .ref d5, jv kn, .ref d6, .ref d7, .ref d8, Jv lU, Jv lB, jv vn, .ref d9, .ref da, .ref db, .ref dc, .ref dd, .ref de, jv lk]), (d5, ai g 70 (up h i x))]) 1 dX6_insertNow_47 rfl (by omega) (by omega) (by decide) rfl ?_
        refine x_aload_n (pc := 48) C 0 dX6_insertNow_48 rfl ?_
        refine x_dup (pc := 49) C dX6_insertNow_49 rfl ?_
        refine x_get (pc := 50) C 0 9 dX6_insertNow_50 hiX6_insertNow_6 hfX6_insertNow_66 rfl rfl rfl (by decide) rfl ?_
        refine x_iconst (pc := 53) C dX6_insertNow_53 ?_
        refine x_iadd (pc := 54) C dX6_insertNow_54 ?_
        refine x_put (pc := 55) C (ty := .int) (ws' := [(o, ob 6 [jv rn, .ref d1, jv e, jv nc, .ref d2, jv oc, .ref d3, jv co, .ref d4, jv (un + 1), .ref d5, jv kn, .ref d6, .ref d7, .ref d8, Jv lU, Jv lB, jv vn, .ref d9, .ref da, .ref db, .ref dc, .ref dd, .ref de, jv lk]), (d5, ai g 70 (up h i x))]) tyX6 0 9 dX6_insertNow_55 hiX6_insertNow_6 tyX6_ok nmX6 hfX6_insertNow_66 rfl rfl rfl (by decide) rfl (by decide +kernel) rfl rfl (Nat.le_of_ble_eq_true rfl) rfl ?_
        refine x_vret (pc := 58) C Rt0 dX6_insertNow_58 rfl ?_
        refine ⟨i, _, rfl, rfl, ?_⟩
        refine ⟨⟨by omega, by omega, fun j j0 j1 => ?_, fun j j0 j1 => Int.le_of_lt (hc j j0 j1)⟩, fun j j0 j1 => by rw [up_ne _ _ (by omega)]; exact ha j j0 j1, up_eq _ _ _, fun j j0 j1 => by rw [up_ne _ _ (by omega)]; exact hb j j0 j1⟩
        omega
      · refine x_aload_n (pc := 9) C 0 dX6_insertNow_9 rfl ?_
        refine x_get (pc := 10) C 0 10 dX6_insertNow_10 hiX6_insertNow_6 hfX6_insertNow_27 rfl rfl rfl (by decide) rfl ?_
        refine x_iload_n (pc := 13) C 2 dX6_insertNow_13 rfl ?_
        refine x_iconst (pc := 14) C dX6_insertNow_14 ?_
        refine x_isub (pc := 15) C dX6_insertNow_15 ?_
        refine x_iald (pc := 16) C 1 dX6_insertNow_16 rfl (by omega) (by omega) (by decide) ?_
        have hhi := ha (i - 1) (by omega) (by omega)
        have hbd := hs.2.1 (i - 1) (by omega) (by omega)
        refine x_iload_n (pc := 17) C 1 dX6_insertNow_17 rfl ?_
        refine x_icmp_le (pc := 18) C 41 dX6_insertNow_18 rfl ⟨by omega, by omega⟩ ⟨by omega, by omega⟩ (fun c_18 => ?_) (fun c_18 => ?_)
        · refine x_aload_n (pc := 41) C 0 dX6_insertNow_41 rfl ?_
          refine x_get (pc := 42) C 0 10 dX6_insertNow_42 hiX6_insertNow_6 hfX6_insertNow_27 rfl rfl rfl (by decide) rfl ?_
          refine x_iload_n (pc := 45) C 2 dX6_insertNow_45 rfl ?_
          refine x_iload_n (pc := 46) C 1 dX6_insertNow_46 rfl ?_
          refine x_iast (pc := 47) C (ws' := [(o, ob 6 [jv rn, .ref d1, jv e, jv nc, .ref d2, jv oc, .ref d3, jv co, .ref d4, jv un, .ref d5, jv kn, .ref d6, .ref d7, .ref d8, Jv lU, Jv lB, jv vn, .ref d9, .ref da, .ref db, .ref dc, .ref dd, .ref de, jv lk]), (d5, ai g 70 (up h i x))]) 1 dX6_insertNow_47 rfl (by omega) (by omega) (by decide) rfl ?_
          refine x_aload_n (pc := 48) C 0 dX6_insertNow_48 rfl ?_
          refine x_dup (pc := 49) C dX6_insertNow_49 rfl ?_
          refine x_get (pc := 50) C 0 9 dX6_insertNow_50 hiX6_insertNow_6 hfX6_insertNow_66 rfl rfl rfl (by decide) rfl ?_
          refine x_iconst (pc := 53) C dX6_insertNow_53 ?_
          refine x_iadd (pc := 54) C dX6_insertNow_54 ?_
          refine x_put (pc := 55) C (ty := .int) (ws' := [(o, ob 6 [jv rn, .ref d1, jv e, jv nc, .ref d2, jv oc, .ref d3, jv co, .ref d4, jv (un + 1), .ref d5, jv kn, .ref d6, .ref d7, .ref d8, Jv lU, Jv lB, jv vn, .ref d9, .ref da, .ref db, .ref dc, .ref dd, .ref de, jv lk]), (d5, ai g 70 (up h i x))]) tyX6 0 9 dX6_insertNow_55 hiX6_insertNow_6 tyX6_ok nmX6 hfX6_insertNow_66 rfl rfl rfl (by decide) rfl (by decide +kernel) rfl rfl (Nat.le_of_ble_eq_true rfl) rfl ?_
          refine x_vret (pc := 58) C Rt0 dX6_insertNow_58 rfl ?_
          refine ⟨i, _, rfl, rfl, ?_⟩
          refine ⟨⟨by omega, by omega, fun j j0 j1 => ?_, fun j j0 j1 => Int.le_of_lt (hc j j0 j1)⟩, fun j j0 j1 => by rw [up_ne _ _ (by omega)]; exact ha j j0 j1, up_eq _ _ _, fun j j0 j1 => by rw [up_ne _ _ (by omega)]; exact hb j j0 j1⟩
          have q := hs.le j0 (show j ≤ i - 1 by omega) (by omega)
          have q2 : uf j ≠ x := fun z => hi ⟨j, j0, by omega, z⟩
          omega
        · refine x_aload_n (pc := 21) C 0 dX6_insertNow_21 rfl ?_
          refine x_get (pc := 22) C 0 10 dX6_insertNow_22 hiX6_insertNow_6 hfX6_insertNow_27 rfl rfl rfl (by decide) rfl ?_
          refine x_iload_n (pc := 25) C 2 dX6_insertNow_25 rfl ?_
          refine x_aload_n (pc := 26) C 0 dX6_insertNow_26 rfl ?_
          refine x_get (pc := 27) C 0 10 dX6_insertNow_27 hiX6_insertNow_6 hfX6_insertNow_27 rfl rfl rfl (by decide) rfl ?_
          refine x_iload_n (pc := 30) C 2 dX6_insertNow_30 rfl ?_
          refine x_iconst (pc := 31) C dX6_insertNow_31 ?_
          refine x_isub (pc := 32) C dX6_insertNow_32 ?_
          refine x_iald (pc := 33) C 1 dX6_insertNow_33 rfl (by omega) (by omega) (by decide) ?_
          refine x_iast (pc := 34) C (ws' := [(o, ob 6 [jv rn, .ref d1, jv e, jv nc, .ref d2, jv oc, .ref d3, jv co, .ref d4, jv un, .ref d5, jv kn, .ref d6, .ref d7, .ref d8, Jv lU, Jv lB, jv vn, .ref d9, .ref da, .ref db, .ref dc, .ref dd, .ref de, jv lk]), (d5, ai g 70 (up h i (h (i - 1))))]) 1 dX6_insertNow_34 rfl (by omega) (by omega) (by decide) rfl ?_
          refine x_iinc (pc := 35) C (lv' := [(2, jv (i + (-1))), (0, .ref o), (1, jv x)]) 2 dX6_insertNow_35 rfl (by decide) rfl ?_
          refine x_goto (pc := 38) C 5 dX6_insertNow_38 rfl ?_
          refine x_locals (lv' := [(0, .ref o), (1, jv x), (2, jv (i + (-1)))]) [1, 2, 0] rfl ?_
          refine ih5 _ _ ?_ ?_ ?_ ?_ ?_
          · omega
          · omega
          · exact fun j j0 j1 => by rw [up_ne _ _ (by omega)]; exact ha j j0 (by omega)
          · intro j j0 j1
            by_cases q : j = i
            · rw [q, up_eq]; exact ha _ (by omega) (by omega)
            · rw [up_ne _ _ q]; exact hb j (by omega) j1
          · intro j j0 j1
            by_cases q : j = i - 1
            · rw [q, ← hhi]; omega
            · exact hc j (by omega) j1
  refine x_locals (lv' := [(0, .ref o), (1, jv x), (2, jv un)]) [1, 2, 0] rfl ?_
  refine L5 _ _ _ (Nat.lt_succ_self _) ?_ ?_ ?_ ?_
  · omega
  · exact fun _ _ _ => rfl
  · exact fun j j0 j1 => absurd j0 (by omega)
  · exact fun j j0 j1 => absurd j0 (by omega)

set_option maxRecDepth 100000 in
theorem hiX6_layNow_6 : ∀ w ∈ wsX60, w ∈ wsX6_layNow := by decide +kernel
set_option maxRecDepth 100000 in
theorem hfX6_layNow_66 : Cond.fieldLink RX6 66 "KeyGuessModel" "nowMany" "I" ∈ wsX6_layNow := by decide +kernel
set_option maxRecDepth 100000 in
theorem hfX6_layNow_69 : Cond.fieldLink RX6 69 "KeyGuessModel" "rowMany" "I" ∈ wsX6_layNow := by decide +kernel
set_option maxRecDepth 100000 in
theorem hfX6_layNow_83 : Cond.fieldLink RX6 83 "KeyGuessModel" "newMany" "I" ∈ wsX6_layNow := by decide +kernel
set_option maxRecDepth 100000 in
theorem hfX6_layNow_17 : Cond.fieldLink RX6 17 "KeyGuessModel" "news" "[I" ∈ wsX6_layNow := by decide +kernel
set_option maxRecDepth 100000 in
theorem hfX6_layNow_20 : Cond.fieldLink RX6 20 "KeyGuessModel" "olds" "[I" ∈ wsX6_layNow := by decide +kernel
set_option maxRecDepth 100000 in
theorem hfX6_layNow_72 : Cond.fieldLink RX6 72 "KeyGuessModel" "oldMany" "I" ∈ wsX6_layNow := by decide +kernel
set_option maxRecDepth 100000 in
theorem hfX6_layNow_7 : Cond.fieldLink RX6 7 "KeyGuessModel" "row" "[I" ∈ wsX6_layNow := by decide +kernel
set_option maxHeartbeats 4000000 in
set_option maxRecDepth 100000 in
/-- layNow -/
theorem ctX6_layNow (l : Launch) (g : xG) (o : Nat) (d1 : Nat) (d2 : Nat) (d3 : Nat) (d4 : Nat) (d5 : Nat) (d6 : Nat) (d7 : Nat) (d8 : Nat) (d9 : Nat) (da : Nat) (db : Nat) (dc : Nat) (dd : Nat) (de : Nat) (rn : Int) (e : Int) (nc : Int) (oc : Int) (co : Int) (un : Int) (kn : Int) (lU : Int) (lB : Int) (vn : Int) (lk : Int) (rf : Int → Int) (nw : Int → Int) (ol : Int → Int) (uf : Int → Int) (nn : Int) (nf : Int → Int) (hno : NO nn nf rn rf nc nw oc ol) : Ct l g yX6_layNow wsX6_layNow ({ frames := 1, cells := 0, slots := 0, locals := 23 } : Room) 0 0 [(o, ob 6 [jv rn, .ref d1, jv e, jv nc, .ref d2, jv oc, .ref d3, jv co, .ref d4, jv un, .ref d5, jv kn, .ref d6, .ref d7, .ref d8, Jv lU, Jv lB, jv vn, .ref d9, .ref da, .ref db, .ref dc, .ref dd, .ref de, jv lk]), (d1, ai g 61 rf), (d2, ai g 9 nw), (d3, ai g 9 ol), (d5, ai g 70 uf)] [.ref o] (fun rV rU => ∃ (f' : Int → Int), rV = none ∧ rU = [(o, ob 6 [jv rn, .ref d1, jv e, jv nc, .ref d2, jv oc, .ref d3, jv co, .ref d4, jv nn, .ref d5, jv kn, .ref d6, .ref d7, .ref d8, Jv lU, Jv lB, jv vn, .ref d9, .ref da, .ref db, .ref dc, .ref dd, .ref de, jv lk]), (d1, ai g 61 rf), (d2, ai g 9 nw), (d3, ai g 9 ol), (d5, ai g 70 f')] ∧ (Agr nn f' nf)) := by
  refine ct_of (cc := cX6_layNow) (nL := 2) (ret := none) (by decide) rfl (Nat.le_of_ble_eq_true rfl) ?_
  intro E C Rt0
  have C : Cx l g E ({ frames := 1, cells := 0, slots := 0, locals := 23 } : Room) RX6 "layNow" cX6_layNow wsX6_layNow 2 := C
  show X l g E ({ frames := 1, cells := 0, slots := 0, locals := 23 } : Room) 2 [(o, ob 6 [jv rn, .ref d1, jv e, jv nc, .ref d2, jv oc, .ref d3, jv co, .ref d4, jv un, .ref d5, jv kn, .ref d6, .ref d7, .ref d8, Jv lU, Jv lB, jv vn, .ref d9, .ref da, .ref db, .ref dc, .ref dd, .ref de, jv lk]), (d1, ai g 61 rf), (d2, ai g 9 nw), (d3, ai g 9 ol), (d5, ai g 70 uf)] 0 0 [(0, .ref o)] 0 []
  obtain ⟨n1, n2, n3, n4, n5, n6, n7, n8, n9, n10⟩ := id hno
  have rn0 := n2.1
  have rn1 := n2.2.1
  refine x_aload_n (pc := 0) C 0 dX6_layNow_0 rfl ?_
  refine x_iconst (pc := 1) C dX6_layNow_1 ?_
  refine x_put (pc := 2) C (ty := .int) (ws' := [(o, ob 6 [jv rn, .ref d1, jv e, jv nc, .ref d2, jv oc, .ref d3, jv co, .ref d4, jv 0, .ref d5, jv kn, .ref d6, .ref d7, .ref d8, Jv lU, Jv lB, jv vn, .ref d9, .ref da, .ref db, .ref dc, .ref dd, .ref de, jv lk]), (d1, ai g 61 rf), (d2, ai g 9 nw), (d3, ai g 9 ol), (d5, ai g 70 uf)]) tyX6 0 9 dX6_layNow_2 hiX6_layNow_6 tyX6_ok nmX6 hfX6_layNow_66 rfl rfl rfl (by decide) rfl (by decide +kernel) rfl rfl (Nat.le_of_ble_eq_true rfl) rfl ?_
  refine x_iconst (pc := 5) C dX6_layNow_5 ?_
  refine x_istore_n (pc := 6) C (lv' := [(1, jv 0), (0, .ref o)]) dX6_layNow_6 (by decide) rfl ?_
  have L7 : ∀ (nn : Nat) (k : Int) (z : Int) (u : Int → Int), (rn - k).toNat < nn → (0 ≤ k ∧ k ≤ rn ∧ z ≤ k) → (Ks z u) → (∀ x : Int, Inr z u x ↔ Inr k rf x ∧ ¬ Inr oc ol x) → X l g E ({ frames := 1, cells := 0, slots := 0, locals := 23 } : Room) 2 [(o, ob 6 [jv rn, .ref d1, jv e, jv nc, .ref d2, jv oc, .ref d3, jv co, .ref d4, jv z, .ref d5, jv kn, .ref d6, .ref d7, .ref d8, Jv lU, Jv lB, jv vn, .ref d9, .ref da, .ref db, .ref dc, .ref dd, .ref de, jv lk]), (d1, ai g 61 rf), (d2, ai g 9 nw), (d3, ai g 9 ol), (d5, ai g 70 u)] 0 0 [(0, .ref o), (1, jv k)] 7 [] := by
    intro nn
    induction nn with
    | zero => intro k z u hμ; exact absurd hμ (Nat.not_lt_zero _)
    | succ nn ih7 =>
      intro k z u hμ hk hs hm
      refine x_iload_n (pc := 7) C 1 dX6_layNow_7 rfl ?_
      refine x_aload_n (pc := 8) C 0 dX6_layNow_8 rfl ?_
      refine x_get (pc := 9) C 0 0 dX6_layNow_9 hiX6_layNow_6 hfX6_layNow_69 rfl rfl rfl (by decide) rfl ?_
      refine x_icmp_ge (pc := 12) C 52 dX6_layNow_12 rfl ⟨by omega, by omega⟩ ⟨by omega, by omega⟩ (fun c_12 => ?_) (fun c_12 => ?_)
      · refine x_iconst (pc := 52) C dX6_layNow_52 ?_
        refine x_istore_n (pc := 53) C (lv' := [(1, jv 0), (0, .ref o)]) dX6_layNow_53 (by decide) rfl ?_
        have L54 : ∀ (nn : Nat) (k : Int) (z : Int) (u : Int → Int), (nc - k).toNat < nn → (0 ≤ k ∧ k ≤ nc ∧ z ≤ 60 + k) → (Ks z u) → (∀ x : Int, Inr z u x ↔ (Inr rn rf x ∧ ¬ Inr oc ol x) ∨ Inr k nw x) → X l g E ({ frames := 1, cells := 0, slots := 0, locals := 23 } : Room) 2 [(o, ob 6 [jv rn, .ref d1, jv e, jv nc, .ref d2, jv oc, .ref d3, jv co, .ref d4, jv z, .ref d5, jv kn, .ref d6, .ref d7, .ref d8, Jv lU, Jv lB, jv vn, .ref d9, .ref da, .ref db, .ref dc, .ref dd, .ref de, jv lk]), (d1, ai g 61 rf), (d2, ai g 9 nw), (d3, ai g 9 ol), (d5, ai g 70 u)] 0 0 [(0, .ref o), (1, jv k)] 54 [] := by
          intro nn
          induction nn with
          | zero => intro k z u hμ; exact absurd hμ (Nat.not_lt_zero _)
          | succ nn ih54 =>
            intro k z u hμ hk hs hm
            refine x_iload_n (pc := 54) C 1 dX6_layNow_54 rfl ?_
            refine x_aload_n (pc := 55) C 0 dX6_layNow_55 rfl ?_
            refine x_get (pc := 56) C 0 3 dX6_layNow_56 hiX6_layNow_6 hfX6_layNow_83 rfl rfl rfl (by decide) rfl ?_
            refine x_icmp_ge (pc := 59) C 78 dX6_layNow_59 rfl ⟨by omega, by omega⟩ ⟨by omega, by omega⟩ (fun c_59 => ?_) (fun c_59 => ?_)
            · obtain ⟨hz, hag⟩ := hs.uniq n1.ks (fun x => by rw [hm x, n10 x, show k = nc by omega])
              subst hz
              refine x_vret (pc := 78) C Rt0 dX6_layNow_78 rfl ?_
              refine ⟨_, rfl, rfl, ?_⟩
              exact hag
            · have hnew : ¬ Inr z u (nw k) := fun q => by
                rcases (hm _).mp q with q | q
                · exact n8 k (by omega) (by omega) q.1
                · obtain ⟨i, i0, i1, i2⟩ := q
                  exact n6 i k i0 i1 (by omega) i2
              refine x_aload_n (pc := 62) C 0 dX6_layNow_62 rfl ?_
              refine x_aload_n (pc := 63) C 0 dX6_layNow_63 rfl ?_
              refine x_get (pc := 64) C 0 4 dX6_layNow_64 hiX6_layNow_6 hfX6_layNow_17 rfl rfl rfl (by decide) rfl ?_
              refine x_iload_n (pc := 67) C 1 dX6_layNow_67 rfl ?_
              refine x_iald (pc := 68) C 2 dX6_layNow_68 rfl (by omega) (by omega) (by decide) ?_
              refine x_callV (pc := 69) C (n := 1) (q0 := 0) (rest := []) (wr := [(d1, ai g 61 rf), (d2, ai g 9 nw), (d3, ai g 9 ol)]) [0, 4] [1, 2, 3] (ctX6_insertNow l g o d1 d2 d3 d4 d5 d6 d7 d8 d9 da db dc dd de rn e nc oc co z kn lU lB vn lk u (nw k) hs (by omega) (n4 k (by omega) (by omega)) hnew) gX6_layNow_X6_insertNow rfl ⟨rfl, rfl⟩ (by decide +kernel) ⟨by decide, by decide⟩ rfl rfl rfl rfl rfl (by decide) (by decide) (by decide) rfl (Nat.le_of_ble_eq_true rfl) dX6_layNow_69 ⟨by decide, by decide⟩ (fun v_69 u_69 h_69 => ?_)
              rcases h_69 with ⟨w, u2, rfl, rfl, f_69⟩
              refine x_world (ws' := [(o, ob 6 [jv rn, .ref d1, jv e, jv nc, .ref d2, jv oc, .ref d3, jv co, .ref d4, jv (z + 1), .ref d5, jv kn, .ref d6, .ref d7, .ref d8, Jv lU, Jv lB, jv vn, .ref d9, .ref da, .ref db, .ref dc, .ref dd, .ref de, jv lk]), (d1, ai g 61 rf), (d2, ai g 9 nw), (d3, ai g 9 ol), (d5, ai g 70 u2)]) [3, 0, 1, 2, 4] (by decide) rfl ?_
              show X l g E ({ frames := 1, cells := 0, slots := 0, locals := 23 } : Room) 2 [(o, ob 6 [jv rn, .ref d1, jv e, jv nc, .ref d2, jv oc, .ref d3, jv co, .ref d4, jv (z + 1), .ref d5, jv kn, .ref d6, .ref d7, .ref d8, Jv lU, Jv lB, jv vn, .ref d9, .ref da, .ref db, .ref dc, .ref dd, .ref de, jv lk]), (d1, ai g 61 rf), (d2, ai g 9 nw), (d3, ai g 9 ol), (d5, ai g 70 u2)] 0 0 [(0, .ref o), (1, jv k)] 72 []
              refine x_iinc (pc := 72) C (lv' := [(1, jv (k + 1)), (0, .ref o)]) 1 dX6_layNow_72 rfl (by decide) rfl ?_
              refine x_goto (pc := 75) C 54 dX6_layNow_75 rfl ?_
              refine x_locals (lv' := [(0, .ref o), (1, jv (k + 1))]) [1, 0] rfl ?_
              refine ih54 _ _ _ ?_ ?_ ?_ ?_
              · omega
              · omega
              · exact f_69.ks hs (n4 k (by omega) (by omega)) hnew
              · intro x
                rw [f_69.mem, hm x]
                constructor
                · intro q
                  rcases q with (q | q) | q
                  · exact Or.inl q
                  · exact Or.inr (q.mono (by omega))
                  · rw [q]; exact Or.inr ⟨k, by omega, by omega, rfl⟩
                · intro q
                  rcases q with q | q
                  · exact Or.inl (Or.inl q)
                  · by_cases c : x = nw k
                    · exact Or.inr c
                    · exact Or.inl (Or.inr (q.less c))
        refine x_locals (lv' := [(0, .ref o), (1, jv 0)]) [1, 0] rfl ?_
        refine L54 _ _ _ _ (Nat.lt_succ_self _) ?_ ?_ ?_
        · omega
        · exact hs
        · intro x
          rw [hm x, show k = rn by omega]
          exact ⟨fun q => Or.inl q, fun q => by rcases q with q | ⟨i, i0, i1, _⟩; exact q; omega⟩
      · refine x_aload_n (pc := 15) C 0 dX6_layNow_15 rfl ?_
        refine x_get (pc := 16) C 0 6 dX6_layNow_16 hiX6_layNow_6 hfX6_layNow_20 rfl rfl rfl (by decide) rfl ?_
        refine x_aload_n (pc := 19) C 0 dX6_layNow_19 rfl ?_
        refine x_get (pc := 20) C 0 5 dX6_layNow_20 hiX6_layNow_6 hfX6_layNow_72 rfl rfl rfl (by decide) rfl ?_
        refine x_aload_n (pc := 23) C 0 dX6_layNow_23 rfl ?_
        refine x_get (pc := 24) C 0 1 dX6_layNow_24 hiX6_layNow_6 hfX6_layNow_7 rfl rfl rfl (by decide) rfl ?_
        refine x_iload_n (pc := 27) C 1 dX6_layNow_27 rfl ?_
        refine x_iald (pc := 28) C 1 dX6_layNow_28 rfl (by omega) (by omega) (by decide) ?_
        have hrk := n2.2.2.1 k (by omega) (by omega)
        refine x_callS (pc := 29) C (n := 3) (rest := []) (wr := [(o, ob 6 [jv rn, .ref d1, jv e, jv nc, .ref d2, jv oc, .ref d3, jv co, .ref d4, jv z, .ref d5, jv kn, .ref d6, .ref d7, .ref d8, Jv lU, Jv lB, jv vn, .ref d9, .ref da, .ref db, .ref dc, .ref dd, .ref de, jv lk]), (d1, ai g 61 rf), (d2, ai g 9 nw), (d5, ai g 70 u)]) [3] [0, 1, 2, 4] (ctX6_placeIn l g d3 9 oc (rf k) ol ⟨by omega, by omega, by omega⟩ n5 ⟨by omega, by omega⟩) gX6_layNow_X6_placeIn rfl (by decide +kernel) ⟨rfl, rfl⟩ ⟨by decide, by decide⟩ rfl rfl rfl (by decide) (by decide) (by decide) rfl (Nat.le_of_ble_eq_true rfl) dX6_layNow_29 ⟨by decide, by decide⟩ (fun v_29 u_29 h_29 => ?_)
        rcases h_29 with ⟨w, rfl, rfl, f_29⟩ | ⟨rfl, rfl, f_29⟩
        · refine x_world (ws' := [(o, ob 6 [jv rn, .ref d1, jv e, jv nc, .ref d2, jv oc, .ref d3, jv co, .ref d4, jv z, .ref d5, jv kn, .ref d6, .ref d7, .ref d8, Jv lU, Jv lB, jv vn, .ref d9, .ref da, .ref db, .ref dc, .ref dd, .ref de, jv lk]), (d1, ai g 61 rf), (d2, ai g 9 nw), (d3, ai g 9 ol), (d5, ai g 70 u)]) [0, 1, 2, 4, 3] (by decide) rfl ?_
          show X l g E ({ frames := 1, cells := 0, slots := 0, locals := 23 } : Room) 2 [(o, ob 6 [jv rn, .ref d1, jv e, jv nc, .ref d2, jv oc, .ref d3, jv co, .ref d4, jv z, .ref d5, jv kn, .ref d6, .ref d7, .ref d8, Jv lU, Jv lB, jv vn, .ref d9, .ref da, .ref db, .ref dc, .ref dd, .ref de, jv lk]), (d1, ai g 61 rf), (d2, ai g 9 nw), (d3, ai g 9 ol), (d5, ai g 70 u)] 0 0 [(0, .ref o), (1, jv k)] 32 [jv w]
          refine x_iconst (pc := 32) C dX6_layNow_32 ?_
          refine x_icmp_ne (pc := 33) C 46 dX6_layNow_33 rfl ⟨by omega, by omega⟩ ⟨by omega, by omega⟩ (fun c_33 => ?_) (fun c_33 => ?_)
          · refine x_iinc (pc := 46) C (lv' := [(1, jv (k + 1)), (0, .ref o)]) 1 dX6_layNow_46 rfl (by decide) rfl ?_
            refine x_goto (pc := 49) C 7 dX6_layNow_49 rfl ?_
            refine x_locals (lv' := [(0, .ref o), (1, jv (k + 1))]) [1, 0] rfl ?_
            refine ih7 _ _ _ ?_ ?_ ?_ ?_
            · omega
            · omega
            · exact hs
            · intro x
              rw [hm x]
              exact ⟨fun q => ⟨q.1.mono (by omega), q.2⟩, fun q => ⟨q.1.less (fun c => q.2 (by rw [c]; exact ⟨w, by omega, by omega, by omega⟩)), q.2⟩⟩
          · omega
        · refine x_world (ws' := [(o, ob 6 [jv rn, .ref d1, jv e, jv nc, .ref d2, jv oc, .ref d3, jv co, .ref d4, jv z, .ref d5, jv kn, .ref d6, .ref d7, .ref d8, Jv lU, Jv lB, jv vn, .ref d9, .ref da, .ref db, .ref dc, .ref dd, .ref de, jv lk]), (d1, ai g 61 rf), (d2, ai g 9 nw), (d3, ai g 9 ol), (d5, ai g 70 u)]) [0, 1, 2, 4, 3] (by decide) rfl ?_
          show X l g E ({ frames := 1, cells := 0, slots := 0, locals := 23 } : Room) 2 [(o, ob 6 [jv rn, .ref d1, jv e, jv nc, .ref d2, jv oc, .ref d3, jv co, .ref d4, jv z, .ref d5, jv kn, .ref d6, .ref d7, .ref d8, Jv lU, Jv lB, jv vn, .ref d9, .ref da, .ref db, .ref dc, .ref dd, .ref de, jv lk]), (d1, ai g 61 rf), (d2, ai g 9 nw), (d3, ai g 9 ol), (d5, ai g 70 u)] 0 0 [(0, .ref o), (1, jv k)] 32 [jv (-1)]
          refine x_iconst (pc := 32) C dX6_layNow_32 ?_
          refine x_icmp_ne (pc := 33) C 46 dX6_layNow_33 rfl ⟨by decide, by decide⟩ ⟨by decide, by decide⟩ (fun h => absurd h (by decide)) (fun _ => ?_)
          have hnew : ¬ Inr z u (rf k) := fun q => by
            obtain ⟨i, i0, i1, i2⟩ := ((hm _).mp q).1
            have := n2.2.2.2 i k i0 i1 (by omega)
            omega
          refine x_aload_n (pc := 36) C 0 dX6_layNow_36 rfl ?_
          refine x_aload_n (pc := 37) C 0 dX6_layNow_37 rfl ?_
          refine x_get (pc := 38) C 0 1 dX6_layNow_38 hiX6_layNow_6 hfX6_layNow_7 rfl rfl rfl (by decide) rfl ?_
          refine x_iload_n (pc := 41) C 1 dX6_layNow_41 rfl ?_
          refine x_iald (pc := 42) C 1 dX6_layNow_42 rfl (by omega) (by omega) (by decide) ?_
          refine x_callV (pc := 43) C (n := 1) (q0 := 0) (rest := []) (wr := [(d1, ai g 61 rf), (d2, ai g 9 nw), (d3, ai g 9 ol)]) [0, 4] [1, 2, 3] (ctX6_insertNow l g o d1 d2 d3 d4 d5 d6 d7 d8 d9 da db dc dd de rn e nc oc co z kn lU lB vn lk u (rf k) hs (by omega) hrk hnew) gX6_layNow_X6_insertNow rfl ⟨rfl, rfl⟩ (by decide +kernel) ⟨by decide, by decide⟩ rfl rfl rfl rfl rfl (by decide) (by decide) (by decide) rfl (Nat.le_of_ble_eq_true rfl) dX6_layNow_43 ⟨by decide, by decide⟩ (fun v_43 u_43 h_43 => ?_)
          rcases h_43 with ⟨w, u2, rfl, rfl, f_43⟩
          refine x_world (ws' := [(o, ob 6 [jv rn, .ref d1, jv e, jv nc, .ref d2, jv oc, .ref d3, jv co, .ref d4, jv (z + 1), .ref d5, jv kn, .ref d6, .ref d7, .ref d8, Jv lU, Jv lB, jv vn, .ref d9, .ref da, .ref db, .ref dc, .ref dd, .ref de, jv lk]), (d1, ai g 61 rf), (d2, ai g 9 nw), (d3, ai g 9 ol), (d5, ai g 70 u2)]) [3, 0, 1, 2, 4] (by decide) rfl ?_
          show X l g E ({ frames := 1, cells := 0, slots := 0, locals := 23 } : Room) 2 [(o, ob 6 [jv rn, .ref d1, jv e, jv nc, .ref d2, jv oc, .ref d3, jv co, .ref d4, jv (z + 1), .ref d5, jv kn, .ref d6, .ref d7, .ref d8, Jv lU, Jv lB, jv vn, .ref d9, .ref da, .ref db, .ref dc, .ref dd, .ref de, jv lk]), (d1, ai g 61 rf), (d2, ai g 9 nw), (d3, ai g 9 ol), (d5, ai g 70 u2)] 0 0 [(0, .ref o), (1, jv k)] 46 []
          refine x_iinc (pc := 46) C (lv' := [(1, jv (k + 1)), (0, .ref o)]) 1 dX6_layNow_46 rfl (by decide) rfl ?_
          refine x_goto (pc := 49) C 7 dX6_layNow_49 rfl ?_
          refine x_locals (lv' := [(0, .ref o), (1, jv (k + 1))]) [1, 0] rfl ?_
          refine ih7 _ _ _ ?_ ?_ ?_ ?_
          · omega
          · omega
          · exact f_43.ks hs hrk hnew
          · intro x
            rw [f_43.mem, hm x]
            constructor
            · intro q
              rcases q with q | q
              · exact ⟨q.1.mono (by omega), q.2⟩
              · rw [q]; exact ⟨⟨k, by omega, by omega, rfl⟩, f_29⟩
            · intro q
              by_cases c : x = rf k
              · exact Or.inr c
              · exact Or.inl ⟨q.1.less c, q.2⟩
  refine x_locals (lv' := [(0, .ref o), (1, jv 0)]) [1, 0] rfl ?_
  refine L7 _ _ _ _ (Nat.lt_succ_self _) ?_ ?_ ?_
  · omega
  · exact ⟨by omega, fun i i0 i1 => by omega, fun i j i0 i1 i2 => by omega⟩
  · exact fun x => ⟨fun ⟨i, i0, i1, _⟩ => by omega, fun ⟨⟨i, i0, i1, _⟩, _⟩ => by omega⟩

set_option maxRecDepth 100000 in
theorem hiX6_isThere_6 : ∀ w ∈ wsX60, w ∈ wsX6_isThere := by decide +kernel
set_option maxRecDepth 100000 in
theorem hfX6_isThere_27 : Cond.fieldLink RX6 27 "KeyGuessModel" "now" "[I" ∈ wsX6_isThere := by decide +kernel
set_option maxRecDepth 100000 in
theorem hfX6_isThere_66 : Cond.fieldLink RX6 66 "KeyGuessModel" "nowMany" "I" ∈ wsX6_isThere := by decide +kernel
set_option maxHeartbeats 4000000 in
set_option maxRecDepth 100000 in
/-- isThere -/
theorem ctX6_isThere (l : Launch) (g : xG) (o : Nat) (d1 : Nat) (d2 : Nat) (d3 : Nat) (d4 : Nat) (d5 : Nat) (d6 : Nat) (d7 : Nat) (d8 : Nat) (d9 : Nat) (da : Nat) (db : Nat) (dc : Nat) (dd : Nat) (de : Nat) (rn : Int) (e : Int) (nc : Int) (oc : Int) (co : Int) (un : Int) (kn : Int) (lU : Int) (lB : Int) (vn : Int) (lk : Int) (rf : Int → Int) (nw : Int → Int) (ol : Int → Int) (uf : Int → Int) (nn : Int) (nf : Int → Int) (x : Int) (hno : NO nn nf rn rf nc nw oc ol) (hx : Rg x) : Ct l g yX6_isThere wsX6_isThere ({ frames := 2, cells := 0, slots := 0, locals := 44 } : Room) 0 0 [(o, ob 6 [jv rn, .ref d1, jv e, jv nc, .ref d2, jv oc, .ref d3, jv co, .ref d4, jv un, .ref d5, jv kn, .ref d6, .ref d7, .ref d8, Jv lU, Jv lB, jv vn, .ref d9, .ref da, .ref db, .ref dc, .ref dd, .ref de, jv lk]), (d1, ai g 61 rf), (d2, ai g 9 nw), (d3, ai g 9 ol), (d5, ai g 70 uf)] [.ref o, jv x] (fun rV rU => (∃ (f' : Int → Int), rV = some (jv 1) ∧ rU = [(o, ob 6 [jv rn, .ref d1, jv e, jv nc, .ref d2, jv oc, .ref d3, jv co, .ref d4, jv nn, .ref d5, jv kn, .ref d6, .ref d7, .ref d8, Jv lU, Jv lB, jv vn, .ref d9, .ref da, .ref db, .ref dc, .ref dd, .ref de, jv lk]), (d1, ai g 61 rf), (d2, ai g 9 nw), (d3, ai g 9 ol), (d5, ai g 70 f')] ∧ (Inr nn nf x ∧ Agr nn f' nf)) ∨ (∃ (f' : Int → Int), rV = some (jv 0) ∧ rU = [(o, ob 6 [jv rn, .ref d1, jv e, jv nc, .ref d2, jv oc, .ref d3, jv co, .ref d4, jv nn, .ref d5, jv kn, .ref d6, .ref d7, .ref d8, Jv lU, Jv lB, jv vn, .ref d9, .ref da, .ref db, .ref dc, .ref dd, .ref de, jv lk]), (d1, ai g 61 rf), (d2, ai g 9 nw), (d3, ai g 9 ol), (d5, ai g 70 f')] ∧ (¬ Inr nn nf x ∧ Agr nn f' nf))) := by
  refine ct_of (cc := cX6_isThere) (nL := 2) (ret := (some .boolean)) (by decide) rfl (Nat.le_of_ble_eq_true rfl) ?_
  intro E C Rt0
  have C : Cx l g E ({ frames := 2, cells := 0, slots := 0, locals := 44 } : Room) RX6 "isThere" cX6_isThere wsX6_isThere 2 := C
  show X l g E ({ frames := 2, cells := 0, slots := 0, locals := 44 } : Room) 2 [(o, ob 6 [jv rn, .ref d1, jv e, jv nc, .ref d2, jv oc, .ref d3, jv co, .ref d4, jv un, .ref d5, jv kn, .ref d6, .ref d7, .ref d8, Jv lU, Jv lB, jv vn, .ref d9, .ref da, .ref db, .ref dc, .ref dd, .ref de, jv lk]), (d1, ai g 61 rf), (d2, ai g 9 nw), (d3, ai g 9 ol), (d5, ai g 70 uf)] 0 0 [(0, .ref o), (1, jv x)] 0 []
  have n1 := hno.1
  have nn0 := n1.1
  have nn1 := n1.2.1
  refine x_aload_n (pc := 0) C 0 dX6_isThere_0 rfl ?_
  refine x_callV (pc := 1) C (n := 0) (q0 := 0) (rest := []) (wr := []) [0, 1, 2, 3, 4] [] (ctX6_layNow l g o d1 d2 d3 d4 d5 d6 d7 d8 d9 da db dc dd de rn e nc oc co un kn lU lB vn lk rf nw ol uf nn nf hno) gX6_isThere_X6_layNow rfl ⟨rfl, rfl⟩ (by decide +kernel) ⟨by decide, by decide⟩ rfl rfl rfl rfl rfl (by decide) (by decide) (by decide) rfl (Nat.le_of_ble_eq_true rfl) dX6_isThere_1 ⟨by decide, by decide⟩ (fun v_1 u_1 h_1 => ?_)
  rcases h_1 with ⟨f', rfl, rfl, f_1⟩
  refine x_world (ws' := [(o, ob 6 [jv rn, .ref d1, jv e, jv nc, .ref d2, jv oc, .ref d3, jv co, .ref d4, jv nn, .ref d5, jv kn, .ref d6, .ref d7, .ref d8, Jv lU, Jv lB, jv vn, .ref d9, .ref da, .ref db, .ref dc, .ref dd, .ref de, jv lk]), (d1, ai g 61 rf), (d2, ai g 9 nw), (d3, ai g 9 ol), (d5, ai g 70 f')]) [0, 1, 2, 3, 4] (by decide) rfl ?_
  show X l g E ({ frames := 2, cells := 0, slots := 0, locals := 44 } : Room) 2 [(o, ob 6 [jv rn, .ref d1, jv e, jv nc, .ref d2, jv oc, .ref d3, jv co, .ref d4, jv nn, .ref d5, jv kn, .ref d6, .ref d7, .ref d8, Jv lU, Jv lB, jv vn, .ref d9, .ref da, .ref db, .ref dc, .ref dd, .ref de, jv lk]), (d1, ai g 61 rf), (d2, ai g 9 nw), (d3, ai g 9 ol), (d5, ai g 70 f')] 0 0 [(0, .ref o), (1, jv x)] 4 []
  have hku : Kr nn f' := n1.congr f_1.symm
  refine x_aload_n (pc := 4) C 0 dX6_isThere_4 rfl ?_
  refine x_get (pc := 5) C 0 10 dX6_isThere_5 hiX6_isThere_6 hfX6_isThere_27 rfl rfl rfl (by decide) rfl ?_
  refine x_aload_n (pc := 8) C 0 dX6_isThere_8 rfl ?_
  refine x_get (pc := 9) C 0 9 dX6_isThere_9 hiX6_isThere_6 hfX6_isThere_66 rfl rfl rfl (by decide) rfl ?_
  refine x_iload_n (pc := 12) C 1 dX6_isThere_12 rfl ?_
  refine x_callS (pc := 13) C (n := 3) (rest := []) (wr := [(o, ob 6 [jv rn, .ref d1, jv e, jv nc, .ref d2, jv oc, .ref d3, jv co, .ref d4, jv nn, .ref d5, jv kn, .ref d6, .ref d7, .ref d8, Jv lU, Jv lB, jv vn, .ref d9, .ref da, .ref db, .ref dc, .ref dd, .ref de, jv lk]), (d1, ai g 61 rf), (d2, ai g 9 nw), (d3, ai g 9 ol)]) [4] [0, 1, 2, 3] (ctX6_placeIn l g d5 70 nn x f' ⟨by omega, by omega, by omega⟩ (hku.2.2.1) hx) gX6_isThere_X6_placeIn rfl (by decide +kernel) ⟨rfl, rfl⟩ ⟨by decide, by decide⟩ rfl rfl rfl (by decide) (by decide) (by decide) rfl (Nat.le_of_ble_eq_true rfl) dX6_isThere_13 ⟨by decide, by decide⟩ (fun v_13 u_13 h_13 => ?_)
  rcases h_13 with ⟨w, rfl, rfl, f_13⟩ | ⟨rfl, rfl, f_13⟩
  · refine x_world (ws' := [(o, ob 6 [jv rn, .ref d1, jv e, jv nc, .ref d2, jv oc, .ref d3, jv co, .ref d4, jv nn, .ref d5, jv kn, .ref d6, .ref d7, .ref d8, Jv lU, Jv lB, jv vn, .ref d9, .ref da, .ref db, .ref dc, .ref dd, .ref de, jv lk]), (d1, ai g 61 rf), (d2, ai g 9 nw), (d3, ai g 9 ol), (d5, ai g 70 f')]) [0, 1, 2, 3, 4] (by decide) rfl ?_
    show X l g E ({ frames := 2, cells := 0, slots := 0, locals := 44 } : Room) 2 [(o, ob 6 [jv rn, .ref d1, jv e, jv nc, .ref d2, jv oc, .ref d3, jv co, .ref d4, jv nn, .ref d5, jv kn, .ref d6, .ref d7, .ref d8, Jv lU, Jv lB, jv vn, .ref d9, .ref da, .ref db, .ref dc, .ref dd, .ref de, jv lk]), (d1, ai g 61 rf), (d2, ai g 9 nw), (d3, ai g 9 ol), (d5, ai g 70 f')] 0 0 [(0, .ref o), (1, jv x)] 16 [jv w]
    refine x_iconst (pc := 16) C dX6_isThere_16 ?_
    refine x_icmp_eq (pc := 17) C 24 dX6_isThere_17 rfl ⟨by omega, by omega⟩ ⟨by omega, by omega⟩ (fun c_17 => ?_) (fun c_17 => ?_)
    · omega
    · refine x_iconst (pc := 20) C dX6_isThere_20 ?_
      refine x_goto (pc := 21) C 25 dX6_isThere_21 rfl ?_
      refine x_zret (pc := 25) C Rt0 dX6_isThere_25 rfl rfl ?_
      refine Or.inl ⟨_, rfl, rfl, ?_⟩
      exact ⟨Inr.congr f_1 ⟨w, by omega, by omega, by omega⟩, f_1⟩
  · refine x_world (ws' := [(o, ob 6 [jv rn, .ref d1, jv e, jv nc, .ref d2, jv oc, .ref d3, jv co, .ref d4, jv nn, .ref d5, jv kn, .ref d6, .ref d7, .ref d8, Jv lU, Jv lB, jv vn, .ref d9, .ref da, .ref db, .ref dc, .ref dd, .ref de, jv lk]), (d1, ai g 61 rf), (d2, ai g 9 nw), (d3, ai g 9 ol), (d5, ai g 70 f')]) [0, 1, 2, 3, 4] (by decide) rfl ?_
    show X l g E ({ frames := 2, cells := 0, slots := 0, locals := 44 } : Room) 2 [(o, ob 6 [jv rn, .ref d1, jv e, jv nc, .ref d2, jv oc, .ref d3, jv co, .ref d4, jv nn, .ref d5, jv kn, .ref d6, .ref d7, .ref d8, Jv lU, Jv lB, jv vn, .ref d9, .ref da, .ref db, .ref dc, .ref dd, .ref de, jv lk]), (d1, ai g 61 rf), (d2, ai g 9 nw), (d3, ai g 9 ol), (d5, ai g 70 f')] 0 0 [(0, .ref o), (1, jv x)] 16 [jv (-1)]
    refine x_iconst (pc := 16) C dX6_isThere_16 ?_
    refine x_icmp_eq (pc := 17) C 24 dX6_isThere_17 rfl ⟨by decide, by decide⟩ ⟨by decide, by decide⟩ (fun _ => ?_) (fun h => absurd h (by decide))
    refine x_iconst (pc := 24) C dX6_isThere_24 ?_
    refine x_zret (pc := 25) C Rt0 dX6_isThere_25 rfl rfl ?_
    refine Or.inr (⟨_, rfl, rfl, ?_⟩)
    exact ⟨fun q => f_13 (q.congr f_1.symm), f_1⟩

set_option maxRecDepth 100000 in
theorem hiX6_setBits_6 : ∀ w ∈ wsX60, w ∈ wsX6_setBits := by decide +kernel
set_option maxRecDepth 100000 in
theorem hfX6_setBits_23 : Cond.fieldLink RX6 23 "KeyGuessModel" "bits" "[Z" ∈ wsX6_setBits := by decide +kernel
set_option maxHeartbeats 4000000 in
set_option maxRecDepth 100000 in
/-- setBits -/
theorem ctX6_setBits (l : Launch) (g : xG) (o : Nat) (d1 : Nat) (d2 : Nat) (d3 : Nat) (d4 : Nat) (d5 : Nat) (d6 : Nat) (d7 : Nat) (d8 : Nat) (d9 : Nat) (da : Nat) (db : Nat) (dc : Nat) (dd : Nat) (de : Nat) (rn : Int) (e : Int) (nc : Int) (oc : Int) (co : Int) (un : Int) (kn : Int) (lU : Int) (lB : Int) (vn : Int) (lk : Int) (bt : Int → Bool) (x : Int) (hx : 0 ≤ x ∧ x ≤ 1000000) : Ct l g yX6_setBits wsX6_setBits ({ frames := 0, cells := 0, slots := 0, locals := 0 } : Room) 0 0 [(o, ob 6 [jv rn, .ref d1, jv e, jv nc, .ref d2, jv oc, .ref d3, jv co, .ref d4, jv un, .ref d5, jv kn, .ref d6, .ref d7, .ref d8, Jv lU, Jv lB, jv vn, .ref d9, .ref da, .ref db, .ref dc, .ref dd, .ref de, jv lk]), (d4, az g 64 bt)] [.ref o, jv x] (fun rV rU => rV = none ∧ rU = [(o, ob 6 [jv rn, .ref d1, jv e, jv nc, .ref d2, jv oc, .ref d3, jv co, .ref d4, jv un, .ref d5, jv kn, .ref d6, .ref d7, .ref d8, Jv lU, Jv lB, jv vn, .ref d9, .ref da, .ref db, .ref dc, .ref dd, .ref de, jv lk]), (d4, az g 64 (setB bt x))] ∧ (True)) := by
  refine ct_of (cc := cX6_setBits) (nL := 2) (ret := none) (by decide) rfl (Nat.le_of_ble_eq_true rfl) ?_
  intro E C Rt0
  have C : Cx l g E ({ frames := 0, cells := 0, slots := 0, locals := 0 } : Room) RX6 "setBits" cX6_setBits wsX6_setBits 2 := C
  show X l g E ({ frames := 0, cells := 0, slots := 0, locals := 0 } : Room) 2 [(o, ob 6 [jv rn, .ref d1, jv e, jv nc, .ref d2, jv oc, .ref d3, jv co, .ref d4, jv un, .ref d5, jv kn, .ref d6, .ref d7, .ref d8, Jv lU, Jv lB, jv vn, .ref d9, .ref da, .ref db, .ref dc, .ref dd, .ref de, jv lk]), (d4, az g 64 bt)] 0 0 [(0, .ref o), (1, jv x)] 0 []
  refine x_aload_n (pc := 0) C 0 dX6_setBits_0 rfl ?_
  refine x_get (pc := 1) C 0 8 dX6_setBits_1 hiX6_setBits_6 hfX6_setBits_23 rfl rfl rfl (by decide) rfl ?_
  refine x_iload_n (pc := 4) C 1 dX6_setBits_4 rfl ?_
  refine x_bipush (pc := 5) C dX6_setBits_5 rfl ?_
  refine x_irem (pc := 7) C dX6_setBits_7 ⟨by omega, by omega⟩ ⟨by omega, by omega⟩ (by first | decide | omega) ?_
  rw [show (x).tmod 61 = x % 61 from (Int.tmod_eq_emod_of_nonneg hx.1)]
  refine x_iconst (pc := 8) C dX6_setBits_8 ?_
  refine x_zast (pc := 9) C true (ws' := [(o, ob 6 [jv rn, .ref d1, jv e, jv nc, .ref d2, jv oc, .ref d3, jv co, .ref d4, jv un, .ref d5, jv kn, .ref d6, .ref d7, .ref d8, Jv lU, Jv lB, jv vn, .ref d9, .ref da, .ref db, .ref dc, .ref dd, .ref de, jv lk]), (d4, az g 64 (up bt (x % 61) true))]) 1 dX6_setBits_9 rfl rfl (by omega) (by omega) (by decide) rfl ?_
  refine x_aload_n (pc := 10) C 0 dX6_setBits_10 rfl ?_
  refine x_get (pc := 11) C 0 8 dX6_setBits_11 hiX6_setBits_6 hfX6_setBits_23 rfl rfl rfl (by decide) rfl ?_
  refine x_iload_n (pc := 14) C 1 dX6_setBits_14 rfl ?_
  refine x_bipush (pc := 15) C dX6_setBits_15 rfl ?_
  refine x_idiv (pc := 17) C dX6_setBits_17 ⟨by omega, by omega⟩ ⟨by omega, by omega⟩ (by first | decide | omega) ?_
  rw [show (x).tdiv 61 = x / 61 from (Int.tdiv_eq_ediv_of_nonneg hx.1)]
  refine x_bipush (pc := 18) C dX6_setBits_18 rfl ?_
  refine x_irem (pc := 20) C dX6_setBits_20 ⟨by omega, by omega⟩ ⟨by omega, by omega⟩ (by first | decide | omega) ?_
  rw [show (x / 61).tmod 64 = x / 61 % 64 from (Int.tmod_eq_emod_of_nonneg (Int.ediv_nonneg hx.1 (by omega)))]
  refine x_iconst (pc := 21) C dX6_setBits_21 ?_
  refine x_zast (pc := 22) C true (ws' := [(o, ob 6 [jv rn, .ref d1, jv e, jv nc, .ref d2, jv oc, .ref d3, jv co, .ref d4, jv un, .ref d5, jv kn, .ref d6, .ref d7, .ref d8, Jv lU, Jv lB, jv vn, .ref d9, .ref da, .ref db, .ref dc, .ref dd, .ref de, jv lk]), (d4, az g 64 (up (up bt (x % 61) true) (x / 61 % 64) true))]) 1 dX6_setBits_22 rfl rfl (by omega) (by omega) (by decide) rfl ?_
  refine x_vret (pc := 23) C Rt0 dX6_setBits_23 rfl ?_
  refine ⟨rfl, rfl, ?_⟩
  trivial

set_option maxRecDepth 100000 in
theorem hiX6_isMaybe_6 : ∀ w ∈ wsX60, w ∈ wsX6_isMaybe := by decide +kernel
set_option maxRecDepth 100000 in
theorem hfX6_isMaybe_23 : Cond.fieldLink RX6 23 "KeyGuessModel" "bits" "[Z" ∈ wsX6_isMaybe := by decide +kernel
set_option maxHeartbeats 4000000 in
set_option maxRecDepth 100000 in
/-- isMaybe -/
theorem ctX6_isMaybe (l : Launch) (g : xG) (o : Nat) (d1 : Nat) (d2 : Nat) (d3 : Nat) (d4 : Nat) (d5 : Nat) (d6 : Nat) (d7 : Nat) (d8 : Nat) (d9 : Nat) (da : Nat) (db : Nat) (dc : Nat) (dd : Nat) (de : Nat) (rn : Int) (e : Int) (nc : Int) (oc : Int) (co : Int) (un : Int) (kn : Int) (lU : Int) (lB : Int) (vn : Int) (lk : Int) (bt : Int → Bool) (x : Int) (B : Int → Bool) (hx : 0 ≤ x ∧ x ≤ 1000000) (hB : ∀ j : Int, 0 ≤ j → j < 64 → bt j = B j) : Ct l g yX6_isMaybe wsX6_isMaybe ({ frames := 0, cells := 0, slots := 0, locals := 0 } : Room) 0 0 [(o, ob 6 [jv rn, .ref d1, jv e, jv nc, .ref d2, jv oc, .ref d3, jv co, .ref d4, jv un, .ref d5, jv kn, .ref d6, .ref d7, .ref d8, Jv lU, Jv lB, jv vn, .ref d9, .ref da, .ref db, .ref dc, .ref dd, .ref de, jv lk]), (d4, az g 64 bt)] [.ref o, jv x] (fun rV rU => (rV = some (jv 1) ∧ rU = [(o, ob 6 [jv rn, .ref d1, jv e, jv nc, .ref d2, jv oc, .ref d3, jv co, .ref d4, jv un, .ref d5, jv kn, .ref d6, .ref d7, .ref d8, Jv lU, Jv lB, jv vn, .ref d9, .ref da, .ref db, .ref dc, .ref dd, .ref de, jv lk]), (d4, az g 64 bt)] ∧ (MB B x)) ∨ (rV = some (jv 0) ∧ rU = [(o, ob 6 [jv rn, .ref d1, jv e, jv nc, .ref d2, jv oc, .ref d3, jv co, .ref d4, jv un, .ref d5, jv kn, .ref d6, .ref d7, .ref d8, Jv lU, Jv lB, jv vn, .ref d9, .ref da, .ref db, .ref dc, .ref dd, .ref de, jv lk]), (d4, az g 64 bt)] ∧ (¬ MB B x))) := by
  refine ct_of (cc := cX6_isMaybe) (nL := 2) (ret := (some .boolean)) (by decide) rfl (Nat.le_of_ble_eq_true rfl) ?_
  intro E C Rt0
  have C : Cx l g E ({ frames := 0, cells := 0, slots := 0, locals := 0 } : Room) RX6 "isMaybe" cX6_isMaybe wsX6_isMaybe 2 := C
  show X l g E ({ frames := 0, cells := 0, slots := 0, locals := 0 } : Room) 2 [(o, ob 6 [jv rn, .ref d1, jv e, jv nc, .ref d2, jv oc, .ref d3, jv co, .ref d4, jv un, .ref d5, jv kn, .ref d6, .ref d7, .ref d8, Jv lU, Jv lB, jv vn, .ref d9, .ref da, .ref db, .ref dc, .ref dd, .ref de, jv lk]), (d4, az g 64 bt)] 0 0 [(0, .ref o), (1, jv x)] 0 []
  have e1 := hB (x % 61) (by omega) (by omega)
  have e2 := hB (x / 61 % 64) (by omega) (by omega)
  refine x_aload_n (pc := 0) C 0 dX6_isMaybe_0 rfl ?_
  refine x_get (pc := 1) C 0 8 dX6_isMaybe_1 hiX6_isMaybe_6 hfX6_isMaybe_23 rfl rfl rfl (by decide) rfl ?_
  refine x_iload_n (pc := 4) C 1 dX6_isMaybe_4 rfl ?_
  refine x_bipush (pc := 5) C dX6_isMaybe_5 rfl ?_
  refine x_irem (pc := 7) C dX6_isMaybe_7 ⟨by omega, by omega⟩ ⟨by omega, by omega⟩ (by first | decide | omega) ?_
  rw [show (x).tmod 61 = x % 61 from (Int.tmod_eq_emod_of_nonneg hx.1)]
  refine x_zald (pc := 8) C 1 dX6_isMaybe_8 rfl (by omega) (by omega) (by decide) (fun c_8 => ?_) (fun c_8 => ?_)
  · refine x_if_eq (pc := 9) C 31 dX6_isMaybe_9 rfl ⟨by decide, by decide⟩ (fun h => absurd h (by decide)) (fun _ => ?_)
    refine x_aload_n (pc := 12) C 0 dX6_isMaybe_12 rfl ?_
    refine x_get (pc := 13) C 0 8 dX6_isMaybe_13 hiX6_isMaybe_6 hfX6_isMaybe_23 rfl rfl rfl (by decide) rfl ?_
    refine x_iload_n (pc := 16) C 1 dX6_isMaybe_16 rfl ?_
    refine x_bipush (pc := 17) C dX6_isMaybe_17 rfl ?_
    refine x_idiv (pc := 19) C dX6_isMaybe_19 ⟨by omega, by omega⟩ ⟨by omega, by omega⟩ (by first | decide | omega) ?_
    rw [show (x).tdiv 61 = x / 61 from (Int.tdiv_eq_ediv_of_nonneg hx.1)]
    refine x_bipush (pc := 20) C dX6_isMaybe_20 rfl ?_
    refine x_irem (pc := 22) C dX6_isMaybe_22 ⟨by omega, by omega⟩ ⟨by omega, by omega⟩ (by first | decide | omega) ?_
    rw [show (x / 61).tmod 64 = x / 61 % 64 from (Int.tmod_eq_emod_of_nonneg (Int.ediv_nonneg hx.1 (by omega)))]
    refine x_zald (pc := 23) C 1 dX6_isMaybe_23 rfl (by omega) (by omega) (by decide) (fun c_23 => ?_) (fun c_23 => ?_)
    · refine x_if_eq (pc := 24) C 31 dX6_isMaybe_24 rfl ⟨by decide, by decide⟩ (fun h => absurd h (by decide)) (fun _ => ?_)
      refine x_iconst (pc := 27) C dX6_isMaybe_27 ?_
      refine x_goto (pc := 28) C 32 dX6_isMaybe_28 rfl ?_
      refine x_zret (pc := 32) C Rt0 dX6_isMaybe_32 rfl rfl ?_
      refine Or.inl ⟨rfl, rfl, ?_⟩
      exact ⟨by rw [← e1]; exact c_8, by rw [← e2]; exact c_23⟩
    · refine x_if_eq (pc := 24) C 31 dX6_isMaybe_24 rfl ⟨by decide, by decide⟩ (fun _ => ?_) (fun h => absurd h (by decide))
      refine x_iconst (pc := 31) C dX6_isMaybe_31 ?_
      refine x_zret (pc := 32) C Rt0 dX6_isMaybe_32 rfl rfl ?_
      refine Or.inr (⟨rfl, rfl, ?_⟩)
      intro q
      have z := q.2
      rw [← e2, c_23] at z
      cases z
  · refine x_if_eq (pc := 9) C 31 dX6_isMaybe_9 rfl ⟨by decide, by decide⟩ (fun _ => ?_) (fun h => absurd h (by decide))
    refine x_iconst (pc := 31) C dX6_isMaybe_31 ?_
    refine x_zret (pc := 32) C Rt0 dX6_isMaybe_32 rfl rfl ?_
    refine Or.inr (⟨rfl, rfl, ?_⟩)
    intro q
    have z := q.1
    rw [← e1, c_8] at z
    cases z

set_option maxRecDepth 100000 in
theorem hiX6_layLow_6 : ∀ w ∈ wsX60, w ∈ wsX6_layLow := by decide +kernel
set_option maxRecDepth 100000 in
theorem hfX6_layLow_111 : Cond.fieldLink RX6 111 "KeyGuessModel" "lowUp" "J" ∈ wsX6_layLow := by decide +kernel
set_option maxRecDepth 100000 in
theorem hfX6_layLow_115 : Cond.fieldLink RX6 115 "KeyGuessModel" "lowBelow" "J" ∈ wsX6_layLow := by decide +kernel
set_option maxRecDepth 100000 in
theorem hfX6_layLow_13 : Cond.fieldLink RX6 13 "KeyGuessModel" "e" "I" ∈ wsX6_layLow := by decide +kernel
set_option maxRecDepth 100000 in
theorem hfX6_layLow_30 : Cond.fieldLink RX6 30 "KeyGuessModel" "keys" "[I" ∈ wsX6_layLow := by decide +kernel
set_option maxHeartbeats 4000000 in
set_option maxRecDepth 100000 in
/-- layLow -/
theorem ctX6_layLow (l : Launch) (g : xG) (o : Nat) (d1 : Nat) (d2 : Nat) (d3 : Nat) (d4 : Nat) (d5 : Nat) (d6 : Nat) (d7 : Nat) (d8 : Nat) (d9 : Nat) (da : Nat) (db : Nat) (dc : Nat) (dd : Nat) (de : Nat) (rn : Int) (e : Int) (nc : Int) (oc : Int) (co : Int) (un : Int) (kn : Int) (lU : Int) (lB : Int) (vn : Int) (lk : Int) (kf : Int → Int) (i : Int) (j : Int) (hk : Kr kn kf) (he : 0 ≤ e ∧ e ≤ 8) (hi : 0 ≤ i ∧ i ≤ j ∧ j < kn) : Ct l g yX6_layLow wsX6_layLow ({ frames := 0, cells := 0, slots := 0, locals := 0 } : Room) 0 0 [(o, ob 6 [jv rn, .ref d1, jv e, jv nc, .ref d2, jv oc, .ref d3, jv co, .ref d4, jv un, .ref d5, jv kn, .ref d6, .ref d7, .ref d8, Jv lU, Jv lB, jv vn, .ref d9, .ref da, .ref db, .ref dc, .ref dd, .ref de, jv lk]), (d6, ai g 70 kf)] [.ref o, jv i, jv j] (fun rV rU => ∃ (uu : Int) (ub : Int), rV = none ∧ rU = [(o, ob 6 [jv rn, .ref d1, jv e, jv nc, .ref d2, jv oc, .ref d3, jv co, .ref d4, jv un, .ref d5, jv kn, .ref d6, .ref d7, .ref d8, Jv uu, Jv ub, jv vn, .ref d9, .ref da, .ref db, .ref dc, .ref dd, .ref de, jv lk]), (d6, ai g 70 kf)] ∧ (uu = (lw kf e i (j - i).toNat).1 ∧ ub = (lw kf e i (j - i).toNat).2)) := by
  refine ct_of (cc := cX6_layLow) (nL := 8) (ret := none) (by decide) rfl (Nat.le_of_ble_eq_true rfl) ?_
  intro E C Rt0
  have C : Cx l g E ({ frames := 0, cells := 0, slots := 0, locals := 0 } : Room) RX6 "layLow" cX6_layLow wsX6_layLow 8 := C
  show X l g E ({ frames := 0, cells := 0, slots := 0, locals := 0 } : Room) 8 [(o, ob 6 [jv rn, .ref d1, jv e, jv nc, .ref d2, jv oc, .ref d3, jv co, .ref d4, jv un, .ref d5, jv kn, .ref d6, .ref d7, .ref d8, Jv lU, Jv lB, jv vn, .ref d9, .ref da, .ref db, .ref dc, .ref dd, .ref de, jv lk]), (d6, ai g 70 kf)] 0 0 [(0, .ref o), (1, jv i), (2, jv j)] 0 []
  have kn0 := hk.1
  have kn1 := hk.2.1
  refine x_aload_n (pc := 0) C 0 dX6_layLow_0 rfl ?_
  refine x_lconst (pc := 1) C (z := 0) dX6_layLow_1 rfl ?_
  refine x_put (pc := 2) C (ty := .long) (ws' := [(o, ob 6 [jv rn, .ref d1, jv e, jv nc, .ref d2, jv oc, .ref d3, jv co, .ref d4, jv un, .ref d5, jv kn, .ref d6, .ref d7, .ref d8, Jv 0, Jv lB, jv vn, .ref d9, .ref da, .ref db, .ref dc, .ref dd, .ref de, jv lk]), (d6, ai g 70 kf)]) tyX6 0 15 dX6_layLow_2 hiX6_layLow_6 tyX6_ok nmX6 hfX6_layLow_111 rfl rfl rfl (by decide) rfl (by decide +kernel) rfl rfl (Nat.le_of_ble_eq_true rfl) rfl ?_
  refine x_aload_n (pc := 5) C 0 dX6_layLow_5 rfl ?_
  refine x_lconst (pc := 6) C (z := 1) dX6_layLow_6 rfl ?_
  refine x_put (pc := 7) C (ty := .long) (ws' := [(o, ob 6 [jv rn, .ref d1, jv e, jv nc, .ref d2, jv oc, .ref d3, jv co, .ref d4, jv un, .ref d5, jv kn, .ref d6, .ref d7, .ref d8, Jv 0, Jv 1, jv vn, .ref d9, .ref da, .ref db, .ref dc, .ref dd, .ref de, jv lk]), (d6, ai g 70 kf)]) tyX6 0 16 dX6_layLow_7 hiX6_layLow_6 tyX6_ok nmX6 hfX6_layLow_115 rfl rfl rfl (by decide) rfl (by decide +kernel) rfl rfl (Nat.le_of_ble_eq_true rfl) rfl ?_
  refine x_iload_n (pc := 10) C 1 dX6_layLow_10 rfl ?_
  refine x_iconst (pc := 11) C dX6_layLow_11 ?_
  refine x_iadd (pc := 12) C dX6_layLow_12 ?_
  refine x_istore_n (pc := 13) C (lv' := [(3, jv (i + 1)), (0, .ref o), (1, jv i), (2, jv j)]) dX6_layLow_13 (by decide) rfl ?_
  have L14 : ∀ (nn : Nat) (k : Int) (d : Nat) (uu : Int) (ub : Int), (j + 1 - k).toNat < nn → (k = i + (d : Int) + 1 ∧ k ≤ j + 1) → (uu = (lw kf e i d).1 ∧ ub = (lw kf e i d).2) → X l g E ({ frames := 0, cells := 0, slots := 0, locals := 0 } : Room) 8 [(o, ob 6 [jv rn, .ref d1, jv e, jv nc, .ref d2, jv oc, .ref d3, jv co, .ref d4, jv un, .ref d5, jv kn, .ref d6, .ref d7, .ref d8, Jv uu, Jv ub, jv vn, .ref d9, .ref da, .ref db, .ref dc, .ref dd, .ref de, jv lk]), (d6, ai g 70 kf)] 0 0 [(0, .ref o), (1, jv i), (2, jv j), (3, jv k)] 14 [] := by
    intro nn
    induction nn with
    | zero => intro k d uu ub hμ; exact absurd hμ (Nat.not_lt_zero _)
    | succ nn ih14 =>
      intro k d uu ub hμ hkk hl
      refine x_iload_n (pc := 14) C 3 dX6_layLow_14 rfl ?_
      refine x_iload_n (pc := 15) C 2 dX6_layLow_15 rfl ?_
      refine x_icmp_gt (pc := 16) C 82 dX6_layLow_16 rfl ⟨by omega, by omega⟩ ⟨by omega, by omega⟩ (fun c_16 => ?_) (fun c_16 => ?_)
      · refine x_vret (pc := 82) C Rt0 dX6_layLow_82 rfl ?_
        refine ⟨_, _, rfl, rfl, ?_⟩
        rw [show (j - i).toNat = d by omega]; exact hl
      · have hlr := lw_rg hk he.1 hi.1 d (by omega)
        have hgp := hk.gap hi.1 (j := k) (by omega) (by omega)
        refine x_iload_n (pc := 19) C 3 dX6_layLow_19 rfl ?_
        refine x_aload_n (pc := 20) C 0 dX6_layLow_20 rfl ?_
        refine x_get (pc := 21) C 0 2 dX6_layLow_21 hiX6_layLow_6 hfX6_layLow_13 rfl rfl rfl (by decide) rfl ?_
        refine x_isub (pc := 24) C dX6_layLow_24 ?_
        refine x_iload_n (pc := 25) C 1 dX6_layLow_25 rfl ?_
        refine x_isub (pc := 26) C dX6_layLow_26 ?_
        refine x_i2l (pc := 27) C dX6_layLow_27 ⟨by omega, by omega⟩ ?_
        refine x_lstore (pc := 28) C (lv' := [(4, Jv ((k - e) - i)), (0, .ref o), (1, jv i), (2, jv j), (3, jv k)]) dX6_layLow_28 (by decide) rfl ?_
        refine x_aload_n (pc := 30) C 1 dX6_layLow_30 rfl ?_
        refine x_get (pc := 31) C 0 12 dX6_layLow_31 hiX6_layLow_6 hfX6_layLow_30 rfl rfl rfl (by decide) rfl ?_
        refine x_iload_n (pc := 34) C 4 dX6_layLow_34 rfl ?_
        refine x_iald (pc := 35) C 1 dX6_layLow_35 rfl (by omega) (by omega) (by decide) ?_
        refine x_aload_n (pc := 36) C 1 dX6_layLow_36 rfl ?_
        refine x_get (pc := 37) C 0 12 dX6_layLow_37 hiX6_layLow_6 hfX6_layLow_30 rfl rfl rfl (by decide) rfl ?_
        refine x_iload_n (pc := 40) C 2 dX6_layLow_40 rfl ?_
        refine x_iald (pc := 41) C 1 dX6_layLow_41 rfl (by omega) (by omega) (by decide) ?_
        refine x_isub (pc := 42) C dX6_layLow_42 ?_
        refine x_i2l (pc := 43) C dX6_layLow_43 ⟨by omega, by omega⟩ ?_
        refine x_lstore (pc := 44) C (lv' := [(6, Jv ((kf k) - (kf i))), (4, Jv ((k - e) - i)), (0, .ref o), (1, jv i), (2, jv j), (3, jv k)]) dX6_layLow_44 (by decide) rfl ?_
        refine x_lload (pc := 46) C 1 dX6_layLow_46 rfl ?_
        refine x_aload_n (pc := 48) C 2 dX6_layLow_48 rfl ?_
        refine x_get (pc := 49) C 0 16 dX6_layLow_49 hiX6_layLow_6 hfX6_layLow_115 rfl rfl rfl (by decide) rfl ?_
        refine x_lmul (pc := 52) C dX6_layLow_52 ?_
        refine x_aload_n (pc := 53) C 2 dX6_layLow_53 rfl ?_
        refine x_get (pc := 54) C 0 15 dX6_layLow_54 hiX6_layLow_6 hfX6_layLow_111 rfl rfl rfl (by decide) rfl ?_
        refine x_lload (pc := 57) C 0 dX6_layLow_57 rfl ?_
        refine x_lmul (pc := 59) C dX6_layLow_59 ?_
        refine x_lcmp (pc := 60) C dX6_layLow_60 (mrgL (by omega) (by omega)) (mrgL (by omega) (by omega)) (fun c_60 => ?_) (fun c_60 => ?_) (fun c_60 => ?_)
        · refine x_if_le (pc := 61) C 76 dX6_layLow_61 rfl ⟨by decide, by decide⟩ (fun _ => ?_) (fun h => absurd h (by decide))
          refine x_iinc (pc := 76) C (lv' := [(3, jv (k + 1)), (6, Jv ((kf k) - (kf i))), (4, Jv ((k - e) - i)), (0, .ref o), (1, jv i), (2, jv j)]) 5 dX6_layLow_76 rfl (by decide) rfl ?_
          refine x_goto (pc := 79) C 14 dX6_layLow_79 rfl ?_
          refine x_locals (lv' := [(0, .ref o), (1, jv i), (2, jv j), (3, jv (k + 1))]) [3, 4, 5, 0] rfl ?_
          refine ih14 _ (d + 1) _ _ ?_ ?_ ?_
          · omega
          · omega
          · have q := lw_f (x := kf) (e := e) hkk.1 (by rw [← hl.1, ← hl.2, show k - i - e = k - e - i by omega]; omega)
            rw [q]; exact hl
        · refine x_if_le (pc := 61) C 76 dX6_layLow_61 rfl ⟨by decide, by decide⟩ (fun _ => ?_) (fun h => absurd h (by decide))
          refine x_iinc (pc := 76) C (lv' := [(3, jv (k + 1)), (6, Jv ((kf k) - (kf i))), (4, Jv ((k - e) - i)), (0, .ref o), (1, jv i), (2, jv j)]) 5 dX6_layLow_76 rfl (by decide) rfl ?_
          refine x_goto (pc := 79) C 14 dX6_layLow_79 rfl ?_
          refine x_locals (lv' := [(0, .ref o), (1, jv i), (2, jv j), (3, jv (k + 1))]) [3, 4, 5, 0] rfl ?_
          refine ih14 _ (d + 1) _ _ ?_ ?_ ?_
          · omega
          · omega
          · have q := lw_f (x := kf) (e := e) hkk.1 (by rw [← hl.1, ← hl.2, show k - i - e = k - e - i by omega]; omega)
            rw [q]; exact hl
        · refine x_if_le (pc := 61) C 76 dX6_layLow_61 rfl ⟨by decide, by decide⟩ (fun h => absurd h (by decide)) (fun _ => ?_)
          refine x_aload_n (pc := 64) C 2 dX6_layLow_64 rfl ?_
          refine x_lload (pc := 65) C 1 dX6_layLow_65 rfl ?_
          refine x_put (pc := 67) C (ty := .long) (ws' := [(o, ob 6 [jv rn, .ref d1, jv e, jv nc, .ref d2, jv oc, .ref d3, jv co, .ref d4, jv un, .ref d5, jv kn, .ref d6, .ref d7, .ref d8, Jv ((k - e) - i), Jv ub, jv vn, .ref d9, .ref da, .ref db, .ref dc, .ref dd, .ref de, jv lk]), (d6, ai g 70 kf)]) tyX6 0 15 dX6_layLow_67 hiX6_layLow_6 tyX6_ok nmX6 hfX6_layLow_111 rfl rfl rfl (by decide) rfl (by decide +kernel) rfl rfl (Nat.le_of_ble_eq_true rfl) rfl ?_
          refine x_aload_n (pc := 70) C 2 dX6_layLow_70 rfl ?_
          refine x_lload (pc := 71) C 0 dX6_layLow_71 rfl ?_
          refine x_put (pc := 73) C (ty := .long) (ws' := [(o, ob 6 [jv rn, .ref d1, jv e, jv nc, .ref d2, jv oc, .ref d3, jv co, .ref d4, jv un, .ref d5, jv kn, .ref d6, .ref d7, .ref d8, Jv ((k - e) - i), Jv ((kf k) - (kf i)), jv vn, .ref d9, .ref da, .ref db, .ref dc, .ref dd, .ref de, jv lk]), (d6, ai g 70 kf)]) tyX6 0 16 dX6_layLow_73 hiX6_layLow_6 tyX6_ok nmX6 hfX6_layLow_115 rfl rfl rfl (by decide) rfl (by decide +kernel) rfl rfl (Nat.le_of_ble_eq_true rfl) rfl ?_
          refine x_iinc (pc := 76) C (lv' := [(3, jv (k + 1)), (6, Jv ((kf k) - (kf i))), (4, Jv ((k - e) - i)), (0, .ref o), (1, jv i), (2, jv j)]) 5 dX6_layLow_76 rfl (by decide) rfl ?_
          refine x_goto (pc := 79) C 14 dX6_layLow_79 rfl ?_
          refine x_locals (lv' := [(0, .ref o), (1, jv i), (2, jv j), (3, jv (k + 1))]) [3, 4, 5, 0] rfl ?_
          refine ih14 _ (d + 1) _ _ ?_ ?_ ?_
          · omega
          · omega
          · have q := lw_t (x := kf) (e := e) hkk.1 (by rw [← hl.1, ← hl.2, show k - i - e = k - e - i by omega]; exact c_60)
            rw [q]
            exact ⟨by show k - e - i = k - i - e; omega, rfl⟩
  refine x_locals (lv' := [(0, .ref o), (1, jv i), (2, jv j), (3, jv (i + 1))]) [1, 2, 3, 0] rfl ?_
  refine L14 _ _ 0 _ _ (Nat.lt_succ_self _) ?_ ?_
  · omega
  · exact ⟨rfl, rfl⟩

set_option maxRecDepth 100000 in
theorem hiX6_keeps_6 : ∀ w ∈ wsX60, w ∈ wsX6_keeps := by decide +kernel
set_option maxRecDepth 100000 in
theorem hfX6_keeps_111 : Cond.fieldLink RX6 111 "KeyGuessModel" "lowUp" "J" ∈ wsX6_keeps := by decide +kernel
set_option maxRecDepth 100000 in
theorem hfX6_keeps_30 : Cond.fieldLink RX6 30 "KeyGuessModel" "keys" "[I" ∈ wsX6_keeps := by decide +kernel
set_option maxRecDepth 100000 in
theorem hfX6_keeps_13 : Cond.fieldLink RX6 13 "KeyGuessModel" "e" "I" ∈ wsX6_keeps := by decide +kernel
set_option maxRecDepth 100000 in
theorem hfX6_keeps_115 : Cond.fieldLink RX6 115 "KeyGuessModel" "lowBelow" "J" ∈ wsX6_keeps := by decide +kernel
set_option maxHeartbeats 4000000 in
set_option maxRecDepth 100000 in
/-- keeps -/
theorem ctX6_keeps (l : Launch) (g : xG) (o : Nat) (d1 : Nat) (d2 : Nat) (d3 : Nat) (d4 : Nat) (d5 : Nat) (d6 : Nat) (d7 : Nat) (d8 : Nat) (d9 : Nat) (da : Nat) (db : Nat) (dc : Nat) (dd : Nat) (de : Nat) (rn : Int) (e : Int) (nc : Int) (oc : Int) (co : Int) (un : Int) (kn : Int) (lU : Int) (lB : Int) (vn : Int) (lk : Int) (kf : Int → Int) (i : Int) (j : Int) (hk : Kr kn kf) (he : 0 ≤ e ∧ e ≤ 8) (hi : 0 ≤ i ∧ i < j ∧ j < kn) : Ct l g yX6_keeps wsX6_keeps ({ frames := 1, cells := 0, slots := 0, locals := 27 } : Room) 0 0 [(o, ob 6 [jv rn, .ref d1, jv e, jv nc, .ref d2, jv oc, .ref d3, jv co, .ref d4, jv un, .ref d5, jv kn, .ref d6, .ref d7, .ref d8, Jv lU, Jv lB, jv vn, .ref d9, .ref da, .ref db, .ref dc, .ref dd, .ref de, jv lk]), (d6, ai g 70 kf)] [.ref o, jv i, jv j] (fun rV rU => ∃ (r : Int) (uu : Int) (ub : Int), rV = some (jv r) ∧ rU = [(o, ob 6 [jv rn, .ref d1, jv e, jv nc, .ref d2, jv oc, .ref d3, jv co, .ref d4, jv un, .ref d5, jv kn, .ref d6, .ref d7, .ref d8, Jv uu, Jv ub, jv vn, .ref d9, .ref da, .ref db, .ref dc, .ref dd, .ref de, jv lk]), (d6, ai g 70 kf)] ∧ ((r = 1 ∧ kp kf e i (j - i).toNat) ∨ (r = 0 ∧ ¬ kp kf e i (j - i).toNat))) := by
  refine ct_of (cc := cX6_keeps) (nL := 5) (ret := (some .boolean)) (by decide) rfl (Nat.le_of_ble_eq_true rfl) ?_
  intro E C Rt0
  have C : Cx l g E ({ frames := 1, cells := 0, slots := 0, locals := 27 } : Room) RX6 "keeps" cX6_keeps wsX6_keeps 5 := C
  show X l g E ({ frames := 1, cells := 0, slots := 0, locals := 27 } : Room) 5 [(o, ob 6 [jv rn, .ref d1, jv e, jv nc, .ref d2, jv oc, .ref d3, jv co, .ref d4, jv un, .ref d5, jv kn, .ref d6, .ref d7, .ref d8, Jv lU, Jv lB, jv vn, .ref d9, .ref da, .ref db, .ref dc, .ref dd, .ref de, jv lk]), (d6, ai g 70 kf)] 0 0 [(0, .ref o), (1, jv i), (2, jv j)] 0 []
  have kn0 := hk.1
  have kn1 := hk.2.1
  refine x_aload_n (pc := 0) C 0 dX6_keeps_0 rfl ?_
  refine x_iload_n (pc := 1) C 1 dX6_keeps_1 rfl ?_
  refine x_iload_n (pc := 2) C 2 dX6_keeps_2 rfl ?_
  refine x_callV (pc := 3) C (n := 2) (q0 := 0) (rest := []) (wr := []) [0, 1] [] (ctX6_layLow l g o d1 d2 d3 d4 d5 d6 d7 d8 d9 da db dc dd de rn e nc oc co un kn lU lB vn lk kf i j hk he ⟨by omega, by omega, by omega⟩) gX6_keeps_X6_layLow rfl ⟨rfl, rfl⟩ (by decide +kernel) ⟨by decide, by decide⟩ rfl rfl rfl rfl rfl (by decide) (by decide) (by decide) rfl (Nat.le_of_ble_eq_true rfl) dX6_keeps_3 ⟨by decide, by decide⟩ (fun v_3 u_3 h_3 => ?_)
  rcases h_3 with ⟨uu, ub, rfl, rfl, f_3⟩
  refine x_world (ws' := [(o, ob 6 [jv rn, .ref d1, jv e, jv nc, .ref d2, jv oc, .ref d3, jv co, .ref d4, jv un, .ref d5, jv kn, .ref d6, .ref d7, .ref d8, Jv uu, Jv ub, jv vn, .ref d9, .ref da, .ref db, .ref dc, .ref dd, .ref de, jv lk]), (d6, ai g 70 kf)]) [0, 1] (by decide) rfl ?_
  show X l g E ({ frames := 1, cells := 0, slots := 0, locals := 27 } : Room) 5 [(o, ob 6 [jv rn, .ref d1, jv e, jv nc, .ref d2, jv oc, .ref d3, jv co, .ref d4, jv un, .ref d5, jv kn, .ref d6, .ref d7, .ref d8, Jv uu, Jv ub, jv vn, .ref d9, .ref da, .ref db, .ref dc, .ref dd, .ref de, jv lk]), (d6, ai g 70 kf)] 0 0 [(0, .ref o), (1, jv i), (2, jv j)] 6 []
  have hlr := lw_rg hk he.1 hi.1 (j - i).toNat (by omega)
  rw [← f_3.1, ← f_3.2] at hlr
  refine x_iconst (pc := 6) C dX6_keeps_6 ?_
  refine x_istore_n (pc := 7) C (lv' := [(3, jv 1), (0, .ref o), (1, jv i), (2, jv j)]) dX6_keeps_7 (by decide) rfl ?_
  have L13 : ∀ (nn : Nat) (k : Int) (r : Int), (j + 1 - k).toNat < nn → (i + 1 ≤ k ∧ k ≤ j + 1) → (KpR kf e i j uu ub k r) → X l g E ({ frames := 1, cells := 0, slots := 0, locals := 27 } : Room) 5 [(o, ob 6 [jv rn, .ref d1, jv e, jv nc, .ref d2, jv oc, .ref d3, jv co, .ref d4, jv un, .ref d5, jv kn, .ref d6, .ref d7, .ref d8, Jv uu, Jv ub, jv vn, .ref d9, .ref da, .ref db, .ref dc, .ref dd, .ref de, jv lk]), (d6, ai g 70 kf)] 0 0 [(0, .ref o), (1, jv i), (2, jv j), (3, jv r), (4, jv k)] 13 [] := by
    intro nn
    induction nn with
    | zero => intro k r hμ; exact absurd hμ (Nat.not_lt_zero _)
    | succ nn ih13 =>
      intro k r hμ hkk hr
      refine x_iload (pc := 13) C 4 dX6_keeps_13 rfl ?_
      refine x_iload_n (pc := 15) C 2 dX6_keeps_15 rfl ?_
      refine x_icmp_gt (pc := 16) C 74 dX6_keeps_16 rfl ⟨by omega, by omega⟩ ⟨by omega, by omega⟩ (fun c_16 => ?_) (fun c_16 => ?_)
      · refine x_iload_n (pc := 74) C 3 dX6_keeps_74 rfl ?_
        refine x_zret (pc := 75) C Rt0 dX6_keeps_75 rfl (nb01 hr.is) ?_
        refine ⟨_, _, _, rfl, rfl, ?_⟩
        rcases hr with q | q
        · refine Or.inl ⟨q.1, fun m m1 m2 => ?_⟩
          rw [← f_3.1, ← f_3.2]
          exact q.2 m m1 (by omega)
        · obtain ⟨q0, m, m1, m2, m3⟩ := q
          refine Or.inr ⟨q0, fun c => m3 ?_⟩
          have z := c m m1 (by omega)
          rw [← f_3.1, ← f_3.2] at z
          exact z
      · refine x_iload_n (pc := 19) C 3 dX6_keeps_19 rfl ?_
        refine x_if_eq (pc := 20) C 66 dX6_keeps_20 rfl hr.rg (fun c_20 => ?_) (fun c_20 => ?_)
        · refine x_iconst (pc := 66) C dX6_keeps_66 ?_
          refine x_istore_n (pc := 67) C (lv' := [(3, jv 0), (0, .ref o), (1, jv i), (2, jv j), (4, jv k)]) dX6_keeps_67 (by decide) rfl ?_
          refine x_iinc (pc := 68) C (lv' := [(4, jv (k + 1)), (3, jv 0), (0, .ref o), (1, jv i), (2, jv j)]) 4 dX6_keeps_68 rfl (by decide) rfl ?_
          refine x_goto (pc := 71) C 13 dX6_keeps_71 rfl ?_
          refine x_locals (lv' := [(0, .ref o), (1, jv i), (2, jv j), (3, jv 0), (4, jv (k + 1))]) [2, 3, 4, 1, 0] rfl ?_
          refine ih13 _ _ ?_ ?_ ?_
          · omega
          · omega
          · rcases hr with q | q
            · omega
            · exact Or.inr ⟨rfl, q.2⟩
        · have hgp := hk.gap hi.1 (j := k) (by omega) (by omega)
          refine x_aload_n (pc := 23) C 0 dX6_keeps_23 rfl ?_
          refine x_get (pc := 24) C 0 15 dX6_keeps_24 hiX6_keeps_6 hfX6_keeps_111 rfl rfl rfl (by decide) rfl ?_
          refine x_aload_n (pc := 27) C 0 dX6_keeps_27 rfl ?_
          refine x_get (pc := 28) C 0 12 dX6_keeps_28 hiX6_keeps_6 hfX6_keeps_30 rfl rfl rfl (by decide) rfl ?_
          refine x_iload (pc := 31) C 4 dX6_keeps_31 rfl ?_
          refine x_iald (pc := 33) C 1 dX6_keeps_33 rfl (by omega) (by omega) (by decide) ?_
          refine x_aload_n (pc := 34) C 0 dX6_keeps_34 rfl ?_
          refine x_get (pc := 35) C 0 12 dX6_keeps_35 hiX6_keeps_6 hfX6_keeps_30 rfl rfl rfl (by decide) rfl ?_
          refine x_iload_n (pc := 38) C 1 dX6_keeps_38 rfl ?_
          refine x_iald (pc := 39) C 1 dX6_keeps_39 rfl (by omega) (by omega) (by decide) ?_
          refine x_isub (pc := 40) C dX6_keeps_40 ?_
          refine x_i2l (pc := 41) C dX6_keeps_41 ⟨by omega, by omega⟩ ?_
          refine x_lmul (pc := 42) C dX6_keeps_42 ?_
          refine x_iload (pc := 43) C 4 dX6_keeps_43 rfl ?_
          refine x_aload_n (pc := 45) C 0 dX6_keeps_45 rfl ?_
          refine x_get (pc := 46) C 0 2 dX6_keeps_46 hiX6_keeps_6 hfX6_keeps_13 rfl rfl rfl (by decide) rfl ?_
          refine x_iadd (pc := 49) C dX6_keeps_49 ?_
          refine x_iload_n (pc := 50) C 1 dX6_keeps_50 rfl ?_
          refine x_isub (pc := 51) C dX6_keeps_51 ?_
          refine x_i2l (pc := 52) C dX6_keeps_52 ⟨by omega, by omega⟩ ?_
          refine x_aload_n (pc := 53) C 0 dX6_keeps_53 rfl ?_
          refine x_get (pc := 54) C 0 16 dX6_keeps_54 hiX6_keeps_6 hfX6_keeps_115 rfl rfl rfl (by decide) rfl ?_
          refine x_lmul (pc := 57) C dX6_keeps_57 ?_
          refine x_lcmp (pc := 58) C dX6_keeps_58 (mrgL (by omega) (by omega)) (mrgL (by omega) (by omega)) (fun c_58 => ?_) (fun c_58 => ?_) (fun c_58 => ?_)
          · refine x_if_gt (pc := 59) C 66 dX6_keeps_59 rfl ⟨by decide, by decide⟩ (fun h => absurd h (by decide)) (fun _ => ?_)
            refine x_iconst (pc := 62) C dX6_keeps_62 ?_
            refine x_goto (pc := 63) C 67 dX6_keeps_63 rfl ?_
            refine x_istore_n (pc := 67) C (lv' := [(3, jv 1), (0, .ref o), (1, jv i), (2, jv j), (4, jv k)]) dX6_keeps_67 (by decide) rfl ?_
            refine x_iinc (pc := 68) C (lv' := [(4, jv (k + 1)), (3, jv 1), (0, .ref o), (1, jv i), (2, jv j)]) 4 dX6_keeps_68 rfl (by decide) rfl ?_
            refine x_goto (pc := 71) C 13 dX6_keeps_71 rfl ?_
            refine x_locals (lv' := [(0, .ref o), (1, jv i), (2, jv j), (3, jv 1), (4, jv (k + 1))]) [2, 3, 4, 1, 0] rfl ?_
            refine ih13 _ _ ?_ ?_ ?_
            · omega
            · omega
            · refine Or.inl ⟨rfl, fun m m1 m2 => ?_⟩
              rcases hr with q | q
              · by_cases z : i + (m : Int) = k
                · rw [z, show (m : Int) + e = k + e - i by omega]; omega
                · exact q.2 m m1 (by omega)
              · omega
          · refine x_if_gt (pc := 59) C 66 dX6_keeps_59 rfl ⟨by decide, by decide⟩ (fun h => absurd h (by decide)) (fun _ => ?_)
            refine x_iconst (pc := 62) C dX6_keeps_62 ?_
            refine x_goto (pc := 63) C 67 dX6_keeps_63 rfl ?_
            refine x_istore_n (pc := 67) C (lv' := [(3, jv 1), (0, .ref o), (1, jv i), (2, jv j), (4, jv k)]) dX6_keeps_67 (by decide) rfl ?_
            refine x_iinc (pc := 68) C (lv' := [(4, jv (k + 1)), (3, jv 1), (0, .ref o), (1, jv i), (2, jv j)]) 4 dX6_keeps_68 rfl (by decide) rfl ?_
            refine x_goto (pc := 71) C 13 dX6_keeps_71 rfl ?_
            refine x_locals (lv' := [(0, .ref o), (1, jv i), (2, jv j), (3, jv 1), (4, jv (k + 1))]) [2, 3, 4, 1, 0] rfl ?_
            refine ih13 _ _ ?_ ?_ ?_
            · omega
            · omega
            · refine Or.inl ⟨rfl, fun m m1 m2 => ?_⟩
              rcases hr with q | q
              · by_cases z : i + (m : Int) = k
                · rw [z, show (m : Int) + e = k + e - i by omega]; omega
                · exact q.2 m m1 (by omega)
              · omega
          · refine x_if_gt (pc := 59) C 66 dX6_keeps_59 rfl ⟨by decide, by decide⟩ (fun _ => ?_) (fun h => absurd h (by decide))
            refine x_iconst (pc := 66) C dX6_keeps_66 ?_
            refine x_istore_n (pc := 67) C (lv' := [(3, jv 0), (0, .ref o), (1, jv i), (2, jv j), (4, jv k)]) dX6_keeps_67 (by decide) rfl ?_
            refine x_iinc (pc := 68) C (lv' := [(4, jv (k + 1)), (3, jv 0), (0, .ref o), (1, jv i), (2, jv j)]) 4 dX6_keeps_68 rfl (by decide) rfl ?_
            refine x_goto (pc := 71) C 13 dX6_keeps_71 rfl ?_
            refine x_locals (lv' := [(0, .ref o), (1, jv i), (2, jv j), (3, jv 0), (4, jv (k + 1))]) [2, 3, 4, 1, 0] rfl ?_
            refine ih13 _ _ ?_ ?_ ?_
            · omega
            · omega
            · refine Or.inr ⟨rfl, (k - i).toNat, by omega, by omega, ?_⟩
              rw [show i + (((k - i).toNat : Nat) : Int) = k by omega, show (((k - i).toNat : Nat) : Int) + e = k + e - i by omega]
              omega
  refine x_iload_n (pc := 8) C 2 dX6_keeps_8 rfl ?_
  refine x_iconst (pc := 9) C dX6_keeps_9 ?_
  refine x_iadd (pc := 10) C dX6_keeps_10 ?_
  refine x_istore (pc := 11) C (lv' := [(4, jv (i + 1)), (3, jv 1), (0, .ref o), (1, jv i), (2, jv j)]) dX6_keeps_11 (by decide) rfl ?_
  refine x_locals (lv' := [(0, .ref o), (1, jv i), (2, jv j), (3, jv 1), (4, jv (i + 1))]) [2, 3, 4, 1, 0] rfl ?_
  refine L13 _ _ _ (Nat.lt_succ_self _) ?_ ?_
  · omega
  · exact Or.inl ⟨rfl, fun m m1 m2 => by omega⟩

set_option maxRecDepth 100000 in
theorem hiX6_layPieces_6 : ∀ w ∈ wsX60, w ∈ wsX6_layPieces := by decide +kernel
set_option maxRecDepth 100000 in
theorem hfX6_layPieces_36 : Cond.fieldLink RX6 36 "KeyGuessModel" "fewest" "[I" ∈ wsX6_layPieces := by decide +kernel
set_option maxRecDepth 100000 in
theorem hfX6_layPieces_122 : Cond.fieldLink RX6 122 "KeyGuessModel" "keyMany" "I" ∈ wsX6_layPieces := by decide +kernel
set_option maxRecDepth 100000 in
theorem hfX6_layPieces_33 : Cond.fieldLink RX6 33 "KeyGuessModel" "reach" "[I" ∈ wsX6_layPieces := by decide +kernel
set_option maxHeartbeats 4000000 in
set_option maxRecDepth 100000 in
/-- layPieces -/
theorem ctX6_layPieces (l : Launch) (g : xG) (o : Nat) (d1 : Nat) (d2 : Nat) (d3 : Nat) (d4 : Nat) (d5 : Nat) (d6 : Nat) (d7 : Nat) (d8 : Nat) (d9 : Nat) (da : Nat) (db : Nat) (dc : Nat) (dd : Nat) (de : Nat) (rn : Int) (e : Int) (nc : Int) (oc : Int) (co : Int) (un : Int) (kn : Int) (lU : Int) (lB : Int) (vn : Int) (lk : Int) (kf : Int → Int) (re : Int → Int) (fw : Int → Int) (hk : Kr kn kf) (he : 0 ≤ e ∧ e ≤ 8) : Ct l g yX6_layPieces wsX6_layPieces ({ frames := 2, cells := 0, slots := 0, locals := 51 } : Room) 0 0 [(o, ob 6 [jv rn, .ref d1, jv e, jv nc, .ref d2, jv oc, .ref d3, jv co, .ref d4, jv un, .ref d5, jv kn, .ref d6, .ref d7, .ref d8, Jv lU, Jv lB, jv vn, .ref d9, .ref da, .ref db, .ref dc, .ref dd, .ref de, jv lk]), (d6, ai g 70 kf), (d7, ai g 70 re), (d8, ai g 71 fw)] [.ref o] (fun rV rU => ∃ (uu : Int) (ub : Int) (re' : Int → Int) (fw' : Int → Int), rV = none ∧ rU = [(o, ob 6 [jv rn, .ref d1, jv e, jv nc, .ref d2, jv oc, .ref d3, jv co, .ref d4, jv un, .ref d5, jv kn, .ref d6, .ref d7, .ref d8, Jv uu, Jv ub, jv vn, .ref d9, .ref da, .ref db, .ref dc, .ref dd, .ref de, jv lk]), (d6, ai g 70 kf), (d7, ai g 70 re'), (d8, ai g 71 fw')] ∧ (FewAll kf e kn fw' re' ∧ ∀ k : Int, 0 ≤ k → k ≤ kn → 0 ≤ fw' k ∧ fw' k ≤ kn - k)) := by
  refine ct_of (cc := cX6_layPieces) (nL := 4) (ret := none) (by decide) rfl (Nat.le_of_ble_eq_true rfl) ?_
  intro E C Rt0
  have C : Cx l g E ({ frames := 2, cells := 0, slots := 0, locals := 51 } : Room) RX6 "layPieces" cX6_layPieces wsX6_layPieces 4 := C
  show X l g E ({ frames := 2, cells := 0, slots := 0, locals := 51 } : Room) 4 [(o, ob 6 [jv rn, .ref d1, jv e, jv nc, .ref d2, jv oc, .ref d3, jv co, .ref d4, jv un, .ref d5, jv kn, .ref d6, .ref d7, .ref d8, Jv lU, Jv lB, jv vn, .ref d9, .ref da, .ref db, .ref dc, .ref dd, .ref de, jv lk]), (d6, ai g 70 kf), (d7, ai g 70 re), (d8, ai g 71 fw)] 0 0 [(0, .ref o)] 0 []
  have kn0 := hk.1
  have kn1 := hk.2.1
  refine x_aload_n (pc := 0) C 0 dX6_layPieces_0 rfl ?_
  refine x_get (pc := 1) C 0 14 dX6_layPieces_1 hiX6_layPieces_6 hfX6_layPieces_36 rfl rfl rfl (by decide) rfl ?_
  refine x_aload_n (pc := 4) C 0 dX6_layPieces_4 rfl ?_
  refine x_get (pc := 5) C 0 11 dX6_layPieces_5 hiX6_layPieces_6 hfX6_layPieces_122 rfl rfl rfl (by decide) rfl ?_
  refine x_iconst (pc := 8) C dX6_layPieces_8 ?_
  refine x_iast (pc := 9) C (ws' := [(o, ob 6 [jv rn, .ref d1, jv e, jv nc, .ref d2, jv oc, .ref d3, jv co, .ref d4, jv un, .ref d5, jv kn, .ref d6, .ref d7, .ref d8, Jv lU, Jv lB, jv vn, .ref d9, .ref da, .ref db, .ref dc, .ref dd, .ref de, jv lk]), (d6, ai g 70 kf), (d7, ai g 70 re), (d8, ai g 71 (up fw kn 0))]) 3 dX6_layPieces_9 rfl (by omega) (by omega) (by decide) rfl ?_
  refine x_aload_n (pc := 10) C 0 dX6_layPieces_10 rfl ?_
  refine x_get (pc := 11) C 0 11 dX6_layPieces_11 hiX6_layPieces_6 hfX6_layPieces_122 rfl rfl rfl (by decide) rfl ?_
  refine x_iconst (pc := 14) C dX6_layPieces_14 ?_
  refine x_isub (pc := 15) C dX6_layPieces_15 ?_
  refine x_istore_n (pc := 16) C (lv' := [(1, jv (kn - 1)), (0, .ref o)]) dX6_layPieces_16 (by decide) rfl ?_
  have L17 : ∀ (nn : Nat) (i : Int) (uu : Int) (ub : Int) (re' : Int → Int) (fw' : Int → Int), (i + 1).toNat < nn → (-1 ≤ i ∧ i < kn) → (fw' kn = 0 ∧ (∀ k : Int, i < k → k < kn → Rs kf e kn fw' re' k) ∧ ∀ k : Int, i < k → k ≤ kn → 0 ≤ fw' k ∧ fw' k ≤ kn - k) → X l g E ({ frames := 2, cells := 0, slots := 0, locals := 51 } : Room) 4 [(o, ob 6 [jv rn, .ref d1, jv e, jv nc, .ref d2, jv oc, .ref d3, jv co, .ref d4, jv un, .ref d5, jv kn, .ref d6, .ref d7, .ref d8, Jv uu, Jv ub, jv vn, .ref d9, .ref da, .ref db, .ref dc, .ref dd, .ref de, jv lk]), (d6, ai g 70 kf), (d7, ai g 70 re'), (d8, ai g 71 fw')] 0 0 [(0, .ref o), (1, jv i)] 17 [] := by
    intro nn
    induction nn with
    | zero => intro i uu ub re' fw' hμ; exact absurd hμ (Nat.not_lt_zero _)
    | succ nn ih17 =>
      intro i uu ub re' fw' hμ hi hd
      refine x_iload_n (pc := 17) C 1 dX6_layPieces_17 rfl ?_
      refine x_if_lt (pc := 18) C 128 dX6_layPieces_18 rfl ⟨by omega, by omega⟩ (fun c_18 => ?_) (fun c_18 => ?_)
      · refine x_vret (pc := 128) C Rt0 dX6_layPieces_128 rfl ?_
        refine ⟨_, _, _, _, rfl, rfl, ?_⟩
        exact ⟨⟨hd.1, fun k k0 k1 => hd.2.1 k (by omega) k1⟩, fun k k0 k1 => hd.2.2 k (by omega) k1⟩
      · have L50 : ∀ (j : Int) (u1 : Int) (b1 : Int), (i ≤ j ∧ j < kn) → (okd kf e i (j - i).toNat) → (j + 1 < kn → ¬ kp kf e i (j + 1 - i).toNat) → X l g E ({ frames := 2, cells := 0, slots := 0, locals := 51 } : Room) 4 [(o, ob 6 [jv rn, .ref d1, jv e, jv nc, .ref d2, jv oc, .ref d3, jv co, .ref d4, jv un, .ref d5, jv kn, .ref d6, .ref d7, .ref d8, Jv u1, Jv b1, jv vn, .ref d9, .ref da, .ref db, .ref dc, .ref dd, .ref de, jv lk]), (d6, ai g 70 kf), (d7, ai g 70 re'), (d8, ai g 71 fw')] 0 0 [(0, .ref o), (1, jv i), (2, jv j)] 50 [] := by
          intro j u1 b1 hj hok hnk
          refine x_aload_n (pc := 50) C 0 dX6_layPieces_50 rfl ?_
          refine x_get (pc := 51) C 0 13 dX6_layPieces_51 hiX6_layPieces_6 hfX6_layPieces_33 rfl rfl rfl (by decide) rfl ?_
          refine x_iload_n (pc := 54) C 1 dX6_layPieces_54 rfl ?_
          refine x_iload_n (pc := 55) C 2 dX6_layPieces_55 rfl ?_
          refine x_iast (pc := 56) C (ws' := [(o, ob 6 [jv rn, .ref d1, jv e, jv nc, .ref d2, jv oc, .ref d3, jv co, .ref d4, jv un, .ref d5, jv kn, .ref d6, .ref d7, .ref d8, Jv u1, Jv b1, jv vn, .ref d9, .ref da, .ref db, .ref dc, .ref dd, .ref de, jv lk]), (d6, ai g 70 kf), (d7, ai g 70 (up re' i j)), (d8, ai g 71 fw')]) 2 dX6_layPieces_56 rfl (by omega) (by omega) (by decide) rfl ?_
          refine x_aload_n (pc := 57) C 0 dX6_layPieces_57 rfl ?_
          refine x_get (pc := 58) C 0 14 dX6_layPieces_58 hiX6_layPieces_6 hfX6_layPieces_36 rfl rfl rfl (by decide) rfl ?_
          refine x_iload_n (pc := 61) C 1 dX6_layPieces_61 rfl ?_
          refine x_bipush (pc := 62) C dX6_layPieces_62 rfl ?_
          refine x_iast (pc := 64) C (ws' := [(o, ob 6 [jv rn, .ref d1, jv e, jv nc, .ref d2, jv oc, .ref d3, jv co, .ref d4, jv un, .ref d5, jv kn, .ref d6, .ref d7, .ref d8, Jv u1, Jv b1, jv vn, .ref d9, .ref da, .ref db, .ref dc, .ref dd, .ref de, jv lk]), (d6, ai g 70 kf), (d7, ai g 70 (up re' i j)), (d8, ai g 71 (up fw' i 68))]) 3 dX6_layPieces_64 rfl (by omega) (by omega) (by decide) rfl ?_
          refine x_iload_n (pc := 65) C 1 dX6_layPieces_65 rfl ?_
          refine x_istore_n (pc := 66) C (lv' := [(3, jv i), (0, .ref o), (1, jv i), (2, jv j)]) dX6_layPieces_66 (by decide) rfl ?_
          have L67 : ∀ (nn : Nat) (k : Int) (fx : Int → Int), (j + 1 - k).toNat < nn → (i ≤ k ∧ k ≤ j + 1) → (∀ m : Int, m ≠ i → fx m = fw' m) → (Bst fw' fx i k) → X l g E ({ frames := 2, cells := 0, slots := 0, locals := 51 } : Room) 4 [(o, ob 6 [jv rn, .ref d1, jv e, jv nc, .ref d2, jv oc, .ref d3, jv co, .ref d4, jv un, .ref d5, jv kn, .ref d6, .ref d7, .ref d8, Jv u1, Jv b1, jv vn, .ref d9, .ref da, .ref db, .ref dc, .ref dd, .ref de, jv lk]), (d6, ai g 70 kf), (d7, ai g 70 (up re' i j)), (d8, ai g 71 fx)] 0 0 [(0, .ref o), (1, jv i), (2, jv j), (3, jv k)] 67 [] := by
            intro nn
            induction nn with
            | zero => intro k fx hμ; exact absurd hμ (Nat.not_lt_zero _)
            | succ nn ih67 =>
              intro k fx hμ hkk hoff hbest
              refine x_iload_n (pc := 67) C 3 dX6_layPieces_67 rfl ?_
              refine x_iload_n (pc := 68) C 2 dX6_layPieces_68 rfl ?_
              refine x_icmp_gt (pc := 69) C 122 dX6_layPieces_69 rfl ⟨by omega, by omega⟩ ⟨by omega, by omega⟩ (fun c_69 => ?_) (fun c_69 => ?_)
              · have hd2 : fx kn = 0 ∧ (∀ k : Int, i + (-1) < k → k < kn → Rs kf e kn fx (up re' i j) k) ∧ ∀ k : Int, i + (-1) < k → k ≤ kn → 0 ≤ fx k ∧ fx k ≤ kn - k := by
                  obtain ⟨d1, d2, d3⟩ := hd
                  rcases hbest with ⟨q1, q2⟩ | ⟨⟨d, g1, g2⟩, q2⟩
                  · omega
                  · refine ⟨by rw [hoff kn (by omega)]; exact d1, fun m m0 m1 => ?_, fun m m0 m1 => ?_⟩
                    · by_cases z : m = i
                      · rw [z]
                        refine ⟨by rw [up_eq]; omega, by rw [up_eq]; omega, by rw [up_eq]; exact hok, by rw [up_eq]; exact hnk, ⟨d, by rw [up_eq]; omega, by rw [hoff (i + (d : Int) + 1) (by omega)]; exact g2⟩, fun d' h' => ?_⟩
                        rw [up_eq] at h'
                        rw [hoff (i + (d' : Int) + 1) (by omega)]
                        exact q2 d' (by omega)
                      · obtain ⟨r1, r2, r3, r4, ⟨t, t1, t2⟩, r6⟩ := d2 m (by omega) m1
                        have ez : up re' i j m = re' m := up_ne _ _ z
                        refine ⟨by rw [ez]; exact r1, by rw [ez]; exact r2, by rw [ez]; exact r3, by rw [ez]; exact r4, ⟨t, by rw [ez]; exact t1, by rw [hoff m z, hoff (m + (t : Int) + 1) (by omega)]; exact t2⟩, fun d' h' => ?_⟩
                        rw [ez] at h'
                        rw [hoff m z, hoff (m + (d' : Int) + 1) (by omega)]
                        exact r6 d' h'
                    · by_cases z : m = i
                      · have := d3 (i + (d : Int) + 1) (by omega) (by omega)
                        rw [z]; omega
                      · rw [hoff m z]; exact d3 m (by omega) m1
                refine x_iinc (pc := 122) C (lv' := [(1, jv (i + (-1))), (0, .ref o), (2, jv j), (3, jv k)]) 1 dX6_layPieces_122 rfl (by decide) rfl ?_
                refine x_goto (pc := 125) C 17 dX6_layPieces_125 rfl ?_
                refine x_locals (lv' := [(0, .ref o), (1, jv (i + (-1)))]) [1, 0] rfl ?_
                refine ih17 _ _ _ _ _ ?_ ?_ ?_
                · omega
                · omega
                · exact hd2
              · have hb1 := hd.2.2 (k + 1) (by omega) (by omega)
                have hb2 := hoff (k + 1) (by omega)
                have hb3 : 0 ≤ fx i ∧ fx i ≤ 68 := by
                  rcases hbest with ⟨q1, q2⟩ | ⟨⟨d, d1, d2⟩, q2⟩
                  · omega
                  · have := hd.2.2 (i + (d : Int) + 1) (by omega) (by omega)
                    omega
                refine x_aload_n (pc := 72) C 0 dX6_layPieces_72 rfl ?_
                refine x_get (pc := 73) C 0 14 dX6_layPieces_73 hiX6_layPieces_6 hfX6_layPieces_36 rfl rfl rfl (by decide) rfl ?_
                refine x_iload_n (pc := 76) C 1 dX6_layPieces_76 rfl ?_
                refine x_aload_n (pc := 77) C 0 dX6_layPieces_77 rfl ?_
                refine x_get (pc := 78) C 0 14 dX6_layPieces_78 hiX6_layPieces_6 hfX6_layPieces_36 rfl rfl rfl (by decide) rfl ?_
                refine x_iload_n (pc := 81) C 3 dX6_layPieces_81 rfl ?_
                refine x_iconst (pc := 82) C dX6_layPieces_82 ?_
                refine x_iadd (pc := 83) C dX6_layPieces_83 ?_
                refine x_iald (pc := 84) C 3 dX6_layPieces_84 rfl (by omega) (by omega) (by decide) ?_
                refine x_iconst (pc := 85) C dX6_layPieces_85 ?_
                refine x_iadd (pc := 86) C dX6_layPieces_86 ?_
                refine x_aload_n (pc := 87) C 0 dX6_layPieces_87 rfl ?_
                refine x_get (pc := 88) C 0 14 dX6_layPieces_88 hiX6_layPieces_6 hfX6_layPieces_36 rfl rfl rfl (by decide) rfl ?_
                refine x_iload_n (pc := 91) C 1 dX6_layPieces_91 rfl ?_
                refine x_iald (pc := 92) C 3 dX6_layPieces_92 rfl (by omega) (by omega) (by decide) ?_
                refine x_icmp_ge (pc := 93) C 109 dX6_layPieces_93 rfl ⟨by omega, by omega⟩ ⟨by omega, by omega⟩ (fun c_93 => ?_) (fun c_93 => ?_)
                · refine x_aload_n (pc := 109) C 0 dX6_layPieces_109 rfl ?_
                  refine x_get (pc := 110) C 0 14 dX6_layPieces_110 hiX6_layPieces_6 hfX6_layPieces_36 rfl rfl rfl (by decide) rfl ?_
                  refine x_iload_n (pc := 113) C 1 dX6_layPieces_113 rfl ?_
                  refine x_iald (pc := 114) C 3 dX6_layPieces_114 rfl (by omega) (by omega) (by decide) ?_
                  refine x_iast (pc := 115) C (ws' := [(o, ob 6 [jv rn, .ref d1, jv e, jv nc, .ref d2, jv oc, .ref d3, jv co, .ref d4, jv un, .ref d5, jv kn, .ref d6, .ref d7, .ref d8, Jv u1, Jv b1, jv vn, .ref d9, .ref da, .ref db, .ref dc, .ref dd, .ref de, jv lk]), (d6, ai g 70 kf), (d7, ai g 70 (up re' i j)), (d8, ai g 71 (up fx i (fx i)))]) 3 dX6_layPieces_115 rfl (by omega) (by omega) (by decide) rfl ?_
                  refine x_iinc (pc := 116) C (lv' := [(3, jv (k + 1)), (0, .ref o), (1, jv i), (2, jv j)]) 3 dX6_layPieces_116 rfl (by decide) rfl ?_
                  refine x_goto (pc := 119) C 67 dX6_layPieces_119 rfl ?_
                  refine x_locals (lv' := [(0, .ref o), (1, jv i), (2, jv j), (3, jv (k + 1))]) [1, 2, 3, 0] rfl ?_
                  refine ih67 _ _ ?_ ?_ ?_ ?_
                  · omega
                  · omega
                  · exact fun m hm => by rw [up_ne _ _ hm]; exact hoff m hm
                  · refine Or.inr ?_
                    rw [up_eq]
                    have e1 := hoff (k + 1) (by omega)
                    have ek : i + (((k - i).toNat : Nat) : Int) + 1 = k + 1 := by omega
                    rcases hbest with ⟨q1, q2⟩ | ⟨⟨d, d1, d2⟩, q2⟩
                    · exfalso
                      have := hd.2.2 (k + 1) (by omega) (by omega)
                      omega
                    · refine ⟨⟨d, by omega, d2⟩, fun d' h' => ?_⟩
                      by_cases z : i + (d' : Int) = k
                      · rw [z]; omega
                      · exact q2 d' (by omega)
                · refine x_aload_n (pc := 96) C 0 dX6_layPieces_96 rfl ?_
                  refine x_get (pc := 97) C 0 14 dX6_layPieces_97 hiX6_layPieces_6 hfX6_layPieces_36 rfl rfl rfl (by decide) rfl ?_
                  refine x_iload_n (pc := 100) C 3 dX6_layPieces_100 rfl ?_
                  refine x_iconst (pc := 101) C dX6_layPieces_101 ?_
                  refine x_iadd (pc := 102) C dX6_layPieces_102 ?_
                  refine x_iald (pc := 103) C 3 dX6_layPieces_103 rfl (by omega) (by omega) (by decide) ?_
                  refine x_iconst (pc := 104) C dX6_layPieces_104 ?_
                  refine x_iadd (pc := 105) C dX6_layPieces_105 ?_
                  refine x_goto (pc := 106) C 115 dX6_layPieces_106 rfl ?_
                  refine x_iast (pc := 115) C (ws' := [(o, ob 6 [jv rn, .ref d1, jv e, jv nc, .ref d2, jv oc, .ref d3, jv co, .ref d4, jv un, .ref d5, jv kn, .ref d6, .ref d7, .ref d8, Jv u1, Jv b1, jv vn, .ref d9, .ref da, .ref db, .ref dc, .ref dd, .ref de, jv lk]), (d6, ai g 70 kf), (d7, ai g 70 (up re' i j)), (d8, ai g 71 (up fx i ((fx (k + 1)) + 1)))]) 3 dX6_layPieces_115 rfl (by omega) (by omega) (by decide) rfl ?_
                  refine x_iinc (pc := 116) C (lv' := [(3, jv (k + 1)), (0, .ref o), (1, jv i), (2, jv j)]) 3 dX6_layPieces_116 rfl (by decide) rfl ?_
                  refine x_goto (pc := 119) C 67 dX6_layPieces_119 rfl ?_
                  refine x_locals (lv' := [(0, .ref o), (1, jv i), (2, jv j), (3, jv (k + 1))]) [1, 2, 3, 0] rfl ?_
                  refine ih67 _ _ ?_ ?_ ?_ ?_
                  · omega
                  · omega
                  · exact fun m hm => by rw [up_ne _ _ hm]; exact hoff m hm
                  · refine Or.inr ?_
                    rw [up_eq]
                    have e1 := hoff (k + 1) (by omega)
                    have ek : i + (((k - i).toNat : Nat) : Int) + 1 = k + 1 := by omega
                    refine ⟨⟨(k - i).toNat, by omega, by rw [ek, e1]⟩, fun d' h' => ?_⟩
                    by_cases z : i + (d' : Int) = k
                    · rw [z, e1]; omega
                    · rcases hbest with ⟨q1, q2⟩ | ⟨⟨d, d1, d2⟩, q2⟩
                      · omega
                      · have := q2 d' (by omega)
                        rw [e1]
                        omega
          refine x_locals (lv' := [(0, .ref o), (1, jv i), (2, jv j), (3, jv i)]) [1, 2, 3, 0] rfl ?_
          refine L67 _ _ _ (Nat.lt_succ_self _) ?_ ?_ ?_
          · omega
          · exact fun m hm => up_ne _ _ hm
          · exact Or.inl ⟨rfl, up_eq _ _ _⟩
        refine x_iload_n (pc := 21) C 1 dX6_layPieces_21 rfl ?_
        refine x_istore_n (pc := 22) C (lv' := [(2, jv i), (0, .ref o), (1, jv i)]) dX6_layPieces_22 (by decide) rfl ?_
        have L23 : ∀ (nn : Nat) (j : Int) (u1 : Int) (b1 : Int), (kn - j).toNat < nn → (i ≤ j ∧ j < kn) → (okd kf e i (j - i).toNat) → X l g E ({ frames := 2, cells := 0, slots := 0, locals := 51 } : Room) 4 [(o, ob 6 [jv rn, .ref d1, jv e, jv nc, .ref d2, jv oc, .ref d3, jv co, .ref d4, jv un, .ref d5, jv kn, .ref d6, .ref d7, .ref d8, Jv u1, Jv b1, jv vn, .ref d9, .ref da, .ref db, .ref dc, .ref dd, .ref de, jv lk]), (d6, ai g 70 kf), (d7, ai g 70 re'), (d8, ai g 71 fw')] 0 0 [(0, .ref o), (1, jv i), (2, jv j)] 23 [] := by
          intro nn
          induction nn with
          | zero => intro j u1 b1 hμ; exact absurd hμ (Nat.not_lt_zero _)
          | succ nn ih23 =>
            intro j u1 b1 hμ hj hok
            refine x_iload_n (pc := 23) C 2 dX6_layPieces_23 rfl ?_
            refine x_iconst (pc := 24) C dX6_layPieces_24 ?_
            refine x_iadd (pc := 25) C dX6_layPieces_25 ?_
            refine x_aload_n (pc := 26) C 0 dX6_layPieces_26 rfl ?_
            refine x_get (pc := 27) C 0 11 dX6_layPieces_27 hiX6_layPieces_6 hfX6_layPieces_122 rfl rfl rfl (by decide) rfl ?_
            refine x_icmp_ge (pc := 30) C 50 dX6_layPieces_30 rfl ⟨by omega, by omega⟩ ⟨by omega, by omega⟩ (fun c_30 => ?_) (fun c_30 => ?_)
            · refine L50 _ _ _ ?_ ?_ ?_
              · omega
              · exact hok
              · intro q; omega
            · refine x_aload_n (pc := 33) C 0 dX6_layPieces_33 rfl ?_
              refine x_iload_n (pc := 34) C 1 dX6_layPieces_34 rfl ?_
              refine x_iload_n (pc := 35) C 2 dX6_layPieces_35 rfl ?_
              refine x_iconst (pc := 36) C dX6_layPieces_36 ?_
              refine x_iadd (pc := 37) C dX6_layPieces_37 ?_
              refine x_callV (pc := 38) C (n := 2) (q0 := 0) (rest := []) (wr := [(d7, ai g 70 re'), (d8, ai g 71 fw')]) [0, 1] [2, 3] (ctX6_keeps l g o d1 d2 d3 d4 d5 d6 d7 d8 d9 da db dc dd de rn e nc oc co un kn u1 b1 vn lk kf i (j + 1) hk he ⟨by omega, by omega, by omega⟩) gX6_layPieces_X6_keeps rfl ⟨rfl, rfl⟩ (by decide +kernel) ⟨by decide, by decide⟩ rfl rfl rfl rfl rfl (by decide) (by decide) (by decide) rfl (Nat.le_of_ble_eq_true rfl) dX6_layPieces_38 ⟨by decide, by decide⟩ (fun v_38 u_38 h_38 => ?_)
              rcases h_38 with ⟨r, u2, b2, rfl, rfl, f_38⟩
              refine x_world (ws' := [(o, ob 6 [jv rn, .ref d1, jv e, jv nc, .ref d2, jv oc, .ref d3, jv co, .ref d4, jv un, .ref d5, jv kn, .ref d6, .ref d7, .ref d8, Jv u2, Jv b2, jv vn, .ref d9, .ref da, .ref db, .ref dc, .ref dd, .ref de, jv lk]), (d6, ai g 70 kf), (d7, ai g 70 re'), (d8, ai g 71 fw')]) [2, 3, 0, 1] (by decide) rfl ?_
              show X l g E ({ frames := 2, cells := 0, slots := 0, locals := 51 } : Room) 4 [(o, ob 6 [jv rn, .ref d1, jv e, jv nc, .ref d2, jv oc, .ref d3, jv co, .ref d4, jv un, .ref d5, jv kn, .ref d6, .ref d7, .ref d8, Jv u2, Jv b2, jv vn, .ref d9, .ref da, .ref db, .ref dc, .ref dd, .ref de, jv lk]), (d6, ai g 70 kf), (d7, ai g 70 re'), (d8, ai g 71 fw')] 0 0 [(0, .ref o), (1, jv i), (2, jv j)] 41 [jv r]
              refine x_if_eq (pc := 41) C 50 dX6_layPieces_41 rfl ⟨by omega, by omega⟩ (fun c_41 => ?_) (fun c_41 => ?_)
              · refine L50 _ _ _ ?_ ?_ ?_
                · omega
                · exact hok
                · intro _
                  rcases f_38 with q | q
                  · omega
                  · exact q.2
              · refine x_iinc (pc := 44) C (lv' := [(2, jv (j + 1)), (0, .ref o), (1, jv i)]) 2 dX6_layPieces_44 rfl (by decide) rfl ?_
                refine x_goto (pc := 47) C 23 dX6_layPieces_47 rfl ?_
                refine x_locals (lv' := [(0, .ref o), (1, jv i), (2, jv (j + 1))]) [1, 2, 0] rfl ?_
                refine ih23 _ _ _ ?_ ?_ ?_
                · omega
                · omega
                · rw [show (j + 1 - i).toNat = (j - i).toNat + 1 by omega]
                  refine okd_s hok ?_
                  rcases f_38 with q | q
                  · rw [show (j - i).toNat + 1 = (j + 1 - i).toNat by omega]; exact q.2
                  · omega
        refine x_locals (lv' := [(0, .ref o), (1, jv i), (2, jv i)]) [1, 2, 0] rfl ?_
        refine L23 _ _ _ _ (Nat.lt_succ_self _) ?_ ?_
        · omega
        · rw [show (i - i).toNat = 0 by omega]; exact okd_0 _ _ _
  refine x_locals (lv' := [(0, .ref o), (1, jv (kn - 1))]) [1, 0] rfl ?_
  refine L17 _ _ _ _ _ _ (Nat.lt_succ_self _) ?_ ?_
  · omega
  · exact ⟨up_eq _ _ _, fun k h1 h2 => absurd h1 (by omega), fun k h1 h2 => by rw [show k = kn by omega, up_eq]; omega⟩

set_option maxRecDepth 100000 in
theorem hiX6_endOf_6 : ∀ w ∈ wsX60, w ∈ wsX6_endOf := by decide +kernel
set_option maxRecDepth 100000 in
theorem hfX6_endOf_33 : Cond.fieldLink RX6 33 "KeyGuessModel" "reach" "[I" ∈ wsX6_endOf := by decide +kernel
set_option maxRecDepth 100000 in
theorem hfX6_endOf_36 : Cond.fieldLink RX6 36 "KeyGuessModel" "fewest" "[I" ∈ wsX6_endOf := by decide +kernel
set_option maxHeartbeats 4000000 in
set_option maxRecDepth 100000 in
/-- endOf -/
theorem ctX6_endOf (l : Launch) (g : xG) (o : Nat) (d1 : Nat) (d2 : Nat) (d3 : Nat) (d4 : Nat) (d5 : Nat) (d6 : Nat) (d7 : Nat) (d8 : Nat) (d9 : Nat) (da : Nat) (db : Nat) (dc : Nat) (dd : Nat) (de : Nat) (rn : Int) (e : Int) (nc : Int) (oc : Int) (co : Int) (un : Int) (kn : Int) (lU : Int) (lB : Int) (vn : Int) (lk : Int) (re : Int → Int) (fw : Int → Int) (i : Int) (kf : Int → Int) (hF : FewAll kf e kn fw re) (hb : ∀ k : Int, 0 ≤ k → k ≤ kn → 0 ≤ fw k ∧ fw k ≤ kn - k) (hi : 0 ≤ i ∧ i < kn ∧ kn ≤ 60) : Ct l g yX6_endOf wsX6_endOf ({ frames := 0, cells := 0, slots := 0, locals := 0 } : Room) 0 0 [(o, ob 6 [jv rn, .ref d1, jv e, jv nc, .ref d2, jv oc, .ref d3, jv co, .ref d4, jv un, .ref d5, jv kn, .ref d6, .ref d7, .ref d8, Jv lU, Jv lB, jv vn, .ref d9, .ref da, .ref db, .ref dc, .ref dd, .ref de, jv lk]), (d7, ai g 70 re), (d8, ai g 71 fw)] [.ref o, jv i] (fun rV rU => ∃ (j : Int), rV = some (jv j) ∧ rU = [(o, ob 6 [jv rn, .ref d1, jv e, jv nc, .ref d2, jv oc, .ref d3, jv co, .ref d4, jv un, .ref d5, jv kn, .ref d6, .ref d7, .ref d8, Jv lU, Jv lB, jv vn, .ref d9, .ref da, .ref db, .ref dc, .ref dd, .ref de, jv lk]), (d7, ai g 70 re), (d8, ai g 71 fw)] ∧ (i ≤ j ∧ j < kn ∧ Cs kf e kn fw i j (lw kf e i (j - i).toNat).1 (lw kf e i (j - i).toNat).2)) := by
  refine ct_of (cc := cX6_endOf) (nL := 3) (ret := (some .int)) (by decide) rfl (Nat.le_of_ble_eq_true rfl) ?_
  intro E C Rt0
  have C : Cx l g E ({ frames := 0, cells := 0, slots := 0, locals := 0 } : Room) RX6 "endOf" cX6_endOf wsX6_endOf 3 := C
  show X l g E ({ frames := 0, cells := 0, slots := 0, locals := 0 } : Room) 3 [(o, ob 6 [jv rn, .ref d1, jv e, jv nc, .ref d2, jv oc, .ref d3, jv co, .ref d4, jv un, .ref d5, jv kn, .ref d6, .ref d7, .ref d8, Jv lU, Jv lB, jv vn, .ref d9, .ref da, .ref db, .ref dc, .ref dd, .ref de, jv lk]), (d7, ai g 70 re), (d8, ai g 71 fw)] 0 0 [(0, .ref o), (1, jv i)] 0 []
  have hR := hF.2 i hi.1 hi.2.1
  obtain ⟨r1, r2, r3, r4, ⟨d, g1, g2⟩, r6⟩ := id hR
  refine x_aload_n (pc := 0) C 0 dX6_endOf_0 rfl ?_
  refine x_get (pc := 1) C 0 13 dX6_endOf_1 hiX6_endOf_6 hfX6_endOf_33 rfl rfl rfl (by decide) rfl ?_
  refine x_iload_n (pc := 4) C 1 dX6_endOf_4 rfl ?_
  refine x_iald (pc := 5) C 1 dX6_endOf_5 rfl (by omega) (by omega) (by decide) ?_
  refine x_istore_n (pc := 6) C (lv' := [(2, jv (re i)), (0, .ref o), (1, jv i)]) dX6_endOf_6 (by decide) rfl ?_
  have L7 : ∀ (nn : Nat) (j : Int), (j + 1).toNat < nn → (i + (d : Int) ≤ j ∧ j ≤ re i) → (∀ k : Int, j < k → k ≤ re i → fw (k + 1) + 1 ≠ fw i) → X l g E ({ frames := 0, cells := 0, slots := 0, locals := 0 } : Room) 3 [(o, ob 6 [jv rn, .ref d1, jv e, jv nc, .ref d2, jv oc, .ref d3, jv co, .ref d4, jv un, .ref d5, jv kn, .ref d6, .ref d7, .ref d8, Jv lU, Jv lB, jv vn, .ref d9, .ref da, .ref db, .ref dc, .ref dd, .ref de, jv lk]), (d7, ai g 70 re), (d8, ai g 71 fw)] 0 0 [(0, .ref o), (1, jv i), (2, jv j)] 7 [] := by
    intro nn
    induction nn with
    | zero => intro j hμ; exact absurd hμ (Nat.not_lt_zero _)
    | succ nn ih7 =>
      intro j hμ hj hn
      refine x_aload_n (pc := 7) C 0 dX6_endOf_7 rfl ?_
      refine x_get (pc := 8) C 0 14 dX6_endOf_8 hiX6_endOf_6 hfX6_endOf_36 rfl rfl rfl (by decide) rfl ?_
      refine x_iload_n (pc := 11) C 2 dX6_endOf_11 rfl ?_
      refine x_iconst (pc := 12) C dX6_endOf_12 ?_
      refine x_iadd (pc := 13) C dX6_endOf_13 ?_
      refine x_iald (pc := 14) C 2 dX6_endOf_14 rfl (by omega) (by omega) (by decide) ?_
      refine x_iconst (pc := 15) C dX6_endOf_15 ?_
      refine x_iadd (pc := 16) C dX6_endOf_16 ?_
      have hb1 := hb (j + 1) (by omega) (by omega)
      have hb2 := hb i (by omega) (by omega)
      refine x_aload_n (pc := 17) C 0 dX6_endOf_17 rfl ?_
      refine x_get (pc := 18) C 0 14 dX6_endOf_18 hiX6_endOf_6 hfX6_endOf_36 rfl rfl rfl (by decide) rfl ?_
      refine x_iload_n (pc := 21) C 1 dX6_endOf_21 rfl ?_
      refine x_iald (pc := 22) C 2 dX6_endOf_22 rfl (by omega) (by omega) (by decide) ?_
      refine x_icmp_eq (pc := 23) C 32 dX6_endOf_23 rfl ⟨by omega, by omega⟩ ⟨by omega, by omega⟩ (fun c_23 => ?_) (fun c_23 => ?_)
      · refine x_iload_n (pc := 32) C 2 dX6_endOf_32 rfl ?_
        refine x_iret (pc := 33) C Rt0 dX6_endOf_33 rfl ?_
        refine ⟨_, rfl, rfl, ?_⟩
        exact ⟨by omega, by omega, hR.cs (by omega) (by omega) (by omega) hn⟩
      · refine x_iinc (pc := 26) C (lv' := [(2, jv (j + (-1))), (0, .ref o), (1, jv i)]) 2 dX6_endOf_26 rfl (by decide) rfl ?_
        refine x_goto (pc := 29) C 7 dX6_endOf_29 rfl ?_
        refine x_locals (lv' := [(0, .ref o), (1, jv i), (2, jv (j + (-1)))]) [1, 2, 0] rfl ?_
        refine ih7 _ ?_ ?_ ?_
        · omega
        · have z : j ≠ i + (d : Int) := fun z => c_23 (by rw [z]; omega)
          omega
        · intro k k1 k2
          by_cases z : k = j
          · rw [z]; exact c_23
          · exact hn k (by omega) k2
  refine x_locals (lv' := [(0, .ref o), (1, jv i), (2, jv (re i))]) [1, 2, 0] rfl ?_
  refine L7 _ _ (Nat.lt_succ_self _) ?_ ?_
  · omega
  · exact fun k k1 k2 => absurd k1 (by omega)

set_option maxHeartbeats 4000000 in
set_option maxRecDepth 100000 in
/-- divisor -/
theorem ctX6_divisor (l : Launch) (g : xG) (x : Int) (y : Int) (hx : 0 ≤ x ∧ x ≤ 1000000) (hy : 1 ≤ y ∧ y ≤ 1000000) : Ct l g yX6_divisor wsX6_divisor ({ frames := 0, cells := 0, slots := 0, locals := 0 } : Room) 0 0 [] [Jv x, Jv y] (fun rV rU => ∃ (r : Int), rV = some (Jv r) ∧ rU = [] ∧ (r = gcdI x y)) := by
  refine ct_of (cc := cX6_divisor) (nL := 10) (ret := (some .long)) (by decide) rfl (Nat.le_of_ble_eq_true rfl) ?_
  intro E C Rt0
  have C : Cx l g E ({ frames := 0, cells := 0, slots := 0, locals := 0 } : Room) RX6 "divisor" cX6_divisor wsX6_divisor 10 := C
  show X l g E ({ frames := 0, cells := 0, slots := 0, locals := 0 } : Room) 10 [] 0 0 [(0, Jv x), (2, Jv y)] 0 []
  refine x_lload_n (pc := 0) C 0 dX6_divisor_0 rfl ?_
  refine x_lstore (pc := 1) C (lv' := [(4, Jv x), (0, Jv x), (2, Jv y)]) dX6_divisor_1 (by decide) rfl ?_
  refine x_lload_n (pc := 3) C 2 dX6_divisor_3 rfl ?_
  refine x_lstore (pc := 4) C (lv' := [(6, Jv y), (4, Jv x), (0, Jv x), (2, Jv y)]) dX6_divisor_4 (by decide) rfl ?_
  have L6 : ∀ (nn : Nat) (u : Int) (v : Int), (v).toNat < nn → (0 ≤ u ∧ u ≤ 1000000 ∧ 0 ≤ v ∧ v ≤ 1000000) → (gcdI u v = gcdI x y) → X l g E ({ frames := 0, cells := 0, slots := 0, locals := 0 } : Room) 10 [] 0 0 [(4, Jv u), (6, Jv v)] 6 [] := by
    intro nn
    induction nn with
    | zero => intro u v hμ; exact absurd hμ (Nat.not_lt_zero _)
    | succ nn ih6 =>
      intro u v hμ hu hg
      refine x_lload (pc := 6) C 1 dX6_divisor_6 rfl ?_
      refine x_lconst (pc := 8) C (z := 0) dX6_divisor_8 rfl ?_
      refine x_lcmp (pc := 9) C dX6_divisor_9 ⟨by omega, by omega⟩ ⟨by omega, by omega⟩ (fun c_9 => ?_) (fun c_9 => ?_) (fun c_9 => ?_)
      · refine x_if_eq (pc := 10) C 31 dX6_divisor_10 rfl ⟨by decide, by decide⟩ (fun h => absurd h (by decide)) (fun _ => ?_)
        omega
      · refine x_if_eq (pc := 10) C 31 dX6_divisor_10 rfl ⟨by decide, by decide⟩ (fun _ => ?_) (fun h => absurd h (by decide))
        refine x_lload (pc := 31) C 0 dX6_divisor_31 rfl ?_
        show X l g E ({ frames := 0, cells := 0, slots := 0, locals := 0 } : Room) 10 [] 0 0 [(4, Jv u), (6, Jv v)] 33 [.long (lI u)]
        refine x_lret (pc := 33) C Rt0 dX6_divisor_33 rfl ?_
        refine ⟨_, rfl, rfl, ?_⟩
        rw [← hg, show v = 0 by omega, gcdI_0 (by omega)]
      · refine x_if_eq (pc := 10) C 31 dX6_divisor_10 rfl ⟨by decide, by decide⟩ (fun h => absurd h (by decide)) (fun _ => ?_)
        refine x_lload (pc := 13) C 0 dX6_divisor_13 rfl ?_
        refine x_lload (pc := 15) C 1 dX6_divisor_15 rfl ?_
        refine x_lrem (pc := 17) C dX6_divisor_17 ⟨by omega, by omega⟩ ⟨by omega, by omega⟩ (by first | decide | omega) ?_
        refine x_lstore (pc := 18) C (lv' := [(8, Jv ((u).tmod v)), (4, Jv u), (6, Jv v)]) dX6_divisor_18 (by decide) rfl ?_
        refine x_lload (pc := 20) C 2 dX6_divisor_20 rfl ?_
        refine x_lstore (pc := 22) C (lv' := [(4, Jv v), (8, Jv ((u).tmod v)), (6, Jv v)]) dX6_divisor_22 (by decide) rfl ?_
        refine x_lload (pc := 24) C 1 dX6_divisor_24 rfl ?_
        refine x_lstore (pc := 26) C (lv' := [(6, Jv ((u).tmod v)), (4, Jv v), (8, Jv ((u).tmod v))]) dX6_divisor_26 (by decide) rfl ?_
        refine x_goto (pc := 28) C 6 dX6_divisor_28 rfl ?_
        refine x_locals (lv' := [(4, Jv v), (6, Jv ((u).tmod v))]) [1, 0] rfl ?_
        refine ih6 _ _ ?_ ?_ ?_
        · have := tmf (a := u) (b := v) (by omega) (by omega); omega
        · have := tmf (a := u) (b := v) (by omega) (by omega); omega
        · rw [gcdI_s (by omega) (by omega)]; exact hg
  refine x_locals (lv' := [(4, Jv x), (6, Jv y)]) [1, 0] rfl ?_
  refine L6 _ _ _ (Nat.lt_succ_self _) ?_ ?_
  · omega
  · rfl
