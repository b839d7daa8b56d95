set_option maxRecDepth 100000 in
theorem hiX2_size_2 : ∀ w ∈ wsX20, w ∈ wsX2_size := by decide +kernel
set_option maxRecDepth 100000 in
theorem hfX2_size_15 : Cond.fieldLink RX2 15 "KeyGuess$Keys" "size" "I" ∈ wsX2_size := by decide +kernel
set_option maxHeartbeats 4000000 in
set_option maxRecDepth 100000 in
/-- Keys.size -/
theorem ctX2_size (l : Launch) (g : xG) (a : Nat) (b : Nat) (n : Int) (f : Int → Int) (hn : 0 ≤ n ∧ n ≤ 60) : Ct l g yX2_size wsX2_size ({ frames := 0, cells := 0, slots := 0, locals := 0 } : Room) 0 0 [(a, ob 2 [.ref b, jv n]), (b, ai g 60 f)] [.ref a] (fun v u => v = some (jv n) ∧ u = [(a, ob 2 [.ref b, jv n]), (b, ai g 60 f)] ∧ (True)) := by
  refine ct_of (cc := cX2_size) (nL := 1) (ret := (some .int)) (by decide) rfl (Nat.le_of_ble_eq_true rfl) ?_
  intro E C Rt0
  have C : Cx l g E ({ frames := 0, cells := 0, slots := 0, locals := 0 } : Room) RX2 "size" cX2_size wsX2_size 1 := C
  show X l g E ({ frames := 0, cells := 0, slots := 0, locals := 0 } : Room) 1 [(a, ob 2 [.ref b, jv n]), (b, ai g 60 f)] 0 0 [(0, .ref a)] 0 []
  refine x_aload_n (pc := 0) C 0 dX2_size_0 rfl ?_
  refine x_get (pc := 1) C 0 1 dX2_size_1 hiX2_size_2 hfX2_size_15 rfl rfl rfl (by decide) rfl ?_
  refine x_iret (pc := 4) C Rt0 dX2_size_4 rfl ?_
  refine ⟨rfl, rfl, ?_⟩
  trivial

set_option maxRecDepth 100000 in
theorem hiX2_key_2 : ∀ w ∈ wsX20, w ∈ wsX2_key := by decide +kernel
set_option maxRecDepth 100000 in
theorem hfX2_key_15 : Cond.fieldLink RX2 15 "KeyGuess$Keys" "size" "I" ∈ wsX2_key := by decide +kernel
set_option maxRecDepth 100000 in
theorem hfX2_key_9 : Cond.fieldLink RX2 9 "KeyGuess$Keys" "cells" "[I" ∈ wsX2_key := by decide +kernel
set_option maxHeartbeats 4000000 in
set_option maxRecDepth 100000 in
/-- Keys.key -/
theorem ctX2_key (l : Launch) (g : xG) (a : Nat) (b : Nat) (n : Int) (f : Int → Int) (k : Int) (hn : 0 ≤ n ∧ n ≤ 60) (hr : Rg k) : Ct l g yX2_key wsX2_key ({ frames := 0, cells := 0, slots := 0, locals := 0 } : Room) 0 0 [(a, ob 2 [.ref b, jv n]), (b, ai g 60 f)] [.ref a, jv k] (fun v u => (v = some (jv (f k)) ∧ u = [(a, ob 2 [.ref b, jv n]), (b, ai g 60 f)] ∧ (0 ≤ k ∧ k < n)) ∨ (v = some (jv (-1)) ∧ u = [(a, ob 2 [.ref b, jv n]), (b, ai g 60 f)] ∧ (k < 0 ∨ n ≤ k))) := by
  refine ct_of (cc := cX2_key) (nL := 2) (ret := (some .int)) (by decide) rfl (Nat.le_of_ble_eq_true rfl) ?_
  intro E C Rt0
  have C : Cx l g E ({ frames := 0, cells := 0, slots := 0, locals := 0 } : Room) RX2 "key" cX2_key wsX2_key 2 := C
  show X l g E ({ frames := 0, cells := 0, slots := 0, locals := 0 } : Room) 2 [(a, ob 2 [.ref b, jv n]), (b, ai g 60 f)] 0 0 [(0, .ref a), (1, jv k)] 0 []
  have hr1 := hr.1
  have hr2 := hr.2
  refine x_iload_n (pc := 0) C 1 dX2_key_0 rfl ?_
  refine x_if_lt (pc := 1) C 21 dX2_key_1 rfl ⟨by omega, by omega⟩ (fun c_1 => ?_) (fun c_1 => ?_)
  · refine x_iconst (pc := 21) C dX2_key_21 ?_
    refine x_iret (pc := 22) C Rt0 dX2_key_22 rfl ?_
    refine Or.inr (⟨rfl, rfl, ?_⟩)
    omega
  · refine x_iload_n (pc := 4) C 1 dX2_key_4 rfl ?_
    refine x_aload_n (pc := 5) C 0 dX2_key_5 rfl ?_
    refine x_get (pc := 6) C 0 1 dX2_key_6 hiX2_key_2 hfX2_key_15 rfl rfl rfl (by decide) rfl ?_
    refine x_icmp_ge (pc := 9) C 21 dX2_key_9 rfl ⟨by omega, by omega⟩ ⟨by omega, by omega⟩ (fun c_9 => ?_) (fun c_9 => ?_)
    · refine x_iconst (pc := 21) C dX2_key_21 ?_
      refine x_iret (pc := 22) C Rt0 dX2_key_22 rfl ?_
      refine Or.inr (⟨rfl, rfl, ?_⟩)
      omega
    · refine x_aload_n (pc := 12) C 0 dX2_key_12 rfl ?_
      refine x_get (pc := 13) C 0 0 dX2_key_13 hiX2_key_2 hfX2_key_9 rfl rfl rfl (by decide) rfl ?_
      refine x_iload_n (pc := 16) C 1 dX2_key_16 rfl ?_
      refine x_iald (pc := 17) C 1 dX2_key_17 rfl (by omega) (by omega) (by decide) ?_
      refine x_goto (pc := 18) C 22 dX2_key_18 rfl ?_
      refine x_iret (pc := 22) C Rt0 dX2_key_22 rfl ?_
      refine Or.inl ⟨rfl, rfl, ?_⟩
      omega

set_option maxRecDepth 100000 in
theorem hiX2_below_2 : ∀ w ∈ wsX20, w ∈ wsX2_below := by decide +kernel
set_option maxRecDepth 100000 in
theorem hfX2_below_15 : Cond.fieldLink RX2 15 "KeyGuess$Keys" "size" "I" ∈ wsX2_below := by decide +kernel
set_option maxRecDepth 100000 in
theorem hfX2_below_9 : Cond.fieldLink RX2 9 "KeyGuess$Keys" "cells" "[I" ∈ wsX2_below := by decide +kernel
set_option maxHeartbeats 4000000 in
set_option maxRecDepth 100000 in
/-- Keys.below -/
theorem ctX2_below (l : Launch) (g : xG) (a : Nat) (b : Nat) (n : Int) (f : Int → Int) (x : Int) (hk : Kr n f) (hr : Rg x) : Ct l g yX2_below wsX2_below ({ frames := 0, cells := 0, slots := 0, locals := 0 } : Room) 0 0 [(a, ob 2 [.ref b, jv n]), (b, ai g 60 f)] [.ref a, jv x] (fun v u => ∃ (k : Int), v = some (jv k) ∧ u = [(a, ob 2 [.ref b, jv n]), (b, ai g 60 f)] ∧ (Bel n f x k)) := by
  refine ct_of (cc := cX2_below) (nL := 3) (ret := (some .int)) (by decide) rfl (Nat.le_of_ble_eq_true rfl) ?_
  intro E C Rt0
  have C : Cx l g E ({ frames := 0, cells := 0, slots := 0, locals := 0 } : Room) RX2 "below" cX2_below wsX2_below 3 := C
  show X l g E ({ frames := 0, cells := 0, slots := 0, locals := 0 } : Room) 3 [(a, ob 2 [.ref b, jv n]), (b, ai g 60 f)] 0 0 [(0, .ref a), (1, jv x)] 0 []
  have hn0 := hk.1
  have hn1 := hk.2.1
  refine x_iconst (pc := 0) C dX2_below_0 ?_
  refine x_istore_n (pc := 1) C (lv' := [(2, jv 0), (0, .ref a), (1, jv x)]) dX2_below_1 (by decide) rfl ?_
  have L2 : ∀ (nn : Nat) (k : Int), (n - k).toNat < nn → (0 ≤ k ∧ k ≤ n) → (∀ i : Int, 0 ≤ i → i < k → f i < x) → X l g E ({ frames := 0, cells := 0, slots := 0, locals := 0 } : Room) 3 [(a, ob 2 [.ref b, jv n]), (b, ai g 60 f)] 0 0 [(0, .ref a), (1, jv x), (2, jv k)] 2 [] := by
    intro nn
    induction nn with
    | zero => intro k hμ; exact absurd hμ (Nat.not_lt_zero _)
    | succ nn ih2 =>
      intro k hμ hi hlo
      refine x_iload_n (pc := 2) C 2 dX2_below_2 rfl ?_
      refine x_aload_n (pc := 3) C 0 dX2_below_3 rfl ?_
      refine x_get (pc := 4) C 0 1 dX2_below_4 hiX2_below_2 hfX2_below_15 rfl rfl rfl (by decide) rfl ?_
      refine x_icmp_ge (pc := 7) C 26 dX2_below_7 rfl ⟨by omega, by omega⟩ ⟨by omega, by omega⟩ (fun c_7 => ?_) (fun c_7 => ?_)
      · refine x_iload_n (pc := 26) C 2 dX2_below_26 rfl ?_
        refine x_iret (pc := 27) C Rt0 dX2_below_27 rfl ?_
        refine ⟨_, rfl, rfl, ?_⟩
        exact Bel.of hk hi hlo (fun h => absurd h (by omega))
      · refine x_aload_n (pc := 10) C 0 dX2_below_10 rfl ?_
        refine x_get (pc := 11) C 0 0 dX2_below_11 hiX2_below_2 hfX2_below_9 rfl rfl rfl (by decide) rfl ?_
        refine x_iload_n (pc := 14) C 2 dX2_below_14 rfl ?_
        refine x_iald (pc := 15) C 1 dX2_below_15 rfl (by omega) (by omega) (by decide) ?_
        have hb := hk.2.2.1 k (by omega) (by omega)
        refine x_iload_n (pc := 16) C 1 dX2_below_16 rfl ?_
        refine x_icmp_ge (pc := 17) C 26 dX2_below_17 rfl ⟨by omega, by omega⟩ hr (fun c_17 => ?_) (fun c_17 => ?_)
        · refine x_iload_n (pc := 26) C 2 dX2_below_26 rfl ?_
          refine x_iret (pc := 27) C Rt0 dX2_below_27 rfl ?_
          refine ⟨_, rfl, rfl, ?_⟩
          exact Bel.of hk hi hlo (fun _ => by omega)
        · refine x_iinc (pc := 20) C (lv' := [(2, jv (k + 1)), (0, .ref a), (1, jv x)]) 2 dX2_below_20 rfl (by decide) rfl ?_
          refine x_goto (pc := 23) C 2 dX2_below_23 rfl ?_
          refine x_locals (lv' := [(0, .ref a), (1, jv x), (2, jv (k + 1))]) [1, 2, 0] rfl ?_
          refine ih2 _ ?_ ?_ ?_
          · omega
          · omega
          · exact al_s hlo (by omega)
  refine x_locals (lv' := [(0, .ref a), (1, jv x), (2, jv 0)]) [1, 2, 0] rfl ?_
  refine L2 _ _ (Nat.lt_succ_self _) ?_ ?_
  · omega
  · exact al_0

set_option maxRecDepth 100000 in
theorem hiX2_has_2 : ∀ w ∈ wsX20, w ∈ wsX2_has := by decide +kernel
set_option maxRecDepth 100000 in
theorem hfX2_has_15 : Cond.fieldLink RX2 15 "KeyGuess$Keys" "size" "I" ∈ wsX2_has := by decide +kernel
set_option maxRecDepth 100000 in
theorem hfX2_has_9 : Cond.fieldLink RX2 9 "KeyGuess$Keys" "cells" "[I" ∈ wsX2_has := by decide +kernel
set_option maxHeartbeats 4000000 in
set_option maxRecDepth 100000 in
/-- Keys.has -/
theorem ctX2_has (l : Launch) (g : xG) (a : Nat) (b : Nat) (n : Int) (f : Int → Int) (x : Int) (hk : Kr n f) (hr : Rg x) : Ct l g yX2_has wsX2_has ({ frames := 1, cells := 0, slots := 0, locals := 22 } : Room) 0 0 [(a, ob 2 [.ref b, jv n]), (b, ai g 60 f)] [.ref a, jv x] (fun v u => (v = some (jv 1) ∧ u = [(a, ob 2 [.ref b, jv n]), (b, ai g 60 f)] ∧ (Inr n f x)) ∨ (v = some (jv 0) ∧ u = [(a, ob 2 [.ref b, jv n]), (b, ai g 60 f)] ∧ (¬ Inr n f x))) := by
  refine ct_of (cc := cX2_has) (nL := 3) (ret := (some .boolean)) (by decide) rfl (Nat.le_of_ble_eq_true rfl) ?_
  intro E C Rt0
  have C : Cx l g E ({ frames := 1, cells := 0, slots := 0, locals := 22 } : Room) RX2 "has" cX2_has wsX2_has 3 := C
  show X l g E ({ frames := 1, cells := 0, slots := 0, locals := 22 } : Room) 3 [(a, ob 2 [.ref b, jv n]), (b, ai g 60 f)] 0 0 [(0, .ref a), (1, jv x)] 0 []
  have hn0 := hk.1
  have hn1 := hk.2.1
  refine x_aload_n (pc := 0) C 0 dX2_has_0 rfl ?_
  refine x_iload_n (pc := 1) C 1 dX2_has_1 rfl ?_
  refine x_callV (pc := 2) C (n := 1) (q0 := 0) (rest := []) (wr := []) [0, 1] [] (ctX2_below l g a b n f x hk hr) gX2_has_X2_below rfl ⟨rfl, rfl⟩ (by decide +kernel) ⟨by decide, by decide⟩ rfl rfl rfl rfl rfl (by decide) (by decide) (by decide) rfl (Nat.le_of_ble_eq_true rfl) dX2_has_2 ⟨by decide, by decide⟩ (fun v_2 u_2 h_2 => ?_)
  rcases h_2 with ⟨k, rfl, rfl, f_2⟩
  refine x_world (ws' := [(a, ob 2 [.ref b, jv n]), (b, ai g 60 f)]) [0, 1] (by decide) rfl ?_
  show X l g E ({ frames := 1, cells := 0, slots := 0, locals := 22 } : Room) 3 [(a, ob 2 [.ref b, jv n]), (b, ai g 60 f)] 0 0 [(0, .ref a), (1, jv x)] 5 [jv k]
  have hk0 := f_2.1
  have hk1 := f_2.2.1
  refine x_istore_n (pc := 5) C (lv' := [(2, jv k), (0, .ref a), (1, jv x)]) dX2_has_5 (by decide) rfl ?_
  refine x_iload_n (pc := 6) C 0 dX2_has_6 rfl ?_
  refine x_aload_n (pc := 7) C 1 dX2_has_7 rfl ?_
  refine x_get (pc := 8) C 0 1 dX2_has_8 hiX2_has_2 hfX2_has_15 rfl rfl rfl (by decide) rfl ?_
  refine x_icmp_ge (pc := 11) C 28 dX2_has_11 rfl ⟨by omega, by omega⟩ ⟨by omega, by omega⟩ (fun c_11 => ?_) (fun c_11 => ?_)
  · refine x_iconst (pc := 28) C dX2_has_28 ?_
    refine x_zret (pc := 29) C Rt0 dX2_has_29 rfl rfl ?_
    refine Or.inr (⟨rfl, rfl, ?_⟩)
    intro hh
    obtain ⟨i, h0, h1, h2⟩ := hh
    rcases Int.lt_or_le i k with q | q
    · have := f_2.2.2.1 i h0 q
      omega
    · have := f_2.2.2.2 i q h1
      first | omega | (have := hk.le hk0 q h1; have := f_2.2.2.2 k (Int.le_refl _) (by omega); omega)
  · refine x_aload_n (pc := 14) C 1 dX2_has_14 rfl ?_
    refine x_get (pc := 15) C 0 0 dX2_has_15 hiX2_has_2 hfX2_has_9 rfl rfl rfl (by decide) rfl ?_
    refine x_iload_n (pc := 18) C 0 dX2_has_18 rfl ?_
    refine x_iald (pc := 19) C 1 dX2_has_19 rfl (by omega) (by omega) (by decide) ?_
    have hb := hk.2.2.1 k (by omega) (by omega)
    refine x_iload_n (pc := 20) C 2 dX2_has_20 rfl ?_
    refine x_icmp_ne (pc := 21) C 28 dX2_has_21 rfl ⟨by omega, by omega⟩ hr (fun c_21 => ?_) (fun c_21 => ?_)
    · refine x_iconst (pc := 28) C dX2_has_28 ?_
      refine x_zret (pc := 29) C Rt0 dX2_has_29 rfl rfl ?_
      refine Or.inr (⟨rfl, rfl, ?_⟩)
      intro hh
      obtain ⟨i, h0, h1, h2⟩ := hh
      rcases Int.lt_or_le i k with q | q
      · have := f_2.2.2.1 i h0 q
        omega
      · have := f_2.2.2.2 i q h1
        first | omega | (have := hk.le hk0 q h1; have := f_2.2.2.2 k (Int.le_refl _) (by omega); omega)
    · refine x_iconst (pc := 24) C dX2_has_24 ?_
      refine x_goto (pc := 25) C 29 dX2_has_25 rfl ?_
      refine x_zret (pc := 29) C Rt0 dX2_has_29 rfl rfl ?_
      refine Or.inl ⟨rfl, rfl, ?_⟩
      exact ⟨k, hk0, by omega, by omega⟩

set_option maxHeartbeats 4000000 in
set_option maxRecDepth 100000 in
/-- Keys.within -/
theorem ctX2_within (l : Launch) (g : xG) (a : Nat) (b : Nat) (n : Int) (f : Int → Int) (x : Int) (z : Int) (hk : Kr n f) (hx : 0 ≤ x ∧ x ≤ z ∧ z ≤ 1000000) : Ct l g yX2_within wsX2_within ({ frames := 1, cells := 0, slots := 0, locals := 22 } : Room) 0 0 [(a, ob 2 [.ref b, jv n]), (b, ai g 60 f)] [.ref a, jv x, jv z] (fun v u => ∃ (r : Int), v = some (jv r) ∧ u = [(a, ob 2 [.ref b, jv n]), (b, ai g 60 f)] ∧ (r = cnt (inab f x z) n.toNat)) := by
  refine ct_of (cc := cX2_within) (nL := 3) (ret := (some .int)) (by decide) rfl (Nat.le_of_ble_eq_true rfl) ?_
  intro E C Rt0
  have C : Cx l g E ({ frames := 1, cells := 0, slots := 0, locals := 22 } : Room) RX2 "within" cX2_within wsX2_within 3 := C
  show X l g E ({ frames := 1, cells := 0, slots := 0, locals := 22 } : Room) 3 [(a, ob 2 [.ref b, jv n]), (b, ai g 60 f)] 0 0 [(0, .ref a), (1, jv x), (2, jv z)] 0 []
  refine x_aload_n (pc := 0) C 0 dX2_within_0 rfl ?_
  refine x_iload_n (pc := 1) C 2 dX2_within_1 rfl ?_
  refine x_iconst (pc := 2) C dX2_within_2 ?_
  refine x_iadd (pc := 3) C dX2_within_3 ?_
  refine x_callV (pc := 4) C (n := 1) (q0 := 0) (rest := []) (wr := []) [0, 1] [] (ctX2_below l g a b n f (z + 1) hk ⟨by omega, by omega⟩) gX2_within_X2_below rfl ⟨rfl, rfl⟩ (by decide +kernel) ⟨by decide, by decide⟩ rfl rfl rfl rfl rfl (by decide) (by decide) (by decide) rfl (Nat.le_of_ble_eq_true rfl) dX2_within_4 ⟨by decide, by decide⟩ (fun v_4 u_4 h_4 => ?_)
  rcases h_4 with ⟨k2, rfl, rfl, f_4⟩
  refine x_world (ws' := [(a, ob 2 [.ref b, jv n]), (b, ai g 60 f)]) [0, 1] (by decide) rfl ?_
  show X l g E ({ frames := 1, cells := 0, slots := 0, locals := 22 } : Room) 3 [(a, ob 2 [.ref b, jv n]), (b, ai g 60 f)] 0 0 [(0, .ref a), (1, jv x), (2, jv z)] 7 [jv k2]
  refine x_aload_n (pc := 7) C 0 dX2_within_7 rfl ?_
  refine x_iload_n (pc := 8) C 1 dX2_within_8 rfl ?_
  refine x_callV (pc := 9) C (n := 1) (q0 := 0) (rest := [jv k2]) (wr := []) [0, 1] [] (ctX2_below l g a b n f x hk ⟨by omega, by omega⟩) gX2_within_X2_below rfl ⟨rfl, rfl⟩ (by decide +kernel) ⟨by decide, by decide⟩ rfl rfl rfl rfl rfl (by decide) (by decide) (by decide) rfl (Nat.le_of_ble_eq_true rfl) dX2_within_9 ⟨by decide, by decide⟩ (fun v_9 u_9 h_9 => ?_)
  rcases h_9 with ⟨k1, rfl, rfl, f_9⟩
  refine x_world (ws' := [(a, ob 2 [.ref b, jv n]), (b, ai g 60 f)]) [0, 1] (by decide) rfl ?_
  show X l g E ({ frames := 1, cells := 0, slots := 0, locals := 22 } : Room) 3 [(a, ob 2 [.ref b, jv n]), (b, ai g 60 f)] 0 0 [(0, .ref a), (1, jv x), (2, jv z)] 12 [jv k1, jv k2]
  refine x_isub (pc := 12) C dX2_within_12 ?_
  refine x_iret (pc := 13) C Rt0 dX2_within_13 rfl ?_
  refine ⟨_, rfl, rfl, ?_⟩
  exact cnt_bel f_9 f_4 hx.2.1

set_option maxHeartbeats 4000000 in
set_option maxRecDepth 100000 in
/-- Keys.total -/
theorem ctX2_total (l : Launch) (g : xG) (a : Nat) (b : Nat) (n : Int) (f : Int → Int) (x : Int) (z : Int) (hk : Kr n f) (hx : 0 ≤ x ∧ x ≤ z ∧ z ≤ 1000000) : Ct l g yX2_total wsX2_total ({ frames := 1, cells := 0, slots := 0, locals := 22 } : Room) 0 0 [(a, ob 2 [.ref b, jv n]), (b, ai g 60 f)] [.ref a, jv x, jv z] (fun v u => ∃ (s : Int), v = some (Jv s) ∧ u = [(a, ob 2 [.ref b, jv n]), (b, ai g 60 f)] ∧ (s = smm (inab f x z) f n.toNat)) := by
  refine ct_of (cc := cX2_total) (nL := 7) (ret := (some .long)) (by decide) rfl (Nat.le_of_ble_eq_true rfl) ?_
  intro E C Rt0
  have C : Cx l g E ({ frames := 1, cells := 0, slots := 0, locals := 22 } : Room) RX2 "total" cX2_total wsX2_total 7 := C
  show X l g E ({ frames := 1, cells := 0, slots := 0, locals := 22 } : Room) 7 [(a, ob 2 [.ref b, jv n]), (b, ai g 60 f)] 0 0 [(0, .ref a), (1, jv x), (2, jv z)] 0 []
  have hn0 := hk.1
  have hn1 := hk.2.1
  refine x_lconst (pc := 0) C (z := 0) dX2_total_0 rfl ?_
  refine x_lstore_n (pc := 1) C (lv' := [(3, Jv 0), (0, .ref a), (1, jv x), (2, jv z)]) dX2_total_1 (by decide) rfl ?_
  refine x_aload_n (pc := 2) C 1 dX2_total_2 rfl ?_
  refine x_iload_n (pc := 3) C 3 dX2_total_3 rfl ?_
  refine x_iconst (pc := 4) C dX2_total_4 ?_
  refine x_iadd (pc := 5) C dX2_total_5 ?_
  refine x_callV (pc := 6) C (n := 1) (q0 := 0) (rest := []) (wr := []) [0, 1] [] (ctX2_below l g a b n f (z + 1) hk ⟨by omega, by omega⟩) gX2_total_X2_below rfl ⟨rfl, rfl⟩ (by decide +kernel) ⟨by decide, by decide⟩ rfl rfl rfl rfl rfl (by decide) (by decide) (by decide) rfl (Nat.le_of_ble_eq_true rfl) dX2_total_6 ⟨by decide, by decide⟩ (fun v_6 u_6 h_6 => ?_)
  rcases h_6 with ⟨k2, rfl, rfl, f_6⟩
  refine x_world (ws' := [(a, ob 2 [.ref b, jv n]), (b, ai g 60 f)]) [0, 1] (by decide) rfl ?_
  show X l g E ({ frames := 1, cells := 0, slots := 0, locals := 22 } : Room) 7 [(a, ob 2 [.ref b, jv n]), (b, ai g 60 f)] 0 0 [(3, Jv 0), (0, .ref a), (1, jv x), (2, jv z)] 9 [jv k2]
  refine x_istore (pc := 9) C (lv' := [(5, jv k2), (3, Jv 0), (0, .ref a), (1, jv x), (2, jv z)]) dX2_total_9 (by decide) rfl ?_
  refine x_aload_n (pc := 11) C 2 dX2_total_11 rfl ?_
  refine x_iload_n (pc := 12) C 3 dX2_total_12 rfl ?_
  refine x_callV (pc := 13) C (n := 1) (q0 := 0) (rest := []) (wr := []) [0, 1] [] (ctX2_below l g a b n f x hk ⟨by omega, by omega⟩) gX2_total_X2_below rfl ⟨rfl, rfl⟩ (by decide +kernel) ⟨by decide, by decide⟩ rfl rfl rfl rfl rfl (by decide) (by decide) (by decide) rfl (Nat.le_of_ble_eq_true rfl) dX2_total_13 ⟨by decide, by decide⟩ (fun v_13 u_13 h_13 => ?_)
  rcases h_13 with ⟨k1, rfl, rfl, f_13⟩
  refine x_world (ws' := [(a, ob 2 [.ref b, jv n]), (b, ai g 60 f)]) [0, 1] (by decide) rfl ?_
  show X l g E ({ frames := 1, cells := 0, slots := 0, locals := 22 } : Room) 7 [(a, ob 2 [.ref b, jv n]), (b, ai g 60 f)] 0 0 [(5, jv k2), (3, Jv 0), (0, .ref a), (1, jv x), (2, jv z)] 16 [jv k1]
  have a0 := f_13.1
  have a1 := f_13.2.1
  have b0 := f_6.1
  have b1 := f_6.2.1
  have hsm := smm_bel f_13 f_6 hx.2.1
  have h12 := hsm.1
  refine x_istore (pc := 16) C (lv' := [(6, jv k1), (5, jv k2), (3, Jv 0), (0, .ref a), (1, jv x), (2, jv z)]) dX2_total_16 (by decide) rfl ?_
  have L18 : ∀ (nn : Nat) (k : Int) (s : Int), (k2 - k).toNat < nn → (k1 ≤ k ∧ k ≤ k2) → (s = smm (inab f x z) f k.toNat) → X l g E ({ frames := 1, cells := 0, slots := 0, locals := 22 } : Room) 7 [(a, ob 2 [.ref b, jv n]), (b, ai g 60 f)] 0 0 [(0, .ref a), (3, Jv s), (5, jv k2), (6, jv k)] 18 [] := by
    intro nn
    induction nn with
    | zero => intro k s hμ; exact absurd hμ (Nat.not_lt_zero _)
    | succ nn ih18 =>
      intro k s hμ hi hs
      refine x_iload (pc := 18) C 3 dX2_total_18 rfl ?_
      refine x_iload (pc := 20) C 2 dX2_total_20 rfl ?_
      refine x_icmp_ge (pc := 22) C 41 dX2_total_22 rfl ⟨by omega, by omega⟩ ⟨by omega, by omega⟩ (fun c_22 => ?_) (fun c_22 => ?_)
      · refine x_lload_n (pc := 41) C 1 dX2_total_41 rfl ?_
        show X l g E ({ frames := 1, cells := 0, slots := 0, locals := 22 } : Room) 7 [(a, ob 2 [.ref b, jv n]), (b, ai g 60 f)] 0 0 [(0, .ref a), (3, Jv s), (5, jv k2), (6, jv k)] 42 [.long (lI s)]
        refine x_lret (pc := 42) C Rt0 dX2_total_42 rfl ?_
        refine ⟨_, rfl, rfl, ?_⟩
        rw [hs]; rw [show k = k2 by omega]; exact ((hsm.2 n.toNat (by omega)).2.1 (by omega)).symm
      · refine x_lload_n (pc := 25) C 1 dX2_total_25 rfl ?_
        refine x_aload_n (pc := 26) C 0 dX2_total_26 rfl ?_
        refine x_iload (pc := 27) C 3 dX2_total_27 rfl ?_
        refine x_callV (pc := 29) C (n := 1) (q0 := 0) (rest := [Jv s]) (wr := []) [0, 1] [] (ctX2_key l g a b n f k ⟨hn0, hn1⟩ ⟨by omega, by omega⟩) gX2_total_X2_key rfl ⟨rfl, rfl⟩ (by decide +kernel) ⟨by decide, by decide⟩ rfl rfl rfl rfl rfl (by decide) (by decide) (by decide) rfl (Nat.le_of_ble_eq_true rfl) dX2_total_29 ⟨by decide, by decide⟩ (fun v_29 u_29 h_29 => ?_)
        rcases h_29 with ⟨rfl, rfl, f_29⟩ | ⟨rfl, rfl, f_29⟩
        · refine x_world (ws' := [(a, ob 2 [.ref b, jv n]), (b, ai g 60 f)]) [0, 1] (by decide) rfl ?_
          show X l g E ({ frames := 1, cells := 0, slots := 0, locals := 22 } : Room) 7 [(a, ob 2 [.ref b, jv n]), (b, ai g 60 f)] 0 0 [(0, .ref a), (3, Jv s), (5, jv k2), (6, jv k)] 32 [jv (f k), Jv s]
          have hb := hk.2.2.1 k (by omega) (by omega)
          refine x_i2l (pc := 32) C dX2_total_32 ⟨by omega, by omega⟩ ?_
          refine x_ladd (pc := 33) C dX2_total_33 ?_
          refine x_lstore_n (pc := 34) C (lv' := [(3, Jv (s + (f k))), (0, .ref a), (5, jv k2), (6, jv k)]) dX2_total_34 (by decide) rfl ?_
          refine x_iinc (pc := 35) C (lv' := [(6, jv (k + 1)), (3, Jv (s + (f k))), (0, .ref a), (5, jv k2)]) 3 dX2_total_35 rfl (by decide) rfl ?_
          refine x_goto (pc := 38) C 18 dX2_total_38 rfl ?_
          refine x_locals (lv' := [(0, .ref a), (3, Jv (s + (f k))), (5, jv k2), (6, jv (k + 1))]) [2, 1, 3, 0] rfl ?_
          refine ih18 _ _ ?_ ?_ ?_
          · omega
          · omega
          · have h := (hsm.2 k.toNat (by omega)).2.2 (by omega) (by omega)
            rw [show (k + 1).toNat = k.toNat + 1 by omega, h, Int.toNat_of_nonneg (by omega), hs]
        · refine x_world (ws' := [(a, ob 2 [.ref b, jv n]), (b, ai g 60 f)]) [0, 1] (by decide) rfl ?_
          show X l g E ({ frames := 1, cells := 0, slots := 0, locals := 22 } : Room) 7 [(a, ob 2 [.ref b, jv n]), (b, ai g 60 f)] 0 0 [(0, .ref a), (3, Jv s), (5, jv k2), (6, jv k)] 32 [jv (-1), Jv s]
          exact absurd f_29 (by omega)
  refine x_locals (lv' := [(0, .ref a), (3, Jv 0), (5, jv k2), (6, jv k1)]) [3, 2, 1, 0] rfl ?_
  refine L18 _ _ _ (Nat.lt_succ_self _) ?_ ?_
  · omega
  · exact ((hsm.2 k1.toNat (by omega)).1 (by omega)).symm

set_option maxRecDepth 100000 in
theorem hiX2_clear_2 : ∀ w ∈ wsX20, w ∈ wsX2_clear := by decide +kernel
set_option maxRecDepth 100000 in
theorem hfX2_clear_15 : Cond.fieldLink RX2 15 "KeyGuess$Keys" "size" "I" ∈ wsX2_clear := by decide +kernel
set_option maxHeartbeats 4000000 in
set_option maxRecDepth 100000 in
/-- Keys.clear -/
theorem ctX2_clear (l : Launch) (g : xG) (a : Nat) (b : Nat) (n : Int) (f : Int → Int) (hn : 0 ≤ n ∧ n ≤ 60) : Ct l g yX2_clear wsX2_clear ({ frames := 0, cells := 0, slots := 0, locals := 0 } : Room) 0 0 [(a, ob 2 [.ref b, jv n]), (b, ai g 60 f)] [.ref a] (fun v u => v = none ∧ u = [(a, ob 2 [.ref b, jv 0]), (b, ai g 60 f)] ∧ (True)) := by
  refine ct_of (cc := cX2_clear) (nL := 1) (ret := none) (by decide) rfl (Nat.le_of_ble_eq_true rfl) ?_
  intro E C Rt0
  have C : Cx l g E ({ frames := 0, cells := 0, slots := 0, locals := 0 } : Room) RX2 "clear" cX2_clear wsX2_clear 1 := C
  show X l g E ({ frames := 0, cells := 0, slots := 0, locals := 0 } : Room) 1 [(a, ob 2 [.ref b, jv n]), (b, ai g 60 f)] 0 0 [(0, .ref a)] 0 []
  refine x_aload_n (pc := 0) C 0 dX2_clear_0 rfl ?_
  refine x_iconst (pc := 1) C dX2_clear_1 ?_
  refine x_put (pc := 2) C (ty := .int) (ws' := [(a, ob 2 [.ref b, jv 0]), (b, ai g 60 f)]) tyX2 0 1 dX2_clear_2 hiX2_clear_2 tyX2_ok nmX2 hfX2_clear_15 rfl rfl rfl (by decide) rfl (by decide +kernel) rfl rfl (Nat.le_of_ble_eq_true rfl) rfl ?_
  refine x_vret (pc := 5) C Rt0 dX2_clear_5 rfl ?_
  refine ⟨rfl, rfl, ?_⟩
  trivial

set_option maxRecDepth 100000 in
theorem hiX2_append_2 : ∀ w ∈ wsX20, w ∈ wsX2_append := by decide +kernel
set_option maxRecDepth 100000 in
theorem hfX2_append_15 : Cond.fieldLink RX2 15 "KeyGuess$Keys" "size" "I" ∈ wsX2_append := by decide +kernel
set_option maxRecDepth 100000 in
theorem hfX2_append_9 : Cond.fieldLink RX2 9 "KeyGuess$Keys" "cells" "[I" ∈ wsX2_append := by decide +kernel
set_option maxHeartbeats 4000000 in
set_option maxRecDepth 100000 in
/-- Keys.append -/
theorem ctX2_append (l : Launch) (g : xG) (a : Nat) (b : Nat) (n : Int) (f : Int → Int) (x : Int) (hn : 0 ≤ n ∧ n < 60) : Ct l g yX2_append wsX2_append ({ frames := 0, cells := 0, slots := 0, locals := 0 } : Room) 0 0 [(a, ob 2 [.ref b, jv n]), (b, ai g 60 f)] [.ref a, jv x] (fun v u => v = none ∧ u = [(a, ob 2 [.ref b, jv (n + 1)]), (b, ai g 60 (up f n x))] ∧ (True)) := by
  refine ct_of (cc := cX2_append) (nL := 2) (ret := none) (by decide) rfl (Nat.le_of_ble_eq_true rfl) ?_
  intro E C Rt0
  have C : Cx l g E ({ frames := 0, cells := 0, slots := 0, locals := 0 } : Room) RX2 "append" cX2_append wsX2_append 2 := C
  show X l g E ({ frames := 0, cells := 0, slots := 0, locals := 0 } : Room) 2 [(a, ob 2 [.ref b, jv n]), (b, ai g 60 f)] 0 0 [(0, .ref a), (1, jv x)] 0 []
  refine x_aload_n (pc := 0) C 0 dX2_append_0 rfl ?_
  refine x_get (pc := 1) C 0 1 dX2_append_1 hiX2_append_2 hfX2_append_15 rfl rfl rfl (by decide) rfl ?_
  refine x_aload_n (pc := 4) C 0 dX2_append_4 rfl ?_
  refine x_get (pc := 5) C 0 0 dX2_append_5 hiX2_append_2 hfX2_append_9 rfl rfl rfl (by decide) rfl ?_
  refine x_alen (pc := 8) C 1 dX2_append_8 rfl ?_
  rw [show ((60 : Nat) : Int) = 60 from rfl]
  refine x_icmp_ge (pc := 9) C 32 dX2_append_9 rfl ⟨by omega, by omega⟩ ⟨by omega, by omega⟩ (fun c_9 => ?_) (fun c_9 => ?_)
  · exact absurd c_9 (by omega)
  · refine x_aload_n (pc := 12) C 0 dX2_append_12 rfl ?_
    refine x_get (pc := 13) C 0 0 dX2_append_13 hiX2_append_2 hfX2_append_9 rfl rfl rfl (by decide) rfl ?_
    refine x_aload_n (pc := 16) C 0 dX2_append_16 rfl ?_
    refine x_get (pc := 17) C 0 1 dX2_append_17 hiX2_append_2 hfX2_append_15 rfl rfl rfl (by decide) rfl ?_
    refine x_iload_n (pc := 20) C 1 dX2_append_20 rfl ?_
    refine x_iast (pc := 21) C (ws' := [(a, ob 2 [.ref b, jv n]), (b, ai g 60 (up f n x))]) 1 dX2_append_21 rfl (by omega) (by omega) (by decide) rfl ?_
    refine x_aload_n (pc := 22) C 0 dX2_append_22 rfl ?_
    refine x_dup (pc := 23) C dX2_append_23 rfl ?_
    refine x_get (pc := 24) C 0 1 dX2_append_24 hiX2_append_2 hfX2_append_15 rfl rfl rfl (by decide) rfl ?_
    refine x_iconst (pc := 27) C dX2_append_27 ?_
    refine x_iadd (pc := 28) C dX2_append_28 ?_
    refine x_put (pc := 29) C (ty := .int) (ws' := [(a, ob 2 [.ref b, jv (n + 1)]), (b, ai g 60 (up f n x))]) tyX2 0 1 dX2_append_29 hiX2_append_2 tyX2_ok nmX2 hfX2_append_15 rfl rfl rfl (by decide) rfl (by decide +kernel) rfl rfl (Nat.le_of_ble_eq_true rfl) rfl ?_
    refine x_vret (pc := 32) C Rt0 dX2_append_32 rfl ?_
    refine ⟨rfl, rfl, ?_⟩
    trivial

set_option maxRecDepth 100000 in
theorem hiX2_copy_2 : ∀ w ∈ wsX20, w ∈ wsX2_copy := by decide +kernel
set_option maxRecDepth 100000 in
theorem hfX2_copy_15 : Cond.fieldLink RX2 15 "KeyGuess$Keys" "size" "I" ∈ wsX2_copy := by decide +kernel
set_option maxHeartbeats 4000000 in
set_option maxRecDepth 100000 in
/-- Keys.copy -/
theorem ctX2_copy (l : Launch) (g : xG) (a : Nat) (b : Nat) (n : Int) (f : Int → Int) (c : Nat) (d : Nat) (p : Int) (h : Int → Int) (hp : 0 ≤ p ∧ p ≤ 60) : Ct l g yX2_copy wsX2_copy ({ frames := 1, cells := 0, slots := 0, locals := 21 } : Room) 0 0 [(a, ob 2 [.ref b, jv n]), (b, ai g 60 f), (c, ob 2 [.ref d, jv p]), (d, ai g 60 h)] [.ref a, .ref c] (fun v u => ∃ (f' : Int → Int), v = none ∧ u = [(a, ob 2 [.ref b, jv p]), (b, ai g 60 f'), (c, ob 2 [.ref d, jv p]), (d, ai g 60 h)] ∧ (Agr p f' h)) := by
  refine ct_of (cc := cX2_copy) (nL := 3) (ret := none) (by decide) rfl (Nat.le_of_ble_eq_true rfl) ?_
  intro E C Rt0
  have C : Cx l g E ({ frames := 1, cells := 0, slots := 0, locals := 21 } : Room) RX2 "copy" cX2_copy wsX2_copy 3 := C
  show X l g E ({ frames := 1, cells := 0, slots := 0, locals := 21 } : Room) 3 [(a, ob 2 [.ref b, jv n]), (b, ai g 60 f), (c, ob 2 [.ref d, jv p]), (d, ai g 60 h)] 0 0 [(0, .ref a), (1, .ref c)] 0 []
  refine x_aload_n (pc := 0) C 0 dX2_copy_0 rfl ?_
  refine x_iconst (pc := 1) C dX2_copy_1 ?_
  refine x_put (pc := 2) C (ty := .int) (ws' := [(a, ob 2 [.ref b, jv 0]), (b, ai g 60 f), (c, ob 2 [.ref d, jv p]), (d, ai g 60 h)]) tyX2 0 1 dX2_copy_2 hiX2_copy_2 tyX2_ok nmX2 hfX2_copy_15 rfl rfl rfl (by decide) rfl (by decide +kernel) rfl rfl (Nat.le_of_ble_eq_true rfl) rfl ?_
  refine x_iconst (pc := 5) C dX2_copy_5 ?_
  refine x_istore_n (pc := 6) C (lv' := [(2, jv 0), (0, .ref a), (1, .ref c)]) dX2_copy_6 (by decide) rfl ?_
  have L7 : ∀ (nn : Nat) (k : Int) (f' : Int → Int), (p - k).toNat < nn → (0 ≤ k ∧ k ≤ p) → (Agr k f' h) → X l g E ({ frames := 1, cells := 0, slots := 0, locals := 21 } : Room) 3 [(a, ob 2 [.ref b, jv k]), (b, ai g 60 f'), (c, ob 2 [.ref d, jv p]), (d, ai g 60 h)] 0 0 [(0, .ref a), (1, .ref c), (2, jv k)] 7 [] := by
    intro nn
    induction nn with
    | zero => intro k f' hμ; exact absurd hμ (Nat.not_lt_zero _)
    | succ nn ih7 =>
      intro k f' hμ hi hc
      refine x_iload_n (pc := 7) C 2 dX2_copy_7 rfl ?_
      refine x_aload_n (pc := 8) C 1 dX2_copy_8 rfl ?_
      refine x_callV (pc := 9) C (n := 0) (q0 := 0) (rest := [jv k]) (wr := [(a, ob 2 [.ref b, jv k]), (b, ai g 60 f')]) [2, 3] [0, 1] (ctX2_size l g c d p h hp) gX2_copy_X2_size rfl ⟨rfl, rfl⟩ (by decide +kernel) ⟨by decide, by decide⟩ rfl rfl rfl rfl rfl (by decide) (by decide) (by decide) rfl (Nat.le_of_ble_eq_true rfl) dX2_copy_9 ⟨by decide, by decide⟩ (fun v_9 u_9 h_9 => ?_)
      rcases h_9 with ⟨rfl, rfl, f_9⟩
      refine x_world (ws' := [(a, ob 2 [.ref b, jv k]), (b, ai g 60 f'), (c, ob 2 [.ref d, jv p]), (d, ai g 60 h)]) [0, 1, 2, 3] (by decide) rfl ?_
      show X l g E ({ frames := 1, cells := 0, slots := 0, locals := 21 } : Room) 3 [(a, ob 2 [.ref b, jv k]), (b, ai g 60 f'), (c, ob 2 [.ref d, jv p]), (d, ai g 60 h)] 0 0 [(0, .ref a), (1, .ref c), (2, jv k)] 12 [jv p, jv k]
      refine x_icmp_ge (pc := 12) C 30 dX2_copy_12 rfl ⟨by omega, by omega⟩ ⟨by omega, by omega⟩ (fun c_12 => ?_) (fun c_12 => ?_)
      · obtain rfl : k = p := by omega
        refine x_vret (pc := 30) C Rt0 dX2_copy_30 rfl ?_
        refine ⟨_, rfl, rfl, ?_⟩
        exact hc
      · refine x_aload_n (pc := 15) C 0 dX2_copy_15 rfl ?_
        refine x_aload_n (pc := 16) C 1 dX2_copy_16 rfl ?_
        refine x_iload_n (pc := 17) C 2 dX2_copy_17 rfl ?_
        refine x_callV (pc := 18) C (n := 1) (q0 := 0) (rest := [.ref a]) (wr := [(a, ob 2 [.ref b, jv k]), (b, ai g 60 f')]) [2, 3] [0, 1] (ctX2_key l g c d p h k hp ⟨by omega, by omega⟩) gX2_copy_X2_key rfl ⟨rfl, rfl⟩ (by decide +kernel) ⟨by decide, by decide⟩ rfl rfl rfl rfl rfl (by decide) (by decide) (by decide) rfl (Nat.le_of_ble_eq_true rfl) dX2_copy_18 ⟨by decide, by decide⟩ (fun v_18 u_18 h_18 => ?_)
        rcases h_18 with ⟨rfl, rfl, f_18⟩ | ⟨rfl, rfl, f_18⟩
        · refine x_world (ws' := [(a, ob 2 [.ref b, jv k]), (b, ai g 60 f'), (c, ob 2 [.ref d, jv p]), (d, ai g 60 h)]) [0, 1, 2, 3] (by decide) rfl ?_
          show X l g E ({ frames := 1, cells := 0, slots := 0, locals := 21 } : Room) 3 [(a, ob 2 [.ref b, jv k]), (b, ai g 60 f'), (c, ob 2 [.ref d, jv p]), (d, ai g 60 h)] 0 0 [(0, .ref a), (1, .ref c), (2, jv k)] 21 [jv (h k), .ref a]
          refine x_callV (pc := 21) C (n := 1) (q0 := 0) (rest := []) (wr := [(c, ob 2 [.ref d, jv p]), (d, ai g 60 h)]) [0, 1] [2, 3] (ctX2_append l g a b k f' (h k) ⟨by omega, by omega⟩) gX2_copy_X2_append rfl ⟨rfl, rfl⟩ (by decide +kernel) ⟨by decide, by decide⟩ rfl rfl rfl rfl rfl (by decide) (by decide) (by decide) rfl (Nat.le_of_ble_eq_true rfl) dX2_copy_21 ⟨by decide, by decide⟩ (fun v_21 u_21 h_21 => ?_)
          rcases h_21 with ⟨rfl, rfl, f_21⟩
          refine x_world (ws' := [(a, ob 2 [.ref b, jv (k + 1)]), (b, ai g 60 (up f' k (h k))), (c, ob 2 [.ref d, jv p]), (d, ai g 60 h)]) [2, 3, 0, 1] (by decide) rfl ?_
          show X l g E ({ frames := 1, cells := 0, slots := 0, locals := 21 } : Room) 3 [(a, ob 2 [.ref b, jv (k + 1)]), (b, ai g 60 (up f' k (h k))), (c, ob 2 [.ref d, jv p]), (d, ai g 60 h)] 0 0 [(0, .ref a), (1, .ref c), (2, jv k)] 24 []
          refine x_iinc (pc := 24) C (lv' := [(2, jv (k + 1)), (0, .ref a), (1, .ref c)]) 2 dX2_copy_24 rfl (by decide) rfl ?_
          refine x_goto (pc := 27) C 7 dX2_copy_27 rfl ?_
          refine x_locals (lv' := [(0, .ref a), (1, .ref c), (2, jv (k + 1))]) [1, 2, 0] rfl ?_
          refine ih7 _ _ ?_ ?_ ?_
          · omega
          · omega
          · exact al_s (fun i h0 h1 => by rw [up_ne _ _ (by omega)]; exact hc i h0 h1) (up_eq _ _ _)
        · refine x_world (ws' := [(a, ob 2 [.ref b, jv k]), (b, ai g 60 f'), (c, ob 2 [.ref d, jv p]), (d, ai g 60 h)]) [0, 1, 2, 3] (by decide) rfl ?_
          show X l g E ({ frames := 1, cells := 0, slots := 0, locals := 21 } : Room) 3 [(a, ob 2 [.ref b, jv k]), (b, ai g 60 f'), (c, ob 2 [.ref d, jv p]), (d, ai g 60 h)] 0 0 [(0, .ref a), (1, .ref c), (2, jv k)] 21 [jv (-1), .ref a]
          exact absurd f_18 (by omega)
  refine x_locals (lv' := [(0, .ref a), (1, .ref c), (2, jv 0)]) [1, 2, 0] rfl ?_
  refine L7 _ _ _ (Nat.lt_succ_self _) ?_ ?_
  · omega
  · exact al_0

set_option maxRecDepth 100000 in
theorem hiX2_add_2 : ∀ w ∈ wsX20, w ∈ wsX2_add := by decide +kernel
set_option maxRecDepth 100000 in
theorem hfX2_add_15 : Cond.fieldLink RX2 15 "KeyGuess$Keys" "size" "I" ∈ wsX2_add := by decide +kernel
set_option maxRecDepth 100000 in
theorem hfX2_add_9 : Cond.fieldLink RX2 9 "KeyGuess$Keys" "cells" "[I" ∈ wsX2_add := by decide +kernel
set_option maxHeartbeats 4000000 in
set_option maxRecDepth 100000 in
/-- Keys.add -/
theorem ctX2_add (l : Launch) (g : xG) (a : Nat) (b : Nat) (n : Int) (f : Int → Int) (x : Int) (hk : Kr n f) (hn : n < 60) (hx : 0 ≤ x ∧ x ≤ 1000000) (hni : ¬ Inr n f x) : Ct l g yX2_add wsX2_add ({ frames := 2, cells := 0, slots := 0, locals := 44 } : Room) 0 0 [(a, ob 2 [.ref b, jv n]), (b, ai g 60 f)] [.ref a, jv x] (fun v u => ∃ (k : Int) (f' : Int → Int), v = none ∧ u = [(a, ob 2 [.ref b, jv (n + 1)]), (b, ai g 60 f')] ∧ (Ins n f x k f')) := by
  refine ct_of (cc := cX2_add) (nL := 4) (ret := none) (by decide) rfl (Nat.le_of_ble_eq_true rfl) ?_
  intro E C Rt0
  have C : Cx l g E ({ frames := 2, cells := 0, slots := 0, locals := 44 } : Room) RX2 "add" cX2_add wsX2_add 4 := C
  show X l g E ({ frames := 2, cells := 0, slots := 0, locals := 44 } : Room) 4 [(a, ob 2 [.ref b, jv n]), (b, ai g 60 f)] 0 0 [(0, .ref a), (1, jv x)] 0 []
  have hn0 := hk.1
  refine x_aload_n (pc := 0) C 0 dX2_add_0 rfl ?_
  refine x_get (pc := 1) C 0 1 dX2_add_1 hiX2_add_2 hfX2_add_15 rfl rfl rfl (by decide) rfl ?_
  refine x_aload_n (pc := 4) C 0 dX2_add_4 rfl ?_
  refine x_get (pc := 5) C 0 0 dX2_add_5 hiX2_add_2 hfX2_add_9 rfl rfl rfl (by decide) rfl ?_
  refine x_alen (pc := 8) C 1 dX2_add_8 rfl ?_
  rw [show ((60 : Nat) : Int) = 60 from rfl]
  refine x_icmp_ge (pc := 9) C 20 dX2_add_9 rfl ⟨by omega, by omega⟩ ⟨by omega, by omega⟩ (fun c_9 => ?_) (fun c_9 => ?_)
  · exact absurd c_9 (by omega)
  · refine x_aload_n (pc := 12) C 0 dX2_add_12 rfl ?_
    refine x_iload_n (pc := 13) C 1 dX2_add_13 rfl ?_
    refine x_callV (pc := 14) C (n := 1) (q0 := 0) (rest := []) (wr := []) [0, 1] [] (ctX2_has l g a b n f x hk ⟨by omega, by omega⟩) gX2_add_X2_has rfl ⟨rfl, rfl⟩ (by decide +kernel) ⟨by decide, by decide⟩ rfl rfl rfl rfl rfl (by decide) (by decide) (by decide) rfl (Nat.le_of_ble_eq_true rfl) dX2_add_14 ⟨by decide, by decide⟩ (fun v_14 u_14 h_14 => ?_)
    rcases h_14 with ⟨rfl, rfl, f_14⟩ | ⟨rfl, rfl, f_14⟩
    · refine x_world (ws' := [(a, ob 2 [.ref b, jv n]), (b, ai g 60 f)]) [0, 1] (by decide) rfl ?_
      show X l g E ({ frames := 2, cells := 0, slots := 0, locals := 44 } : Room) 4 [(a, ob 2 [.ref b, jv n]), (b, ai g 60 f)] 0 0 [(0, .ref a), (1, jv x)] 17 [jv 1]
      exact absurd f_14 hni
    · refine x_world (ws' := [(a, ob 2 [.ref b, jv n]), (b, ai g 60 f)]) [0, 1] (by decide) rfl ?_
      show X l g E ({ frames := 2, cells := 0, slots := 0, locals := 44 } : Room) 4 [(a, ob 2 [.ref b, jv n]), (b, ai g 60 f)] 0 0 [(0, .ref a), (1, jv x)] 17 [jv 0]
      refine x_if_eq (pc := 17) C 21 dX2_add_17 rfl ⟨by decide, by decide⟩ (fun _ => ?_) (fun h => absurd h (by decide))
      refine x_aload_n (pc := 21) C 0 dX2_add_21 rfl ?_
      refine x_iload_n (pc := 22) C 1 dX2_add_22 rfl ?_
      refine x_callV (pc := 23) C (n := 1) (q0 := 0) (rest := []) (wr := []) [0, 1] [] (ctX2_below l g a b n f x hk ⟨by omega, by omega⟩) gX2_add_X2_below rfl ⟨rfl, rfl⟩ (by decide +kernel) ⟨by decide, by decide⟩ rfl rfl rfl rfl rfl (by decide) (by decide) (by decide) rfl (Nat.le_of_ble_eq_true rfl) dX2_add_23 ⟨by decide, by decide⟩ (fun v_23 u_23 h_23 => ?_)
      rcases h_23 with ⟨k, rfl, rfl, f_23⟩
      refine x_world (ws' := [(a, ob 2 [.ref b, jv n]), (b, ai g 60 f)]) [0, 1] (by decide) rfl ?_
      show X l g E ({ frames := 2, cells := 0, slots := 0, locals := 44 } : Room) 4 [(a, ob 2 [.ref b, jv n]), (b, ai g 60 f)] 0 0 [(0, .ref a), (1, jv x)] 26 [jv k]
      have hk0 := f_23.1
      have hk1 := f_23.2.1
      refine x_istore_n (pc := 26) C (lv' := [(2, jv k), (0, .ref a), (1, jv x)]) dX2_add_26 (by decide) rfl ?_
      refine x_aload_n (pc := 27) C 1 dX2_add_27 rfl ?_
      refine x_get (pc := 28) C 0 1 dX2_add_28 hiX2_add_2 hfX2_add_15 rfl rfl rfl (by decide) rfl ?_
      refine x_istore_n (pc := 31) C (lv' := [(3, jv n), (2, jv k), (0, .ref a), (1, jv x)]) dX2_add_31 (by decide) rfl ?_
      have L32 : ∀ (nn : Nat) (m : Int) (h : Int → Int), (m).toNat < nn → (k ≤ m ∧ m ≤ n) → (∀ i : Int, 0 ≤ i → i ≤ m → i < n → h i = f i) → (∀ i : Int, m < i → i ≤ n → h i = f (i - 1)) → X l g E ({ frames := 2, cells := 0, slots := 0, locals := 44 } : Room) 4 [(a, ob 2 [.ref b, jv n]), (b, ai g 60 h)] 0 0 [(0, .ref a), (1, jv x), (2, jv k), (3, jv m)] 32 [] := by
        intro nn
        induction nn with
        | zero => intro m h hμ; exact absurd hμ (Nat.not_lt_zero _)
        | succ nn ih32 =>
          intro m h hμ hi ha hb
          refine x_iload_n (pc := 32) C 3 dX2_add_32 rfl ?_
          refine x_iload_n (pc := 33) C 2 dX2_add_33 rfl ?_
          refine x_icmp_le (pc := 34) C 57 dX2_add_34 rfl ⟨by omega, by omega⟩ ⟨by omega, by omega⟩ (fun c_34 => ?_) (fun c_34 => ?_)
          · refine x_aload_n (pc := 57) C 0 dX2_add_57 rfl ?_
            refine x_get (pc := 58) C 0 0 dX2_add_58 hiX2_add_2 hfX2_add_9 rfl rfl rfl (by decide) rfl ?_
            refine x_iload_n (pc := 61) C 2 dX2_add_61 rfl ?_
            refine x_iload_n (pc := 62) C 1 dX2_add_62 rfl ?_
            refine x_iast (pc := 63) C (ws' := [(a, ob 2 [.ref b, jv n]), (b, ai g 60 (up h k x))]) 1 dX2_add_63 rfl (by omega) (by omega) (by decide) rfl ?_
            refine x_aload_n (pc := 64) C 0 dX2_add_64 rfl ?_
            refine x_dup (pc := 65) C dX2_add_65 rfl ?_
            refine x_get (pc := 66) C 0 1 dX2_add_66 hiX2_add_2 hfX2_add_15 rfl rfl rfl (by decide) rfl ?_
            refine x_iconst (pc := 69) C dX2_add_69 ?_
            refine x_iadd (pc := 70) C dX2_add_70 ?_
            refine x_put (pc := 71) C (ty := .int) (ws' := [(a, ob 2 [.ref b, jv (n + 1)]), (b, ai g 60 (up h k x))]) tyX2 0 1 dX2_add_71 hiX2_add_2 tyX2_ok nmX2 hfX2_add_15 rfl rfl rfl (by decide) rfl (by decide +kernel) rfl rfl (Nat.le_of_ble_eq_true rfl) rfl ?_
            refine x_vret (pc := 74) C Rt0 dX2_add_74 rfl ?_
            refine ⟨k, _, rfl, rfl, ?_⟩
            exact ⟨f_23, fun i h0 h1 => by rw [up_ne _ _ (by omega)]; exact ha i h0 (by omega) (by omega), up_eq _ _ _, fun i h1 h2 => by rw [up_ne _ _ (by omega)]; exact hb i (by omega) h2⟩
          · refine x_aload_n (pc := 37) C 0 dX2_add_37 rfl ?_
            refine x_get (pc := 38) C 0 0 dX2_add_38 hiX2_add_2 hfX2_add_9 rfl rfl rfl (by decide) rfl ?_
            refine x_iload_n (pc := 41) C 3 dX2_add_41 rfl ?_
            refine x_aload_n (pc := 42) C 0 dX2_add_42 rfl ?_
            refine x_get (pc := 43) C 0 0 dX2_add_43 hiX2_add_2 hfX2_add_9 rfl rfl rfl (by decide) rfl ?_
            refine x_iload_n (pc := 46) C 3 dX2_add_46 rfl ?_
            refine x_iconst (pc := 47) C dX2_add_47 ?_
            refine x_isub (pc := 48) C dX2_add_48 ?_
            refine x_iald (pc := 49) C 1 dX2_add_49 rfl (by omega) (by omega) (by decide) ?_
            refine x_iast (pc := 50) C (ws' := [(a, ob 2 [.ref b, jv n]), (b, ai g 60 (up h m (h (m - 1))))]) 1 dX2_add_50 rfl (by omega) (by omega) (by decide) rfl ?_
            refine x_iinc (pc := 51) C (lv' := [(3, jv (m + (-1))), (0, .ref a), (1, jv x), (2, jv k)]) 3 dX2_add_51 rfl (by decide) rfl ?_
            refine x_goto (pc := 54) C 32 dX2_add_54 rfl ?_
            refine x_locals (lv' := [(0, .ref a), (1, jv x), (2, jv k), (3, jv (m + (-1)))]) [1, 2, 3, 0] rfl ?_
            refine ih32 _ _ ?_ ?_ ?_ ?_
            · omega
            · omega
            · exact fun i h0 h1 h2 => by rw [up_ne _ _ (by omega)]; exact ha i h0 (by omega) h2
            · intro i h1 h2
              by_cases q : i = m
              · rw [q, up_eq]; exact ha _ (by omega) (by omega) (by omega)
              · rw [up_ne _ _ q]; exact hb i (by omega) h2
      refine x_locals (lv' := [(0, .ref a), (1, jv x), (2, jv k), (3, jv n)]) [2, 3, 1, 0] rfl ?_
      refine L32 _ _ _ (Nat.lt_succ_self _) ?_ ?_ ?_
      · omega
      · exact fun i _ _ _ => rfl
      · exact fun i h1 h2 => absurd h1 (by omega)

set_option maxRecDepth 100000 in
theorem hiX2_drop_2 : ∀ w ∈ wsX20, w ∈ wsX2_drop := by decide +kernel
set_option maxRecDepth 100000 in
theorem hfX2_drop_15 : Cond.fieldLink RX2 15 "KeyGuess$Keys" "size" "I" ∈ wsX2_drop := by decide +kernel
set_option maxRecDepth 100000 in
theorem hfX2_drop_9 : Cond.fieldLink RX2 9 "KeyGuess$Keys" "cells" "[I" ∈ wsX2_drop := by decide +kernel
set_option maxHeartbeats 4000000 in
set_option maxRecDepth 100000 in
/-- Keys.drop -/
theorem ctX2_drop (l : Launch) (g : xG) (a : Nat) (b : Nat) (n : Int) (f : Int → Int) (x : Int) (hk : Kr n f) (hr : Rg x) (hni : Inr n f x) : Ct l g yX2_drop wsX2_drop ({ frames := 2, cells := 0, slots := 0, locals := 44 } : Room) 0 0 [(a, ob 2 [.ref b, jv n]), (b, ai g 60 f)] [.ref a, jv x] (fun v u => ∃ (k : Int) (f' : Int → Int), v = none ∧ u = [(a, ob 2 [.ref b, jv (n - 1)]), (b, ai g 60 f')] ∧ (Del n f x k f')) := by
  refine ct_of (cc := cX2_drop) (nL := 3) (ret := none) (by decide) rfl (Nat.le_of_ble_eq_true rfl) ?_
  intro E C Rt0
  have C : Cx l g E ({ frames := 2, cells := 0, slots := 0, locals := 44 } : Room) RX2 "drop" cX2_drop wsX2_drop 3 := C
  show X l g E ({ frames := 2, cells := 0, slots := 0, locals := 44 } : Room) 3 [(a, ob 2 [.ref b, jv n]), (b, ai g 60 f)] 0 0 [(0, .ref a), (1, jv x)] 0 []
  have hn0 := hk.1
  have hn1 := hk.2.1
  refine x_aload_n (pc := 0) C 0 dX2_drop_0 rfl ?_
  refine x_iload_n (pc := 1) C 1 dX2_drop_1 rfl ?_
  refine x_callV (pc := 2) C (n := 1) (q0 := 0) (rest := []) (wr := []) [0, 1] [] (ctX2_has l g a b n f x hk hr) gX2_drop_X2_has rfl ⟨rfl, rfl⟩ (by decide +kernel) ⟨by decide, by decide⟩ rfl rfl rfl rfl rfl (by decide) (by decide) (by decide) rfl (Nat.le_of_ble_eq_true rfl) dX2_drop_2 ⟨by decide, by decide⟩ (fun v_2 u_2 h_2 => ?_)
  rcases h_2 with ⟨rfl, rfl, f_2⟩ | ⟨rfl, rfl, f_2⟩
  · refine x_world (ws' := [(a, ob 2 [.ref b, jv n]), (b, ai g 60 f)]) [0, 1] (by decide) rfl ?_
    show X l g E ({ frames := 2, cells := 0, slots := 0, locals := 44 } : Room) 3 [(a, ob 2 [.ref b, jv n]), (b, ai g 60 f)] 0 0 [(0, .ref a), (1, jv x)] 5 [jv 1]
    refine x_if_ne (pc := 5) C 9 dX2_drop_5 rfl ⟨by decide, by decide⟩ (fun _ => ?_) (fun h => absurd h (by decide))
    refine x_aload_n (pc := 9) C 0 dX2_drop_9 rfl ?_
    refine x_iload_n (pc := 10) C 1 dX2_drop_10 rfl ?_
    refine x_callV (pc := 11) C (n := 1) (q0 := 0) (rest := []) (wr := []) [0, 1] [] (ctX2_below l g a b n f x hk hr) gX2_drop_X2_below rfl ⟨rfl, rfl⟩ (by decide +kernel) ⟨by decide, by decide⟩ rfl rfl rfl rfl rfl (by decide) (by decide) (by decide) rfl (Nat.le_of_ble_eq_true rfl) dX2_drop_11 ⟨by decide, by decide⟩ (fun v_11 u_11 h_11 => ?_)
    rcases h_11 with ⟨k, rfl, rfl, f_11⟩
    refine x_world (ws' := [(a, ob 2 [.ref b, jv n]), (b, ai g 60 f)]) [0, 1] (by decide) rfl ?_
    show X l g E ({ frames := 2, cells := 0, slots := 0, locals := 44 } : Room) 3 [(a, ob 2 [.ref b, jv n]), (b, ai g 60 f)] 0 0 [(0, .ref a), (1, jv x)] 14 [jv k]
    have hk0 := f_11.1
    have hk1 := f_11.2.1
    have hkx := Bel.at hk f_11 hni
    have hk2 := hkx.1
    refine x_iconst (pc := 14) C dX2_drop_14 ?_
    refine x_iadd (pc := 15) C dX2_drop_15 ?_
    refine x_istore_n (pc := 16) C (lv' := [(2, jv (k + 1)), (0, .ref a), (1, jv x)]) dX2_drop_16 (by decide) rfl ?_
    have L17 : ∀ (nn : Nat) (j : Int) (h : Int → Int), (n - j).toNat < nn → (k + 1 ≤ j ∧ j ≤ n) → (∀ i : Int, 0 ≤ i → i < k → h i = f i) → (∀ i : Int, k ≤ i → i < j - 1 → h i = f (i + 1)) → (∀ i : Int, j - 1 ≤ i → i < n → h i = f i) → X l g E ({ frames := 2, cells := 0, slots := 0, locals := 44 } : Room) 3 [(a, ob 2 [.ref b, jv n]), (b, ai g 60 h)] 0 0 [(0, .ref a), (2, jv j)] 17 [] := by
      intro nn
      induction nn with
      | zero => intro j h hμ; exact absurd hμ (Nat.not_lt_zero _)
      | succ nn ih17 =>
        intro j h hμ hi ha hb hc
        refine x_iload_n (pc := 17) C 1 dX2_drop_17 rfl ?_
        refine x_aload_n (pc := 18) C 0 dX2_drop_18 rfl ?_
        refine x_get (pc := 19) C 0 1 dX2_drop_19 hiX2_drop_2 hfX2_drop_15 rfl rfl rfl (by decide) rfl ?_
        refine x_icmp_ge (pc := 22) C 45 dX2_drop_22 rfl ⟨by omega, by omega⟩ ⟨by omega, by omega⟩ (fun c_22 => ?_) (fun c_22 => ?_)
        · refine x_aload_n (pc := 45) C 0 dX2_drop_45 rfl ?_
          refine x_dup (pc := 46) C dX2_drop_46 rfl ?_
          refine x_get (pc := 47) C 0 1 dX2_drop_47 hiX2_drop_2 hfX2_drop_15 rfl rfl rfl (by decide) rfl ?_
          refine x_iconst (pc := 50) C dX2_drop_50 ?_
          refine x_isub (pc := 51) C dX2_drop_51 ?_
          refine x_put (pc := 52) C (ty := .int) (ws' := [(a, ob 2 [.ref b, jv (n - 1)]), (b, ai g 60 h)]) tyX2 0 1 dX2_drop_52 hiX2_drop_2 tyX2_ok nmX2 hfX2_drop_15 rfl rfl rfl (by decide) rfl (by decide +kernel) rfl rfl (Nat.le_of_ble_eq_true rfl) rfl ?_
          refine x_vret (pc := 55) C Rt0 dX2_drop_55 rfl ?_
          refine ⟨k, _, rfl, rfl, ?_⟩
          exact ⟨hk0, hk2, hkx.2, ha, fun i h1 h2 => hb i h1 (by omega)⟩
        · refine x_aload_n (pc := 25) C 0 dX2_drop_25 rfl ?_
          refine x_get (pc := 26) C 0 0 dX2_drop_26 hiX2_drop_2 hfX2_drop_9 rfl rfl rfl (by decide) rfl ?_
          refine x_iload_n (pc := 29) C 1 dX2_drop_29 rfl ?_
          refine x_iconst (pc := 30) C dX2_drop_30 ?_
          refine x_isub (pc := 31) C dX2_drop_31 ?_
          refine x_aload_n (pc := 32) C 0 dX2_drop_32 rfl ?_
          refine x_get (pc := 33) C 0 0 dX2_drop_33 hiX2_drop_2 hfX2_drop_9 rfl rfl rfl (by decide) rfl ?_
          refine x_iload_n (pc := 36) C 1 dX2_drop_36 rfl ?_
          refine x_iald (pc := 37) C 1 dX2_drop_37 rfl (by omega) (by omega) (by decide) ?_
          refine x_iast (pc := 38) C (ws' := [(a, ob 2 [.ref b, jv n]), (b, ai g 60 (up h (j - 1) (h j)))]) 1 dX2_drop_38 rfl (by omega) (by omega) (by decide) rfl ?_
          refine x_iinc (pc := 39) C (lv' := [(2, jv (j + 1)), (0, .ref a)]) 1 dX2_drop_39 rfl (by decide) rfl ?_
          refine x_goto (pc := 42) C 17 dX2_drop_42 rfl ?_
          refine x_locals (lv' := [(0, .ref a), (2, jv (j + 1))]) [1, 0] rfl ?_
          refine ih17 _ _ ?_ ?_ ?_ ?_ ?_
          · omega
          · omega
          · exact fun i h0 h1 => by rw [up_ne _ _ (by omega)]; exact ha i h0 (by omega)
          · intro i h1 h2
            by_cases q : i = j - 1
            · rw [q, up_eq, show j - 1 + 1 = j by omega]; exact hc _ (by omega) (by omega)
            · rw [up_ne _ _ q]; exact hb i h1 (by omega)
          · exact fun i h0 h1 => by rw [up_ne _ _ (by omega)]; exact hc i (by omega) h1
    refine x_locals (lv' := [(0, .ref a), (2, jv (k + 1))]) [1, 0] rfl ?_
    refine L17 _ _ _ (Nat.lt_succ_self _) ?_ ?_ ?_ ?_
    · omega
    · exact fun i _ _ => rfl
    · exact fun i h1 h2 => absurd h1 (by omega)
    · exact fun i _ _ => rfl
  · refine x_world (ws' := [(a, ob 2 [.ref b, jv n]), (b, ai g 60 f)]) [0, 1] (by decide) rfl ?_
    show X l g E ({ frames := 2, cells := 0, slots := 0, locals := 44 } : Room) 3 [(a, ob 2 [.ref b, jv n]), (b, ai g 60 f)] 0 0 [(0, .ref a), (1, jv x)] 5 [jv 0]
    exact absurd hni f_2
