/-! ===== more rows of the layer ===== -/
theorem xor_sign {a b : Int} (ha : Rg a) (hb : 0 ≤ b ∧ b < 2147483648) : 0 ≤ iI a ^^^ iI b ↔ 0 ≤ a := by
  have hb' : Rg b := ⟨by omega, by omega⟩
  have h1 : (iI a ^^^ iI b).toInt < 0 ↔ a < 0 := by
    have e0 : ∀ v : Int32, v.toInt < 0 ↔ v.toBitVec.msb = true := fun v => by
      show v.toBitVec.toInt < 0 ↔ _
      rw [BitVec.msb_eq_toInt]
      exact decide_eq_true_iff.symm
    rw [e0]
    have m1 : (iI a).toBitVec.msb = decide (a < 0) := by
      have := e0 (iI a)
      rw [iI_toInt ha] at this
      by_cases q : a < 0
      · rw [this.mp q]; simp [q]
      · cases hm : (iI a).toBitVec.msb with
        | true => exact absurd (this.mpr hm) q
        | false => simp [q]
    have m2 : (iI b).toBitVec.msb = false := by
      have := e0 (iI b)
      rw [iI_toInt hb'] at this
      cases hm : (iI b).toBitVec.msb with
      | true => exact absurd (this.mpr hm) (by omega)
      | false => rfl
    rw [Int32.toBitVec_xor, BitVec.msb_xor, m1, m2]
    simp
  rw [Int32.le_iff_toInt_le]
  show (0 : Int) ≤ _ ↔ _
  omega
section XM
variable {l : Launch} {g : xG} {E : xE} {R : Room} {own nm : String} {cc : ByteArray} {Ts : List Cond} {nL : Nat} {ws : va_W} {cl sl pc : Nat} {lv lv' : List (Nat × Value)} {rest : List Value}
theorem x_ixge (C : Cx l g E R own nm cc Ts nL) {a b off : Int} (tgt : Nat) (hd : decode cc pc = .ok (.ixor, 1)) (hd2 : decode cc (pc + 1) = .ok (.ifCond .ge off, 3)) (ht : ((pc + 1 : Nat) : Int) + off = (tgt : Int)) (ha : Rg a) (hb2 : 0 ≤ b ∧ b < 2147483648) (kt : 0 ≤ a → X l g E R nL ws cl sl lv tgt rest) (kf : ¬ 0 ≤ a → X l g E R nL ws cl sl lv (pc + 1 + 3) rest) : X l g E R nL ws cl sl lv pc (jv b :: jv a :: rest) := by
  obtain ⟨p, e, s, m, args, below, meth, c, A, Q⟩ := E
  obtain ⟨hx, hb, hml, hown, hts, hK, hlck, hA, hnm⟩ := C
  intro H locs ls hP hD hS hl
  refine lv_ixor hx hb hd ?_
  exact lv_if_ge hx hb hd2 ht (fun h => kt ((xor_sign ha hb2).mp h) H locs ls hP hD hS hl) (fun h => kf (fun q => h ((xor_sign ha hb2).mpr q)) H locs ls hP hD hS hl)
/-- longs that are bits: equal or not -/
theorem x_lcmpR (C : Cx l g E R own nm cc Ts nL) {a b : Int64} {off : Int} (tgt : Nat) (hd : decode cc pc = .ok (.lcmp, 1)) (hd2 : decode cc (pc + 1) = .ok (.ifCond .ne off, 3)) (ht : ((pc + 1 : Nat) : Int) + off = (tgt : Int)) (kt : ¬ a = b → X l g E R nL ws cl sl lv tgt rest) (kf : a = b → X l g E R nL ws cl sl lv (pc + 1 + 3) rest) : X l g E R nL ws cl sl lv pc (.long b :: .long a :: rest) := by
  obtain ⟨p, e, s, m, args, below, meth, c, A, Q⟩ := E
  obtain ⟨hx, hb, hml, hown, hts, hK, hlck, hA, hnm⟩ := C
  intro H locs ls hP hD hS hl
  refine W.lcmp hx hb hd ?_
  by_cases h : a = b
  · have e1 : lg_cmp a b = 0 := by
      subst h
      unfold lg_cmp
      have h2 : ¬ a < a := Int64.lt_irrefl
      simp [h2]
    rw [e1]
    exact lv_if_ne hx hb hd2 ht (fun q => absurd rfl q) (fun _ => kf h H locs ls hP hD hS hl)
  · have e1 : ¬ lg_cmp a b = 0 := by
      unfold lg_cmp
      by_cases h1 : b < a
      · rw [if_pos h1]; decide
      · rw [if_neg h1, if_neg h]; decide
    exact lv_if_ne hx hb hd2 ht (fun _ => kt h H locs ls hP hD hS hl) (fun q => absurd q e1)
theorem x_ldc2R (C : Cx l g E R own nm cc Ts nL) {i : Nat} {v : Int64} (hd : decode cc pc = .ok (.ldc2_w i, 3)) (hc : ∀ {args : Array Value} {s : State}, (∀ w ∈ Ts, w.before args s = true) → (Jvm.Cond.constantLong own i v).before args s = true) (k : X l g E R nL ws cl sl lv (pc + 3) (.long v :: rest)) : X l g E R nL ws cl sl lv pc rest := by
  obtain ⟨p, e, s, m, args, below, meth, c, A, Q⟩ := E
  obtain ⟨hx, hb, hml, hown, hts, hK, hlck, hA, hnm⟩ := C
  intro H locs ls hP hD hS hl
  exact lv_ldc2 hx hb hown (hc hts) hd (k H locs ls hP hD hS hl)
end XM
