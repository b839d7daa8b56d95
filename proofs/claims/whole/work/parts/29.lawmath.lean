/-! ===== FALSE: by values, and by places ===== -/
theorem cnt_split {p q : Int → Bool} (h : ∀ i : Int, q i = true → p i = true) (m : Nat) : cnt p m = cnt (fun i => p i && !q i) m + cnt q m := by
  induction m with
  | zero => rfl
  | succ m ih =>
    rw [cnt, cnt, cnt, ih]
    cases hq : q (m : Int) with
    | true => rw [h _ hq]; simp; omega
    | false => cases p (m : Int) <;> simp <;> omega
theorem cnt_pt {p : Int → Bool} {c : Int} (m : Nat) (h : p c = false) : cnt (fun i => p i || decide (i = c)) m = cnt p m + (if 0 ≤ c ∧ c < (m : Int) then 1 else 0) := by
  induction m with
  | zero => rw [if_neg (by omega)]; rfl
  | succ m ih =>
    rw [cnt, cnt, ih]
    by_cases q : (m : Int) = c
    · rw [if_neg (show ¬ (0 ≤ c ∧ c < (m : Int)) by omega), if_pos (show 0 ≤ c ∧ c < ((m + 1 : Nat) : Int) by omega), q, h]
      simp
    · have e : (p (m : Int) || decide ((m : Int) = c)) = p (m : Int) := by simp [q]
      rw [e]
      by_cases w : 0 ≤ c ∧ c < (m : Int)
      · rw [if_pos w, if_pos (show 0 ≤ c ∧ c < ((m + 1 : Nat) : Int) by omega)]; omega
      · rw [if_neg w, if_neg (show ¬ (0 ≤ c ∧ c < ((m + 1 : Nat) : Int)) by omega)]; omega
theorem inb_s {f : Int → Int} {k x : Int} (h0 : 0 ≤ k) : inb (k + 1) f x = (inb k f x || decide (x = f k)) := by
  by_cases q : x = f k
  · rw [inb_t ⟨k, h0, by omega, q.symm⟩]; simp [q]
  · by_cases w : Inr k f x
    · rw [inb_t w, inb_t (w.mono (by omega))]; simp
    · rw [inb_f w, inb_f (fun z => w (z.less q))]; simp [q]
theorem cnt_vals {f : Int → Int} {n u v : Int} (hk : Kr n f) (huv : u ≤ v) : cnt (fun i => inb n f (u + i)) (v + 1 - u).toNat = cnt (inab f u v) n.toNat := by
  have key : ∀ k : Nat, (k : Int) ≤ n → cnt (fun i => inb (k : Int) f (u + i)) (v + 1 - u).toNat = cnt (inab f u v) k := by
    intro k
    induction k with
    | zero =>
      intro _
      have z : ∀ m : Nat, cnt (fun i => inb ((0 : Nat) : Int) f (u + i)) m = 0 := by
        intro m
        induction m with
        | zero => rfl
        | succ m ih =>
          rw [cnt, ih, inb_f (fun ⟨i, i0, i1, _⟩ => by omega)]
          rfl
      exact z _
    | succ k ih =>
      intro hn
      have e : (fun i => inb ((k + 1 : Nat) : Int) f (u + i)) = fun i => (inb (k : Int) f (u + i) || decide (i = f k - u)) := by
        funext i
        rw [show ((k + 1 : Nat) : Int) = (k : Int) + 1 by omega, inb_s (by omega)]
        congr 1
        exact decide_eq_decide.mpr (by omega)
      have hf : inb (k : Int) f (u + (f k - u)) = false := inb_f (fun ⟨i, i0, i1, i2⟩ => by
        have := hk.2.2.2 i k i0 i1 (by omega)
        omega)
      rw [e, cnt_pt (p := fun i => inb (k : Int) f (u + i)) (c := f k - u) _ hf, ih (by omega), cnt]
      by_cases w : u ≤ f k ∧ f k ≤ v
      · rw [if_pos (by omega), if_pos (by simp only [inab, decide_eq_true_eq]; exact w)]
      · rw [if_neg (by omega), if_neg (by simp only [inab, decide_eq_true_eq]; exact w)]
  have n0 := hk.1
  have q := key n.toNat (by omega)
  rw [Int.toNat_of_nonneg n0] at q
  exact q
theorem wr_eq {nn u v : Int} {nf : Int → Int} {B : Int → Bool} (hk : Kr nn nf) (hm : ∀ x : Int, Inr nn nf x → MB B x) (huv : u ≤ v) : cnt (fun i => mbb B (u + i)) (v + 1 - u).toNat - cnt (inab nf u v) nn.toNat = cnt (fun i => mbb B (u + i) && !inb nn nf (u + i)) (v + 1 - u).toNat := by
  have a := cnt_split (p := fun i => mbb B (u + i)) (q := fun i => inb nn nf (u + i)) (fun i hi => mbb_t (hm _ (Classical.byContradiction fun c => by
    rw [inb_f c] at hi
    cases hi))) (v + 1 - u).toNat
  have b := cnt_vals hk huv
  omega
