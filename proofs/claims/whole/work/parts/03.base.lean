/-! ===== plain facts: rows of keys ===== -/
theorem al_0 {P : Int → Prop} : ∀ i : Int, 0 ≤ i → i < 0 → P i := fun i h0 h1 => absurd h1 (by omega)
theorem al_s {P : Int → Prop} {k : Int} (h : ∀ i : Int, 0 ≤ i → i < k → P i) (hk : P k) : ∀ i : Int, 0 ≤ i → i < k + 1 → P i := fun i h0 h1 => if e : i = k then e ▸ hk else h i h0 (by omega)
/-- f holds n keys, rising, each a number of the document -/
def Kr (n : Int) (f : Int → Int) : Prop := 0 ≤ n ∧ n ≤ 60 ∧ (∀ i : Int, 0 ≤ i → i < n → 0 ≤ f i ∧ f i ≤ 1000000) ∧ ∀ i j : Int, 0 ≤ i → i < j → j < n → f i < f j
def Inr (n : Int) (f : Int → Int) (x : Int) : Prop := ∃ i : Int, 0 ≤ i ∧ i < n ∧ f i = x
/-- k of the n are below x -/
def Bel (n : Int) (f : Int → Int) (x k : Int) : Prop := 0 ≤ k ∧ k ≤ n ∧ (∀ i : Int, 0 ≤ i → i < k → f i < x) ∧ ∀ i : Int, k ≤ i → i < n → x ≤ f i
def Agr (n : Int) (f h : Int → Int) : Prop := ∀ i : Int, 0 ≤ i → i < n → f i = h i
theorem Kr.le {n : Int} {f : Int → Int} (h : Kr n f) {i j : Int} (h0 : 0 ≤ i) (h1 : i ≤ j) (h2 : j < n) : f i ≤ f j := by
  rcases Int.lt_or_eq_of_le h1 with q | q
  · exact Int.le_of_lt (h.2.2.2 i j h0 q h2)
  · rw [q]; exact Int.le_refl _
theorem Bel.of {n : Int} {f : Int → Int} {x k : Int} (h : Kr n f) (h0 : 0 ≤ k ∧ k ≤ n) (h1 : ∀ i : Int, 0 ≤ i → i < k → f i < x) (h2 : k < n → x ≤ f k) : Bel n f x k :=
  ⟨h0.1, h0.2, h1, fun i hi hn => Int.le_trans (h2 (by omega)) (h.le h0.1 hi hn)⟩
/-- how many / the sum of those below n that p picks -/
def cnt (p : Int → Bool) : Nat → Int
  | 0 => 0
  | n + 1 => cnt p n + (if p (n : Int) then 1 else 0)
def smm (p : Int → Bool) (f : Int → Int) : Nat → Int
  | 0 => 0
  | n + 1 => smm p f n + (if p (n : Int) then f (n : Int) else 0)
theorem cnt_s (p : Int → Bool) {k : Int} (h : 0 ≤ k) : cnt p (k + 1).toNat = cnt p k.toNat + (if p k then 1 else 0) := by
  rw [show (k + 1).toNat = k.toNat + 1 by omega, cnt, Int.toNat_of_nonneg h]
theorem smm_s (p : Int → Bool) (f : Int → Int) {k : Int} (h : 0 ≤ k) : smm p f (k + 1).toNat = smm p f k.toNat + (if p k then f k else 0) := by
  rw [show (k + 1).toNat = k.toNat + 1 by omega, smm, Int.toNat_of_nonneg h]
theorem cnt_rg (p : Int → Bool) (n : Nat) : 0 ≤ cnt p n ∧ cnt p n ≤ n := by
  induction n with
  | zero => simp [cnt]
  | succ n ih => rw [cnt]; split <;> omega
theorem smm_rg (p : Int → Bool) (f : Int → Int) (n : Nat) (hf : ∀ i : Int, 0 ≤ i → i < n → 0 ≤ f i ∧ f i ≤ 1000000) : 0 ≤ smm p f n ∧ smm p f n ≤ 1000000 * n := by
  induction n with
  | zero => simp [smm]
  | succ n ih =>
    have h1 := ih (fun i h0 h1 => hf i h0 (by omega))
    have h2 := hf (n : Int) (by omega) (by omega)
    rw [smm]; split <;> omega
/-- the numbers from a to b -/
def inab (f : Int → Int) (a b : Int) : Int → Bool := fun i => decide (a ≤ f i ∧ f i ≤ b)
theorem cnt_bel {n : Int} {f : Int → Int} {a b k1 k2 : Int} (h1 : Bel n f a k1) (h2 : Bel n f (b + 1) k2) (hab : a ≤ b) : k2 - k1 = cnt (inab f a b) n.toNat := by
  obtain ⟨a0, a1, a2, a3⟩ := h1
  obtain ⟨b0, b1, b2, b3⟩ := h2
  have h12 : k1 ≤ k2 := by
    rcases Int.lt_or_le k2 k1 with q | q
    · have := a2 k2 b0 q
      have := b3 k2 (Int.le_refl _) (by omega)
      omega
    · exact q
  have key : ∀ m : Nat, (m : Int) ≤ n → cnt (inab f a b) m = min (m : Int) k2 - min (m : Int) k1 := by
    intro m
    induction m with
    | zero => intro _; simp [cnt]; omega
    | succ m ih =>
      intro hm
      rw [cnt, ih (by omega)]
      by_cases c1 : (m : Int) < k1
      · have := a2 m (by omega) c1
        rw [if_neg (by simp [inab]; omega)]
        omega
      · by_cases c2 : (m : Int) < k2
        · have := a3 m (by omega) (by omega)
          have := b2 m (by omega) c2
          rw [if_pos (by simp [inab]; omega)]
          omega
        · have := b3 m (by omega) (by omega)
          rw [if_neg (by simp [inab]; omega)]
          omega
  rw [key n.toNat (by omega)]
  omega
/-- the sum from k1 to k2 -/
theorem smm_bel {n : Int} {f : Int → Int} {a b k1 k2 : Int} (h1 : Bel n f a k1) (h2 : Bel n f (b + 1) k2) (hab : a ≤ b) : k1 ≤ k2 ∧ ∀ m : Nat, (m : Int) ≤ n → ((m : Int) ≤ k1 → smm (inab f a b) f m = 0) ∧ (k2 ≤ (m : Int) → smm (inab f a b) f m = smm (inab f a b) f k2.toNat) ∧ (k1 ≤ (m : Int) → (m : Int) < k2 → smm (inab f a b) f (m + 1) = smm (inab f a b) f m + f m) := by
  obtain ⟨a0, a1, a2, a3⟩ := h1
  obtain ⟨b0, b1, b2, b3⟩ := h2
  have h12 : k1 ≤ k2 := by
    rcases Int.lt_or_le k2 k1 with q | q
    · have := a2 k2 b0 q
      have := b3 k2 (Int.le_refl _) (by omega)
      omega
    · exact q
  have third : ∀ m : Nat, k1 ≤ (m : Int) → (m : Int) < k2 → smm (inab f a b) f (m + 1) = smm (inab f a b) f m + f m := by
    intro m h h'
    have q1 := a3 (m : Int) h (by omega)
    have q2 := b2 (m : Int) (by omega) h'
    show smm (inab f a b) f m + (if inab f a b (m : Int) then f (m : Int) else 0) = _
    rw [if_pos (by simp only [inab, decide_eq_true_eq]; exact ⟨q1, by omega⟩)]
  refine ⟨h12, fun m hm => ⟨?_, ?_, third m⟩⟩
  · induction m with
    | zero => intro _; rfl
    | succ m ih =>
      intro h
      have q := a2 (m : Int) (by omega) (by omega)
      show smm (inab f a b) f m + (if inab f a b (m : Int) then f (m : Int) else 0) = _
      rw [ih (by omega) (by omega), if_neg (by simp only [inab, decide_eq_true_eq]; omega)]
      rfl
  · induction m with
    | zero => intro h; rw [show k2.toNat = 0 by omega]
    | succ m ih =>
      intro h
      by_cases c : k2 ≤ (m : Int)
      · have q := b3 (m : Int) c (by omega)
        show smm (inab f a b) f m + (if inab f a b (m : Int) then f (m : Int) else 0) = _
        rw [ih (by omega) c, if_neg (by simp only [inab, decide_eq_true_eq]; omega)]
        omega
      · rw [show m + 1 = k2.toNat by omega]
/-- x comes in at place k / the key of place k goes -/
def Ins (n : Int) (f : Int → Int) (x k : Int) (h : Int → Int) : Prop := Bel n f x k ∧ (∀ i : Int, 0 ≤ i → i < k → h i = f i) ∧ h k = x ∧ ∀ i : Int, k < i → i ≤ n → h i = f (i - 1)
def Del (n : Int) (f : Int → Int) (x k : Int) (h : Int → Int) : Prop := 0 ≤ k ∧ k < n ∧ f k = x ∧ (∀ i : Int, 0 ≤ i → i < k → h i = f i) ∧ ∀ i : Int, k ≤ i → i < n - 1 → h i = f (i + 1)
theorem Bel.at {n : Int} {f : Int → Int} {x k : Int} (hk : Kr n f) (h : Bel n f x k) (hi : Inr n f x) : k < n ∧ f k = x := by
  obtain ⟨i, h0, h1, h2⟩ := hi
  obtain ⟨a0, a1, a2, a3⟩ := h
  rcases Int.lt_or_le i k with q | q
  · have := a2 i h0 q
    omega
  · have h4 : k < n := by omega
    have := hk.le a0 q h1
    have := a3 k (Int.le_refl _) h4
    exact ⟨h4, by omega⟩
