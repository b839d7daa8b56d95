/-! ===== the filter's bits ===== -/
theorem sh1 : ∀ k : Fin 64, ((1 : Int64) <<< ((iI ((k.val : Nat) : Int)).toInt64 &&& 63)).toBitVec = BitVec.twoPow 64 k.val := by decide +kernel
/-- the two bits of x -/
def bo (x : Int) : Int64 := ((1 : Int64) <<< ((iI (x % 61)).toInt64 &&& 63)) ||| ((1 : Int64) <<< ((iI (x / 61 % 64)).toInt64 &&& 63))
theorem bo_bit {x : Int} (hx : 0 ≤ x) {j : Int} (h0 : 0 ≤ j) (h1 : j < 64) : (bo x).toBitVec.getLsbD j.toNat = (decide (j = x % 61) || decide (j = x / 61 % 64)) := by
  have a1 : 0 ≤ x % 61 := Int.emod_nonneg _ (by omega)
  have a2 : x % 61 < 61 := Int.emod_lt_of_pos _ (by omega)
  have b1 : 0 ≤ x / 61 % 64 := Int.emod_nonneg _ (by omega)
  have b2 : x / 61 % 64 < 64 := Int.emod_lt_of_pos _ (by omega)
  have s1 := sh1 ⟨(x % 61).toNat, by omega⟩
  have s2 := sh1 ⟨(x / 61 % 64).toNat, by omega⟩
  simp only [Int.toNat_of_nonneg a1] at s1
  simp only [Int.toNat_of_nonneg b1] at s2
  unfold bo
  rw [Int64.toBitVec_or, BitVec.getLsbD_or, s1, s2, BitVec.getLsbD_twoPow, BitVec.getLsbD_twoPow]
  have e1 : (x % 61).toNat < 64 := by omega
  have e2 : (x / 61 % 64).toNat < 64 := by omega
  have e3 : ((x % 61).toNat = j.toNat) ↔ (j = x % 61) := by omega
  have e4 : ((x / 61 % 64).toNat = j.toNat) ↔ (j = x / 61 % 64) := by omega
  simp only [e1, e2, e3, e4, decide_true, Bool.true_and]
/-- the long b holds the bits B -/
def FB (b : Int64) (B : Int → Bool) : Prop := ∀ j : Int, 0 ≤ j → j < 64 → b.toBitVec.getLsbD j.toNat = B j
def setB (B : Int → Bool) (x : Int) : Int → Bool := up (up B (x % 61) true) (x / 61 % 64) true
def MB (B : Int → Bool) (x : Int) : Prop := B (x % 61) = true ∧ B (x / 61 % 64) = true
theorem FB.zero : FB 0 (fun _ => false) := fun j _ _ => by
  show (0#64).getLsbD j.toNat = false
  simp
theorem FB.set {b : Int64} {B : Int → Bool} (h : FB b B) {x : Int} (hx : 0 ≤ x) : FB (b ||| bo x) (setB B x) := by
  intro j h0 h1
  rw [Int64.toBitVec_or, BitVec.getLsbD_or, h j h0 h1, bo_bit hx h0 h1]
  unfold setB up
  by_cases q1 : j = x / 61 % 64
  · simp [q1]
  · by_cases q2 : j = x % 61
    · simp [q1, q2]
    · simp [q1, q2]
theorem FB.pass {b : Int64} {B : Int → Bool} (h : FB b B) {x : Int} (hx : 0 ≤ x) : b &&& bo x = bo x ↔ MB B x := by
  have a1 : 0 ≤ x % 61 := Int.emod_nonneg _ (by omega)
  have a2 : x % 61 < 61 := Int.emod_lt_of_pos _ (by omega)
  have b1 : 0 ≤ x / 61 % 64 := Int.emod_nonneg _ (by omega)
  have b2 : x / 61 % 64 < 64 := Int.emod_lt_of_pos _ (by omega)
  constructor
  · intro e
    have key : ∀ j : Int, 0 ≤ j → j < 64 → (j = x % 61 ∨ j = x / 61 % 64) → B j = true := by
      intro j h0 h1 hj
      have q := congrArg (fun v : Int64 => v.toBitVec.getLsbD j.toNat) e
      simp only [Int64.toBitVec_and, BitVec.getLsbD_and, h j h0 h1, bo_bit hx h0 h1] at q
      rcases hj with hj | hj <;> simpa [hj] using q
    exact ⟨key _ a1 (by omega) (Or.inl rfl), key _ b1 b2 (Or.inr rfl)⟩
  · intro ⟨m1, m2⟩
    apply Int64.toBitVec_inj.mp
    apply BitVec.eq_of_getLsbD_eq
    intro i hi
    have q := bo_bit hx (j := (i : Int)) (by omega) (by omega)
    have q2 := h (i : Int) (by omega) (by omega)
    rw [Int.toNat_natCast] at q q2
    rw [Int64.toBitVec_and, BitVec.getLsbD_and, q, q2]
    by_cases e1 : (i : Int) = x % 61
    · rw [e1, m1]; simp
    · by_cases e2 : (i : Int) = x / 61 % 64
      · rw [e2, m2]; simp
      · simp [e1, e2]
/-- the bits of the first k keys -/
def mkB (f : Int → Int) : Nat → Int → Bool
  | 0 => fun _ => false
  | k + 1 => setB (mkB f k) (f (k : Int))
theorem mkB_s (f : Int → Int) {k : Int} (h : 0 ≤ k) : mkB f (k + 1).toNat = setB (mkB f k.toNat) (f k) := by
  rw [show (k + 1).toNat = k.toNat + 1 by omega, mkB, Int.toNat_of_nonneg h]
theorem setB_mb (B : Int → Bool) (x : Int) : MB (setB B x) x := by
  unfold MB setB up
  constructor
  · split
    · rfl
    · simp
  · simp
theorem setB_keep {B : Int → Bool} {x y : Int} (h : MB B y) : MB (setB B x) y := by
  unfold MB setB up at *
  constructor
  · split
    · rfl
    · split
      · rfl
      · exact h.1
  · split
    · rfl
    · split
      · rfl
      · exact h.2
theorem mkB_mb {f : Int → Int} {n : Nat} {i : Int} (h0 : 0 ≤ i) (h1 : i < n) : MB (mkB f n) (f i) := by
  induction n with
  | zero => omega
  | succ n ih =>
    rw [mkB]
    by_cases q : i = (n : Int)
    · rw [q]; exact setB_mb _ _
    · exact setB_keep (ih (by omega))
theorem mkB_congr {f h : Int → Int} (n : Nat) (a : Agr (n : Int) f h) : mkB f n = mkB h n := by
  induction n with
  | zero => rfl
  | succ n ih => rw [mkB, mkB, ih (a.le (by omega)), a (n : Int) (by omega) (by omega)]
