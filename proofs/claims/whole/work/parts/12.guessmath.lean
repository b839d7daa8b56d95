/-! ===== what KeyGuess's calls answer ===== -/
theorem TwR.at {x : Int → Int} {e n h sz t : Int} {S A0 A1 A2 A3 A4 : Int → Int} (H : TwR x e n h sz S A0 A1 A2 A3 A4) (h0 : 0 ≤ t) (h1 : t < h) : S (t + 1) - S t = PM (lvl x e n t.toNat).1 e (lvl x e n t.toNat).2 ∧ ∀ k : Int, 0 ≤ k → k < PM (lvl x e n t.toNat).1 e (lvl x e n t.toNat).2 → A0 (S t + k) = P0 (lvl x e n t.toNat).1 e (lvl x e n t.toNat).2 k ∧ A1 (S t + k) = P1 (lvl x e n t.toNat).1 e (lvl x e n t.toNat).2 k ∧ A2 (S t + k) = P2 (lvl x e n t.toNat).1 e (lvl x e n t.toNat).2 k ∧ A3 (S t + k) = P3 (lvl x e n t.toNat).1 e (lvl x e n t.toNat).2 k ∧ A4 (S t + k) = P4 (lvl x e n t.toNat).1 e (lvl x e n t.toNat).2 k := by
  obtain ⟨a1, a2, a3, a4, a5, a6, a7⟩ := H
  have b := a7 t.toNat (by omega)
  have c0 := a6 (by omega) t.toNat (by omega)
  have c1 := a6 (by omega) (t.toNat + 1) (by omega)
  rw [show ((t.toNat : Nat) : Int) = t by omega] at c0
  rw [show ((t.toNat + 1 : Nat) : Int) = t + 1 by omega] at c1
  have e1 : St x e n (t.toNat + 1) = St x e n t.toNat + PM (lvl x e n t.toNat).1 e (lvl x e n t.toNat).2 := rfl
  refine ⟨by rw [c0, c1, e1]; omega, fun k k0 k1 => ?_⟩
  rw [c0]
  exact b.2 k k0 k1
theorem Inr.congr {n : Int} {f h : Int → Int} {x : Int} (a : Agr n f h) (q : Inr n f x) : Inr n h x := by
  obtain ⟨i, i0, i1, i2⟩ := q
  exact ⟨i, i0, i1, by rw [← a i i0 i1]; exact i2⟩
theorem Bel.congr {n : Int} {f h : Int → Int} {x k : Int} (a : Agr n f h) (q : Bel n f x k) : Bel n h x k :=
  ⟨q.1, q.2.1, fun i i0 i1 => by rw [← a i i0 (by have := q.2.1; omega)]; exact q.2.2.1 i i0 i1, fun i i0 i1 => by rw [← a i (by have := q.1; omega) i1]; exact q.2.2.2 i i0 i1⟩
theorem Ins.congr {n : Int} {f f' h : Int → Int} {x k : Int} (q : Ins n f x k h) (a : Agr n f f') : Ins n f' x k h :=
  ⟨q.1.congr a, fun i i0 i1 => by rw [q.2.1 i i0 i1]; exact a i i0 (by have := q.1.2.1; omega), q.2.2.1, fun i i0 i1 => by rw [q.2.2.2 i i0 i1]; exact a (i - 1) (by have := q.1.1; omega) (by omega)⟩
theorem Ins.kr {n : Int} {f h : Int → Int} {x k : Int} (q : Ins n f x k h) (hk : Kr n f) (hn : n < 60) (hx : 0 ≤ x ∧ x ≤ 1000000) (hi : ¬ Inr n f x) : Kr (n + 1) h := by
  obtain ⟨⟨k0, k1, k2, k3⟩, q1, q2, q3⟩ := q
  have k4 : ∀ i : Int, k ≤ i → i < n → x < f i := fun i i0 i1 => by
    have a := k3 i i0 i1
    rcases Int.lt_or_eq_of_le a with z | z
    · exact z
    · exact absurd ⟨i, by omega, i1, z.symm⟩ hi
  have n0 := hk.1
  refine ⟨by omega, by omega, fun i i0 i1 => ?_, fun i j i0 i1 i2 => ?_⟩
  · rcases Int.lt_trichotomy i k with z | z | z
    · rw [q1 i i0 z]; exact hk.2.2.1 i i0 (by omega)
    · rw [z, q2]; exact hx
    · rw [q3 i z (by omega)]; exact hk.2.2.1 (i - 1) (by omega) (by omega)
  · rcases Int.lt_trichotomy i k with z | z | z
    · rw [q1 i i0 z]
      rcases Int.lt_trichotomy j k with w | w | w
      · rw [q1 j (by omega) w]; exact hk.2.2.2 i j i0 i1 (by omega)
      · rw [w, q2]; exact k2 i i0 z
      · rw [q3 j w (by omega)]
        have a := k2 i i0 z
        have b := k4 (j - 1) (by omega) (by omega)
        omega
    · rw [z, q2, q3 j (by omega) (by omega)]
      exact k4 (j - 1) (by omega) (by omega)
    · rw [q3 i z (by omega), q3 j (by omega) (by omega)]
      exact hk.2.2.2 (i - 1) (j - 1) (by omega) (by omega) (by omega)
/-- how many of the n are below x -/
def belC (n : Int) (f : Int → Int) (x : Int) : Int := cnt (fun i => decide (f i < x)) n.toNat
theorem Bel.bc {n : Int} {f : Int → Int} {x k : Int} (q : Bel n f x k) : k = belC n f x := by
  obtain ⟨k0, k1, k2, k3⟩ := q
  have key : ∀ m : Nat, (m : Int) ≤ n → cnt (fun i => decide (f i < x)) m = min (m : Int) k := by
    intro m
    induction m with
    | zero => intro _; show (0 : Int) = _; omega
    | succ m ih =>
      intro hm
      rw [cnt, ih (by omega)]
      by_cases c : (m : Int) < k
      · rw [if_pos (by simp only [decide_eq_true_eq]; exact k2 m (by omega) c)]; omega
      · rw [if_neg (by simp only [decide_eq_true_eq]; have := k3 m (by omega) (by omega); omega)]; omega
  unfold belC
  rw [key n.toNat (by omega)]
  omega
def insF (f : Int → Int) (x k : Int) : Int → Int := fun i => if i < k then f i else if i = k then x else f (i - 1)
theorem Ins.agr {n : Int} {f h : Int → Int} {x k : Int} (q : Ins n f x k h) : Agr (n + 1) h (insF f x k) := by
  obtain ⟨_, q1, q2, q3⟩ := q
  intro i i0 i1
  unfold insF
  rcases Int.lt_trichotomy i k with z | z | z
  · rw [if_pos z]; exact q1 i i0 z
  · rw [if_neg (by omega), if_pos z, z]; exact q2
  · rw [if_neg (by omega), if_neg (by omega)]; exact q3 i z (by omega)
/-- how many pieces there would be with x -/
noncomputable def pw (n : Int) (f : Int → Int) (e x : Int) : Int := PM (insF f x (belC n f x)) e (n + 1)
theorem Ins.pwq {n : Int} {f h : Int → Int} {x k e : Int} (q : Ins n f x k h) (_ : Kr n f) : PM h e (n + 1) = pw n f e x := by
  have a := q.agr
  rw [q.1.bc] at a
  show (cQ h e (n + 1)).1 0 = (cQ (insF f x (belC n f x)) e (n + 1)).1 0
  rw [cQ_congr a]
def mbb (B : Int → Bool) (x : Int) : Bool := B (x % 61) && B (x / 61 % 64)
theorem mbb_t {B : Int → Bool} {x : Int} (h : MB B x) : mbb B x = true := by unfold mbb; rw [h.1, h.2]; rfl
theorem mbb_f {B : Int → Bool} {x : Int} (h : ¬ MB B x) : ¬ mbb B x = true := fun q => h (by
  unfold mbb at q
  rw [Bool.and_eq_true] at q
  exact q)
/-- the worst number so far, and how many pieces by it -/
noncomputable def psn (n : Int) (f : Int → Int) (e u : Int) : Nat → Int × Int
  | 0 => (-1, -1)
  | j + 1 => @ite _ (Inr n f (u + (j : Int))) (Classical.propDecidable _) (psn n f e u j) (if (psn n f e u j).2 < pw n f e (u + (j : Int)) then (u + (j : Int), pw n f e (u + (j : Int))) else psn n f e u j)
theorem psn_t {n : Int} {f : Int → Int} {e u w m : Int} {j : Nat} (h : (w, m) = psn n f e u j) (c : Inr n f (u + (j : Int))) : psn n f e u (j + 1) = (w, m) := by
  rw [psn, if_pos c, h]
theorem psn_f {n : Int} {f : Int → Int} {e u w m : Int} {j : Nat} (h : (w, m) = psn n f e u j) (c : ¬ Inr n f (u + (j : Int))) (d : ¬ m < pw n f e (u + (j : Int))) : psn n f e u (j + 1) = (w, m) := by
  rw [psn, if_neg c, ← h, if_neg d]
theorem psn_u {n : Int} {f : Int → Int} {e u w m : Int} {j : Nat} (h : (w, m) = psn n f e u j) (c : ¬ Inr n f (u + (j : Int))) (d : m < pw n f e (u + (j : Int))) : psn n f e u (j + 1) = (u + (j : Int), pw n f e (u + (j : Int))) := by
  rw [psn, if_neg c, ← h, if_pos d]
