/-! ===== looking for a number near its guess ===== -/
def aw (k : Int) : Int := if k % 2 = 0 then k / 2 else -((k + 1) / 2)
def lkS (f : Int → Int) (x lo hi g : Int) : Nat → Int × Int
  | 0 => (-1, 0)
  | k + 1 => if (lkS f x lo hi g k).1 = -1 then (if lo ≤ g + aw (k : Int) ∧ g + aw (k : Int) ≤ hi then (if f (g + aw (k : Int)) = x then g + aw (k : Int) else -1, (lkS f x lo hi g k).2 + 1) else lkS f x lo hi g k) else lkS f x lo hi g k
theorem lkS_stop {f : Int → Int} {x lo hi g : Int} {k : Nat} (h : (lkS f x lo hi g k).1 ≠ -1) (j : Nat) : lkS f x lo hi g (k + j) = lkS f x lo hi g k := by
  induction j with
  | zero => rfl
  | succ j ih =>
    show (if (lkS f x lo hi g (k + j)).1 = -1 then _ else lkS f x lo hi g (k + j)) = _
    rw [ih, if_neg h]
theorem lkS_out {f : Int → Int} {x lo hi g : Int} {k : Nat} (h : (lkS f x lo hi g k).1 = -1) (c : ¬ (lo ≤ g + aw (k : Int) ∧ g + aw (k : Int) ≤ hi)) : lkS f x lo hi g (k + 1) = lkS f x lo hi g k := by
  show (if (lkS f x lo hi g k).1 = -1 then _ else lkS f x lo hi g k) = _
  rw [if_pos h, if_neg c]
theorem lkS_in {f : Int → Int} {x lo hi g : Int} {k : Nat} (h : (lkS f x lo hi g k).1 = -1) (c : lo ≤ g + aw (k : Int) ∧ g + aw (k : Int) ≤ hi) : lkS f x lo hi g (k + 1) = (if f (g + aw (k : Int)) = x then g + aw (k : Int) else -1, (lkS f x lo hi g k).2 + 1) := by
  show (if (lkS f x lo hi g k).1 = -1 then _ else lkS f x lo hi g k) = _
  rw [if_pos h, if_pos c]
/-- what a look for x comes to: met, seen -/
def LkR (f : Int → Int) (e n x mt sn : Int) : Prop := (n = 0 ∧ mt = -1 ∧ sn = 0) ∨ (1 ≤ n ∧ ∃ p : Int, Pf (PM f e n) (P2 f e n) x p ∧ (mt, sn) = lkS f x (P0 f e n p) (P1 f e n p) (gs f e n p x) (2 * e + 1).toNat)
theorem LkR.uniq {f : Int → Int} {e n x mt sn mt' sn' : Int} (a : LkR f e n x mt sn) (b : LkR f e n x mt' sn') : mt = mt' ∧ sn = sn' := by
  rcases a with ⟨a1, a2, a3⟩ | ⟨a1, p, a2, a3⟩ <;> rcases b with ⟨b1, b2, b3⟩ | ⟨b1, q, b2, b3⟩
  · omega
  · omega
  · omega
  · have e1 := a2.uniq b2
    subst e1
    rw [← b3] at a3
    exact ⟨congrArg Prod.fst a3, congrArg Prod.snd a3⟩
theorem Ht.zero {x : Int → Int} {e n h : Int} (hn : 0 ≤ n) (a : Ht x e n h) : (h = 0 ↔ n = 0) ∧ 0 ≤ h := by
  rcases a with ⟨a1, a2⟩ | ⟨a1, a2, _⟩ <;> omega
