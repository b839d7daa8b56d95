/-! ===== a tower grows ===== -/
theorem pc_of {x bf : Int → Int} {e n : Int} {F L N D : Int → Int} (hn : 0 ≤ n) (h : Cut4 x e n F L N D) (ha : Agr n bf x) {j : Int} (h0 : 0 ≤ j) (h1 : j < F 0) : frm L j.toNat = P0 x e n j ∧ L (frm L j.toNat) = P1 x e n j ∧ bf (frm L j.toNat) = P2 x e n j ∧ N (frm L j.toNat) / gcdI (N (frm L j.toNat)) (D (frm L j.toNat)) = P3 x e n j ∧ D (frm L j.toNat) / gcdI (N (frm L j.toNat)) (D (frm L j.toNat)) = P4 x e n j := by
  have q := cQ_of h
  have a := h.lt hn (k := j.toNat) (by omega)
  have e0 : frm L j.toNat = P0 x e n j := frm_congr hn h (fun i i0 i1 => (q.2 i i0 i1).1) j.toNat (by omega)
  have b := q.2 _ a.1 a.2
  refine ⟨e0, ?_, ?_, ?_, ?_⟩
  · rw [b.1, e0]; rfl
  · rw [ha _ a.1 a.2, e0]; rfl
  · rw [b.2.1, b.2.2, e0]; rfl
  · rw [b.2.1, b.2.2, e0]; rfl
theorem pm_of {x : Int → Int} {e n : Int} {F L N D : Int → Int} (hn : 0 ≤ n) (h : Cut4 x e n F L N D) : F 0 = PM x e n := (cQ_of h).1 0 (Int.le_refl _) hn
theorem TwP.F {x : Int → Int} {e n z : Int} {t : Nat} {S A0 A1 A2 A3 A4 : Int → Int} (h : TwP x e n t z S A0 A1 A2 A3 A4) (he : 0 ≤ e) (hz : z ≤ 60) (ht : t ≤ 10) {v : Int} (hv : v = (t : Int)) : TwF v z S := by
  have m := St_mono (x := x) (n := n) he (t := t) (fun s q => (h.2.2 s q).1)
  have mt := m t (Nat.le_refl _)
  refine ⟨by omega, by omega, by rw [h.1]; exact mt.1, hz, fun s s0 s1 => ?_⟩
  have a := m s.toNat (by omega)
  have b := m (s.toNat + 1) (by omega)
  have a2 := h.2.1 (by omega) s.toNat (by omega)
  have b2 := h.2.1 (by omega) (s.toNat + 1) (by omega)
  have c := ((h.2.2 s.toNat (by omega)).1).pm he
  have d : St x e n (s.toNat + 1) = St x e n s.toNat + PM (lvl x e n s.toNat).1 e (lvl x e n s.toNat).2 := rfl
  rw [show ((s.toNat : Nat) : Int) = s by omega] at a2
  rw [show ((s.toNat + 1 : Nat) : Int) = s + 1 by omega] at b2
  rw [a2, b2, h.1]
  exact ⟨a.1, by omega, b.2⟩
theorem TwP.step {x : Int → Int} {e n z z' : Int} {t : Nat} {S A0 A1 A2 A3 A4 B0 B1 B2 B3 B4 : Int → Int} (he : 0 ≤ e) (h : TwP x e n t z S A0 A1 A2 A3 A4) (ho : LvOK (lvl x e n t).1 e (lvl x e n t).2) (hz : z' = z + PM (lvl x e n t).1 e (lvl x e n t).2)
    (o0 : ∀ j : Int, 0 ≤ j → j < z → B0 j = A0 j) (o1 : ∀ j : Int, 0 ≤ j → j < z → B1 j = A1 j) (o2 : ∀ j : Int, 0 ≤ j → j < z → B2 j = A2 j) (o3 : ∀ j : Int, 0 ≤ j → j < z → B3 j = A3 j) (o4 : ∀ j : Int, 0 ≤ j → j < z → B4 j = A4 j)
    (hp : ∀ j : Int, 0 ≤ j → j < PM (lvl x e n t).1 e (lvl x e n t).2 → B0 (z + j) = P0 (lvl x e n t).1 e (lvl x e n t).2 j ∧ B1 (z + j) = P1 (lvl x e n t).1 e (lvl x e n t).2 j ∧ B2 (z + j) = P2 (lvl x e n t).1 e (lvl x e n t).2 j ∧ B3 (z + j) = P3 (lvl x e n t).1 e (lvl x e n t).2 j ∧ B4 (z + j) = P4 (lvl x e n t).1 e (lvl x e n t).2 j) :
    TwP x e n (t + 1) z' (up (up S (t : Int) z) ((t : Int) + 1) z') B0 B1 B2 B3 B4 := by
  obtain ⟨h1, h2, h3⟩ := h
  have m := St_mono (x := x) (n := n) he (t := t) (fun s q => (h3 s q).1)
  have ez : St x e n (t + 1) = St x e n t + PM (lvl x e n t).1 e (lvl x e n t).2 := rfl
  refine ⟨by rw [hz, h1, ez], fun _ s hs => ?_, fun s hs => ?_⟩
  · by_cases q : s = t + 1
    · rw [q, show (((t + 1 : Nat)) : Int) = (t : Int) + 1 by omega, up_eq, hz, h1, ez]
    · rw [up_ne _ _ (by omega)]
      by_cases q2 : s = t
      · rw [q2, up_eq, h1]
      · rw [up_ne _ _ (by omega)]
        exact h2 (by omega) s (by omega)
  · by_cases q : s = t
    · rw [q]
      refine ⟨ho, fun k k0 k1 => ?_⟩
      rw [← h1]
      exact hp k k0 k1
    · have g := h3 s (by omega)
      have gp := g.1.pm he
      have a := m (s + 1) (by omega)
      have b := m s (by omega)
      have ea : St x e n (s + 1) = St x e n s + PM (lvl x e n s).1 e (lvl x e n s).2 := rfl
      refine ⟨g.1, fun k k0 k1 => ?_⟩
      have c := g.2 k k0 k1
      rw [o0 _ (by omega) (by omega), o1 _ (by omega) (by omega), o2 _ (by omega) (by omega), o3 _ (by omega) (by omega), o4 _ (by omega) (by omega)]
      exact c
/-- a level is to be laid: its keys stand in the base -/
def LvGo (x : Int → Int) (e n : Int) (t : Nat) (bn : Int) (bf : Int → Int) : Prop := 1 ≤ n ∧ bn = (lvl x e n t).2 ∧ 1 ≤ bn ∧ Kr bn (lvl x e n t).1 ∧ Agr bn bf (lvl x e n t).1 ∧ (∀ s : Nat, 1 ≤ s → s ≤ t → 1 < (lvl x e n s).2) ∧ St x e n t + tb bn ≤ 60 ∧ (t : Int) + lb bn ≤ 6
theorem LvGo.first {x bf : Int → Int} {e n : Int} (hk : Kr n x) (h1 : 1 ≤ n) (ha : Agr n bf x) : LvGo x e n 0 n bf := by
  have n60 := hk.2.1
  refine ⟨h1, rfl, h1, hk, ha, fun s s1 s2 => absurd s1 (by omega), ?_, ?_⟩
  · show (0 : Int) + tb n ≤ 60
    unfold tb
    repeat' split
    all_goals omega
  · unfold lb
    repeat' split
    all_goals omega
theorem LvGo.next {x bf bf' : Int → Int} {e n bn w : Int} {t : Nat} (he : 0 ≤ e) (h : LvGo x e n t bn bf) (ho : LvOK (lvl x e n t).1 e (lvl x e n t).2) (hw : w = PM (lvl x e n t).1 e (lvl x e n t).2) (h1 : 1 < w) (hf : ∀ j : Int, 0 ≤ j → j < w → bf' j = P2 (lvl x e n t).1 e (lvl x e n t).2 j) : LvGo x e n (t + 1) w bf' := by
  obtain ⟨a1, a2, a3, a4, a5, a6, a7, a8⟩ := h
  have p := ho.pm he
  have n60 := a4.2.1
  have tbs := tb_s (n := bn) (m := w) n60 h1 (by rw [hw, a2]; exact p.2)
  refine ⟨a1, hw, by omega, ?_, hf, fun s s1 s2 => ?_, ?_, ?_⟩
  · have := ho.next he
    rw [hw]
    exact this
  · by_cases q : s = t + 1
    · rw [q]
      show 1 < PM (lvl x e n t).1 e (lvl x e n t).2
      omega
    · exact a6 s s1 (by omega)
  · show St x e n t + PM (lvl x e n t).1 e (lvl x e n t).2 + tb w ≤ 60
    omega
  · omega
theorem LvGo.last {x bf : Int → Int} {e n bn w : Int} {t : Nat} (he : 0 ≤ e) (h : LvGo x e n t bn bf) (hw : w = PM (lvl x e n t).1 e (lvl x e n t).2) (h1 : w ≤ 1) : Ht x e n ((t : Int) + 1) := by
  obtain ⟨a1, a2, a3, a4, a5, a6, a7, a8⟩ := h
  refine Or.inr ⟨a1, by omega, fun s s1 s2 => a6 s s1 (by omega), ?_⟩
  rw [show ((t : Int) + 1).toNat = t + 1 by omega]
  show PM (lvl x e n t).1 e (lvl x e n t).2 ≤ 1
  omega
theorem LvGo.ok {x bf : Int → Int} {e n bn : Int} {t : Nat} {F L N D : Int → Int} (h : LvGo x e n t bn bf) (hc : Cut4 bf e bn F L N D) : LvOK (lvl x e n t).1 e (lvl x e n t).2 ∧ Cut4 (lvl x e n t).1 e bn F L N D := by
  obtain ⟨a1, a2, a3, a4, a5, a6, a7, a8⟩ := h
  have c := hc.congr a5
  refine ⟨?_, c⟩
  rw [← a2]
  exact ⟨a4, a3, cQ_cut c⟩
/-- the piece for a number -/
def Pf (m : Int) (f : Int → Int) (x p : Int) : Prop := 0 ≤ p ∧ p < m ∧ (∀ q : Int, 1 ≤ q → q ≤ p → f q ≤ x) ∧ ∀ q : Int, p < q → q < m → x < f q
theorem Pf.uniq {m : Int} {f : Int → Int} {x p p' : Int} (h : Pf m f x p) (h' : Pf m f x p') : p = p' := by
  rcases Int.lt_trichotomy p p' with q | q | q
  · have a := h.2.2.2 p' q h'.2.1
    have b := h'.2.2.1 p' (by have := h.1; omega) (Int.le_refl _)
    omega
  · exact q
  · have a := h'.2.2.2 p q h.2.1
    have b := h.2.2.1 p (by have := h'.1; omega) (Int.le_refl _)
    omega
/-- the guess by piece p -/
noncomputable def gs (f : Int → Int) (e n p x : Int) : Int := max (P0 f e n p) (min (P1 f e n p) (P0 f e n p + P3 f e n p * (x - P2 f e n p) / P4 f e n p))
theorem TwR.l0 {x : Int → Int} {e n h sz : Int} {S A0 A1 A2 A3 A4 : Int → Int} (he : 0 ≤ e) (H : TwR x e n h sz S A0 A1 A2 A3 A4) (h1 : 1 ≤ h) : LvOK x e n ∧ S 0 = 0 ∧ S 1 = PM x e n ∧ PM x e n ≤ sz ∧ ∀ k : Int, 0 ≤ k → k < PM x e n → A0 k = P0 x e n k ∧ A1 k = P1 x e n k ∧ A2 k = P2 x e n k ∧ A3 k = P3 x e n k ∧ A4 k = P4 x e n k := by
  obtain ⟨a1, a2, a3, a4, a5, a6, a7⟩ := H
  have b := a7 0 (by omega)
  have c0 := a6 (by omega) 0 (by omega)
  have c1 := a6 (by omega) 1 (by omega)
  have e1 : St x e n 1 = PM x e n := by show (0 : Int) + PM x e n = PM x e n; omega
  refine ⟨b.1, c0, by rw [← e1]; exact c1, ?_, fun k k0 k1 => ?_⟩
  · have m := St_mono (x := x) (n := n) he (t := h.toNat) (fun s q => (a7 s q).1) 1 (by omega)
    rw [a5, ← e1]
    exact m.2
  · have := b.2 k k0 k1
    have e0 : St x e n 0 + k = k := by show (0 : Int) + k = k; omega
    rw [e0] at this
    exact this
