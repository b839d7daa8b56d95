/-! ===== levels of pieces over pieces: one mathematical value ===== -/
/-- what the ranks of n keys have, by the fewest pieces: fewest from a rank, last rank, slope -/
noncomputable def cQ (x : Int → Int) (e n : Int) : (Int → Int) × (Int → Int) × (Int → Int) × (Int → Int) := Classical.epsilon (fun q : (Int → Int) × (Int → Int) × (Int → Int) × (Int → Int) => Cut4 x e n q.1 q.2.1 q.2.2.1 q.2.2.2)
def CutC (x : Int → Int) (e n : Int) : Prop := Cut4 x e n (cQ x e n).1 (cQ x e n).2.1 (cQ x e n).2.2.1 (cQ x e n).2.2.2
theorem cQ_cut {x : Int → Int} {e n : Int} {F L N D : Int → Int} (h : Cut4 x e n F L N D) : CutC x e n := Classical.epsilon_spec (p := fun q : (Int → Int) × (Int → Int) × (Int → Int) × (Int → Int) => Cut4 x e n q.1 q.2.1 q.2.2.1 q.2.2.2) ⟨(F, L, N, D), h⟩
theorem cQ_of {x : Int → Int} {e n : Int} {F L N D : Int → Int} (h : Cut4 x e n F L N D) : (∀ i : Int, 0 ≤ i → i ≤ n → F i = (cQ x e n).1 i) ∧ ∀ i : Int, 0 ≤ i → i < n → L i = (cQ x e n).2.1 i ∧ N i = (cQ x e n).2.2.1 i ∧ D i = (cQ x e n).2.2.2 i := Cut4.uniq h (cQ_cut h)
theorem Cut4.congr {x y : Int → Int} {e n : Int} {F L N D : Int → Int} (h : Agr n x y) (k : Cut4 x e n F L N D) : Cut4 y e n F L N D := ⟨k.1, fun i h0 h1 => (k.2 i h0 h1).congr h h0 (fun _ _ _ => rfl)⟩
theorem cQ_congr {x y : Int → Int} {e n : Int} (h : Agr n x y) : cQ x e n = cQ y e n := by
  unfold cQ
  congr 1
  funext q
  exact propext ⟨fun k => k.congr h, fun k => k.congr h.symm⟩
def frm (L : Int → Int) : Nat → Int
  | 0 => 0
  | k + 1 => L (frm L k) + 1
theorem Cut4.at {x : Int → Int} {e n : Int} {F L N D : Int → Int} (h : Cut4 x e n F L N D) {i : Int} (h0 : 0 ≤ i) (h1 : i < n) : i ≤ L i ∧ L i < n ∧ F i = F (L i + 1) + 1 := by
  obtain ⟨d, d1, d2, d3, d4, _⟩ := h.2 i h0 h1
  rw [d3]
  exact ⟨by omega, d1, d4⟩
theorem Cut4.sl {x : Int → Int} {e n : Int} {F L N D : Int → Int} (hk : Kr n x) (he : 0 ≤ e) (h : Cut4 x e n F L N D) {i : Int} (h0 : 0 ≤ i) (h1 : i < n) : 0 ≤ N i ∧ N i ≤ 60 ∧ 1 ≤ D i ∧ D i ≤ 1000000 := by
  obtain ⟨d, d1, d2, d3, d4, _, _, d7, d8⟩ := h.2 i h0 h1
  rw [d7, d8]
  exact lw_rg hk he h0 d d1
theorem Cut4.fb {x : Int → Int} {e n : Int} {F L N D : Int → Int} (h : Cut4 x e n F L N D) : ∀ i : Int, 0 ≤ i → i ≤ n → 0 ≤ F i ∧ F i ≤ n - i ∧ (i < n → 1 ≤ F i) := by
  have key : ∀ k : Nat, ∀ i : Int, 0 ≤ i → i ≤ n → n - i ≤ (k : Int) → 0 ≤ F i ∧ F i ≤ n - i ∧ (i < n → 1 ≤ F i) := by
    intro k
    induction k with
    | zero =>
      intro i h0 h1 h2
      rw [show i = n by omega, h.1]
      omega
    | succ k ih =>
      intro i h0 h1 h2
      by_cases q : i = n
      · rw [q, h.1]; omega
      · have a := h.at h0 (by omega)
        have b := ih (L i + 1) (by omega) (by omega) (by omega)
        omega
  exact fun i h0 h1 => key (n - i).toNat i h0 h1 (by omega)
theorem okd_1 {n : Int} {x : Int → Int} (hk : Kr n x) {e i : Int} (he : 0 ≤ e) (h0 : 0 ≤ i) (h1 : i + 1 < n) : okd x e i 1 := by
  intro m m1 m2
  have hm : m = 1 := by omega
  subst hm
  intro k k1 k2
  have hkk : k = 1 := by omega
  subst hkk
  have w := hk.gap h0 (j := i + 1) (by omega) h1
  show (lw x e i 1).1 * (x (i + ((1 : Nat) : Int)) - x i) ≤ (((1 : Nat) : Int) + e) * (lw x e i 1).2
  rw [show i + ((1 : Nat) : Int) = i + 1 by omega]
  by_cases q : e = 0
  · have e1 := lw_t (x := x) (e := e) (i := i) (d := 0) (j := i + 1) (by omega) (by show (0 : Int) * (x (i + 1) - x i) < (i + 1 - i - e) * 1; rw [Int.zero_mul]; omega)
    rw [e1]
    show (i + 1 - i - e) * (x (i + 1) - x i) ≤ (((1 : Nat) : Int) + e) * (x (i + 1) - x i)
    rw [show i + 1 - i - e = ((1 : Nat) : Int) + e by omega]
    exact Int.le_refl _
  · have e1 := lw_f (x := x) (e := e) (i := i) (d := 0) (j := i + 1) (by omega) (by show ¬ (0 : Int) * (x (i + 1) - x i) < (i + 1 - i - e) * 1; rw [Int.zero_mul]; omega)
    rw [e1]
    show (0 : Int) * (x (i + 1) - x i) ≤ (((1 : Nat) : Int) + e) * 1
    rw [Int.zero_mul]
    omega
theorem Cut4.half {x : Int → Int} {e n : Int} {F L N D : Int → Int} (hk : Kr n x) (he : 0 ≤ e) (h : Cut4 x e n F L N D) : ∀ i : Int, 0 ≤ i → i ≤ n → 2 * F i ≤ n - i + 1 := by
  have key : ∀ k : Nat, ∀ i : Int, 0 ≤ i → i ≤ n → n - i ≤ (k : Int) → 2 * F i ≤ n - i + 1 := by
    intro k
    induction k with
    | zero =>
      intro i h0 h1 h2
      rw [show i = n by omega, h.1]
      omega
    | succ k ih =>
      intro i h0 h1 h2
      by_cases q : i = n
      · rw [q, h.1]; omega
      · obtain ⟨d, d1, d2, d3, d4, d5, _⟩ := h.2 i h0 (by omega)
        by_cases q2 : i + 1 = n
        · have a := d5 0 (okd_0 _ _ _) (by omega)
          rw [show i + ((0 : Nat) : Int) + 1 = n by omega, h.1] at a
          omega
        · have a := d5 1 (okd_1 hk he h0 (by omega)) (by omega)
          rw [show i + ((1 : Nat) : Int) + 1 = i + 2 by omega] at a
          have b := ih (i + 2) (by omega) (by omega) (by omega)
          omega
  exact fun i h0 h1 => key (n - i).toNat i h0 h1 (by omega)
/-- the pieces one behind the other -/
theorem Cut4.chain {x : Int → Int} {e n : Int} {F L N D : Int → Int} (hn : 0 ≤ n) (h : Cut4 x e n F L N D) (k : Nat) : (k : Int) ≤ F 0 → 0 ≤ frm L k ∧ frm L k ≤ n ∧ F (frm L k) = F 0 - (k : Int) := by
  induction k with
  | zero => intro _; exact ⟨Int.le_refl _, hn, by show F 0 = _; omega⟩
  | succ k ih =>
    intro hk
    obtain ⟨a1, a2, a3⟩ := ih (by omega)
    have b := h.fb _ a1 a2
    have hlt : frm L k < n := by
      rcases Int.lt_or_le (frm L k) n with q | q
      · exact q
      · rw [show frm L k = n by omega, h.1] at a3
        omega
    have c := h.at a1 hlt
    show 0 ≤ L (frm L k) + 1 ∧ L (frm L k) + 1 ≤ n ∧ F (L (frm L k) + 1) = _
    omega
theorem Cut4.lt {x : Int → Int} {e n : Int} {F L N D : Int → Int} (hn : 0 ≤ n) (h : Cut4 x e n F L N D) {k : Nat} (hk : (k : Int) < F 0) : 0 ≤ frm L k ∧ frm L k < n := by
  obtain ⟨a1, a2, a3⟩ := h.chain hn k (by omega)
  refine ⟨a1, ?_⟩
  rcases Int.lt_or_le (frm L k) n with q | q
  · exact q
  · rw [show frm L k = n by omega, h.1] at a3
    omega
theorem Cut4.end {x : Int → Int} {e n : Int} {F L N D : Int → Int} (hn : 0 ≤ n) (h : Cut4 x e n F L N D) {k : Nat} (hk : (k : Int) = F 0) : frm L k = n := by
  obtain ⟨a1, a2, a3⟩ := h.chain hn k (by omega)
  rcases Int.lt_or_le (frm L k) n with q | q
  · have := (h.fb _ a1 a2).2.2 q
    omega
  · omega
theorem Cut4.mono {x : Int → Int} {e n : Int} {F L N D : Int → Int} (hn : 0 ≤ n) (h : Cut4 x e n F L N D) {j : Nat} : ∀ k : Nat, j < k → (k : Int) < F 0 → frm L j < frm L k := by
  intro k
  induction k with
  | zero => intro q; exact absurd q (by omega)
  | succ k ih =>
    intro q1 q2
    have a := h.lt hn (k := k) (by omega)
    have b := h.at a.1 a.2
    show frm L j < L (frm L k) + 1
    by_cases q : j = k
    · rw [q]; omega
    · have := ih (by omega) (by omega)
      omega
theorem frm_congr {x : Int → Int} {e n : Int} {F L N D L' : Int → Int} (hn : 0 ≤ n) (h : Cut4 x e n F L N D) (hL : ∀ i : Int, 0 ≤ i → i < n → L i = L' i) (k : Nat) : (k : Int) ≤ F 0 → frm L k = frm L' k := by
  induction k with
  | zero => intro _; rfl
  | succ k ih =>
    intro hk
    have a := h.lt hn (k := k) (by omega)
    show L (frm L k) + 1 = L' (frm L' k) + 1
    rw [← ih (by omega), hL _ a.1 a.2]
/-- the greatest common divisor -/
def gcdI (a b : Int) : Int := ((Nat.gcd a.toNat b.toNat : Nat) : Int)
theorem gcdI_0 {a : Int} (h : 0 ≤ a) : gcdI a 0 = a := by
  show ((Nat.gcd a.toNat 0 : Nat) : Int) = a
  rw [Nat.gcd_zero_right]
  omega
theorem gcdI_s {a b : Int} (h : 0 ≤ a) (hb : 0 < b) : gcdI b (a.tmod b) = gcdI a b := by
  unfold gcdI
  rw [Int.tmod_eq_emod_of_nonneg h]
  have e1 : (a % b).toNat = a.toNat % b.toNat := by
    have := Int.toNat_emod h (Int.le_of_lt hb)
    exact this
  rw [e1, Nat.gcd_comm b.toNat, ← Nat.gcd_rec, Nat.gcd_comm]
theorem gcdI_pos {a b : Int} (hb : 1 ≤ b) : 1 ≤ gcdI a b := by
  have : 0 < Nat.gcd a.toNat b.toNat := Nat.gcd_pos_of_pos_right _ (by omega)
  show 1 ≤ ((Nat.gcd a.toNat b.toNat : Nat) : Int)
  omega
theorem gcdI_le {a b : Int} (hb : 1 ≤ b) : gcdI a b ≤ b := by
  have : Nat.gcd a.toNat b.toNat ≤ b.toNat := Nat.gcd_le_right _ (by omega)
  show ((Nat.gcd a.toNat b.toNat : Nat) : Int) ≤ b
  omega
/-- the pieces of n keys x: how many; of piece k its first rank, last rank, first key, slope -/
noncomputable def PM (x : Int → Int) (e n : Int) : Int := (cQ x e n).1 0
noncomputable def P0 (x : Int → Int) (e n : Int) (k : Int) : Int := frm (cQ x e n).2.1 k.toNat
noncomputable def P1 (x : Int → Int) (e n : Int) (k : Int) : Int := (cQ x e n).2.1 (P0 x e n k)
noncomputable def P2 (x : Int → Int) (e n : Int) (k : Int) : Int := x (P0 x e n k)
noncomputable def P3 (x : Int → Int) (e n : Int) (k : Int) : Int := (cQ x e n).2.2.1 (P0 x e n k) / gcdI ((cQ x e n).2.2.1 (P0 x e n k)) ((cQ x e n).2.2.2 (P0 x e n k))
noncomputable def P4 (x : Int → Int) (e n : Int) (k : Int) : Int := (cQ x e n).2.2.2 (P0 x e n k) / gcdI ((cQ x e n).2.2.1 (P0 x e n k)) ((cQ x e n).2.2.2 (P0 x e n k))
/-- a level of keys on which pieces can be laid -/
def LvOK (x : Int → Int) (e n : Int) : Prop := Kr n x ∧ 1 ≤ n ∧ CutC x e n
theorem LvOK.pm {x : Int → Int} {e n : Int} (h : LvOK x e n) (he : 0 ≤ e) : 1 ≤ PM x e n ∧ 2 * PM x e n ≤ n + 1 := by
  have a := (h.2.2.fb 0 (Int.le_refl _) (by have := h.2.1; omega)).2.2 (by have := h.2.1; omega)
  have b := h.2.2.half h.1 he 0 (Int.le_refl _) (by have := h.2.1; omega)
  exact ⟨a, by show 2 * (cQ x e n).1 0 ≤ n + 1; omega⟩
theorem LvOK.p {x : Int → Int} {e n k : Int} (h : LvOK x e n) (he : 0 ≤ e) (h0 : 0 ≤ k) (hk : k < PM x e n) : 0 ≤ P0 x e n k ∧ P0 x e n k ≤ P1 x e n k ∧ P1 x e n k < n ∧ 0 ≤ P2 x e n k ∧ P2 x e n k ≤ 1000000 ∧ 0 ≤ P3 x e n k ∧ P3 x e n k ≤ 60 ∧ 1 ≤ P4 x e n k ∧ P4 x e n k ≤ 1000000 := by
  have n1 := h.2.1
  have a : 0 ≤ P0 x e n k ∧ P0 x e n k < n := h.2.2.lt (by omega) (k := k.toNat) (by show (k.toNat : Int) < PM x e n; omega)
  have b := h.2.2.at a.1 a.2
  have c := h.1.2.2.1 _ a.1 a.2
  have d := h.2.2.sl h.1 he a.1 a.2
  have g1 := gcdI_pos (a := (cQ x e n).2.2.1 (P0 x e n k)) d.2.2.1
  have g2 := gcdI_le (a := (cQ x e n).2.2.1 (P0 x e n k)) d.2.2.1
  refine ⟨a.1, b.1, b.2.1, c.1, c.2, ?_, ?_, ?_, ?_⟩
  · exact Int.ediv_nonneg d.1 (by omega)
  · exact Int.le_trans (Int.ediv_le_self _ d.1) d.2.1
  · have : 0 < (cQ x e n).2.2.2 (P0 x e n k) / gcdI ((cQ x e n).2.2.1 (P0 x e n k)) ((cQ x e n).2.2.2 (P0 x e n k)) := Int.ediv_pos_of_pos_of_dvd (by omega) (by omega) (by
      have : Nat.gcd ((cQ x e n).2.2.1 (P0 x e n k)).toNat ((cQ x e n).2.2.2 (P0 x e n k)).toNat ∣ ((cQ x e n).2.2.2 (P0 x e n k)).toNat := Nat.gcd_dvd_right _ _
      have q := Int.ofNat_dvd.mpr this
      rw [Int.toNat_of_nonneg (by omega)] at q
      exact q)
    exact this
  · exact Int.le_trans (Int.ediv_le_self _ (by omega)) d.2.2.2
/-- the keys of a level, and how many -/
noncomputable def lvl (x : Int → Int) (e n : Int) : Nat → (Int → Int) × Int
  | 0 => (x, n)
  | t + 1 => (P2 (lvl x e n t).1 e (lvl x e n t).2, PM (lvl x e n t).1 e (lvl x e n t).2)
theorem LvOK.next {x : Int → Int} {e n : Int} (h : LvOK x e n) (he : 0 ≤ e) : Kr (PM x e n) (P2 x e n) := by
  have a := h.pm he
  have n1 := h.2.1
  have n60 := h.1.2.1
  refine ⟨by omega, by omega, fun i h0 h1 => ?_, fun i j h0 h1 h2 => ?_⟩
  · have := h.p he h0 h1
    omega
  · have b := h.2.2.lt (by omega) (k := j.toNat) (by show (j.toNat : Int) < PM x e n; omega)
    have c := h.2.2.lt (by omega) (k := i.toNat) (by show (i.toNat : Int) < PM x e n; omega)
    exact h.1.2.2.2 _ _ c.1 (h.2.2.mono (by omega) j.toNat (by omega) (by show (j.toNat : Int) < PM x e n; omega)) b.2
/-- where a level's pieces begin, all levels in one row -/
noncomputable def St (x : Int → Int) (e n : Int) : Nat → Int
  | 0 => 0
  | t + 1 => St x e n t + PM (lvl x e n t).1 e (lvl x e n t).2
/-- t levels are laid -/
def TwP (x : Int → Int) (e n : Int) (t : Nat) (sz : Int) (S A0 A1 A2 A3 A4 : Int → Int) : Prop := sz = St x e n t ∧ (1 ≤ t → ∀ s : Nat, s ≤ t → S (s : Int) = St x e n s) ∧ ∀ s : Nat, s < t → LvOK (lvl x e n s).1 e (lvl x e n s).2 ∧ ∀ k : Int, 0 ≤ k → k < PM (lvl x e n s).1 e (lvl x e n s).2 → A0 (St x e n s + k) = P0 (lvl x e n s).1 e (lvl x e n s).2 k ∧ A1 (St x e n s + k) = P1 (lvl x e n s).1 e (lvl x e n s).2 k ∧ A2 (St x e n s + k) = P2 (lvl x e n s).1 e (lvl x e n s).2 k ∧ A3 (St x e n s + k) = P3 (lvl x e n s).1 e (lvl x e n s).2 k ∧ A4 (St x e n s + k) = P4 (lvl x e n s).1 e (lvl x e n s).2 k
/-- how many levels -/
def Ht (x : Int → Int) (e n h : Int) : Prop := (n = 0 ∧ h = 0) ∨ (1 ≤ n ∧ 1 ≤ h ∧ (∀ t : Nat, 1 ≤ t → (t : Int) < h → 1 < (lvl x e n t).2) ∧ (lvl x e n h.toNat).2 ≤ 1)
theorem Ht.uniq {x : Int → Int} {e n h h' : Int} (a : Ht x e n h) (b : Ht x e n h') : h = h' := by
  rcases a with ⟨a1, a2⟩ | ⟨a1, a2, a3, a4⟩ <;> rcases b with ⟨b1, b2⟩ | ⟨b1, b2, b3, b4⟩
  · omega
  · omega
  · omega
  · rcases Int.lt_trichotomy h h' with q | q | q
    · have := b3 h.toNat (by omega) (by omega)
      omega
    · exact q
    · have := a3 h'.toNat (by omega) (by omega)
      omega
def tb (n : Int) : Int := if n ≤ 2 then 1 else if n ≤ 4 then 3 else if n ≤ 8 then 7 else if n ≤ 16 then 15 else if n ≤ 30 then 30 else 60
def lb (n : Int) : Int := if n ≤ 2 then 1 else if n ≤ 4 then 2 else if n ≤ 8 then 3 else if n ≤ 16 then 4 else if n ≤ 30 then 5 else 6
theorem tb_s {n m : Int} (hn : n ≤ 60) (h1 : 1 < m) (h2 : 2 * m ≤ n + 1) : m + tb m ≤ tb n ∧ lb m + 1 ≤ lb n := by
  unfold tb lb
  repeat' split
  all_goals omega
theorem tb_1 {n m : Int} (h1 : 1 ≤ n) (h2 : 2 * m ≤ n + 1) (hn : n ≤ 60) : m ≤ tb n ∧ 1 ≤ lb n := by
  unfold tb lb
  repeat' split
  all_goals omega
/-- a tower as the class holds it -/
def TwR (x : Int → Int) (e n h sz : Int) (S A0 A1 A2 A3 A4 : Int → Int) : Prop := Ht x e n h ∧ 0 ≤ h ∧ h ≤ 6 ∧ sz ≤ 60 ∧ TwP x e n h.toNat sz S A0 A1 A2 A3 A4
theorem St_mono {x : Int → Int} {e n : Int} (he : 0 ≤ e) {t : Nat} (h : ∀ s : Nat, s < t → LvOK (lvl x e n s).1 e (lvl x e n s).2) : ∀ s : Nat, s ≤ t → 0 ≤ St x e n s ∧ St x e n s ≤ St x e n t := by
  induction t with
  | zero => intro s hs; rw [show s = 0 by omega]; exact ⟨Int.le_refl _, Int.le_refl _⟩
  | succ t ih =>
    intro s hs
    have a := ih (fun s q => h s (by omega))
    have b := (h t (by omega)).pm he
    by_cases q : s = t + 1
    · rw [q]
      have := a t (Nat.le_refl _)
      show 0 ≤ St x e n t + PM (lvl x e n t).1 e (lvl x e n t).2 ∧ _
      exact ⟨by omega, Int.le_refl _⟩
    · have := a s (by omega)
      show _ ∧ St x e n s ≤ St x e n t + PM (lvl x e n t).1 e (lvl x e n t).2
      omega
