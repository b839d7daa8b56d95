/-! ===== pieces: the least slope, what keeps it, the fewest ===== -/
theorem mrg {a b : Int} (ha : -100 ≤ a ∧ a ≤ 100) (hb : 0 ≤ b ∧ b ≤ 1000000) : -100000000 ≤ a * b ∧ a * b ≤ 100000000 := by
  have h1 : a * b ≤ 100 * b := Int.mul_le_mul_of_nonneg_right ha.2 hb.1
  have h2 : (-100) * b ≤ a * b := Int.mul_le_mul_of_nonneg_right ha.1 hb.1
  omega
theorem mrgR {a b : Int} (ha : -100 ≤ a ∧ a ≤ 100) (hb : 0 ≤ b ∧ b ≤ 1000000) : Rg (a * b) := by
  have h := mrg ha hb
  exact ⟨by omega, by omega⟩
theorem mrgL {a b : Int} (ha : -100 ≤ a ∧ a ≤ 100) (hb : 0 ≤ b ∧ b ≤ 1000000) : Rl (a * b) := by
  have h := mrg ha hb
  exact ⟨by omega, by omega⟩
/-- the greatest of the lower bounds of d ranks behind i, as a fraction -/
def lw (x : Int → Int) (e i : Int) : Nat → Int × Int
  | 0 => (0, 1)
  | d + 1 => if (lw x e i d).1 * (x (i + (d : Int) + 1) - x i) < ((d : Int) + 1 - e) * (lw x e i d).2 then ((d : Int) + 1 - e, x (i + (d : Int) + 1) - x i) else lw x e i d
def kp (x : Int → Int) (e i : Int) (d : Nat) : Prop := ∀ m : Nat, 1 ≤ m → m ≤ d → (lw x e i d).1 * (x (i + (m : Int)) - x i) ≤ ((m : Int) + e) * (lw x e i d).2
def okd (x : Int → Int) (e i : Int) (d : Nat) : Prop := ∀ m : Nat, 1 ≤ m → m ≤ d → kp x e i m
/-- F, the last rank and the slope of rank i are as the document asks, of n keys x with slack e -/
def Cs (x : Int → Int) (e n : Int) (F : Int → Int) (i Li Ni Di : Int) : Prop := ∃ d : Nat, i + (d : Int) < n ∧ okd x e i d ∧ Li = i + (d : Int) ∧ F i = F (i + (d : Int) + 1) + 1 ∧ (∀ d' : Nat, okd x e i d' → i + (d' : Int) < n → F i ≤ F (i + (d' : Int) + 1) + 1) ∧ (∀ d' : Nat, d < d' → okd x e i d' → i + (d' : Int) < n → F i < F (i + (d' : Int) + 1) + 1) ∧ Ni = (lw x e i d).1 ∧ Di = (lw x e i d).2
theorem lw_t {x : Int → Int} {e i j : Int} {d : Nat} (hj : j = i + (d : Int) + 1) (h : (lw x e i d).1 * (x j - x i) < (j - i - e) * (lw x e i d).2) : lw x e i (d + 1) = (j - i - e, x j - x i) := by
  subst hj
  have e1 : i + (d : Int) + 1 - i - e = (d : Int) + 1 - e := by omega
  rw [e1] at h ⊢
  rw [lw, if_pos h]
theorem lw_f {x : Int → Int} {e i j : Int} {d : Nat} (hj : j = i + (d : Int) + 1) (h : ¬ (lw x e i d).1 * (x j - x i) < (j - i - e) * (lw x e i d).2) : lw x e i (d + 1) = lw x e i d := by
  subst hj
  have e1 : i + (d : Int) + 1 - i - e = (d : Int) + 1 - e := by omega
  rw [e1] at h
  rw [lw, if_neg h]
theorem Kr.gap {n : Int} {x : Int → Int} (h : Kr n x) {i j : Int} (h0 : 0 ≤ i) (h1 : i < j) (h2 : j < n) : 1 ≤ x j - x i ∧ x j - x i ≤ 1000000 := by
  have a := h.2.2.2 i j h0 h1 h2
  have b := h.2.2.1 i h0 (by omega)
  have c := h.2.2.1 j (by omega) h2
  omega
theorem lw_rg {n : Int} {x : Int → Int} (h : Kr n x) {e i : Int} (he : 0 ≤ e) (h0 : 0 ≤ i) (d : Nat) (hd : i + (d : Int) < n) : 0 ≤ (lw x e i d).1 ∧ (lw x e i d).1 ≤ 60 ∧ 1 ≤ (lw x e i d).2 ∧ (lw x e i d).2 ≤ 1000000 := by
  induction d with
  | zero => simp [lw]
  | succ d ih =>
    have q := ih (by omega)
    have w := h.gap h0 (j := i + (d : Int) + 1) (by omega) (by omega)
    have n60 := h.2.1
    rw [lw]
    split
    · rename_i c
      refine ⟨?_, by show (d : Int) + 1 - e ≤ 60; omega, w.1, w.2⟩
      show 0 ≤ (d : Int) + 1 - e
      rcases Int.lt_or_le ((d : Int) + 1 - e) 0 with z | z
      · have a1 : 0 ≤ (lw x e i d).1 * (x (i + (d : Int) + 1) - x i) := Int.mul_nonneg q.1 (by omega)
        have a2 : ((d : Int) + 1 - e) * (lw x e i d).2 ≤ 0 := Int.mul_nonpos_of_nonpos_of_nonneg (by omega) (by omega)
        omega
      · exact z
    · exact q
/-- two fractions by a third between them -/
theorem fr_le {a b c d u v : Int} (hb : 0 < d) (hu : 0 ≤ v) (hv : 0 ≤ b) (h1 : a * d ≤ c * b) (h2 : c * v ≤ u * d) : a * v ≤ u * b := by
  have q1 : a * d * v ≤ c * b * v := Int.mul_le_mul_of_nonneg_right h1 hu
  have q2 : c * v * b ≤ u * d * b := Int.mul_le_mul_of_nonneg_right h2 hv
  have q3 : d * (a * v) ≤ d * (u * b) := by
    have e1 : d * (a * v) = a * d * v := by rw [← Int.mul_assoc, Int.mul_comm d a]
    have e2 : c * b * v = c * v * b := by rw [Int.mul_assoc, Int.mul_comm b v, ← Int.mul_assoc]
    have e3 : d * (u * b) = u * d * b := by rw [← Int.mul_assoc, Int.mul_comm d u]
    rw [e1, e3]
    rw [e2] at q1
    exact Int.le_trans q1 q2
  exact Int.le_of_mul_le_mul_left q3 hb
/-- the least of the upper bounds of d ranks behind i -/
def hgh (x : Int → Int) (e i : Int) (d : Nat) (hn hd : Int) : Prop := (d = 0 ∧ hn = 1 ∧ hd = 0) ∨ ((∃ m : Nat, 1 ≤ m ∧ m ≤ d ∧ hn = (m : Int) + e ∧ hd = x (i + (m : Int)) - x i) ∧ ∀ m : Nat, 1 ≤ m → m ≤ d → hn * (x (i + (m : Int)) - x i) ≤ ((m : Int) + e) * hd)
theorem hgh_rg {n : Int} {x : Int → Int} (h : Kr n x) {e i hn hd : Int} (he : 0 ≤ e ∧ e ≤ 8) (h0 : 0 ≤ i) {d : Nat} (hdn : i + (d : Int) < n) (q : hgh x e i d hn hd) : 1 ≤ hn ∧ hn ≤ 68 ∧ 0 ≤ hd ∧ hd ≤ 1000000 := by
  have n60 := h.2.1
  rcases q with ⟨_, rfl, rfl⟩ | ⟨⟨m, m1, m2, rfl, rfl⟩, _⟩
  · omega
  · have w := h.gap h0 (j := i + (m : Int)) (by omega) (by omega)
    omega
theorem hgh_pos {n : Int} {x : Int → Int} (h : Kr n x) {e i hn hd : Int} (he : 0 ≤ e ∧ e ≤ 8) (h0 : 0 ≤ i) {d : Nat} (hdn : i + (d : Int) < n) (hd1 : 1 ≤ d) (q : hgh x e i d hn hd) : 1 ≤ hd := by
  rcases q with ⟨rfl, _, _⟩ | ⟨⟨m, m1, m2, rfl, rfl⟩, _⟩
  · omega
  · have w := h.gap h0 (j := i + (m : Int)) (by omega) (by omega)
    omega
theorem hgh_t {n : Int} {x : Int → Int} (h : Kr n x) {e i j hn hd : Int} (he : 0 ≤ e ∧ e ≤ 8) (h0 : 0 ≤ i) {d : Nat} (hj : j = i + (d : Int) + 1) (hjn : j < n) (q : hgh x e i d hn hd) (c : (j - i + e) * hd < hn * (x j - x i)) : hgh x e i (d + 1) (j - i + e) (x j - x i) := by
  subst hj
  have e1 : i + (d : Int) + 1 - i + e = ((d + 1 : Nat) : Int) + e := by omega
  have e2 : i + (d : Int) + 1 = i + ((d + 1 : Nat) : Int) := by omega
  rw [e1] at c ⊢
  rw [e2] at c ⊢
  have w := h.gap h0 (j := i + ((d + 1 : Nat) : Int)) (by omega) (by omega)
  refine Or.inr ⟨⟨d + 1, by omega, Nat.le_refl _, rfl, rfl⟩, fun m m1 m2 => ?_⟩
  by_cases hm : m = d + 1
  · subst hm; exact Int.le_refl _
  · rcases q with ⟨rfl, _, _⟩ | ⟨⟨k, k1, k2, rfl, rfl⟩, q2⟩
    · omega
    · have wk := h.gap h0 (j := i + (k : Int)) (by omega) (by omega)
      have wm := h.gap h0 (j := i + (m : Int)) (by omega) (by omega)
      exact fr_le (d := x (i + (k : Int)) - x i) (c := (k : Int) + e) (by omega) (by omega) (by omega) (Int.le_of_lt c) (q2 m m1 (by omega))
theorem hgh_f {n : Int} {x : Int → Int} (h : Kr n x) {e i j hn hd : Int} (he : 0 ≤ e ∧ e ≤ 8) (h0 : 0 ≤ i) {d : Nat} (hj : j = i + (d : Int) + 1) (hjn : j < n) (q : hgh x e i d hn hd) (c : ¬ (j - i + e) * hd < hn * (x j - x i)) : hgh x e i (d + 1) hn hd := by
  subst hj
  have e1 : i + (d : Int) + 1 - i + e = ((d + 1 : Nat) : Int) + e := by omega
  have e2 : i + (d : Int) + 1 = i + ((d + 1 : Nat) : Int) := by omega
  rw [e1] at c
  rw [e2] at c
  have w := h.gap h0 (j := i + ((d + 1 : Nat) : Int)) (by omega) (by omega)
  rcases q with ⟨rfl, rfl, rfl⟩ | ⟨⟨k, k1, k2, hk1, hk2⟩, q2⟩
  · exfalso
    apply c
    rw [Int.mul_zero, Int.one_mul]
    omega
  · refine Or.inr ⟨⟨k, k1, by omega, hk1, hk2⟩, fun m m1 m2 => ?_⟩
    by_cases hm : m = d + 1
    · subst hm; exact Int.not_lt.mp c
    · exact q2 m m1 (by omega)
theorem hgh_kp {n : Int} {x : Int → Int} (h : Kr n x) {e i hn hd : Int} (he : 0 ≤ e ∧ e ≤ 8) (h0 : 0 ≤ i) {d : Nat} (hdn : i + ((d + 1 : Nat) : Int) < n) (q : hgh x e i (d + 1) hn hd) : (lw x e i (d + 1)).1 * hd ≤ hn * (lw x e i (d + 1)).2 ↔ kp x e i (d + 1) := by
  have l := lw_rg h he.1 h0 (d + 1) hdn
  rcases q with ⟨q, _, _⟩ | ⟨⟨k, k1, k2, rfl, rfl⟩, q2⟩
  · exact absurd q (by omega)
  · constructor
    · intro c m m1 m2
      have wk := h.gap h0 (j := i + (k : Int)) (by omega) (by omega)
      have wm := h.gap h0 (j := i + (m : Int)) (by omega) (by omega)
      exact fr_le (d := x (i + (k : Int)) - x i) (c := (k : Int) + e) (by omega) (by omega) (by omega) c (q2 m m1 m2)
    · intro c
      exact c k k1 k2
theorem okd_0 (x : Int → Int) (e i : Int) : okd x e i 0 := fun m h1 h2 => absurd h1 (by omega)
theorem okd_s {x : Int → Int} {e i : Int} {d : Nat} (h : okd x e i d) (hk : kp x e i (d + 1)) : okd x e i (d + 1) := fun m h1 h2 => if q : m = d + 1 then q ▸ hk else h m h1 (by omega)
theorem okd_le {x : Int → Int} {e i : Int} {d d' : Nat} (h : okd x e i d) (hd : d' ≤ d) : okd x e i d' := fun m h1 h2 => h m h1 (by omega)
theorem lw_congr {n : Int} {x y : Int → Int} (h : Agr n x y) {e i : Int} (h0 : 0 ≤ i) (d : Nat) (hd : i + (d : Int) < n) : lw x e i d = lw y e i d := by
  induction d with
  | zero => rfl
  | succ d ih =>
    rw [lw, lw, ih (by omega), h (i + (d : Int) + 1) (by omega) (by omega), h i h0 (by omega)]
theorem kp_congr {n : Int} {x y : Int → Int} (h : Agr n x y) {e i : Int} (h0 : 0 ≤ i) {d : Nat} (hd : i + (d : Int) < n) (k : kp x e i d) : kp y e i d := by
  intro m m1 m2
  have q := k m m1 m2
  rw [lw_congr h h0 d hd, h (i + (m : Int)) (by omega) (by omega), h i h0 (by omega)] at q
  exact q
theorem okd_congr {n : Int} {x y : Int → Int} (h : Agr n x y) {e i : Int} (h0 : 0 ≤ i) {d : Nat} (hd : i + (d : Int) < n) (k : okd x e i d) : okd y e i d := fun m m1 m2 => kp_congr h h0 (by omega) (k m m1 m2)
theorem Agr.symm {n : Int} {x y : Int → Int} (h : Agr n x y) : Agr n y x := fun i h0 h1 => (h i h0 h1).symm
theorem Agr.trans {n : Int} {x y z : Int → Int} (h : Agr n x y) (h2 : Agr n y z) : Agr n x z := fun i h0 h1 => (h i h0 h1).trans (h2 i h0 h1)
theorem Agr.le {n m : Int} {x y : Int → Int} (h : Agr n x y) (hm : m ≤ n) : Agr m x y := fun i h0 h1 => h i h0 (by omega)
theorem Kr.congr {n : Int} {x y : Int → Int} (h : Agr n x y) (k : Kr n x) : Kr n y := ⟨k.1, k.2.1, fun i h0 h1 => by rw [← h i h0 h1]; exact k.2.2.1 i h0 h1, fun i j h0 h1 h2 => by rw [← h i h0 (by omega), ← h j (by omega) h2]; exact k.2.2.2 i j h0 h1 h2⟩
theorem Cs.congr {n : Int} {x y : Int → Int} (h : Agr n x y) {e i Li Ni Di : Int} {F G : Int → Int} (h0 : 0 ≤ i) (hF : ∀ k : Int, i ≤ k → k ≤ n → F k = G k) (k : Cs x e n F i Li Ni Di) : Cs y e n G i Li Ni Di := by
  obtain ⟨d, d1, d2, d3, d4, d5, d6, d7, d8⟩ := k
  refine ⟨d, d1, okd_congr h h0 d1 d2, d3, ?_, fun d' q1 q2 => ?_, fun d' q0 q1 q2 => ?_, ?_, ?_⟩
  · rw [← hF i (by omega) (by omega), ← hF _ (by omega) (by omega)]; exact d4
  · rw [← hF i (by omega) (by omega), ← hF _ (by omega) (by omega)]; exact d5 d' (okd_congr h.symm h0 q2 q1) q2
  · rw [← hF i (by omega) (by omega), ← hF _ (by omega) (by omega)]; exact d6 d' q0 (okd_congr h.symm h0 q2 q1) q2
  · rw [d7, lw_congr h h0 d d1]
  · rw [d8, lw_congr h h0 d d1]
/-- all ranks of n keys, with what each has -/
def Cut4 (x : Int → Int) (e n : Int) (F Ls Nm Dn : Int → Int) : Prop := F n = 0 ∧ ∀ i : Int, 0 ≤ i → i < n → Cs x e n F i (Ls i) (Nm i) (Dn i)
theorem Cut4.uniq {x : Int → Int} {e n : Int} {F Ls Nm Dn F' Ls' Nm' Dn' : Int → Int} (h : Cut4 x e n F Ls Nm Dn) (h' : Cut4 x e n F' Ls' Nm' Dn') : (∀ i : Int, 0 ≤ i → i ≤ n → F i = F' i) ∧ ∀ i : Int, 0 ≤ i → i < n → Ls i = Ls' i ∧ Nm i = Nm' i ∧ Dn i = Dn' i := by
  have key : ∀ k : Nat, ∀ i : Int, 0 ≤ i → i ≤ n → n - i ≤ (k : Int) → F i = F' i := by
    intro k
    induction k with
    | zero =>
      intro i h0 h1 h2
      rw [show i = n by omega, h.1, h'.1]
    | succ k ih =>
      intro i h0 h1 h2
      by_cases q : i = n
      · rw [q, h.1, h'.1]
      · obtain ⟨d, d1, d2, d3, d4, d5, d6, d7, d8⟩ := h.2 i h0 (by omega)
        obtain ⟨c, c1, c2, c3, c4, c5, c6, c7, c8⟩ := h'.2 i h0 (by omega)
        have a1 := d5 c c2 c1
        have a2 := c5 d d2 d1
        have a3 := ih (i + (d : Int) + 1) (by omega) (by omega) (by omega)
        have a4 := ih (i + (c : Int) + 1) (by omega) (by omega) (by omega)
        omega
  have kF : ∀ i : Int, 0 ≤ i → i ≤ n → F i = F' i := fun i h0 h1 => key (n - i).toNat i h0 h1 (by omega)
  refine ⟨kF, fun i h0 h1 => ?_⟩
  obtain ⟨d, d1, d2, d3, d4, d5, d6, d7, d8⟩ := h.2 i h0 h1
  obtain ⟨c, c1, c2, c3, c4, c5, c6, c7, c8⟩ := h'.2 i h0 h1
  have b0 := kF i h0 (by omega)
  have a3 := kF (i + (d : Int) + 1) (by omega) (by omega)
  have a4 := kF (i + (c : Int) + 1) (by omega) (by omega)
  have hdc : d = c := by
    rcases Nat.lt_trichotomy d c with q | q | q
    · have := d6 c q c2 c1
      omega
    · exact q
    · have := c6 d q d2 d1
      omega
  subst hdc
  exact ⟨by rw [d3, c3], by rw [d7, c7], by rw [d8, c8]⟩
