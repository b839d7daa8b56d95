/-! ===== the reference's rows: keys there now by the row, what came and what went ===== -/
def Ks (n : Int) (f : Int → Int) : Prop := 0 ≤ n ∧ (∀ i : Int, 0 ≤ i → i < n → 0 ≤ f i ∧ f i ≤ 1000000) ∧ ∀ i j : Int, 0 ≤ i → i < j → j < n → f i < f j
theorem Kr.ks {n : Int} {f : Int → Int} (h : Kr n f) : Ks n f := ⟨h.1, h.2.2.1, h.2.2.2⟩
theorem Ks.kr {n : Int} {f : Int → Int} (h : Ks n f) (hn : n ≤ 60) : Kr n f := ⟨h.1, hn, h.2.1, h.2.2⟩
theorem Ks.le {n : Int} {f : Int → Int} (h : Ks n f) {i j : Int} (h0 : 0 ≤ i) (h1 : i ≤ j) (h2 : j < n) : f i ≤ f j := by
  rcases Int.lt_or_eq_of_le h1 with q | q
  · exact Int.le_of_lt (h.2.2 i j h0 q h2)
  · rw [q]; exact Int.le_refl _
theorem Ks.uniq {n m : Int} {f h : Int → Int} (a : Ks n f) (b : Ks m h) (e : ∀ x : Int, Inr n f x ↔ Inr m h x) : n = m ∧ Agr n f h := by
  have key : ∀ k : Nat, (k : Int) ≤ n → (k : Int) ≤ m → ∀ i : Int, 0 ≤ i → i < k → f i = h i := by
    intro k
    induction k with
    | zero => intro _ _ i i0 i1; omega
    | succ k ih =>
      intro k1 k2 i i0 i1
      have ag := ih (by omega) (by omega)
      by_cases q : i = (k : Int)
      · rw [q]
        obtain ⟨j, j0, j1, j2⟩ := (e (f k)).mp ⟨k, by omega, by omega, rfl⟩
        obtain ⟨t, t0, t1, t2⟩ := (e (h k)).mpr ⟨k, by omega, by omega, rfl⟩
        have hj : (k : Int) ≤ j := by
          rcases Int.lt_or_le j k with z | z
          · have := ag j j0 z
            have := a.2.2 j k j0 z (by omega)
            omega
          · exact z
        have ht : (k : Int) ≤ t := by
          rcases Int.lt_or_le t k with z | z
          · have := ag t t0 z
            have := b.2.2 t k t0 z (by omega)
            omega
          · exact z
        have c1 := b.le (i := (k : Int)) (by omega) hj j1
        have c2 := a.le (i := (k : Int)) (by omega) ht t1
        omega
      · exact ag i i0 (by omega)
  have n0 := a.1
  have m0 := b.1
  have hnm : n = m := by
    rcases Int.lt_trichotomy n m with q | q | q
    · obtain ⟨j, j0, j1, j2⟩ := (e (h n)).mpr ⟨n, n0, q, rfl⟩
      have := key n.toNat (by omega) (by omega) j j0 (by omega)
      have := b.2.2 j n j0 j1 q
      omega
    · exact q
    · obtain ⟨j, j0, j1, j2⟩ := (e (f m)).mp ⟨m, m0, q, rfl⟩
      have := key m.toNat (by omega) (by omega) j j0 (by omega)
      have := a.2.2 j m j0 j1 q
      omega
  exact ⟨hnm, fun i i0 i1 => key n.toNat (by omega) (by omega) i i0 (by omega)⟩
theorem Ins.ks {n : Int} {f h : Int → Int} {x k : Int} (q : Ins n f x k h) (hk : Ks n f) (hx : 0 ≤ x ∧ x ≤ 1000000) (hi : ¬ Inr n f x) : Ks (n + 1) h := by
  obtain ⟨⟨k0, k1, k2, k3⟩, q1, q2, q3⟩ := q
  have k4 : ∀ i : Int, k ≤ i → i < n → x < f i := fun i i0 i1 => by
    have a := k3 i i0 i1
    rcases Int.lt_or_eq_of_le a with z | z
    · exact z
    · exact absurd ⟨i, by omega, i1, z.symm⟩ hi
  have n0 := hk.1
  refine ⟨by omega, fun i i0 i1 => ?_, fun i j i0 i1 i2 => ?_⟩
  · rcases Int.lt_trichotomy i k with z | z | z
    · rw [q1 i i0 z]; exact hk.2.1 i i0 (by omega)
    · rw [z, q2]; exact hx
    · rw [q3 i z (by omega)]; exact hk.2.1 (i - 1) (by omega) (by omega)
  · rcases Int.lt_trichotomy i k with z | z | z
    · rw [q1 i i0 z]
      rcases Int.lt_trichotomy j k with w | w | w
      · rw [q1 j (by omega) w]; exact hk.2.2 i j i0 i1 (by omega)
      · rw [w, q2]; exact k2 i i0 z
      · rw [q3 j w (by omega)]
        have a := k2 i i0 z
        have b := k4 (j - 1) (by omega) (by omega)
        omega
    · rw [z, q2, q3 j (by omega) (by omega)]
      exact k4 (j - 1) (by omega) (by omega)
    · rw [q3 i z (by omega), q3 j (by omega) (by omega)]
      exact hk.2.2 (i - 1) (j - 1) (by omega) (by omega) (by omega)
theorem Ins.mem {n : Int} {f h : Int → Int} {x k z : Int} (q : Ins n f x k h) : Inr (n + 1) h z ↔ Inr n f z ∨ z = x := by
  obtain ⟨⟨k0, k1, k2, k3⟩, q1, q2, q3⟩ := q
  constructor
  · intro ⟨i, i0, i1, i2⟩
    rcases Int.lt_trichotomy i k with w | w | w
    · left; exact ⟨i, i0, by omega, by rw [← q1 i i0 w]; exact i2⟩
    · right; rw [← i2, w, q2]
    · left; exact ⟨i - 1, by omega, by omega, by rw [← q3 i w (by omega)]; exact i2⟩
  · intro c
    rcases c with ⟨i, i0, i1, i2⟩ | c
    · rcases Int.lt_or_le i k with w | w
      · exact ⟨i, i0, by omega, by rw [q1 i i0 w]; exact i2⟩
      · exact ⟨i + 1, by omega, by omega, by rw [q3 (i + 1) (by omega) (by omega), show i + 1 - 1 = i by omega]; exact i2⟩
    · exact ⟨k, k0, by omega, by rw [q2, c]⟩
theorem Del.mem {n : Int} {f h : Int → Int} {x k z : Int} (q : Del n f x k h) (hk : Ks n f) : Inr (n - 1) h z ↔ Inr n f z ∧ z ≠ x := by
  obtain ⟨k0, k1, k2, q1, q3⟩ := q
  constructor
  · intro ⟨i, i0, i1, i2⟩
    rcases Int.lt_or_le i k with w | w
    · rw [q1 i i0 w] at i2
      have := hk.2.2 i k i0 w k1
      exact ⟨⟨i, i0, by omega, i2⟩, by omega⟩
    · rw [q3 i w i1] at i2
      have := hk.2.2 k (i + 1) k0 (by omega) (by omega)
      exact ⟨⟨i + 1, by omega, by omega, i2⟩, by omega⟩
  · intro ⟨⟨i, i0, i1, i2⟩, c⟩
    rcases Int.lt_trichotomy i k with w | w | w
    · exact ⟨i, i0, by omega, by rw [q1 i i0 w]; exact i2⟩
    · exact absurd (by rw [← i2, w, k2]) c
    · exact ⟨i - 1, by omega, by omega, by rw [q3 (i - 1) (by omega) (by omega), show i - 1 + 1 = i by omega]; exact i2⟩
theorem Del.kr {n : Int} {f h : Int → Int} {x k : Int} (q : Del n f x k h) (hk : Kr n f) : Kr (n - 1) h := by
  obtain ⟨k0, k1, k2, q1, q3⟩ := q
  have n60 := hk.2.1
  have get : ∀ i : Int, 0 ≤ i → i < n - 1 → ∃ j : Int, 0 ≤ j ∧ j < n ∧ h i = f j ∧ ((i < k ∧ j = i) ∨ (k ≤ i ∧ j = i + 1)) := by
    intro i i0 i1
    rcases Int.lt_or_le i k with w | w
    · exact ⟨i, i0, by omega, q1 i i0 w, Or.inl ⟨w, rfl⟩⟩
    · exact ⟨i + 1, by omega, by omega, q3 i w i1, Or.inr ⟨w, rfl⟩⟩
  refine ⟨by omega, by omega, fun i i0 i1 => ?_, fun i j i0 i1 i2 => ?_⟩
  · obtain ⟨j, j0, j1, j2, _⟩ := get i i0 i1
    rw [j2]; exact hk.2.2.1 j j0 j1
  · obtain ⟨a, a0, a1, a2, a3⟩ := get i i0 (by omega)
    obtain ⟨b, b0, b1, b2, b3⟩ := get j (by omega) i2
    rw [a2, b2]
    exact hk.2.2.2 a b a0 (by omega) b1
theorem Bel.ex {n : Int} {f : Int → Int} (hk : Ks n f) (x : Int) : ∃ k : Int, Bel n f x k := by
  have key : ∀ m : Nat, (m : Int) ≤ n → ∃ k : Int, 0 ≤ k ∧ k ≤ m ∧ (∀ i : Int, 0 ≤ i → i < k → f i < x) ∧ ∀ i : Int, k ≤ i → i < m → x ≤ f i := by
    intro m
    induction m with
    | zero => intro _; exact ⟨0, by omega, by omega, fun i i0 i1 => by omega, fun i i0 i1 => by omega⟩
    | succ m ih =>
      intro hm
      obtain ⟨k, k0, k1, k2, k3⟩ := ih (by omega)
      rcases Int.lt_or_le (f m) x with q | q
      · refine ⟨m + 1, by omega, by omega, fun i i0 i1 => ?_, fun i i0 i1 => by omega⟩
        have := hk.le i0 (show i ≤ (m : Int) by omega) (by omega)
        omega
      · refine ⟨k, k0, by omega, k2, fun i i0 i1 => ?_⟩
        by_cases z : i = (m : Int)
        · rw [z]; exact q
        · exact k3 i i0 (by omega)
  obtain ⟨k, k0, k1, k2, k3⟩ := key n.toNat (by have := hk.1; omega)
  have n0 := hk.1
  exact ⟨k, k0, by omega, k2, fun i i0 i1 => k3 i i0 (by omega)⟩
theorem Ins.can {n : Int} {f : Int → Int} (hk : Ks n f) (x : Int) : Ins n f x (belC n f x) (insF f x (belC n f x)) := by
  obtain ⟨k, b⟩ := Bel.ex hk x
  have e := b.bc
  rw [← e]
  refine ⟨b, fun i i0 i1 => ?_, ?_, fun i i0 i1 => ?_⟩
  · unfold insF; rw [if_pos i1]
  · unfold insF; rw [if_neg (by omega), if_pos rfl]
  · unfold insF; rw [if_neg (by omega), if_neg (by omega)]
def delF (f : Int → Int) (k : Int) : Int → Int := fun i => if i < k then f i else f (i + 1)
theorem Del.agr {n : Int} {f h : Int → Int} {x k : Int} (q : Del n f x k h) (hk : Ks n f) : k = belC n f x ∧ Agr (n - 1) h (delF f (belC n f x)) := by
  obtain ⟨k0, k1, k2, q1, q3⟩ := q
  have b : Bel n f x k := ⟨k0, by omega, fun i i0 i1 => by rw [← k2]; exact hk.2.2 i k i0 i1 k1, fun i i0 i1 => by rw [← k2]; exact hk.le k0 i0 i1⟩
  have e := b.bc
  refine ⟨e, ?_⟩
  rw [← e]
  intro i i0 i1
  unfold delF
  rcases Int.lt_or_le i k with w | w
  · rw [if_pos w]; exact q1 i i0 w
  · rw [if_neg (by omega)]; exact q3 i w i1
theorem Del.can {n : Int} {f : Int → Int} (hk : Kr n f) {x : Int} (hx : Inr n f x) : Del n f x (belC n f x) (delF f (belC n f x)) := by
  obtain ⟨k, b⟩ := Bel.ex hk.ks x
  have c := Bel.at hk b hx
  have e := b.bc
  rw [← e]
  refine ⟨b.1, c.1, c.2, fun i i0 i1 => ?_, fun i i0 i1 => ?_⟩
  · unfold delF; rw [if_pos i1]
  · unfold delF; rw [if_neg (by omega)]
/-- the keys there now (nn, nf) are those of the row (rn, rf) without the olds, and the news -/
def NO (nn : Int) (nf : Int → Int) (rn : Int) (rf : Int → Int) (nc : Int) (nw : Int → Int) (oc : Int) (ol : Int → Int) : Prop := Kr nn nf ∧ Kr rn rf ∧ (0 ≤ nc ∧ 0 ≤ oc ∧ nc + oc ≤ 8) ∧ (∀ i : Int, 0 ≤ i → i < nc → 0 ≤ nw i ∧ nw i ≤ 1000000) ∧ (∀ i : Int, 0 ≤ i → i < oc → 0 ≤ ol i ∧ ol i ≤ 1000000) ∧ (∀ i j : Int, 0 ≤ i → i < j → j < nc → nw i ≠ nw j) ∧ (∀ i j : Int, 0 ≤ i → i < j → j < oc → ol i ≠ ol j) ∧ (∀ i : Int, 0 ≤ i → i < nc → ¬ Inr rn rf (nw i)) ∧ (∀ i : Int, 0 ≤ i → i < oc → Inr rn rf (ol i)) ∧ ∀ x : Int, Inr nn nf x ↔ (Inr rn rf x ∧ ¬ Inr oc ol x) ∨ Inr nc nw x
theorem NO.old {nn rn nc oc : Int} {nf rf nw ol : Int → Int} (h : NO nn nf rn rf nc nw oc ol) {x : Int} (hx : ¬ Inr nn nf x) : Inr rn rf x ↔ Inr oc ol x := by
  obtain ⟨a1, a2, a3, a4, a5, a6, a7, a8, a9, a10⟩ := h
  constructor
  · intro q
    rcases Classical.em (Inr oc ol x) with z | z
    · exact z
    · exact absurd ((a10 x).mpr (Or.inl ⟨q, z⟩)) hx
  · intro ⟨i, i0, i1, i2⟩
    rw [← i2]; exact a9 i i0 i1
theorem NO.new {nn rn nc oc : Int} {nf rf nw ol : Int → Int} (h : NO nn nf rn rf nc nw oc ol) {x : Int} (hx : Inr nn nf x) : ¬ Inr rn rf x ↔ Inr nc nw x := by
  obtain ⟨a1, a2, a3, a4, a5, a6, a7, a8, a9, a10⟩ := h
  constructor
  · intro q
    rcases (a10 x).mp hx with z | z
    · exact absurd z.1 q
    · exact z
  · intro ⟨i, i0, i1, i2⟩
    rw [← i2]; exact a8 i i0 i1
/-- the last one goes to place k -/
theorem rm_mem {n : Int} {f : Int → Int} {k : Int} (hd : ∀ i j : Int, 0 ≤ i → i < j → j < n → f i ≠ f j) (h0 : 0 ≤ k) (h1 : k < n) (z : Int) : Inr (n - 1) (up f k (f (n - 1))) z ↔ Inr n f z ∧ z ≠ f k := by
  constructor
  · intro ⟨i, i0, i1, i2⟩
    by_cases q : i = k
    · rw [q, up_eq] at i2
      have := hd k (n - 1) h0 (by omega) (by omega)
      exact ⟨⟨n - 1, by omega, by omega, i2⟩, by omega⟩
    · rw [up_ne _ _ q] at i2
      refine ⟨⟨i, i0, by omega, i2⟩, fun c => ?_⟩
      rcases Int.lt_or_le i k with w | w
      · exact hd i k i0 w h1 (by omega)
      · exact hd k i h0 (by omega) (by omega) (by omega)
  · intro ⟨⟨i, i0, i1, i2⟩, c⟩
    by_cases q : i = n - 1
    · exact ⟨k, h0, by
        rcases Int.lt_or_le k (n - 1) with w | w
        · exact w
        · exact absurd (by rw [← i2, q, show k = n - 1 by omega]) c, by rw [up_eq, ← q]; exact i2⟩
    · refine ⟨i, i0, by omega, ?_⟩
      rw [up_ne _ _ (fun e => c (by rw [← i2, e]))]
      exact i2
theorem rm_dist {n : Int} {f : Int → Int} {k : Int} (hd : ∀ i j : Int, 0 ≤ i → i < j → j < n → f i ≠ f j) (h0 : 0 ≤ k) : ∀ i j : Int, 0 ≤ i → i < j → j < n - 1 → up f k (f (n - 1)) i ≠ up f k (f (n - 1)) j := by
  intro i j i0 i1 i2
  by_cases q : i = k
  · rw [q, up_eq, up_ne _ _ (by omega)]
    exact fun c => hd j (n - 1) (by omega) (by omega) (by omega) c.symm
  · rw [up_ne _ _ q]
    by_cases w : j = k
    · rw [w, up_eq]
      exact hd i (n - 1) i0 (by omega) (by omega)
    · rw [up_ne _ _ w]
      exact hd i j i0 i1 (by omega)
theorem rm_all {n : Int} {f : Int → Int} {k : Int} {Q : Int → Prop} (hq : ∀ i : Int, 0 ≤ i → i < n → Q (f i)) (h0 : 0 ≤ k) (h1 : k < n) : ∀ i : Int, 0 ≤ i → i < n - 1 → Q (up f k (f (n - 1)) i) := by
  intro i i0 i1
  by_cases q : i = k
  · rw [q, up_eq]; exact hq (n - 1) (by omega) (by omega)
  · rw [up_ne _ _ q]; exact hq i i0 (by omega)
theorem ad_mem {n : Int} {f : Int → Int} {x z : Int} (hn : 0 ≤ n) : Inr (n + 1) (up f n x) z ↔ Inr n f z ∨ z = x := by
  constructor
  · intro ⟨i, i0, i1, i2⟩
    by_cases q : i = n
    · right; rw [← i2, q, up_eq]
    · left; rw [up_ne _ _ q] at i2; exact ⟨i, i0, by omega, i2⟩
  · intro c
    rcases c with ⟨i, i0, i1, i2⟩ | c
    · exact ⟨i, i0, by omega, by rw [up_ne _ _ (by omega)]; exact i2⟩
    · exact ⟨n, hn, by omega, by rw [up_eq, c]⟩
theorem ad_dist {n : Int} {f : Int → Int} {x : Int} (hd : ∀ i j : Int, 0 ≤ i → i < j → j < n → f i ≠ f j) (hx : ¬ Inr n f x) : ∀ i j : Int, 0 ≤ i → i < j → j < n + 1 → up f n x i ≠ up f n x j := by
  intro i j i0 i1 i2
  rw [up_ne (k := n) (j := i) _ _ (by omega)]
  by_cases w : j = n
  · rw [w, up_eq]
    exact fun c => hx ⟨i, i0, by omega, c⟩
  · rw [up_ne _ _ w]; exact hd i j i0 i1 (by omega)
theorem ad_all {n : Int} {f : Int → Int} {x : Int} {Q : Int → Prop} (hq : ∀ i : Int, 0 ≤ i → i < n → Q (f i)) (hx : Q x) : ∀ i : Int, 0 ≤ i → i < n + 1 → Q (up f n x i) := by
  intro i i0 i1
  by_cases q : i = n
  · rw [q, up_eq]; exact hx
  · rw [up_ne _ _ q]; exact hq i i0 (by omega)
theorem NO.putOld {nn rn nc oc : Int} {nf rf nw ol : Int → Int} (h : NO nn nf rn rf nc nw oc ol) {x k : Int} (hx : ¬ Inr nn nf x) (hn : nn < 60) (hb : 0 ≤ x ∧ x ≤ 1000000) (h0 : 0 ≤ k) (h1 : k < oc) (hk : ol k = x) : NO (nn + 1) (insF nf x (belC nn nf x)) rn rf nc nw (oc - 1) (up ol k (ol (oc - 1))) := by
  have hr := (h.old hx).mpr ⟨k, h0, h1, hk⟩
  obtain ⟨a1, a2, a3, a4, a5, a6, a7, a8, a9, a10⟩ := h
  have ic := Ins.can a1.ks x
  refine ⟨ic.kr a1 hn hb hx, a2, by omega, a4, rm_all (Q := fun v => 0 ≤ v ∧ v ≤ 1000000) a5 h0 h1, a6, rm_dist a7 h0, a8, rm_all (Q := fun v => Inr rn rf v) a9 h0 h1, fun z => ?_⟩
  rw [ic.mem, a10 z, rm_mem a7 h0 h1 z, hk]
  constructor
  · intro q
    rcases q with (q | q) | q
    · exact Or.inl ⟨q.1, fun c => q.2 c.1⟩
    · exact Or.inr q
    · rw [q]; exact Or.inl ⟨hr, fun c => c.2 rfl⟩
  · intro q
    rcases q with q | q
    · by_cases w : z = x
      · exact Or.inr w
      · exact Or.inl (Or.inl ⟨q.1, fun c => q.2 ⟨c, w⟩⟩)
    · exact Or.inl (Or.inr q)
theorem NO.putNew {nn rn nc oc : Int} {nf rf nw ol : Int → Int} (h : NO nn nf rn rf nc nw oc ol) {x : Int} (hx : ¬ Inr nn nf x) (hn : nn < 60) (hb : 0 ≤ x ∧ x ≤ 1000000) (ho : ¬ Inr oc ol x) (hc : nc + oc < 8) : NO (nn + 1) (insF nf x (belC nn nf x)) rn rf (nc + 1) (up nw nc x) oc ol := by
  have hr : ¬ Inr rn rf x := fun q => ho ((h.old hx).mp q)
  obtain ⟨a1, a2, a3, a4, a5, a6, a7, a8, a9, a10⟩ := h
  have ic := Ins.can a1.ks x
  have hnw : ¬ Inr nc nw x := fun q => hx ((a10 x).mpr (Or.inr q))
  refine ⟨ic.kr a1 hn hb hx, a2, by omega, ad_all (Q := fun v => 0 ≤ v ∧ v ≤ 1000000) a4 hb, a5, ad_dist a6 hnw, a7, ad_all (Q := fun v => ¬ Inr rn rf v) a8 hr, a9, fun z => ?_⟩
  rw [ic.mem, a10 z, ad_mem a3.1]
  constructor
  · intro q
    rcases q with (q | q) | q
    · exact Or.inl q
    · exact Or.inr (Or.inl q)
    · exact Or.inr (Or.inr q)
  · intro q
    rcases q with q | (q | q)
    · exact Or.inl (Or.inl q)
    · exact Or.inl (Or.inr q)
    · exact Or.inr q
theorem NO.takeNew {nn rn nc oc : Int} {nf rf nw ol : Int → Int} (h : NO nn nf rn rf nc nw oc ol) {x k : Int} (hx : Inr nn nf x) (h0 : 0 ≤ k) (h1 : k < nc) (hk : nw k = x) : NO (nn - 1) (delF nf (belC nn nf x)) rn rf (nc - 1) (up nw k (nw (nc - 1))) oc ol := by
  have hr := (h.new hx).mpr ⟨k, h0, h1, hk⟩
  obtain ⟨a1, a2, a3, a4, a5, a6, a7, a8, a9, a10⟩ := h
  have ic := Del.can a1 hx
  refine ⟨ic.kr a1, a2, by omega, rm_all (Q := fun v => 0 ≤ v ∧ v ≤ 1000000) a4 h0 h1, a5, rm_dist a6 h0, a7, rm_all (Q := fun v => ¬ Inr rn rf v) a8 h0 h1, a9, fun z => ?_⟩
  rw [ic.mem a1.ks, a10 z, rm_mem a6 h0 h1 z, hk]
  constructor
  · intro q
    rcases q.1 with w | w
    · exact Or.inl w
    · exact Or.inr ⟨w, q.2⟩
  · intro q
    rcases q with q | q
    · exact ⟨Or.inl q, fun c => hr (c ▸ q.1)⟩
    · exact ⟨Or.inr q.1, q.2⟩
theorem NO.takeOld {nn rn nc oc : Int} {nf rf nw ol : Int → Int} (h : NO nn nf rn rf nc nw oc ol) {x : Int} (hx : Inr nn nf x) (ho : ¬ Inr nc nw x) (hc : nc + oc < 8) : NO (nn - 1) (delF nf (belC nn nf x)) rn rf nc nw (oc + 1) (up ol oc x) := by
  have hr : Inr rn rf x := Classical.byContradiction fun q => ho ((h.new hx).mp q)
  obtain ⟨a1, a2, a3, a4, a5, a6, a7, a8, a9, a10⟩ := h
  have ic := Del.can a1 hx
  have hol : ¬ Inr oc ol x := fun q => by
    rcases (a10 x).mp hx with w | w
    · exact w.2 q
    · exact ho w
  have hb : 0 ≤ x ∧ x ≤ 1000000 := by
    obtain ⟨i, i0, i1, i2⟩ := hx
    rw [← i2]; exact a1.2.2.1 i i0 i1
  refine ⟨ic.kr a1, a2, by omega, a4, ad_all (Q := fun v => 0 ≤ v ∧ v ≤ 1000000) a5 hb, a6, ad_dist a7 hol, a8, ad_all (Q := fun v => Inr rn rf v) a9 hr, fun z => ?_⟩
  rw [ic.mem a1.ks, a10 z, ad_mem a3.2.1]
  constructor
  · intro q
    rcases q.1 with w | w
    · exact Or.inl ⟨w.1, fun c => by rcases c with c | c; exact w.2 c; exact q.2 c⟩
    · exact Or.inr w
  · intro q
    rcases q with q | q
    · exact ⟨Or.inl ⟨q.1, fun c => q.2 (Or.inl c)⟩, fun c => q.2 (Or.inr c)⟩
    · exact ⟨Or.inr q, fun c => ho (c ▸ q)⟩
theorem NO.mk {nn : Int} {nf rf nw ol : Int → Int} (h : Kr nn nf) (a : Agr nn rf nf) : NO nn nf nn rf 0 nw 0 ol := by
  refine ⟨h, h.congr a.symm, by omega, fun i i0 i1 => by omega, fun i i0 i1 => by omega, fun i j i0 i1 i2 => by omega, fun i j i0 i1 i2 => by omega, fun i i0 i1 => by omega, fun i i0 i1 => by omega, fun z => ?_⟩
  constructor
  · intro q; exact Or.inl ⟨q.congr a.symm, fun ⟨i, i0, i1, _⟩ => by omega⟩
  · intro q
    rcases q with q | ⟨i, i0, i1, _⟩
    · exact q.1.congr a
    · omega
