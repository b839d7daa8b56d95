/-! ===== one mathematical state for class and reference, and what each call answers ===== -/
abbrev T9 : Type := Int × (Int → Int) × Int × (Int → Int) × Int × Int × Int × Int × (Int → Bool)
theorem NO.congr {nn rn nc oc : Int} {nf nf' rf nw ol : Int → Int} (h : NO nn nf rn rf nc nw oc ol) (a : Agr nn nf nf') : NO nn nf' rn rf nc nw oc ol := by
  obtain ⟨h1, h2, h3, h4, h5, h6, h7, h8, h9, h10⟩ := h
  refine ⟨Kr.congr a h1, h2, h3, h4, h5, h6, h7, h8, h9, fun x => ⟨fun q => (h10 x).mp (Inr.congr a.symm q), fun q => Inr.congr a ((h10 x).mpr q)⟩⟩
theorem ins_agr {n : Int} {f h : Int → Int} {x k : Int} (q : Ins n f x k h) : Agr (n + 1) (insF f x (belC n f x)) h := by
  have e : k = belC n f x := q.1.bc
  rw [← e]
  exact q.agr.symm
theorem del_agr {n : Int} {f h : Int → Int} {x k : Int} (q : Del n f x k h) (hk : Kr n f) : Agr (n - 1) (delF f (belC n f x)) h := (q.agr hk.ks).2.symm
theorem setB_congr {b B : Int → Bool} {x : Int} (h : ∀ j : Int, 0 ≤ j → j < 64 → b j = B j) : ∀ j : Int, 0 ≤ j → j < 64 → setB b x j = setB B x j := by
  intro j h0 h1
  show (if j = x / 61 % 64 then true else (if j = x % 61 then true else b j)) = (if j = x / 61 % 64 then true else (if j = x % 61 then true else B j))
  rw [h j h0 h1]
theorem mk_MB {n : Int} {f : Int → Int} (hk : Kr n f) {x : Int} (h : Inr n f x) : MB (mkB f n.toNat) x := by
  obtain ⟨i, h0, h1, h2⟩ := h
  have := hk.1
  rw [← h2]
  exact mkB_mb h0 (by omega)
theorem ins_MB {n : Int} {f h : Int → Int} {x k : Int} {B : Int → Bool} (q : Ins n f x k h) (hb : ∀ z : Int, Inr n f z → MB B z) : ∀ z : Int, Inr (n + 1) h z → MB (setB B x) z := by
  intro z hz
  rcases q.mem.mp hz with h1 | h1
  · exact setB_keep (hb z h1)
  · rw [h1]; exact setB_mb B x
theorem del_MB {n : Int} {f h : Int → Int} {x k : Int} {B : Int → Bool} (q : Del n f x k h) (hk : Kr n f) (hb : ∀ z : Int, Inr n f z → MB B z) : ∀ z : Int, Inr (n - 1) h z → MB B z := fun z hz => hb z ((q.mem hk.ks).mp hz).1
theorem Kr.inj {n : Int} {f : Int → Int} (h : Kr n f) {i j : Int} (i0 : 0 ≤ i) (i1 : i < n) (j0 : 0 ≤ j) (j1 : j < n) (e : f i = f j) : i = j := by
  rcases Int.lt_trichotomy i j with q | q | q
  · have := h.2.2.2 i j i0 q j1; omega
  · exact q
  · have := h.2.2.2 j i j0 q i1; omega
theorem Agr.inr {n : Int} {f h : Int → Int} (a : Agr n f h) (x : Int) : Inr n f x ↔ Inr n h x := ⟨Inr.congr a, Inr.congr a.symm⟩
def Qput (nn : Int) (nf : Int → Int) (rn : Int) (y : Int → Int) (e nc oc co : Int) (B : Int → Bool) (u z : Int) (S' : T9) : Prop :=
  ((u < 0 ∨ 1000000 < u) ∧ -2 = z ∧ (nn, nf, rn, y, e, nc, oc, co, B) = S') ∨
  ((0 ≤ u ∧ u ≤ 1000000) ∧ Inr nn nf u ∧ -3 = z ∧ (nn, nf, rn, y, e, nc, oc, co, B) = S') ∨
  ((0 ≤ u ∧ u ≤ 1000000) ∧ ¬ Inr nn nf u ∧ nn = 60 ∧ -4 = z ∧ (nn, nf, rn, y, e, nc, oc, co, B) = S') ∨
  ((0 ≤ u ∧ u ≤ 1000000) ∧ ¬ Inr nn nf u ∧ nn < 60 ∧ Inr rn y u ∧ nn + 1 = z ∧ ∃ (k : Int) (f' : Int → Int), Ins nn nf u k f' ∧ (nn + 1, f', rn, y, e, nc, oc - 1, co, setB B u) = S') ∨
  ((0 ≤ u ∧ u ≤ 1000000) ∧ ¬ Inr nn nf u ∧ nn < 60 ∧ ¬ Inr rn y u ∧ nc + oc < 8 ∧ nn + 1 = z ∧ ∃ (k : Int) (f' : Int → Int), Ins nn nf u k f' ∧ (nn + 1, f', rn, y, e, nc + 1, oc, co, setB B u) = S') ∨
  ((0 ≤ u ∧ u ≤ 1000000) ∧ ¬ Inr nn nf u ∧ nn < 60 ∧ ¬ Inr rn y u ∧ nc + oc = 8 ∧ nn + 1 = z ∧ ∃ (k : Int) (f' : Int → Int), Ins nn nf u k f' ∧ (nn + 1, f', nn, nf, e, 0 + 1, 0, co + nn, setB (mkB nf nn.toNat) u) = S')
def Qtake (nn : Int) (nf : Int → Int) (rn : Int) (y : Int → Int) (e nc oc co : Int) (B : Int → Bool) (u z : Int) (S' : T9) : Prop :=
  ((u < 0 ∨ 1000000 < u) ∧ -2 = z ∧ (nn, nf, rn, y, e, nc, oc, co, B) = S') ∨
  ((0 ≤ u ∧ u ≤ 1000000) ∧ ¬ Inr nn nf u ∧ -3 = z ∧ (nn, nf, rn, y, e, nc, oc, co, B) = S') ∨
  ((0 ≤ u ∧ u ≤ 1000000) ∧ Inr nn nf u ∧ ¬ Inr rn y u ∧ nn - 1 = z ∧ ∃ (k : Int) (f' : Int → Int), Del nn nf u k f' ∧ (nn - 1, f', rn, y, e, nc - 1, oc, co, B) = S') ∨
  ((0 ≤ u ∧ u ≤ 1000000) ∧ Inr nn nf u ∧ Inr rn y u ∧ nc + oc < 8 ∧ nn - 1 = z ∧ ∃ (k : Int) (f' : Int → Int), Del nn nf u k f' ∧ (nn - 1, f', rn, y, e, nc, oc + 1, co, B) = S') ∨
  ((0 ≤ u ∧ u ≤ 1000000) ∧ Inr nn nf u ∧ Inr rn y u ∧ nc + oc = 8 ∧ nn - 1 = z ∧ ∃ (k : Int) (f' : Int → Int), Del nn nf u k f' ∧ (nn - 1, f', nn, nf, e, 0, 0 + 1, co + nn, mkB nf nn.toNat) = S')
def Qslack (nn : Int) (nf : Int → Int) (rn : Int) (y : Int → Int) (e nc oc co : Int) (B : Int → Bool) (u z : Int) (S' : T9) : Prop :=
  ((u < 0 ∨ 8 < u) ∧ -2 = z ∧ (nn, nf, rn, y, e, nc, oc, co, B) = S') ∨
  ((0 ≤ u ∧ u ≤ 8) ∧ e = z ∧ (nn, nf, nn, nf, u, 0, 0, co + nn, mkB nf nn.toNat) = S')
def Qplace (nn : Int) (nf : Int → Int) (u z : Int) : Prop := ((u < 0 ∨ 1000000 < u) ∧ -2 = z) ∨ ((0 ≤ u ∧ u ≤ 1000000) ∧ ¬ Inr nn nf u ∧ -1 = z) ∨ ((0 ≤ u ∧ u ≤ 1000000) ∧ 0 ≤ z ∧ z < nn ∧ nf z = u)
def Qat (nn : Int) (nf : Int → Int) (u z : Int) : Prop := ((u < 0 ∨ nn ≤ u) ∧ -2 = z) ∨ ((0 ≤ u ∧ u < nn) ∧ nf u = z)
def Qrange (nn : Int) (nf : Int → Int) (u v z : Int) : Prop := ((u < 0 ∨ 1000000 < u ∨ v < 0 ∨ 1000000 < v ∨ v < u) ∧ -2 = z) ∨ ((0 ≤ u ∧ u ≤ v ∧ v ≤ 1000000) ∧ cnt (inab nf u v) nn.toNat = z)
def Qsum (nn : Int) (nf : Int → Int) (u v z : Int) : Prop := ((u < 0 ∨ 1000000 < u ∨ v < 0 ∨ 1000000 < v ∨ v < u) ∧ -2 = z) ∨ ((0 ≤ u ∧ u ≤ v ∧ v ≤ 1000000) ∧ smm (inab nf u v) nf nn.toNat = z)
def Qpieces (y : Int → Int) (e rn u z : Int) : Prop := ∃ h : Int, Ht y e rn h ∧ (((u < 0 ∨ 10 ≤ u) ∧ -2 = z) ∨ ((0 ≤ u ∧ u < 10 ∧ h ≤ u) ∧ 0 = z) ∨ ((0 ≤ u ∧ u < h ∧ h ≤ 6) ∧ PM (lvl y e rn u.toNat).1 e (lvl y e rn u.toNat).2 = z))
def Qpiece (y : Int → Int) (e rn u k w z : Int) : Prop := ∃ h : Int, Ht y e rn h ∧ (((u < 0 ∨ h ≤ u ∨ k < 0 ∨ (0 ≤ u ∧ u < h ∧ PM (lvl y e rn u.toNat).1 e (lvl y e rn u.toNat).2 ≤ k) ∨ w < 0 ∨ 4 < w) ∧ -2 = z) ∨
  ((w = 0 ∧ 0 ≤ u ∧ u < h ∧ 0 ≤ k ∧ k < PM (lvl y e rn u.toNat).1 e (lvl y e rn u.toNat).2) ∧ P0 (lvl y e rn u.toNat).1 e (lvl y e rn u.toNat).2 k = z) ∨
  ((w = 1 ∧ 0 ≤ u ∧ u < h ∧ 0 ≤ k ∧ k < PM (lvl y e rn u.toNat).1 e (lvl y e rn u.toNat).2) ∧ P1 (lvl y e rn u.toNat).1 e (lvl y e rn u.toNat).2 k = z) ∨
  ((w = 2 ∧ 0 ≤ u ∧ u < h ∧ 0 ≤ k ∧ k < PM (lvl y e rn u.toNat).1 e (lvl y e rn u.toNat).2) ∧ P2 (lvl y e rn u.toNat).1 e (lvl y e rn u.toNat).2 k = z) ∨
  ((w = 3 ∧ 0 ≤ u ∧ u < h ∧ 0 ≤ k ∧ k < PM (lvl y e rn u.toNat).1 e (lvl y e rn u.toNat).2) ∧ P3 (lvl y e rn u.toNat).1 e (lvl y e rn u.toNat).2 k = z) ∨
  ((w = 4 ∧ 0 ≤ u ∧ u < h ∧ 0 ≤ k ∧ k < PM (lvl y e rn u.toNat).1 e (lvl y e rn u.toNat).2) ∧ P4 (lvl y e rn u.toNat).1 e (lvl y e rn u.toNat).2 k = z))
def Qguess (y : Int → Int) (e rn u z : Int) : Prop := ((u < 0 ∨ 1000000 < u) ∧ -2 = z) ∨ ((0 ≤ u ∧ u ≤ 1000000) ∧ rn = 0 ∧ -1 = z) ∨ ((0 ≤ u ∧ u ≤ 1000000) ∧ 1 ≤ rn ∧ ∃ p : Int, Pf (PM y e rn) (P2 y e rn) u p ∧ gs y e rn p u = z)
def Qfind (y : Int → Int) (e rn u z : Int) : Prop := ((u < 0 ∨ 1000000 < u) ∧ -2 = z) ∨ ((0 ≤ u ∧ u ≤ 1000000) ∧ ∃ sn : Int, LkR y e rn u z sn)
def Qlooks (y : Int → Int) (e rn u z : Int) : Prop := ((u < 0 ∨ 1000000 < u) ∧ -2 = z) ∨ ((0 ≤ u ∧ u ≤ 1000000) ∧ ∃ mt : Int, LkR y e rn u mt z)
def Qmaybe (B : Int → Bool) (u z : Int) : Prop := ((u < 0 ∨ 1000000 < u) ∧ -2 = z) ∨ ((0 ≤ u ∧ u ≤ 1000000) ∧ MB B u ∧ 1 = z) ∨ ((0 ≤ u ∧ u ≤ 1000000) ∧ ¬ MB B u ∧ 0 = z)
def Qwrong (nn : Int) (nf : Int → Int) (B : Int → Bool) (u v z : Int) : Prop := ((u < 0 ∨ 1000000 < u ∨ v < 0 ∨ 1000000 < v ∨ v < u ∨ 2000 < v - u) ∧ -2 = z) ∨ ((0 ≤ u ∧ u ≤ v ∧ v ≤ 1000000 ∧ v - u ≤ 2000) ∧ cnt (fun i => mbb B (u + i) && !inb nn nf (u + i)) (v + 1 - u).toNat = z)
def Qpoison (nn : Int) (nf : Int → Int) (e u v w z : Int) : Prop := ((u < 0 ∨ 1000000 < u ∨ v < 0 ∨ 1000000 < v ∨ v < u ∨ 40 < v - u ∨ w < 0 ∨ 1 < w) ∧ -2 = z) ∨ ((0 ≤ u ∧ u ≤ v ∧ v ≤ 1000000 ∧ v - u ≤ 40 ∧ 0 ≤ w ∧ w ≤ 1) ∧ nn = 60 ∧ -4 = z) ∨
  ((0 ≤ u ∧ u ≤ v ∧ v ≤ 1000000 ∧ v - u ≤ 40 ∧ w = 0) ∧ nn < 60 ∧ (psn nn nf e u (v + 1 - u).toNat).1 = z) ∨ ((0 ≤ u ∧ u ≤ v ∧ v ≤ 1000000 ∧ v - u ≤ 40 ∧ w = 1) ∧ nn < 60 ∧ (psn nn nf e u (v + 1 - u).toNat).2 = z)
def Qcount (nn rn nc oc co : Int) (B : Int → Bool) (u z : Int) : Prop := ((u < 0 ∨ 5 < u) ∧ -2 = z) ∨ (u = 0 ∧ nn = z) ∨ (u = 1 ∧ rn = z) ∨ (u = 2 ∧ nc = z) ∨ (u = 3 ∧ oc = z) ∨ (u = 4 ∧ co = z) ∨ (u = 5 ∧ cnt B 64 = z)
