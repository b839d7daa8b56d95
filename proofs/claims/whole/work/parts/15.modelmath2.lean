/-! ===== the reference's pieces ===== -/
/-- reach and fewest of rank i -/
def Rs (x : Int → Int) (e n : Int) (F R : Int → Int) (i : Int) : Prop := i ≤ R i ∧ R i < n ∧ okd x e i (R i - i).toNat ∧ (R i + 1 < n → ¬ kp x e i (R i + 1 - i).toNat) ∧ (∃ d : Nat, i + (d : Int) ≤ R i ∧ F i = F (i + (d : Int) + 1) + 1) ∧ ∀ d : Nat, i + (d : Int) ≤ R i → F i ≤ F (i + (d : Int) + 1) + 1
def FewAll (x : Int → Int) (e n : Int) (F R : Int → Int) : Prop := F n = 0 ∧ ∀ i : Int, 0 ≤ i → i < n → Rs x e n F R i
theorem Rs.ok {x : Int → Int} {e n : Int} {F R : Int → Int} {i : Int} (h : Rs x e n F R i) {d : Nat} (hd : okd x e i d) (hn : i + (d : Int) < n) : i + (d : Int) ≤ R i := by
  obtain ⟨r1, r2, r3, r4, _, _⟩ := h
  rcases Int.lt_or_le (R i) (i + (d : Int)) with q | q
  · exact absurd (hd (R i + 1 - i).toNat (by omega) (by omega)) (r4 (by omega))
  · exact q
theorem Rs.cs {x : Int → Int} {e n : Int} {F R : Int → Int} {i j : Int} (h : Rs x e n F R i) (h0 : i ≤ j) (h1 : j ≤ R i) (h2 : F (j + 1) + 1 = F i) (h3 : ∀ k : Int, j < k → k ≤ R i → F (k + 1) + 1 ≠ F i) : Cs x e n F i j (lw x e i (j - i).toNat).1 (lw x e i (j - i).toNat).2 := by
  have hh := h
  obtain ⟨r1, r2, r3, r4, r5, r6⟩ := h
  have ej : i + (((j - i).toNat : Nat) : Int) = j := by omega
  refine ⟨(j - i).toNat, by omega, okd_le r3 (by omega), ej.symm, by rw [ej]; omega, fun d' q1 q2 => r6 d' (hh.ok q1 q2), fun d' q0 q1 q2 => ?_, rfl, rfl⟩
  have a := r6 d' (hh.ok q1 q2)
  have b := h3 (i + (d' : Int)) (by omega) (hh.ok q1 q2)
  omega
theorem Rs.ex {x : Int → Int} {e n : Int} {F R : Int → Int} {i : Int} (h : Rs x e n F R i) : ∃ j : Int, i ≤ j ∧ j ≤ R i ∧ F (j + 1) + 1 = F i ∧ ∀ k : Int, j < k → k ≤ R i → F (k + 1) + 1 ≠ F i := by
  obtain ⟨r1, r2, r3, r4, ⟨d, d1, d2⟩, r6⟩ := h
  have key : ∀ m : Nat, (R i - (m : Int) ≥ i + (d : Int)) → (∀ k : Int, R i - (m : Int) < k → k ≤ R i → F (k + 1) + 1 ≠ F i) → ∃ j : Int, i ≤ j ∧ j ≤ R i ∧ F (j + 1) + 1 = F i ∧ ∀ k : Int, j < k → k ≤ R i → F (k + 1) + 1 ≠ F i := by
    intro m
    have ind : ∀ t : Nat, ∀ m : Nat, R i - (m : Int) - (i + (d : Int)) = (t : Int) → (∀ k : Int, R i - (m : Int) < k → k ≤ R i → F (k + 1) + 1 ≠ F i) → ∃ j : Int, i ≤ j ∧ j ≤ R i ∧ F (j + 1) + 1 = F i ∧ ∀ k : Int, j < k → k ≤ R i → F (k + 1) + 1 ≠ F i := by
      intro t
      induction t with
      | zero =>
        intro m hm hk
        exact ⟨R i - (m : Int), by omega, by omega, by rw [show R i - (m : Int) = i + (d : Int) by omega]; omega, hk⟩
      | succ t ih =>
        intro m hm hk
        by_cases q : F (R i - (m : Int) + 1) + 1 = F i
        · exact ⟨R i - (m : Int), by omega, by omega, q, hk⟩
        · refine ih (m + 1) (by omega) (fun k k1 k2 => ?_)
          by_cases z : k = R i - (m : Int)
          · rw [z]; exact q
          · exact hk k (by omega) k2
    intro hm hk
    exact ind (R i - (m : Int) - (i + (d : Int))).toNat m (by omega) hk
  exact key 0 (by omega) (fun k k1 k2 => by omega)
theorem FewAll.cut {x : Int → Int} {e n : Int} {F R : Int → Int} (h : FewAll x e n F R) : ∃ L N D : Int → Int, Cut4 x e n F L N D := by
  have c : ∀ i : Int, ∃ j : Int, 0 ≤ i → i < n → Cs x e n F i j (lw x e i (j - i).toNat).1 (lw x e i (j - i).toNat).2 := by
    intro i
    by_cases q : 0 ≤ i ∧ i < n
    · obtain ⟨j, j0, j1, j2, j3⟩ := (h.2 i q.1 q.2).ex
      exact ⟨j, fun _ _ => (h.2 i q.1 q.2).cs j0 j1 j2 j3⟩
    · exact ⟨0, fun a b => absurd ⟨a, b⟩ q⟩
  exact ⟨fun i => Classical.choose (c i), fun i => (lw x e i (Classical.choose (c i) - i).toNat).1, fun i => (lw x e i (Classical.choose (c i) - i).toNat).2, h.1, fun i i0 i1 => Classical.choose_spec (c i) i0 i1⟩
theorem Cs.uniq {x : Int → Int} {e n : Int} {F : Int → Int} {i L N D L' N' D' : Int} (h : Cs x e n F i L N D) (h' : Cs x e n F i L' N' D') : L = L' ∧ N = N' ∧ D = D' := by
  obtain ⟨d, d1, d2, d3, d4, d5, d6, d7, d8⟩ := h
  obtain ⟨c, c1, c2, c3, c4, c5, c6, c7, c8⟩ := h'
  have hdc : d = c := by
    rcases Nat.lt_trichotomy d c with q | q | q
    · have := d6 c q c2 c1
      omega
    · exact q
    · have := c6 d q d2 d1
      omega
  subst hdc
  exact ⟨by rw [d3, c3], by rw [d7, c7], by rw [d8, c8]⟩
theorem FewAll.at {x : Int → Int} {e n : Int} {F R : Int → Int} (h : FewAll x e n F R) {i L N D : Int} (h0 : 0 ≤ i) (h1 : i < n) (c : Cs x e n F i L N D) : L = (cQ x e n).2.1 i ∧ N = (cQ x e n).2.2.1 i ∧ D = (cQ x e n).2.2.2 i := by
  obtain ⟨L', N', D', q⟩ := h.cut
  have k := cQ_of q
  have u := c.uniq (q.2 i h0 h1)
  have v := k.2 i h0 h1
  exact ⟨u.1.trans v.1, u.2.1.trans v.2.1, u.2.2.trans v.2.2⟩
theorem FewAll.ok {x : Int → Int} {e n : Int} {F R : Int → Int} (h : FewAll x e n F R) (hk : Kr n x) (h1 : 1 ≤ n) : LvOK x e n ∧ ∀ i : Int, 0 ≤ i → i ≤ n → F i = (cQ x e n).1 i := by
  obtain ⟨L', N', D', q⟩ := h.cut
  exact ⟨⟨hk, h1, cQ_cut q⟩, (cQ_of q).1⟩
theorem P_congr {x y : Int → Int} {e n : Int} (a : Agr n x y) : PM x e n = PM y e n ∧ (∀ k : Int, P0 x e n k = P0 y e n k ∧ P1 x e n k = P1 y e n k ∧ P3 x e n k = P3 y e n k ∧ P4 x e n k = P4 y e n k) := by
  have c := cQ_congr (e := e) a
  unfold PM P3 P4 P1 P0
  rw [c]
  exact ⟨rfl, fun k => ⟨rfl, rfl, rfl, rfl⟩⟩
theorem P2_congr {x y : Int → Int} {e n k : Int} (a : Agr n x y) (h : LvOK x e n) (he : 0 ≤ e) (k0 : 0 ≤ k) (k1 : k < PM x e n) : P2 x e n k = P2 y e n k := by
  have p := h.p he k0 k1
  unfold P2
  rw [← ((P_congr (e := e) a).2 k).1]
  exact a _ p.1 (by omega)
/-- the levels as the reference holds them: sixty places a level -/
def LvP (y : Int → Int) (e n : Int) (t : Nat) (pm fs la fk us bs : Int → Int) : Prop := ∀ s : Nat, s < t → LvOK (lvl y e n s).1 e (lvl y e n s).2 ∧ pm (s : Int) = PM (lvl y e n s).1 e (lvl y e n s).2 ∧ ∀ k : Int, 0 ≤ k → k < PM (lvl y e n s).1 e (lvl y e n s).2 → fs (60 * (s : Int) + k) = P0 (lvl y e n s).1 e (lvl y e n s).2 k ∧ la (60 * (s : Int) + k) = P1 (lvl y e n s).1 e (lvl y e n s).2 k ∧ fk (60 * (s : Int) + k) = P2 (lvl y e n s).1 e (lvl y e n s).2 k ∧ us (60 * (s : Int) + k) = P3 (lvl y e n s).1 e (lvl y e n s).2 k ∧ bs (60 * (s : Int) + k) = P4 (lvl y e n s).1 e (lvl y e n s).2 k
def LvM (y : Int → Int) (e n v : Int) (pm fs la fk us bs : Int → Int) : Prop := Ht y e n v ∧ 0 ≤ v ∧ v ≤ 6 ∧ LvP y e n v.toNat pm fs la fk us bs
/-- one more level of pieces is laid over the keys kf -/
theorem LvP.step {y kf : Int → Int} {e n kn v : Int} {t : Nat} {pm fs la fk us bs fs' la' fk' us' bs' : Int → Int} (h : LvP y e n t pm fs la fk us bs) (he : 0 ≤ e) (hv : v = (t : Int)) (hn : kn = (lvl y e n t).2) (ha : Agr kn kf (lvl y e n t).1) (ho : LvOK kf e kn)
    (o : ∀ j : Int, j < 60 * v → fs' j = fs j ∧ la' j = la j ∧ fk' j = fk j ∧ us' j = us j ∧ bs' j = bs j)
    (hp : ∀ k : Int, 0 ≤ k → k < PM kf e kn → fs' (60 * v + k) = P0 kf e kn k ∧ la' (60 * v + k) = P1 kf e kn k ∧ fk' (60 * v + k) = P2 kf e kn k ∧ us' (60 * v + k) = P3 kf e kn k ∧ bs' (60 * v + k) = P4 kf e kn k) :
    LvP y e n (t + 1) (up pm v (PM kf e kn)) fs' la' fk' us' bs' := by
  have c := P_congr (e := e) ha
  have ok2 : LvOK (lvl y e n t).1 e kn := ⟨ho.1.congr ha, ho.2.1, by
    have q : CutC kf e kn := ho.2.2
    exact cQ_cut (Cut4.congr ha q)⟩
  intro s hs
  by_cases q : s = t
  · rw [q, ← hn]
    refine ⟨ok2, by rw [hv, up_eq, c.1], fun k k0 k1 => ?_⟩
    rw [← c.1] at k1
    have p := hp k k0 k1
    rw [hv] at p
    have d := c.2 k
    rw [p.1, p.2.1, p.2.2.1, p.2.2.2.1, p.2.2.2.2, d.1, d.2.1, d.2.2.1, d.2.2.2, P2_congr ha ho he k0 k1]
    exact ⟨rfl, rfl, rfl, rfl, rfl⟩
  · have g := h s (by omega)
    have n60 := g.1.1.2.1
    have gp := g.1.pm he
    refine ⟨g.1, by rw [up_ne _ _ (by omega)]; exact g.2.1, fun k k0 k1 => ?_⟩
    have w := o (60 * (s : Int) + k) (by omega)
    rw [w.1, w.2.1, w.2.2.1, w.2.2.2.1, w.2.2.2.2]
    exact g.2.2 k k0 k1
/-- a level is to be laid over the keys kf -/
def LvGm (y : Int → Int) (e n : Int) (t : Nat) (kn : Int) (kf : Int → Int) : Prop := 1 ≤ n ∧ kn = (lvl y e n t).2 ∧ 1 ≤ kn ∧ Kr kn kf ∧ Agr kn kf (lvl y e n t).1 ∧ (∀ s : Nat, 1 ≤ s → s ≤ t → 1 < (lvl y e n s).2) ∧ (t : Int) + lb kn ≤ 6
theorem LvGm.first {y kf : Int → Int} {e n : Int} (hk : Kr n kf) (h1 : 1 ≤ n) (ha : Agr n kf y) : LvGm y e n 0 n kf := by
  have n60 := hk.2.1
  refine ⟨h1, rfl, h1, hk, ha, fun s s1 s2 => absurd s1 (by omega), ?_⟩
  unfold lb
  repeat' split
  all_goals omega
theorem LvGm.next {y kf kf' : Int → Int} {e n kn w : Int} {t : Nat} (he : 0 ≤ e) (h : LvGm y e n t kn kf) (ho : LvOK kf e kn) (hw : w = PM kf e kn) (h1 : 1 < w) (hf : ∀ j : Int, 0 ≤ j → j < w → kf' j = P2 kf e kn j) : LvGm y e n (t + 1) w kf' := by
  obtain ⟨a1, a2, a3, a4, a5, a6, a8⟩ := h
  have p := ho.pm he
  have n60 := a4.2.1
  have c := P_congr (e := e) a5
  have tbs := tb_s (n := kn) (m := w) n60 h1 (by rw [hw]; exact p.2)
  have hx : (lvl y e n (t + 1)).2 = PM kf e kn := by
    show PM (lvl y e n t).1 e (lvl y e n t).2 = _
    rw [← a2, c.1]
  refine ⟨a1, by rw [hx, hw], by omega, ?_, fun j j0 j1 => ?_, fun s s1 s2 => ?_, by omega⟩
  · rw [hw]
    exact (ho.next he).congr (fun i i0 i1 => (hf i i0 (by omega)).symm)
  · rw [hf j j0 j1, P2_congr a5 ho he j0 (by omega), a2]
    rfl
  · by_cases q : s = t + 1
    · rw [q, hx]; omega
    · exact a6 s s1 (by omega)
theorem LvGm.last {y kf : Int → Int} {e n kn w : Int} {t : Nat} (h : LvGm y e n t kn kf) (hw : w = PM kf e kn) (h1 : w ≤ 1) : Ht y e n ((t : Int) + 1) := by
  obtain ⟨a1, a2, a3, a4, a5, a6, a8⟩ := h
  have c := P_congr (e := e) a5
  refine Or.inr ⟨a1, by omega, fun s s1 s2 => a6 s s1 (by omega), ?_⟩
  rw [show ((t : Int) + 1).toNat = t + 1 by omega]
  show PM (lvl y e n t).1 e (lvl y e n t).2 ≤ 1
  rw [← a2, ← c.1]
  omega
theorem LvM.l0 {y : Int → Int} {e n v : Int} {pm fs la fk us bs : Int → Int} (h : LvM y e n v pm fs la fk us bs) (h1 : 1 ≤ v) : LvOK y e n ∧ pm 0 = PM y e n ∧ ∀ k : Int, 0 ≤ k → k < PM y e n → fs k = P0 y e n k ∧ la k = P1 y e n k ∧ fk k = P2 y e n k ∧ us k = P3 y e n k ∧ bs k = P4 y e n k := by
  have g := h.2.2.2 0 (by omega)
  refine ⟨g.1, g.2.1, fun k k0 k1 => ?_⟩
  have q := g.2.2 k k0 k1
  rw [show 60 * ((0 : Nat) : Int) + k = k by omega] at q
  exact q
