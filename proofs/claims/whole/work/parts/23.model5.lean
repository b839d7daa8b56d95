def InsX (n : Int) (f : Int → Int) (x : Int) (h : Int → Int) : Prop := ∃ p : Int, Ins n f x p h
def PwI (uf : Int → Int) (u k s km : Int) (kg : Int → Int) : Prop := (s = 0 ∧ km = k ∧ (∀ i : Int, 0 ≤ i → i < k → kg i = uf i) ∧ ∀ i : Int, 0 ≤ i → i < k → uf i < u) ∨ (s = 1 ∧ km = k + 1 ∧ ∃ p : Int, 0 ≤ p ∧ p < k ∧ (∀ i : Int, 0 ≤ i → i < p → uf i < u ∧ kg i = uf i) ∧ kg p = u ∧ u < uf p ∧ ∀ i : Int, p < i → i ≤ k → kg i = uf (i - 1))
theorem PwI.km {uf kg : Int → Int} {u k s km : Int} (h : PwI uf u k s km kg) : (s = 0 ∧ km = k) ∨ (s = 1 ∧ km = k + 1) := by
  rcases h with h | h
  · exact Or.inl ⟨h.1, h.2.1⟩
  · exact Or.inr ⟨h.1, h.2.1⟩
theorem PwI.rg {uf kg : Int → Int} {u k s km : Int} (h : PwI uf u k s km kg) : Rg s := by
  rcases h.km with q | q <;> rw [q.1] <;> exact ⟨by decide, by decide⟩
theorem PwI.go {uf kg : Int → Int} {u k s km : Int} (h : PwI uf u k s km kg) (hs : ¬ s = 0) (h0 : 0 ≤ k) : PwI uf u (k + 1) s (km + 1) (up kg km (uf k)) := by
  rcases h with h | ⟨a, b, p, p0, p1, p2, p3, p4, p5⟩
  · exact absurd h.1 hs
  · refine Or.inr ⟨a, by omega, p, p0, by omega, fun i i0 i1 => ⟨(p2 i i0 i1).1, by rw [up_ne _ _ (by omega)]; exact (p2 i i0 i1).2⟩, by rw [up_ne _ _ (by omega)]; exact p3, p4, fun i i0 i1 => ?_⟩
    by_cases q : i = km
    · rw [q, up_eq, b, show k + 1 - 1 = k by omega]
    · rw [up_ne _ _ q]; exact p5 i i0 (by omega)
theorem PwI.low {uf kg : Int → Int} {u k s km : Int} (h : PwI uf u k s km kg) (hs : s = 0) (hl : uf k < u) (h0 : 0 ≤ k) : PwI uf u (k + 1) s (km + 1) (up kg km (uf k)) := by
  rcases h with ⟨a, b, c, d⟩ | h
  · refine Or.inl ⟨a, by omega, fun i i0 i1 => ?_, fun i i0 i1 => ?_⟩
    · by_cases q : i = km
      · rw [q, up_eq, b]
      · rw [up_ne _ _ q]; exact c i i0 (by omega)
    · by_cases q : i = k
      · rw [q]; exact hl
      · exact d i i0 (by omega)
  · exact absurd hs (by rw [h.1]; decide)
theorem PwI.ins {uf kg : Int → Int} {u k s km : Int} (h : PwI uf u k s km kg) (hs : s = 0) (hl : u < uf k) (h0 : 0 ≤ k) : PwI uf u (k + 1) 1 (km + 1 + 1) (up (up kg km u) (km + 1) (uf k)) := by
  rcases h with ⟨a, b, c, d⟩ | h
  · refine Or.inr ⟨rfl, by omega, k, h0, by omega, fun i i0 i1 => ⟨d i i0 i1, by rw [up_ne _ _ (by omega), up_ne _ _ (by omega)]; exact c i i0 i1⟩, by rw [up_ne _ _ (by omega), b, up_eq], hl, fun i i0 i1 => ?_⟩
    rw [show i = km + 1 by omega, up_eq, b, show k + 1 - 1 = k by omega]
  · exact absurd hs (by rw [h.1]; decide)
theorem PwI.done1 {uf kg : Int → Int} {u k s km : Int} (h : PwI uf u k s km kg) (hs : ¬ s = 0) (hk : Ks k uf) : InsX k uf u kg ∧ km = k + 1 := by
  rcases h with h | ⟨a, b, p, p0, p1, p2, p3, p4, p5⟩
  · exact absurd h.1 hs
  · exact ⟨⟨p, ⟨p0, by omega, fun i i0 i1 => (p2 i i0 i1).1, fun i i0 i1 => by have := hk.le p0 i0 i1; omega⟩, fun i i0 i1 => (p2 i i0 i1).2, p3, p5⟩, b⟩
theorem PwI.done0 {uf kg : Int → Int} {u k s km : Int} (h : PwI uf u k s km kg) (hs : s = 0) (h0 : 0 ≤ k) : InsX k uf u (up kg km u) ∧ km = k := by
  rcases h with ⟨a, b, c, d⟩ | h
  · exact ⟨⟨k, ⟨h0, Int.le_refl _, d, fun i i0 i1 => by omega⟩, fun i i0 i1 => by rw [up_ne _ _ (by omega)]; exact c i i0 i1, by rw [b, up_eq], fun i i0 i1 => by omega⟩, b⟩
  · exact absurd hs (by rw [h.1]; decide)
set_option maxRecDepth 100000 in
theorem hiX6_piecesWith_6 : ∀ w ∈ wsX60, w ∈ wsX6_piecesWith := by decide +kernel
set_option maxRecDepth 100000 in
theorem hfX6_piecesWith_36 : Cond.fieldLink RX6 36 "KeyGuessModel" "fewest" "[I" ∈ wsX6_piecesWith := by decide +kernel
set_option maxRecDepth 100000 in
theorem hfX6_piecesWith_122 : Cond.fieldLink RX6 122 "KeyGuessModel" "keyMany" "I" ∈ wsX6_piecesWith := by decide +kernel
set_option maxRecDepth 100000 in
theorem hfX6_piecesWith_66 : Cond.fieldLink RX6 66 "KeyGuessModel" "nowMany" "I" ∈ wsX6_piecesWith := by decide +kernel
set_option maxRecDepth 100000 in
theorem hfX6_piecesWith_30 : Cond.fieldLink RX6 30 "KeyGuessModel" "keys" "[I" ∈ wsX6_piecesWith := by decide +kernel
set_option maxRecDepth 100000 in
theorem hfX6_piecesWith_27 : Cond.fieldLink RX6 27 "KeyGuessModel" "now" "[I" ∈ wsX6_piecesWith := by decide +kernel
set_option maxHeartbeats 4000000 in
set_option maxRecDepth 100000 in
/-- piecesWith -/
theorem ctX6_piecesWith (l : Launch) (g : xG) (o : Nat) (d1 : Nat) (d2 : Nat) (d3 : Nat) (d4 : Nat) (d5 : Nat) (d6 : Nat) (d7 : Nat) (d8 : Nat) (d9 : Nat) (da : Nat) (db : Nat) (dc : Nat) (dd : Nat) (de : Nat) (rn : Int) (e : Int) (nc : Int) (oc : Int) (co : Int) (un : Int) (kn : Int) (lU : Int) (lB : Int) (vn : Int) (lk : Int) (rf : Int → Int) (nw : Int → Int) (ol : Int → Int) (bt : Int → Bool) (uf : Int → Int) (kf : Int → Int) (re : Int → Int) (fw : Int → Int) (pm : Int → Int) (fs : Int → Int) (la : Int → Int) (fk : Int → Int) (us : Int → Int) (bs : Int → Int) (nn : Int) (nf : Int → Int) (u : Int) (hn : Kr nn nf) (ha : Agr nn uf nf) (hl : nn < 60) (hu : 0 ≤ u ∧ u ≤ 1000000) (hi : ¬ Inr nn nf u) (he : 0 ≤ e ∧ e ≤ 8) : Ct l g yX6_piecesWith wsX6_piecesWith ({ frames := 3, cells := 0, slots := 0, locals := 74 } : Room) 0 0 [(o, ob 6 [jv rn, .ref d1, jv e, jv nc, .ref d2, jv oc, .ref d3, jv co, .ref d4, jv nn, .ref d5, jv kn, .ref d6, .ref d7, .ref d8, Jv lU, Jv lB, jv vn, .ref d9, .ref da, .ref db, .ref dc, .ref dd, .ref de, jv lk]), (d1, ai g 61 rf), (d2, ai g 9 nw), (d3, ai g 9 ol), (d4, az g 64 bt), (d5, ai g 70 uf), (d6, ai g 70 kf), (d7, ai g 70 re), (d8, ai g 71 fw), (d9, ai g 10 pm), (da, ai g 600 fs), (db, ai g 600 la), (dc, ai g 600 fk), (dd, al g 600 us), (de, al g 600 bs)] [.ref o, jv u] (fun rV rU => ∃ (r : Int) (km : Int) (uu : Int) (ub : Int) (kg : Int → Int) (re' : Int → Int) (fw' : Int → Int), rV = some (jv r) ∧ rU = [(o, ob 6 [jv rn, .ref d1, jv e, jv nc, .ref d2, jv oc, .ref d3, jv co, .ref d4, jv nn, .ref d5, jv km, .ref d6, .ref d7, .ref d8, Jv uu, Jv ub, jv vn, .ref d9, .ref da, .ref db, .ref dc, .ref dd, .ref de, jv lk]), (d1, ai g 61 rf), (d2, ai g 9 nw), (d3, ai g 9 ol), (d4, az g 64 bt), (d5, ai g 70 uf), (d6, ai g 70 kg), (d7, ai g 70 re'), (d8, ai g 71 fw'), (d9, ai g 10 pm), (da, ai g 600 fs), (db, ai g 600 la), (dc, ai g 600 fk), (dd, al g 600 us), (de, al g 600 bs)] ∧ (r = pw nn nf e u ∧ 0 ≤ r ∧ r ≤ 60)) := by
  refine ct_of (cc := cX6_piecesWith) (nL := 4) (ret := (some .int)) (by decide) rfl (Nat.le_of_ble_eq_true rfl) ?_
  intro E C Rt0
  have C : Cx l g E ({ frames := 3, cells := 0, slots := 0, locals := 74 } : Room) RX6 "piecesWith" cX6_piecesWith wsX6_piecesWith 4 := C
  show X l g E ({ frames := 3, cells := 0, slots := 0, locals := 74 } : Room) 4 [(o, ob 6 [jv rn, .ref d1, jv e, jv nc, .ref d2, jv oc, .ref d3, jv co, .ref d4, jv nn, .ref d5, jv kn, .ref d6, .ref d7, .ref d8, Jv lU, Jv lB, jv vn, .ref d9, .ref da, .ref db, .ref dc, .ref dd, .ref de, jv lk]), (d1, ai g 61 rf), (d2, ai g 9 nw), (d3, ai g 9 ol), (d4, az g 64 bt), (d5, ai g 70 uf), (d6, ai g 70 kf), (d7, ai g 70 re), (d8, ai g 71 fw), (d9, ai g 10 pm), (da, ai g 600 fs), (db, ai g 600 la), (dc, ai g 600 fk), (dd, al g 600 us), (de, al g 600 bs)] 0 0 [(0, .ref o), (1, jv u)] 0 []
  have nn0 := hn.1
  have hku : Kr nn uf := hn.congr ha.symm
  have hiu : ¬ Inr nn uf u := fun q => hi (q.congr ha)
  have L108 : ∀ (km : Int) (kg : Int → Int), (km = nn + 1) → (InsX nn uf u kg) → X l g E ({ frames := 3, cells := 0, slots := 0, locals := 74 } : Room) 4 [(o, ob 6 [jv rn, .ref d1, jv e, jv nc, .ref d2, jv oc, .ref d3, jv co, .ref d4, jv nn, .ref d5, jv km, .ref d6, .ref d7, .ref d8, Jv lU, Jv lB, jv vn, .ref d9, .ref da, .ref db, .ref dc, .ref dd, .ref de, jv lk]), (d1, ai g 61 rf), (d2, ai g 9 nw), (d3, ai g 9 ol), (d4, az g 64 bt), (d5, ai g 70 uf), (d6, ai g 70 kg), (d7, ai g 70 re), (d8, ai g 71 fw), (d9, ai g 10 pm), (da, ai g 600 fs), (db, ai g 600 la), (dc, ai g 600 fk), (dd, al g 600 us), (de, al g 600 bs)] 0 0 [(0, .ref o)] 108 [] := by
    intro km kg hkm2 hp
    refine x_aload_n (pc := 108) C 0 dX6_piecesWith_108 rfl ?_
    have hk2 : Kr km kg := by
      rw [hkm2]; obtain ⟨p, hp⟩ := hp; exact hp.kr hku hl hu hiu
    refine x_callV (pc := 109) C (n := 0) (q0 := 0) (rest := []) (wr := [(d1, ai g 61 rf), (d2, ai g 9 nw), (d3, ai g 9 ol), (d4, az g 64 bt), (d5, ai g 70 uf), (d9, ai g 10 pm), (da, ai g 600 fs), (db, ai g 600 la), (dc, ai g 600 fk), (dd, al g 600 us), (de, al g 600 bs)]) [0, 6, 7, 8] [1, 2, 3, 4, 5, 9, 10, 11, 12, 13, 14] (ctX6_layPieces l g o d1 d2 d3 d4 d5 d6 d7 d8 d9 da db dc dd de rn e nc oc co nn km lU lB vn lk kg re fw hk2 he) gX6_piecesWith_X6_layPieces rfl ⟨rfl, rfl⟩ (by decide +kernel) ⟨by decide, by decide⟩ rfl rfl rfl rfl rfl (by decide) (by decide) (by decide) rfl (Nat.le_of_ble_eq_true rfl) dX6_piecesWith_109 ⟨by decide, by decide⟩ (fun v_109 u_109 h_109 => ?_)
    rcases h_109 with ⟨uu, ub, re', fw', rfl, rfl, f_109⟩
    refine x_world (ws' := [(o, ob 6 [jv rn, .ref d1, jv e, jv nc, .ref d2, jv oc, .ref d3, jv co, .ref d4, jv nn, .ref d5, jv km, .ref d6, .ref d7, .ref d8, Jv uu, Jv ub, jv vn, .ref d9, .ref da, .ref db, .ref dc, .ref dd, .ref de, jv lk]), (d1, ai g 61 rf), (d2, ai g 9 nw), (d3, ai g 9 ol), (d4, az g 64 bt), (d5, ai g 70 uf), (d6, ai g 70 kg), (d7, ai g 70 re'), (d8, ai g 71 fw'), (d9, ai g 10 pm), (da, ai g 600 fs), (db, ai g 600 la), (dc, ai g 600 fk), (dd, al g 600 us), (de, al g 600 bs)]) [11, 0, 1, 2, 3, 4, 12, 13, 14, 5, 6, 7, 8, 9, 10] (by decide) rfl ?_
    show X l g E ({ frames := 3, cells := 0, slots := 0, locals := 74 } : Room) 4 [(o, ob 6 [jv rn, .ref d1, jv e, jv nc, .ref d2, jv oc, .ref d3, jv co, .ref d4, jv nn, .ref d5, jv km, .ref d6, .ref d7, .ref d8, Jv uu, Jv ub, jv vn, .ref d9, .ref da, .ref db, .ref dc, .ref dd, .ref de, jv lk]), (d1, ai g 61 rf), (d2, ai g 9 nw), (d3, ai g 9 ol), (d4, az g 64 bt), (d5, ai g 70 uf), (d6, ai g 70 kg), (d7, ai g 70 re'), (d8, ai g 71 fw'), (d9, ai g 10 pm), (da, ai g 600 fs), (db, ai g 600 la), (dc, ai g 600 fk), (dd, al g 600 us), (de, al g 600 bs)] 0 0 [(0, .ref o)] 112 []
    have q0 := f_109.2 0 (by omega) (by omega)
    have hok := f_109.1.ok hk2 (by omega)
    refine x_aload_n (pc := 112) C 0 dX6_piecesWith_112 rfl ?_
    refine x_get (pc := 113) C 0 14 dX6_piecesWith_113 hiX6_piecesWith_6 hfX6_piecesWith_36 rfl rfl rfl (by decide) rfl ?_
    refine x_iconst (pc := 116) C dX6_piecesWith_116 ?_
    refine x_iald (pc := 117) C 8 dX6_piecesWith_117 rfl (by omega) (by omega) (by decide) ?_
    refine x_iret (pc := 118) C Rt0 dX6_piecesWith_118 rfl ?_
    refine ⟨_, _, _, _, _, _, _, rfl, rfl, ?_⟩
    obtain ⟨p, hp⟩ := hp
    rw [hok.2 0 (by omega) (by omega), hkm2]
    rw [hok.2 0 (by omega) (by omega), hkm2] at q0
    exact ⟨(hp.congr ha).pwq hn, by omega, by omega⟩
  refine x_aload_n (pc := 0) C 0 dX6_piecesWith_0 rfl ?_
  refine x_iconst (pc := 1) C dX6_piecesWith_1 ?_
  refine x_put (pc := 2) C (ty := .int) (ws' := [(o, ob 6 [jv rn, .ref d1, jv e, jv nc, .ref d2, jv oc, .ref d3, jv co, .ref d4, jv nn, .ref d5, jv 0, .ref d6, .ref d7, .ref d8, Jv lU, Jv lB, jv vn, .ref d9, .ref da, .ref db, .ref dc, .ref dd, .ref de, jv lk]), (d1, ai g 61 rf), (d2, ai g 9 nw), (d3, ai g 9 ol), (d4, az g 64 bt), (d5, ai g 70 uf), (d6, ai g 70 kf), (d7, ai g 70 re), (d8, ai g 71 fw), (d9, ai g 10 pm), (da, ai g 600 fs), (db, ai g 600 la), (dc, ai g 600 fk), (dd, al g 600 us), (de, al g 600 bs)]) tyX6 0 11 dX6_piecesWith_2 hiX6_piecesWith_6 tyX6_ok nmX6 hfX6_piecesWith_122 rfl rfl rfl (by decide) rfl (by decide +kernel) rfl rfl (Nat.le_of_ble_eq_true rfl) rfl ?_
  refine x_iconst (pc := 5) C dX6_piecesWith_5 ?_
  refine x_istore_n (pc := 6) C (lv' := [(2, jv 0), (0, .ref o), (1, jv u)]) dX6_piecesWith_6 (by decide) rfl ?_
  refine x_iconst (pc := 7) C dX6_piecesWith_7 ?_
  refine x_istore_n (pc := 8) C (lv' := [(3, jv 0), (2, jv 0), (0, .ref o), (1, jv u)]) dX6_piecesWith_8 (by decide) rfl ?_
  have L9 : ∀ (kμ : Nat) (s : Int) (k : Int) (km : Int) (kg : Int → Int), (nn - k).toNat < kμ → (0 ≤ k ∧ k ≤ nn) → (PwI uf u k s km kg) → X l g E ({ frames := 3, cells := 0, slots := 0, locals := 74 } : Room) 4 [(o, ob 6 [jv rn, .ref d1, jv e, jv nc, .ref d2, jv oc, .ref d3, jv co, .ref d4, jv nn, .ref d5, jv km, .ref d6, .ref d7, .ref d8, Jv lU, Jv lB, jv vn, .ref d9, .ref da, .ref db, .ref dc, .ref dd, .ref de, jv lk]), (d1, ai g 61 rf), (d2, ai g 9 nw), (d3, ai g 9 ol), (d4, az g 64 bt), (d5, ai g 70 uf), (d6, ai g 70 kg), (d7, ai g 70 re), (d8, ai g 71 fw), (d9, ai g 10 pm), (da, ai g 600 fs), (db, ai g 600 la), (dc, ai g 600 fk), (dd, al g 600 us), (de, al g 600 bs)] 0 0 [(0, .ref o), (1, jv u), (2, jv s), (3, jv k)] 9 [] := by
    intro kμ
    induction kμ with
    | zero => intro s k km kg hμ; exact absurd hμ (Nat.not_lt_zero _)
    | succ kμ ih9 =>
      intro s k km kg hμ hk hI
      refine x_iload_n (pc := 9) C 3 dX6_piecesWith_9 rfl ?_
      refine x_aload_n (pc := 10) C 0 dX6_piecesWith_10 rfl ?_
      refine x_get (pc := 11) C 0 9 dX6_piecesWith_11 hiX6_piecesWith_6 hfX6_piecesWith_66 rfl rfl rfl (by decide) rfl ?_
      refine x_icmp_ge (pc := 14) C 84 dX6_piecesWith_14 rfl ⟨by omega, by omega⟩ ⟨by omega, by omega⟩ (fun c_14 => ?_) (fun c_14 => ?_)
      · have hkm := hI.km
        rw [show k = nn by omega] at hI
        refine x_iload_n (pc := 84) C 2 dX6_piecesWith_84 rfl ?_
        refine x_if_ne (pc := 85) C 108 dX6_piecesWith_85 rfl hI.rg (fun c_85 => ?_) (fun c_85 => ?_)
        · refine x_locals (lv' := [(0, .ref o)]) [0] rfl ?_
          refine L108 _ _ ?_ ?_
          · exact (hI.done1 c_85 hku.ks).2
          · exact (hI.done1 c_85 hku.ks).1
        · refine x_aload_n (pc := 88) C 0 dX6_piecesWith_88 rfl ?_
          refine x_get (pc := 89) C 0 12 dX6_piecesWith_89 hiX6_piecesWith_6 hfX6_piecesWith_30 rfl rfl rfl (by decide) rfl ?_
          refine x_aload_n (pc := 92) C 0 dX6_piecesWith_92 rfl ?_
          refine x_get (pc := 93) C 0 11 dX6_piecesWith_93 hiX6_piecesWith_6 hfX6_piecesWith_122 rfl rfl rfl (by decide) rfl ?_
          refine x_iload_n (pc := 96) C 1 dX6_piecesWith_96 rfl ?_
          refine x_iast (pc := 97) C (ws' := [(o, ob 6 [jv rn, .ref d1, jv e, jv nc, .ref d2, jv oc, .ref d3, jv co, .ref d4, jv nn, .ref d5, jv km, .ref d6, .ref d7, .ref d8, Jv lU, Jv lB, jv vn, .ref d9, .ref da, .ref db, .ref dc, .ref dd, .ref de, jv lk]), (d1, ai g 61 rf), (d2, ai g 9 nw), (d3, ai g 9 ol), (d4, az g 64 bt), (d5, ai g 70 uf), (d6, ai g 70 (up kg km u)), (d7, ai g 70 re), (d8, ai g 71 fw), (d9, ai g 10 pm), (da, ai g 600 fs), (db, ai g 600 la), (dc, ai g 600 fk), (dd, al g 600 us), (de, al g 600 bs)]) 6 dX6_piecesWith_97 rfl (by omega) (by omega) (by decide) rfl ?_
          refine x_aload_n (pc := 98) C 0 dX6_piecesWith_98 rfl ?_
          refine x_dup (pc := 99) C dX6_piecesWith_99 rfl ?_
          refine x_get (pc := 100) C 0 11 dX6_piecesWith_100 hiX6_piecesWith_6 hfX6_piecesWith_122 rfl rfl rfl (by decide) rfl ?_
          refine x_iconst (pc := 103) C dX6_piecesWith_103 ?_
          refine x_iadd (pc := 104) C dX6_piecesWith_104 ?_
          refine x_put (pc := 105) C (ty := .int) (ws' := [(o, ob 6 [jv rn, .ref d1, jv e, jv nc, .ref d2, jv oc, .ref d3, jv co, .ref d4, jv nn, .ref d5, jv (km + 1), .ref d6, .ref d7, .ref d8, Jv lU, Jv lB, jv vn, .ref d9, .ref da, .ref db, .ref dc, .ref dd, .ref de, jv lk]), (d1, ai g 61 rf), (d2, ai g 9 nw), (d3, ai g 9 ol), (d4, az g 64 bt), (d5, ai g 70 uf), (d6, ai g 70 (up kg km u)), (d7, ai g 70 re), (d8, ai g 71 fw), (d9, ai g 10 pm), (da, ai g 600 fs), (db, ai g 600 la), (dc, ai g 600 fk), (dd, al g 600 us), (de, al g 600 bs)]) tyX6 0 11 dX6_piecesWith_105 hiX6_piecesWith_6 tyX6_ok nmX6 hfX6_piecesWith_122 rfl rfl rfl (by decide) rfl (by decide +kernel) rfl rfl (Nat.le_of_ble_eq_true rfl) rfl ?_
          refine x_locals (lv' := [(0, .ref o)]) [0] rfl ?_
          refine L108 _ _ ?_ ?_
          · rw [(hI.done0 c_85 nn0).2]
          · exact (hI.done0 c_85 nn0).1
      · have hkm := hI.km
        refine x_iload_n (pc := 17) C 2 dX6_piecesWith_17 rfl ?_
        refine x_if_ne (pc := 18) C 53 dX6_piecesWith_18 rfl hI.rg (fun c_18 => ?_) (fun c_18 => ?_)
        · refine x_aload_n (pc := 53) C 0 dX6_piecesWith_53 rfl ?_
          refine x_get (pc := 54) C 0 12 dX6_piecesWith_54 hiX6_piecesWith_6 hfX6_piecesWith_30 rfl rfl rfl (by decide) rfl ?_
          refine x_aload_n (pc := 57) C 0 dX6_piecesWith_57 rfl ?_
          refine x_get (pc := 58) C 0 11 dX6_piecesWith_58 hiX6_piecesWith_6 hfX6_piecesWith_122 rfl rfl rfl (by decide) rfl ?_
          refine x_aload_n (pc := 61) C 0 dX6_piecesWith_61 rfl ?_
          refine x_get (pc := 62) C 0 10 dX6_piecesWith_62 hiX6_piecesWith_6 hfX6_piecesWith_27 rfl rfl rfl (by decide) rfl ?_
          refine x_iload_n (pc := 65) C 3 dX6_piecesWith_65 rfl ?_
          refine x_iald (pc := 66) C 5 dX6_piecesWith_66 rfl (by omega) (by omega) (by decide) ?_
          refine x_iast (pc := 67) C (ws' := [(o, ob 6 [jv rn, .ref d1, jv e, jv nc, .ref d2, jv oc, .ref d3, jv co, .ref d4, jv nn, .ref d5, jv km, .ref d6, .ref d7, .ref d8, Jv lU, Jv lB, jv vn, .ref d9, .ref da, .ref db, .ref dc, .ref dd, .ref de, jv lk]), (d1, ai g 61 rf), (d2, ai g 9 nw), (d3, ai g 9 ol), (d4, az g 64 bt), (d5, ai g 70 uf), (d6, ai g 70 (up kg km (uf k))), (d7, ai g 70 re), (d8, ai g 71 fw), (d9, ai g 10 pm), (da, ai g 600 fs), (db, ai g 600 la), (dc, ai g 600 fk), (dd, al g 600 us), (de, al g 600 bs)]) 6 dX6_piecesWith_67 rfl (by omega) (by omega) (by decide) rfl ?_
          refine x_aload_n (pc := 68) C 0 dX6_piecesWith_68 rfl ?_
          refine x_dup (pc := 69) C dX6_piecesWith_69 rfl ?_
          refine x_get (pc := 70) C 0 11 dX6_piecesWith_70 hiX6_piecesWith_6 hfX6_piecesWith_122 rfl rfl rfl (by decide) rfl ?_
          refine x_iconst (pc := 73) C dX6_piecesWith_73 ?_
          refine x_iadd (pc := 74) C dX6_piecesWith_74 ?_
          refine x_put (pc := 75) C (ty := .int) (ws' := [(o, ob 6 [jv rn, .ref d1, jv e, jv nc, .ref d2, jv oc, .ref d3, jv co, .ref d4, jv nn, .ref d5, jv (km + 1), .ref d6, .ref d7, .ref d8, Jv lU, Jv lB, jv vn, .ref d9, .ref da, .ref db, .ref dc, .ref dd, .ref de, jv lk]), (d1, ai g 61 rf), (d2, ai g 9 nw), (d3, ai g 9 ol), (d4, az g 64 bt), (d5, ai g 70 uf), (d6, ai g 70 (up kg km (uf k))), (d7, ai g 70 re), (d8, ai g 71 fw), (d9, ai g 10 pm), (da, ai g 600 fs), (db, ai g 600 la), (dc, ai g 600 fk), (dd, al g 600 us), (de, al g 600 bs)]) tyX6 0 11 dX6_piecesWith_75 hiX6_piecesWith_6 tyX6_ok nmX6 hfX6_piecesWith_122 rfl rfl rfl (by decide) rfl (by decide +kernel) rfl rfl (Nat.le_of_ble_eq_true rfl) rfl ?_
          refine x_iinc (pc := 78) C (lv' := [(3, jv (k + 1)), (0, .ref o), (1, jv u), (2, jv s)]) 3 dX6_piecesWith_78 rfl (by decide) rfl ?_
          refine x_goto (pc := 81) C 9 dX6_piecesWith_81 rfl ?_
          refine x_locals (lv' := [(0, .ref o), (1, jv u), (2, jv s), (3, jv (k + 1))]) [1, 2, 3, 0] rfl ?_
          refine ih9 _ _ _ _ ?_ ?_ ?_
          · omega
          · omega
          · exact hI.go c_18 hk.1
        · refine x_aload_n (pc := 21) C 0 dX6_piecesWith_21 rfl ?_
          refine x_get (pc := 22) C 0 10 dX6_piecesWith_22 hiX6_piecesWith_6 hfX6_piecesWith_27 rfl rfl rfl (by decide) rfl ?_
          refine x_iload_n (pc := 25) C 3 dX6_piecesWith_25 rfl ?_
          refine x_iald (pc := 26) C 5 dX6_piecesWith_26 rfl (by omega) (by omega) (by decide) ?_
          have hb := hku.2.2.1 k (by omega) (by omega)
          have hne : uf k ≠ u := fun q => hiu ⟨k, by omega, by omega, q⟩
          refine x_iload_n (pc := 27) C 1 dX6_piecesWith_27 rfl ?_
          refine x_icmp_le (pc := 28) C 53 dX6_piecesWith_28 rfl ⟨by omega, by omega⟩ ⟨by omega, by omega⟩ (fun c_28 => ?_) (fun c_28 => ?_)
          · refine x_aload_n (pc := 53) C 0 dX6_piecesWith_53 rfl ?_
            refine x_get (pc := 54) C 0 12 dX6_piecesWith_54 hiX6_piecesWith_6 hfX6_piecesWith_30 rfl rfl rfl (by decide) rfl ?_
            refine x_aload_n (pc := 57) C 0 dX6_piecesWith_57 rfl ?_
            refine x_get (pc := 58) C 0 11 dX6_piecesWith_58 hiX6_piecesWith_6 hfX6_piecesWith_122 rfl rfl rfl (by decide) rfl ?_
            refine x_aload_n (pc := 61) C 0 dX6_piecesWith_61 rfl ?_
            refine x_get (pc := 62) C 0 10 dX6_piecesWith_62 hiX6_piecesWith_6 hfX6_piecesWith_27 rfl rfl rfl (by decide) rfl ?_
            refine x_iload_n (pc := 65) C 3 dX6_piecesWith_65 rfl ?_
            refine x_iald (pc := 66) C 5 dX6_piecesWith_66 rfl (by omega) (by omega) (by decide) ?_
            refine x_iast (pc := 67) C (ws' := [(o, ob 6 [jv rn, .ref d1, jv e, jv nc, .ref d2, jv oc, .ref d3, jv co, .ref d4, jv nn, .ref d5, jv km, .ref d6, .ref d7, .ref d8, Jv lU, Jv lB, jv vn, .ref d9, .ref da, .ref db, .ref dc, .ref dd, .ref de, jv lk]), (d1, ai g 61 rf), (d2, ai g 9 nw), (d3, ai g 9 ol), (d4, az g 64 bt), (d5, ai g 70 uf), (d6, ai g 70 (up kg km (uf k))), (d7, ai g 70 re), (d8, ai g 71 fw), (d9, ai g 10 pm), (da, ai g 600 fs), (db, ai g 600 la), (dc, ai g 600 fk), (dd, al g 600 us), (de, al g 600 bs)]) 6 dX6_piecesWith_67 rfl (by omega) (by omega) (by decide) rfl ?_
            refine x_aload_n (pc := 68) C 0 dX6_piecesWith_68 rfl ?_
            refine x_dup (pc := 69) C dX6_piecesWith_69 rfl ?_
            refine x_get (pc := 70) C 0 11 dX6_piecesWith_70 hiX6_piecesWith_6 hfX6_piecesWith_122 rfl rfl rfl (by decide) rfl ?_
            refine x_iconst (pc := 73) C dX6_piecesWith_73 ?_
            refine x_iadd (pc := 74) C dX6_piecesWith_74 ?_
            refine x_put (pc := 75) C (ty := .int) (ws' := [(o, ob 6 [jv rn, .ref d1, jv e, jv nc, .ref d2, jv oc, .ref d3, jv co, .ref d4, jv nn, .ref d5, jv (km + 1), .ref d6, .ref d7, .ref d8, Jv lU, Jv lB, jv vn, .ref d9, .ref da, .ref db, .ref dc, .ref dd, .ref de, jv lk]), (d1, ai g 61 rf), (d2, ai g 9 nw), (d3, ai g 9 ol), (d4, az g 64 bt), (d5, ai g 70 uf), (d6, ai g 70 (up kg km (uf k))), (d7, ai g 70 re), (d8, ai g 71 fw), (d9, ai g 10 pm), (da, ai g 600 fs), (db, ai g 600 la), (dc, ai g 600 fk), (dd, al g 600 us), (de, al g 600 bs)]) tyX6 0 11 dX6_piecesWith_75 hiX6_piecesWith_6 tyX6_ok nmX6 hfX6_piecesWith_122 rfl rfl rfl (by decide) rfl (by decide +kernel) rfl rfl (Nat.le_of_ble_eq_true rfl) rfl ?_
            refine x_iinc (pc := 78) C (lv' := [(3, jv (k + 1)), (0, .ref o), (1, jv u), (2, jv s)]) 3 dX6_piecesWith_78 rfl (by decide) rfl ?_
            refine x_goto (pc := 81) C 9 dX6_piecesWith_81 rfl ?_
            refine x_locals (lv' := [(0, .ref o), (1, jv u), (2, jv s), (3, jv (k + 1))]) [1, 2, 3, 0] rfl ?_
            refine ih9 _ _ _ _ ?_ ?_ ?_
            · omega
            · omega
            · exact hI.low c_18 (by omega) hk.1
          · refine x_aload_n (pc := 31) C 0 dX6_piecesWith_31 rfl ?_
            refine x_get (pc := 32) C 0 12 dX6_piecesWith_32 hiX6_piecesWith_6 hfX6_piecesWith_30 rfl rfl rfl (by decide) rfl ?_
            refine x_aload_n (pc := 35) C 0 dX6_piecesWith_35 rfl ?_
            refine x_get (pc := 36) C 0 11 dX6_piecesWith_36 hiX6_piecesWith_6 hfX6_piecesWith_122 rfl rfl rfl (by decide) rfl ?_
            refine x_iload_n (pc := 39) C 1 dX6_piecesWith_39 rfl ?_
            refine x_iast (pc := 40) C (ws' := [(o, ob 6 [jv rn, .ref d1, jv e, jv nc, .ref d2, jv oc, .ref d3, jv co, .ref d4, jv nn, .ref d5, jv km, .ref d6, .ref d7, .ref d8, Jv lU, Jv lB, jv vn, .ref d9, .ref da, .ref db, .ref dc, .ref dd, .ref de, jv lk]), (d1, ai g 61 rf), (d2, ai g 9 nw), (d3, ai g 9 ol), (d4, az g 64 bt), (d5, ai g 70 uf), (d6, ai g 70 (up kg km u)), (d7, ai g 70 re), (d8, ai g 71 fw), (d9, ai g 10 pm), (da, ai g 600 fs), (db, ai g 600 la), (dc, ai g 600 fk), (dd, al g 600 us), (de, al g 600 bs)]) 6 dX6_piecesWith_40 rfl (by omega) (by omega) (by decide) rfl ?_
            refine x_aload_n (pc := 41) C 0 dX6_piecesWith_41 rfl ?_
            refine x_dup (pc := 42) C dX6_piecesWith_42 rfl ?_
            refine x_get (pc := 43) C 0 11 dX6_piecesWith_43 hiX6_piecesWith_6 hfX6_piecesWith_122 rfl rfl rfl (by decide) rfl ?_
            refine x_iconst (pc := 46) C dX6_piecesWith_46 ?_
            refine x_iadd (pc := 47) C dX6_piecesWith_47 ?_
            refine x_put (pc := 48) C (ty := .int) (ws' := [(o, ob 6 [jv rn, .ref d1, jv e, jv nc, .ref d2, jv oc, .ref d3, jv co, .ref d4, jv nn, .ref d5, jv (km + 1), .ref d6, .ref d7, .ref d8, Jv lU, Jv lB, jv vn, .ref d9, .ref da, .ref db, .ref dc, .ref dd, .ref de, jv lk]), (d1, ai g 61 rf), (d2, ai g 9 nw), (d3, ai g 9 ol), (d4, az g 64 bt), (d5, ai g 70 uf), (d6, ai g 70 (up kg km u)), (d7, ai g 70 re), (d8, ai g 71 fw), (d9, ai g 10 pm), (da, ai g 600 fs), (db, ai g 600 la), (dc, ai g 600 fk), (dd, al g 600 us), (de, al g 600 bs)]) tyX6 0 11 dX6_piecesWith_48 hiX6_piecesWith_6 tyX6_ok nmX6 hfX6_piecesWith_122 rfl rfl rfl (by decide) rfl (by decide +kernel) rfl rfl (Nat.le_of_ble_eq_true rfl) rfl ?_
            refine x_iconst (pc := 51) C dX6_piecesWith_51 ?_
            refine x_istore_n (pc := 52) C (lv' := [(2, jv 1), (0, .ref o), (1, jv u), (3, jv k)]) dX6_piecesWith_52 (by decide) rfl ?_
            refine x_aload_n (pc := 53) C 1 dX6_piecesWith_53 rfl ?_
            refine x_get (pc := 54) C 0 12 dX6_piecesWith_54 hiX6_piecesWith_6 hfX6_piecesWith_30 rfl rfl rfl (by decide) rfl ?_
            refine x_aload_n (pc := 57) C 1 dX6_piecesWith_57 rfl ?_
            refine x_get (pc := 58) C 0 11 dX6_piecesWith_58 hiX6_piecesWith_6 hfX6_piecesWith_122 rfl rfl rfl (by decide) rfl ?_
            refine x_aload_n (pc := 61) C 1 dX6_piecesWith_61 rfl ?_
            refine x_get (pc := 62) C 0 10 dX6_piecesWith_62 hiX6_piecesWith_6 hfX6_piecesWith_27 rfl rfl rfl (by decide) rfl ?_
            refine x_iload_n (pc := 65) C 3 dX6_piecesWith_65 rfl ?_
            refine x_iald (pc := 66) C 5 dX6_piecesWith_66 rfl (by omega) (by omega) (by decide) ?_
            refine x_iast (pc := 67) C (ws' := [(o, ob 6 [jv rn, .ref d1, jv e, jv nc, .ref d2, jv oc, .ref d3, jv co, .ref d4, jv nn, .ref d5, jv (km + 1), .ref d6, .ref d7, .ref d8, Jv lU, Jv lB, jv vn, .ref d9, .ref da, .ref db, .ref dc, .ref dd, .ref de, jv lk]), (d1, ai g 61 rf), (d2, ai g 9 nw), (d3, ai g 9 ol), (d4, az g 64 bt), (d5, ai g 70 uf), (d6, ai g 70 (up (up kg km u) (km + 1) (uf k))), (d7, ai g 70 re), (d8, ai g 71 fw), (d9, ai g 10 pm), (da, ai g 600 fs), (db, ai g 600 la), (dc, ai g 600 fk), (dd, al g 600 us), (de, al g 600 bs)]) 6 dX6_piecesWith_67 rfl (by omega) (by omega) (by decide) rfl ?_
            refine x_aload_n (pc := 68) C 1 dX6_piecesWith_68 rfl ?_
            refine x_dup (pc := 69) C dX6_piecesWith_69 rfl ?_
            refine x_get (pc := 70) C 0 11 dX6_piecesWith_70 hiX6_piecesWith_6 hfX6_piecesWith_122 rfl rfl rfl (by decide) rfl ?_
            refine x_iconst (pc := 73) C dX6_piecesWith_73 ?_
            refine x_iadd (pc := 74) C dX6_piecesWith_74 ?_
            refine x_put (pc := 75) C (ty := .int) (ws' := [(o, ob 6 [jv rn, .ref d1, jv e, jv nc, .ref d2, jv oc, .ref d3, jv co, .ref d4, jv nn, .ref d5, jv ((km + 1) + 1), .ref d6, .ref d7, .ref d8, Jv lU, Jv lB, jv vn, .ref d9, .ref da, .ref db, .ref dc, .ref dd, .ref de, jv lk]), (d1, ai g 61 rf), (d2, ai g 9 nw), (d3, ai g 9 ol), (d4, az g 64 bt), (d5, ai g 70 uf), (d6, ai g 70 (up (up kg km u) (km + 1) (uf k))), (d7, ai g 70 re), (d8, ai g 71 fw), (d9, ai g 10 pm), (da, ai g 600 fs), (db, ai g 600 la), (dc, ai g 600 fk), (dd, al g 600 us), (de, al g 600 bs)]) tyX6 0 11 dX6_piecesWith_75 hiX6_piecesWith_6 tyX6_ok nmX6 hfX6_piecesWith_122 rfl rfl rfl (by decide) rfl (by decide +kernel) rfl rfl (Nat.le_of_ble_eq_true rfl) rfl ?_
            refine x_iinc (pc := 78) C (lv' := [(3, jv (k + 1)), (2, jv 1), (0, .ref o), (1, jv u)]) 3 dX6_piecesWith_78 rfl (by decide) rfl ?_
            refine x_goto (pc := 81) C 9 dX6_piecesWith_81 rfl ?_
            refine x_locals (lv' := [(0, .ref o), (1, jv u), (2, jv 1), (3, jv (k + 1))]) [2, 3, 1, 0] rfl ?_
            refine ih9 _ _ _ _ ?_ ?_ ?_
            · omega
            · omega
            · exact hI.ins c_18 (by omega) hk.1
  refine x_locals (lv' := [(0, .ref o), (1, jv u), (2, jv 0), (3, jv 0)]) [2, 3, 1, 0] rfl ?_
  refine L9 _ _ _ _ _ (Nat.lt_succ_self _) ?_ ?_
  · omega
  · exact Or.inl ⟨rfl, rfl, al_0, al_0⟩

set_option maxRecDepth 100000 in
theorem hiX6_poison_6 : ∀ w ∈ wsX60, w ∈ wsX6_poison := by decide +kernel
set_option maxRecDepth 100000 in
theorem hfX6_poison_66 : Cond.fieldLink RX6 66 "KeyGuessModel" "nowMany" "I" ∈ wsX6_poison := by decide +kernel
set_option maxRecDepth 100000 in
theorem hfX6_poison_27 : Cond.fieldLink RX6 27 "KeyGuessModel" "now" "[I" ∈ wsX6_poison := by decide +kernel
set_option maxHeartbeats 4000000 in
set_option maxRecDepth 100000 in
/-- poison -/
theorem ctX6_poison (l : Launch) (g : xG) (o : Nat) (d1 : Nat) (d2 : Nat) (d3 : Nat) (d4 : Nat) (d5 : Nat) (d6 : Nat) (d7 : Nat) (d8 : Nat) (d9 : Nat) (da : Nat) (db : Nat) (dc : Nat) (dd : Nat) (de : Nat) (rn : Int) (e : Int) (nc : Int) (oc : Int) (co : Int) (un : Int) (kn : Int) (lU : Int) (lB : Int) (vn : Int) (lk : Int) (rf : Int → Int) (nw : Int → Int) (ol : Int → Int) (bt : Int → Bool) (uf : Int → Int) (kf : Int → Int) (re : Int → Int) (fw : Int → Int) (pm : Int → Int) (fs : Int → Int) (la : Int → Int) (fk : Int → Int) (us : Int → Int) (bs : Int → Int) (nn : Int) (nf : Int → Int) (u : Int) (v : Int) (w : Int) (hno : NO nn nf rn rf nc nw oc ol) (he : 0 ≤ e ∧ e ≤ 8) (ru : Rg u) (rv : Rg v) (rw : Rg w) : Ct l g yX6_poison wsX6_poison ({ frames := 4, cells := 0, slots := 0, locals := 97 } : Room) 0 0 [(o, ob 6 [jv rn, .ref d1, jv e, jv nc, .ref d2, jv oc, .ref d3, jv co, .ref d4, jv un, .ref d5, jv kn, .ref d6, .ref d7, .ref d8, Jv lU, Jv lB, jv vn, .ref d9, .ref da, .ref db, .ref dc, .ref dd, .ref de, jv lk]), (d1, ai g 61 rf), (d2, ai g 9 nw), (d3, ai g 9 ol), (d4, az g 64 bt), (d5, ai g 70 uf), (d6, ai g 70 kf), (d7, ai g 70 re), (d8, ai g 71 fw), (d9, ai g 10 pm), (da, ai g 600 fs), (db, ai g 600 la), (dc, ai g 600 fk), (dd, al g 600 us), (de, al g 600 bs)] [.ref o, jv u, jv v, jv w] (fun rV rU => (rV = some (jv (-2)) ∧ rU = [(o, ob 6 [jv rn, .ref d1, jv e, jv nc, .ref d2, jv oc, .ref d3, jv co, .ref d4, jv un, .ref d5, jv kn, .ref d6, .ref d7, .ref d8, Jv lU, Jv lB, jv vn, .ref d9, .ref da, .ref db, .ref dc, .ref dd, .ref de, jv lk]), (d1, ai g 61 rf), (d2, ai g 9 nw), (d3, ai g 9 ol), (d4, az g 64 bt), (d5, ai g 70 uf), (d6, ai g 70 kf), (d7, ai g 70 re), (d8, ai g 71 fw), (d9, ai g 10 pm), (da, ai g 600 fs), (db, ai g 600 la), (dc, ai g 600 fk), (dd, al g 600 us), (de, al g 600 bs)] ∧ (u < 0 ∨ 1000000 < u ∨ v < 0 ∨ 1000000 < v ∨ v < u ∨ 40 < v - u ∨ w < 0 ∨ 1 < w)) ∨ (∃ (f1 : Int → Int), rV = some (jv (-4)) ∧ rU = [(o, ob 6 [jv rn, .ref d1, jv e, jv nc, .ref d2, jv oc, .ref d3, jv co, .ref d4, jv nn, .ref d5, jv kn, .ref d6, .ref d7, .ref d8, Jv lU, Jv lB, jv vn, .ref d9, .ref da, .ref db, .ref dc, .ref dd, .ref de, jv lk]), (d1, ai g 61 rf), (d2, ai g 9 nw), (d3, ai g 9 ol), (d4, az g 64 bt), (d5, ai g 70 f1), (d6, ai g 70 kf), (d7, ai g 70 re), (d8, ai g 71 fw), (d9, ai g 10 pm), (da, ai g 600 fs), (db, ai g 600 la), (dc, ai g 600 fk), (dd, al g 600 us), (de, al g 600 bs)] ∧ (0 ≤ u ∧ u ≤ v ∧ v ≤ 1000000 ∧ v - u ≤ 40 ∧ 0 ≤ w ∧ w ≤ 1 ∧ nn = 60)) ∨ (∃ (r : Int) (f1 : Int → Int) (km : Int) (uu : Int) (ub : Int) (kg : Int → Int) (re' : Int → Int) (fw' : Int → Int), rV = some (jv r) ∧ rU = [(o, ob 6 [jv rn, .ref d1, jv e, jv nc, .ref d2, jv oc, .ref d3, jv co, .ref d4, jv nn, .ref d5, jv km, .ref d6, .ref d7, .ref d8, Jv uu, Jv ub, jv vn, .ref d9, .ref da, .ref db, .ref dc, .ref dd, .ref de, jv lk]), (d1, ai g 61 rf), (d2, ai g 9 nw), (d3, ai g 9 ol), (d4, az g 64 bt), (d5, ai g 70 f1), (d6, ai g 70 kg), (d7, ai g 70 re'), (d8, ai g 71 fw'), (d9, ai g 10 pm), (da, ai g 600 fs), (db, ai g 600 la), (dc, ai g 600 fk), (dd, al g 600 us), (de, al g 600 bs)] ∧ (0 ≤ u ∧ u ≤ v ∧ v ≤ 1000000 ∧ v - u ≤ 40 ∧ 0 ≤ w ∧ w ≤ 1 ∧ nn < 60 ∧ ((w = 0 ∧ r = (psn nn nf e u (v + 1 - u).toNat).1) ∨ (w = 1 ∧ r = (psn nn nf e u (v + 1 - u).toNat).2))))) := by
  refine ct_of (cc := cX6_poison) (nL := 8) (ret := (some .int)) (by decide) rfl (Nat.le_of_ble_eq_true rfl) ?_
  intro E C Rt0
  have C : Cx l g E ({ frames := 4, cells := 0, slots := 0, locals := 97 } : Room) RX6 "poison" cX6_poison wsX6_poison 8 := C
  show X l g E ({ frames := 4, cells := 0, slots := 0, locals := 97 } : Room) 8 [(o, ob 6 [jv rn, .ref d1, jv e, jv nc, .ref d2, jv oc, .ref d3, jv co, .ref d4, jv un, .ref d5, jv kn, .ref d6, .ref d7, .ref d8, Jv lU, Jv lB, jv vn, .ref d9, .ref da, .ref db, .ref dc, .ref dd, .ref de, jv lk]), (d1, ai g 61 rf), (d2, ai g 9 nw), (d3, ai g 9 ol), (d4, az g 64 bt), (d5, ai g 70 uf), (d6, ai g 70 kf), (d7, ai g 70 re), (d8, ai g 71 fw), (d9, ai g 10 pm), (da, ai g 600 fs), (db, ai g 600 la), (dc, ai g 600 fk), (dd, al g 600 us), (de, al g 600 bs)] 0 0 [(0, .ref o), (1, jv u), (2, jv v), (3, jv w)] 0 []
  have n1 := hno.1
  have nn0 := n1.1
  have nn1 := n1.2.1
  have ru1 := ru.1
  have ru2 := ru.2
  have rv1 := rv.1
  have rv2 := rv.2
  have rw1 := rw.1
  have rw2 := rw.2
  refine x_iload_n (pc := 0) C 1 dX6_poison_0 rfl ?_
  refine x_iload_n (pc := 1) C 2 dX6_poison_1 rfl ?_
  refine x_callS (pc := 2) C (n := 2) (rest := []) (wr := [(o, ob 6 [jv rn, .ref d1, jv e, jv nc, .ref d2, jv oc, .ref d3, jv co, .ref d4, jv un, .ref d5, jv kn, .ref d6, .ref d7, .ref d8, Jv lU, Jv lB, jv vn, .ref d9, .ref da, .ref db, .ref dc, .ref dd, .ref de, jv lk]), (d1, ai g 61 rf), (d2, ai g 9 nw), (d3, ai g 9 ol), (d4, az g 64 bt), (d5, ai g 70 uf), (d6, ai g 70 kf), (d7, ai g 70 re), (d8, ai g 71 fw), (d9, ai g 10 pm), (da, ai g 600 fs), (db, ai g 600 la), (dc, ai g 600 fk), (dd, al g 600 us), (de, al g 600 bs)]) [] [0, 1, 2, 3, 4, 5, 6, 7, 8, 9, 10, 11, 12, 13, 14] (ctX6_isSpan l g u v ru rv) gX6_poison_X6_isSpan rfl (by decide +kernel) ⟨rfl, rfl⟩ ⟨by decide, by decide⟩ rfl rfl rfl (by decide) (by decide) (by decide) rfl (Nat.le_of_ble_eq_true rfl) dX6_poison_2 ⟨by decide, by decide⟩ (fun v_2 u_2 h_2 => ?_)
  rcases h_2 with ⟨rfl, rfl, f_2⟩ | ⟨rfl, rfl, f_2⟩
  · refine x_world (ws' := [(o, ob 6 [jv rn, .ref d1, jv e, jv nc, .ref d2, jv oc, .ref d3, jv co, .ref d4, jv un, .ref d5, jv kn, .ref d6, .ref d7, .ref d8, Jv lU, Jv lB, jv vn, .ref d9, .ref da, .ref db, .ref dc, .ref dd, .ref de, jv lk]), (d1, ai g 61 rf), (d2, ai g 9 nw), (d3, ai g 9 ol), (d4, az g 64 bt), (d5, ai g 70 uf), (d6, ai g 70 kf), (d7, ai g 70 re), (d8, ai g 71 fw), (d9, ai g 10 pm), (da, ai g 600 fs), (db, ai g 600 la), (dc, ai g 600 fk), (dd, al g 600 us), (de, al g 600 bs)]) [0, 1, 2, 3, 4, 5, 6, 7, 8, 9, 10, 11, 12, 13, 14] (by decide) rfl ?_
    show X l g E ({ frames := 4, cells := 0, slots := 0, locals := 97 } : Room) 8 [(o, ob 6 [jv rn, .ref d1, jv e, jv nc, .ref d2, jv oc, .ref d3, jv co, .ref d4, jv un, .ref d5, jv kn, .ref d6, .ref d7, .ref d8, Jv lU, Jv lB, jv vn, .ref d9, .ref da, .ref db, .ref dc, .ref dd, .ref de, jv lk]), (d1, ai g 61 rf), (d2, ai g 9 nw), (d3, ai g 9 ol), (d4, az g 64 bt), (d5, ai g 70 uf), (d6, ai g 70 kf), (d7, ai g 70 re), (d8, ai g 71 fw), (d9, ai g 10 pm), (da, ai g 600 fs), (db, ai g 600 la), (dc, ai g 600 fk), (dd, al g 600 us), (de, al g 600 bs)] 0 0 [(0, .ref o), (1, jv u), (2, jv v), (3, jv w)] 5 [jv 1]
    refine x_if_eq (pc := 5) C 25 dX6_poison_5 rfl ⟨by decide, by decide⟩ (fun h => absurd h (by decide)) (fun _ => ?_)
    refine x_iload_n (pc := 8) C 2 dX6_poison_8 rfl ?_
    refine x_iload_n (pc := 9) C 1 dX6_poison_9 rfl ?_
    refine x_isub (pc := 10) C dX6_poison_10 ?_
    refine x_bipush (pc := 11) C dX6_poison_11 rfl ?_
    refine x_icmp_gt (pc := 13) C 25 dX6_poison_13 rfl ⟨by omega, by omega⟩ ⟨by omega, by omega⟩ (fun c_13 => ?_) (fun c_13 => ?_)
    · refine x_bipush (pc := 25) C dX6_poison_25 rfl ?_
      refine x_iret (pc := 27) C Rt0 dX6_poison_27 rfl ?_
      refine Or.inl ⟨rfl, rfl, ?_⟩
      omega
    · refine x_iload_n (pc := 16) C 3 dX6_poison_16 rfl ?_
      refine x_iconst (pc := 17) C dX6_poison_17 ?_
      refine x_iconst (pc := 18) C dX6_poison_18 ?_
      refine x_callS (pc := 19) C (n := 3) (rest := []) (wr := [(o, ob 6 [jv rn, .ref d1, jv e, jv nc, .ref d2, jv oc, .ref d3, jv co, .ref d4, jv un, .ref d5, jv kn, .ref d6, .ref d7, .ref d8, Jv lU, Jv lB, jv vn, .ref d9, .ref da, .ref db, .ref dc, .ref dd, .ref de, jv lk]), (d1, ai g 61 rf), (d2, ai g 9 nw), (d3, ai g 9 ol), (d4, az g 64 bt), (d5, ai g 70 uf), (d6, ai g 70 kf), (d7, ai g 70 re), (d8, ai g 71 fw), (d9, ai g 10 pm), (da, ai g 600 fs), (db, ai g 600 la), (dc, ai g 600 fk), (dd, al g 600 us), (de, al g 600 bs)]) [] [0, 1, 2, 3, 4, 5, 6, 7, 8, 9, 10, 11, 12, 13, 14] (ctX6_in l g w 0 1 rw ⟨by omega, by omega⟩ ⟨by omega, by omega⟩) gX6_poison_X6_in rfl (by decide +kernel) ⟨rfl, rfl⟩ ⟨by decide, by decide⟩ rfl rfl rfl (by decide) (by decide) (by decide) rfl (Nat.le_of_ble_eq_true rfl) dX6_poison_19 ⟨by decide, by decide⟩ (fun v_19 u_19 h_19 => ?_)
      rcases h_19 with ⟨rfl, rfl, f_19⟩ | ⟨rfl, rfl, f_19⟩
      · refine x_world (ws' := [(o, ob 6 [jv rn, .ref d1, jv e, jv nc, .ref d2, jv oc, .ref d3, jv co, .ref d4, jv un, .ref d5, jv kn, .ref d6, .ref d7, .ref d8, Jv lU, Jv lB, jv vn, .ref d9, .ref da, .ref db, .ref dc, .ref dd, .ref de, jv lk]), (d1, ai g 61 rf), (d2, ai g 9 nw), (d3, ai g 9 ol), (d4, az g 64 bt), (d5, ai g 70 uf), (d6, ai g 70 kf), (d7, ai g 70 re), (d8, ai g 71 fw), (d9, ai g 10 pm), (da, ai g 600 fs), (db, ai g 600 la), (dc, ai g 600 fk), (dd, al g 600 us), (de, al g 600 bs)]) [0, 1, 2, 3, 4, 5, 6, 7, 8, 9, 10, 11, 12, 13, 14] (by decide) rfl ?_
        show X l g E ({ frames := 4, cells := 0, slots := 0, locals := 97 } : Room) 8 [(o, ob 6 [jv rn, .ref d1, jv e, jv nc, .ref d2, jv oc, .ref d3, jv co, .ref d4, jv un, .ref d5, jv kn, .ref d6, .ref d7, .ref d8, Jv lU, Jv lB, jv vn, .ref d9, .ref da, .ref db, .ref dc, .ref dd, .ref de, jv lk]), (d1, ai g 61 rf), (d2, ai g 9 nw), (d3, ai g 9 ol), (d4, az g 64 bt), (d5, ai g 70 uf), (d6, ai g 70 kf), (d7, ai g 70 re), (d8, ai g 71 fw), (d9, ai g 10 pm), (da, ai g 600 fs), (db, ai g 600 la), (dc, ai g 600 fk), (dd, al g 600 us), (de, al g 600 bs)] 0 0 [(0, .ref o), (1, jv u), (2, jv v), (3, jv w)] 22 [jv 1]
        refine x_if_ne (pc := 22) C 28 dX6_poison_22 rfl ⟨by decide, by decide⟩ (fun _ => ?_) (fun h => absurd h (by decide))
        refine x_aload_n (pc := 28) C 0 dX6_poison_28 rfl ?_
        refine x_callV (pc := 29) C (n := 0) (q0 := 0) (rest := []) (wr := [(d4, az g 64 bt), (d6, ai g 70 kf), (d7, ai g 70 re), (d8, ai g 71 fw), (d9, ai g 10 pm), (da, ai g 600 fs), (db, ai g 600 la), (dc, ai g 600 fk), (dd, al g 600 us), (de, al g 600 bs)]) [0, 1, 2, 3, 5] [4, 6, 7, 8, 9, 10, 11, 12, 13, 14] (ctX6_layNow l g o d1 d2 d3 d4 d5 d6 d7 d8 d9 da db dc dd de rn e nc oc co un kn lU lB vn lk rf nw ol uf nn nf hno) gX6_poison_X6_layNow rfl ⟨rfl, rfl⟩ (by decide +kernel) ⟨by decide, by decide⟩ rfl rfl rfl rfl rfl (by decide) (by decide) (by decide) rfl (Nat.le_of_ble_eq_true rfl) dX6_poison_29 ⟨by decide, by decide⟩ (fun v_29 u_29 h_29 => ?_)
        rcases h_29 with ⟨f1, rfl, rfl, f_29⟩
        refine x_world (ws' := [(o, ob 6 [jv rn, .ref d1, jv e, jv nc, .ref d2, jv oc, .ref d3, jv co, .ref d4, jv nn, .ref d5, jv kn, .ref d6, .ref d7, .ref d8, Jv lU, Jv lB, jv vn, .ref d9, .ref da, .ref db, .ref dc, .ref dd, .ref de, jv lk]), (d1, ai g 61 rf), (d2, ai g 9 nw), (d3, ai g 9 ol), (d4, az g 64 bt), (d5, ai g 70 f1), (d6, ai g 70 kf), (d7, ai g 70 re), (d8, ai g 71 fw), (d9, ai g 10 pm), (da, ai g 600 fs), (db, ai g 600 la), (dc, ai g 600 fk), (dd, al g 600 us), (de, al g 600 bs)]) [10, 11, 12, 13, 0, 14, 1, 2, 3, 4, 5, 6, 7, 8, 9] (by decide) rfl ?_
        show X l g E ({ frames := 4, cells := 0, slots := 0, locals := 97 } : Room) 8 [(o, ob 6 [jv rn, .ref d1, jv e, jv nc, .ref d2, jv oc, .ref d3, jv co, .ref d4, jv nn, .ref d5, jv kn, .ref d6, .ref d7, .ref d8, Jv lU, Jv lB, jv vn, .ref d9, .ref da, .ref db, .ref dc, .ref dd, .ref de, jv lk]), (d1, ai g 61 rf), (d2, ai g 9 nw), (d3, ai g 9 ol), (d4, az g 64 bt), (d5, ai g 70 f1), (d6, ai g 70 kf), (d7, ai g 70 re), (d8, ai g 71 fw), (d9, ai g 10 pm), (da, ai g 600 fs), (db, ai g 600 la), (dc, ai g 600 fk), (dd, al g 600 us), (de, al g 600 bs)] 0 0 [(0, .ref o), (1, jv u), (2, jv v), (3, jv w)] 32 []
        have hku : Kr nn f1 := n1.congr f_29.symm
        refine x_aload_n (pc := 32) C 0 dX6_poison_32 rfl ?_
        refine x_get (pc := 33) C 0 9 dX6_poison_33 hiX6_poison_6 hfX6_poison_66 rfl rfl rfl (by decide) rfl ?_
        refine x_bipush (pc := 36) C dX6_poison_36 rfl ?_
        refine x_icmp_ne (pc := 38) C 44 dX6_poison_38 rfl ⟨by omega, by omega⟩ ⟨by omega, by omega⟩ (fun c_38 => ?_) (fun c_38 => ?_)
        · refine x_iconst (pc := 44) C dX6_poison_44 ?_
          refine x_istore (pc := 45) C (lv' := [(4, jv (-1)), (0, .ref o), (1, jv u), (2, jv v), (3, jv w)]) dX6_poison_45 (by decide) rfl ?_
          refine x_iconst (pc := 47) C dX6_poison_47 ?_
          refine x_istore (pc := 48) C (lv' := [(5, jv (-1)), (4, jv (-1)), (0, .ref o), (1, jv u), (2, jv v), (3, jv w)]) dX6_poison_48 (by decide) rfl ?_
          refine x_iload_n (pc := 50) C 3 dX6_poison_50 rfl ?_
          refine x_istore (pc := 51) C (lv' := [(6, jv u), (5, jv (-1)), (4, jv (-1)), (0, .ref o), (1, jv u), (2, jv v), (3, jv w)]) dX6_poison_51 (by decide) rfl ?_
          have L53 : ∀ (kμ : Nat) (bw : Int) (mo : Int) (z : Int) (km : Int) (uu : Int) (ub : Int) (kg : Int → Int) (re' : Int → Int) (fw' : Int → Int), (v + 1 - z).toNat < kμ → (u ≤ z ∧ z ≤ v + 1) → (-1 ≤ mo ∧ mo ≤ 60) → ((bw, mo) = psn nn nf e u (z - u).toNat) → X l g E ({ frames := 4, cells := 0, slots := 0, locals := 97 } : Room) 8 [(o, ob 6 [jv rn, .ref d1, jv e, jv nc, .ref d2, jv oc, .ref d3, jv co, .ref d4, jv nn, .ref d5, jv km, .ref d6, .ref d7, .ref d8, Jv uu, Jv ub, jv vn, .ref d9, .ref da, .ref db, .ref dc, .ref dd, .ref de, jv lk]), (d1, ai g 61 rf), (d2, ai g 9 nw), (d3, ai g 9 ol), (d4, az g 64 bt), (d5, ai g 70 f1), (d6, ai g 70 kg), (d7, ai g 70 re'), (d8, ai g 71 fw'), (d9, ai g 10 pm), (da, ai g 600 fs), (db, ai g 600 la), (dc, ai g 600 fk), (dd, al g 600 us), (de, al g 600 bs)] 0 0 [(0, .ref o), (1, jv u), (2, jv v), (3, jv w), (4, jv bw), (5, jv mo), (6, jv z)] 53 [] := by
            intro kμ
            induction kμ with
            | zero => intro bw mo z km uu ub kg re' fw' hμ; exact absurd hμ (Nat.not_lt_zero _)
            | succ kμ ih53 =>
              intro bw mo z km uu ub kg re' fw' hμ hz hm hs
              refine x_iload (pc := 53) C 6 dX6_poison_53 rfl ?_
              refine x_iload_n (pc := 55) C 2 dX6_poison_55 rfl ?_
              refine x_icmp_gt (pc := 56) C 109 dX6_poison_56 rfl ⟨by omega, by omega⟩ ⟨by omega, by omega⟩ (fun c_56 => ?_) (fun c_56 => ?_)
              · refine x_iload_n (pc := 109) C 3 dX6_poison_109 rfl ?_
                refine x_if_ne (pc := 110) C 118 dX6_poison_110 rfl ⟨by omega, by omega⟩ (fun c_110 => ?_) (fun c_110 => ?_)
                · refine x_iload (pc := 118) C 5 dX6_poison_118 rfl ?_
                  refine x_iret (pc := 120) C Rt0 dX6_poison_120 rfl ?_
                  refine Or.inr (Or.inr (⟨_, _, _, _, _, _, _, _, rfl, rfl, ?_⟩))
                  refine ⟨by omega, by omega, by omega, by omega, by omega, by omega, by omega, ?_⟩
                  rw [show v + 1 - u = z - u by omega, ← hs]
                  exact Or.inr ⟨by omega, rfl⟩
                · refine x_iload (pc := 113) C 4 dX6_poison_113 rfl ?_
                  refine x_goto (pc := 115) C 120 dX6_poison_115 rfl ?_
                  refine x_iret (pc := 120) C Rt0 dX6_poison_120 rfl ?_
                  refine Or.inr (Or.inr (⟨_, _, _, _, _, _, _, _, rfl, rfl, ?_⟩))
                  refine ⟨by omega, by omega, by omega, by omega, by omega, by omega, by omega, ?_⟩
                  rw [show v + 1 - u = z - u by omega, ← hs]
                  exact Or.inl ⟨by omega, rfl⟩
              · refine x_aload_n (pc := 59) C 0 dX6_poison_59 rfl ?_
                refine x_get (pc := 60) C 0 10 dX6_poison_60 hiX6_poison_6 hfX6_poison_27 rfl rfl rfl (by decide) rfl ?_
                refine x_aload_n (pc := 63) C 0 dX6_poison_63 rfl ?_
                refine x_get (pc := 64) C 0 9 dX6_poison_64 hiX6_poison_6 hfX6_poison_66 rfl rfl rfl (by decide) rfl ?_
                refine x_iload (pc := 67) C 6 dX6_poison_67 rfl ?_
                refine x_callS (pc := 69) C (n := 3) (rest := []) (wr := [(o, ob 6 [jv rn, .ref d1, jv e, jv nc, .ref d2, jv oc, .ref d3, jv co, .ref d4, jv nn, .ref d5, jv km, .ref d6, .ref d7, .ref d8, Jv uu, Jv ub, jv vn, .ref d9, .ref da, .ref db, .ref dc, .ref dd, .ref de, jv lk]), (d1, ai g 61 rf), (d2, ai g 9 nw), (d3, ai g 9 ol), (d4, az g 64 bt), (d6, ai g 70 kg), (d7, ai g 70 re'), (d8, ai g 71 fw'), (d9, ai g 10 pm), (da, ai g 600 fs), (db, ai g 600 la), (dc, ai g 600 fk), (dd, al g 600 us), (de, al g 600 bs)]) [5] [0, 1, 2, 3, 4, 6, 7, 8, 9, 10, 11, 12, 13, 14] (ctX6_placeIn l g d5 70 nn z f1 ⟨by omega, by omega, by omega⟩ hku.2.2.1 ⟨by omega, by omega⟩) gX6_poison_X6_placeIn rfl (by decide +kernel) ⟨rfl, rfl⟩ ⟨by decide, by decide⟩ rfl rfl rfl (by decide) (by decide) (by decide) rfl (Nat.le_of_ble_eq_true rfl) dX6_poison_69 ⟨by decide, by decide⟩ (fun v_69 u_69 h_69 => ?_)
                rcases h_69 with ⟨k, rfl, rfl, f_69⟩ | ⟨rfl, rfl, f_69⟩
                · refine x_world (ws' := [(o, ob 6 [jv rn, .ref d1, jv e, jv nc, .ref d2, jv oc, .ref d3, jv co, .ref d4, jv nn, .ref d5, jv km, .ref d6, .ref d7, .ref d8, Jv uu, Jv ub, jv vn, .ref d9, .ref da, .ref db, .ref dc, .ref dd, .ref de, jv lk]), (d1, ai g 61 rf), (d2, ai g 9 nw), (d3, ai g 9 ol), (d4, az g 64 bt), (d5, ai g 70 f1), (d6, ai g 70 kg), (d7, ai g 70 re'), (d8, ai g 71 fw'), (d9, ai g 10 pm), (da, ai g 600 fs), (db, ai g 600 la), (dc, ai g 600 fk), (dd, al g 600 us), (de, al g 600 bs)]) [0, 1, 2, 3, 4, 14, 5, 6, 7, 8, 9, 10, 11, 12, 13] (by decide) rfl ?_
                  show X l g E ({ frames := 4, cells := 0, slots := 0, locals := 97 } : Room) 8 [(o, ob 6 [jv rn, .ref d1, jv e, jv nc, .ref d2, jv oc, .ref d3, jv co, .ref d4, jv nn, .ref d5, jv km, .ref d6, .ref d7, .ref d8, Jv uu, Jv ub, jv vn, .ref d9, .ref da, .ref db, .ref dc, .ref dd, .ref de, jv lk]), (d1, ai g 61 rf), (d2, ai g 9 nw), (d3, ai g 9 ol), (d4, az g 64 bt), (d5, ai g 70 f1), (d6, ai g 70 kg), (d7, ai g 70 re'), (d8, ai g 71 fw'), (d9, ai g 10 pm), (da, ai g 600 fs), (db, ai g 600 la), (dc, ai g 600 fk), (dd, al g 600 us), (de, al g 600 bs)] 0 0 [(0, .ref o), (1, jv u), (2, jv v), (3, jv w), (4, jv bw), (5, jv mo), (6, jv z)] 72 [jv k]
                  have hold : Inr nn nf z := Inr.congr f_29 ⟨k, by omega, by omega, by omega⟩
                  refine x_iconst (pc := 72) C dX6_poison_72 ?_
                  refine x_icmp_ne (pc := 73) C 85 dX6_poison_73 rfl ⟨by omega, by omega⟩ ⟨by omega, by omega⟩ (fun c_73 => ?_) (fun c_73 => ?_)
                  · refine x_iconst (pc := 85) C dX6_poison_85 ?_
                    refine x_istore (pc := 86) C (lv' := [(7, jv (-1)), (0, .ref o), (1, jv u), (2, jv v), (3, jv w), (4, jv bw), (5, jv mo), (6, jv z)]) dX6_poison_86 (by decide) rfl ?_
                    refine x_iload (pc := 88) C 0 dX6_poison_88 rfl ?_
                    refine x_iload (pc := 90) C 6 dX6_poison_90 rfl ?_
                    refine x_icmp_le (pc := 92) C 103 dX6_poison_92 rfl ⟨by omega, by omega⟩ ⟨by omega, by omega⟩ (fun c_92 => ?_) (fun c_92 => ?_)
                    · refine x_iinc (pc := 103) C (lv' := [(6, jv (z + 1)), (7, jv (-1)), (0, .ref o), (1, jv u), (2, jv v), (3, jv w), (4, jv bw), (5, jv mo)]) 7 dX6_poison_103 rfl (by decide) rfl ?_
                      refine x_goto (pc := 106) C 53 dX6_poison_106 rfl ?_
                      refine x_locals (lv' := [(0, .ref o), (1, jv u), (2, jv v), (3, jv w), (4, jv bw), (5, jv mo), (6, jv (z + 1))]) [2, 3, 4, 5, 6, 7, 0] rfl ?_
                      refine ih53 _ _ _ _ _ _ _ _ _ ?_ ?_ ?_ ?_
                      · omega
                      · omega
                      · omega
                      · rw [show (z + 1 - u).toNat = (z - u).toNat + 1 by omega]
                        have hzu : u + (((z - u).toNat : Nat) : Int) = z := by omega
                        exact (psn_t hs (by rw [hzu]; exact hold)).symm
                    · omega
                  · omega
                · refine x_world (ws' := [(o, ob 6 [jv rn, .ref d1, jv e, jv nc, .ref d2, jv oc, .ref d3, jv co, .ref d4, jv nn, .ref d5, jv km, .ref d6, .ref d7, .ref d8, Jv uu, Jv ub, jv vn, .ref d9, .ref da, .ref db, .ref dc, .ref dd, .ref de, jv lk]), (d1, ai g 61 rf), (d2, ai g 9 nw), (d3, ai g 9 ol), (d4, az g 64 bt), (d5, ai g 70 f1), (d6, ai g 70 kg), (d7, ai g 70 re'), (d8, ai g 71 fw'), (d9, ai g 10 pm), (da, ai g 600 fs), (db, ai g 600 la), (dc, ai g 600 fk), (dd, al g 600 us), (de, al g 600 bs)]) [0, 1, 2, 3, 4, 14, 5, 6, 7, 8, 9, 10, 11, 12, 13] (by decide) rfl ?_
                  show X l g E ({ frames := 4, cells := 0, slots := 0, locals := 97 } : Room) 8 [(o, ob 6 [jv rn, .ref d1, jv e, jv nc, .ref d2, jv oc, .ref d3, jv co, .ref d4, jv nn, .ref d5, jv km, .ref d6, .ref d7, .ref d8, Jv uu, Jv ub, jv vn, .ref d9, .ref da, .ref db, .ref dc, .ref dd, .ref de, jv lk]), (d1, ai g 61 rf), (d2, ai g 9 nw), (d3, ai g 9 ol), (d4, az g 64 bt), (d5, ai g 70 f1), (d6, ai g 70 kg), (d7, ai g 70 re'), (d8, ai g 71 fw'), (d9, ai g 10 pm), (da, ai g 600 fs), (db, ai g 600 la), (dc, ai g 600 fk), (dd, al g 600 us), (de, al g 600 bs)] 0 0 [(0, .ref o), (1, jv u), (2, jv v), (3, jv w), (4, jv bw), (5, jv mo), (6, jv z)] 72 [jv (-1)]
                  have hnew : ¬ Inr nn nf z := fun q => f_69 (q.congr f_29.symm)
                  refine x_iconst (pc := 72) C dX6_poison_72 ?_
                  refine x_icmp_ne (pc := 73) C 85 dX6_poison_73 rfl ⟨by decide, by decide⟩ ⟨by decide, by decide⟩ (fun h => absurd h (by decide)) (fun _ => ?_)
                  refine x_aload_n (pc := 76) C 0 dX6_poison_76 rfl ?_
                  refine x_iload (pc := 77) C 6 dX6_poison_77 rfl ?_
                  refine x_callV (pc := 79) C (n := 1) (q0 := 0) (rest := []) (wr := []) [0, 1, 2, 3, 4, 5, 6, 7, 8, 9, 10, 11, 12, 13, 14] [] (ctX6_piecesWith l g o d1 d2 d3 d4 d5 d6 d7 d8 d9 da db dc dd de rn e nc oc co nn km uu ub vn lk rf nw ol bt f1 kg re' fw' pm fs la fk us bs nn nf z n1 f_29 (by omega) ⟨by omega, by omega⟩ hnew he) gX6_poison_X6_piecesWith rfl ⟨rfl, rfl⟩ (by decide +kernel) ⟨by decide, by decide⟩ rfl rfl rfl rfl rfl (by decide) (by decide) (by decide) rfl (Nat.le_of_ble_eq_true rfl) dX6_poison_79 ⟨by decide, by decide⟩ (fun v_79 u_79 h_79 => ?_)
                  rcases h_79 with ⟨r1, k2, u2, b2, g2, e2, w2, rfl, rfl, f_79⟩
                  refine x_world (ws' := [(o, ob 6 [jv rn, .ref d1, jv e, jv nc, .ref d2, jv oc, .ref d3, jv co, .ref d4, jv nn, .ref d5, jv k2, .ref d6, .ref d7, .ref d8, Jv u2, Jv b2, jv vn, .ref d9, .ref da, .ref db, .ref dc, .ref dd, .ref de, jv lk]), (d1, ai g 61 rf), (d2, ai g 9 nw), (d3, ai g 9 ol), (d4, az g 64 bt), (d5, ai g 70 f1), (d6, ai g 70 g2), (d7, ai g 70 e2), (d8, ai g 71 w2), (d9, ai g 10 pm), (da, ai g 600 fs), (db, ai g 600 la), (dc, ai g 600 fk), (dd, al g 600 us), (de, al g 600 bs)]) [0, 1, 2, 3, 4, 5, 6, 7, 8, 9, 10, 11, 12, 13, 14] (by decide) rfl ?_
                  show X l g E ({ frames := 4, cells := 0, slots := 0, locals := 97 } : Room) 8 [(o, ob 6 [jv rn, .ref d1, jv e, jv nc, .ref d2, jv oc, .ref d3, jv co, .ref d4, jv nn, .ref d5, jv k2, .ref d6, .ref d7, .ref d8, Jv u2, Jv b2, jv vn, .ref d9, .ref da, .ref db, .ref dc, .ref dd, .ref de, jv lk]), (d1, ai g 61 rf), (d2, ai g 9 nw), (d3, ai g 9 ol), (d4, az g 64 bt), (d5, ai g 70 f1), (d6, ai g 70 g2), (d7, ai g 70 e2), (d8, ai g 71 w2), (d9, ai g 10 pm), (da, ai g 600 fs), (db, ai g 600 la), (dc, ai g 600 fk), (dd, al g 600 us), (de, al g 600 bs)] 0 0 [(0, .ref o), (1, jv u), (2, jv v), (3, jv w), (4, jv bw), (5, jv mo), (6, jv z)] 82 [jv r1]
                  refine x_goto (pc := 82) C 86 dX6_poison_82 rfl ?_
                  refine x_istore (pc := 86) C (lv' := [(7, jv r1), (0, .ref o), (1, jv u), (2, jv v), (3, jv w), (4, jv bw), (5, jv mo), (6, jv z)]) dX6_poison_86 (by decide) rfl ?_
                  refine x_iload (pc := 88) C 0 dX6_poison_88 rfl ?_
                  refine x_iload (pc := 90) C 6 dX6_poison_90 rfl ?_
                  refine x_icmp_le (pc := 92) C 103 dX6_poison_92 rfl ⟨by omega, by omega⟩ ⟨by omega, by omega⟩ (fun c_92 => ?_) (fun c_92 => ?_)
                  · refine x_iinc (pc := 103) C (lv' := [(6, jv (z + 1)), (7, jv r1), (0, .ref o), (1, jv u), (2, jv v), (3, jv w), (4, jv bw), (5, jv mo)]) 7 dX6_poison_103 rfl (by decide) rfl ?_
                    refine x_goto (pc := 106) C 53 dX6_poison_106 rfl ?_
                    refine x_locals (lv' := [(0, .ref o), (1, jv u), (2, jv v), (3, jv w), (4, jv bw), (5, jv mo), (6, jv (z + 1))]) [2, 3, 4, 5, 6, 7, 0] rfl ?_
                    refine ih53 _ _ _ _ _ _ _ _ _ ?_ ?_ ?_ ?_
                    · omega
                    · omega
                    · omega
                    · rw [show (z + 1 - u).toNat = (z - u).toNat + 1 by omega]
                      have hzu : u + (((z - u).toNat : Nat) : Int) = z := by omega
                      exact (psn_f hs (by rw [hzu]; exact hnew) (by rw [hzu, ← f_79.1]; omega)).symm
                  · refine x_iload (pc := 95) C 0 dX6_poison_95 rfl ?_
                    refine x_istore (pc := 97) C (lv' := [(5, jv r1), (7, jv r1), (0, .ref o), (1, jv u), (2, jv v), (3, jv w), (4, jv bw), (6, jv z)]) dX6_poison_97 (by decide) rfl ?_
                    refine x_iload (pc := 99) C 7 dX6_poison_99 rfl ?_
                    refine x_istore (pc := 101) C (lv' := [(4, jv z), (5, jv r1), (7, jv r1), (0, .ref o), (1, jv u), (2, jv v), (3, jv w), (6, jv z)]) dX6_poison_101 (by decide) rfl ?_
                    refine x_iinc (pc := 103) C (lv' := [(6, jv (z + 1)), (4, jv z), (5, jv r1), (7, jv r1), (0, .ref o), (1, jv u), (2, jv v), (3, jv w)]) 7 dX6_poison_103 rfl (by decide) rfl ?_
                    refine x_goto (pc := 106) C 53 dX6_poison_106 rfl ?_
                    refine x_locals (lv' := [(0, .ref o), (1, jv u), (2, jv v), (3, jv w), (4, jv z), (5, jv r1), (6, jv (z + 1))]) [4, 5, 6, 7, 1, 2, 0] rfl ?_
                    refine ih53 _ _ _ _ _ _ _ _ _ ?_ ?_ ?_ ?_
                    · omega
                    · omega
                    · omega
                    · rw [show (z + 1 - u).toNat = (z - u).toNat + 1 by omega]
                      have hzu : u + (((z - u).toNat : Nat) : Int) = z := by omega
                      have q := psn_u hs (by rw [hzu]; exact hnew) (by rw [hzu, ← f_79.1]; omega)
                      rw [q, hzu, f_79.1]
          refine x_locals (lv' := [(0, .ref o), (1, jv u), (2, jv v), (3, jv w), (4, jv (-1)), (5, jv (-1)), (6, jv u)]) [3, 4, 5, 6, 2, 1, 0] rfl ?_
          refine L53 _ _ _ _ _ _ _ _ _ _ (Nat.lt_succ_self _) ?_ ?_ ?_
          · omega
          · omega
          · rw [show (u - u).toNat = 0 by omega]; rfl
        · refine x_bipush (pc := 41) C dX6_poison_41 rfl ?_
          refine x_iret (pc := 43) C Rt0 dX6_poison_43 rfl ?_
          refine Or.inr (Or.inl ⟨_, rfl, rfl, ?_⟩)
          omega
      · refine x_world (ws' := [(o, ob 6 [jv rn, .ref d1, jv e, jv nc, .ref d2, jv oc, .ref d3, jv co, .ref d4, jv un, .ref d5, jv kn, .ref d6, .ref d7, .ref d8, Jv lU, Jv lB, jv vn, .ref d9, .ref da, .ref db, .ref dc, .ref dd, .ref de, jv lk]), (d1, ai g 61 rf), (d2, ai g 9 nw), (d3, ai g 9 ol), (d4, az g 64 bt), (d5, ai g 70 uf), (d6, ai g 70 kf), (d7, ai g 70 re), (d8, ai g 71 fw), (d9, ai g 10 pm), (da, ai g 600 fs), (db, ai g 600 la), (dc, ai g 600 fk), (dd, al g 600 us), (de, al g 600 bs)]) [0, 1, 2, 3, 4, 5, 6, 7, 8, 9, 10, 11, 12, 13, 14] (by decide) rfl ?_
        show X l g E ({ frames := 4, cells := 0, slots := 0, locals := 97 } : Room) 8 [(o, ob 6 [jv rn, .ref d1, jv e, jv nc, .ref d2, jv oc, .ref d3, jv co, .ref d4, jv un, .ref d5, jv kn, .ref d6, .ref d7, .ref d8, Jv lU, Jv lB, jv vn, .ref d9, .ref da, .ref db, .ref dc, .ref dd, .ref de, jv lk]), (d1, ai g 61 rf), (d2, ai g 9 nw), (d3, ai g 9 ol), (d4, az g 64 bt), (d5, ai g 70 uf), (d6, ai g 70 kf), (d7, ai g 70 re), (d8, ai g 71 fw), (d9, ai g 10 pm), (da, ai g 600 fs), (db, ai g 600 la), (dc, ai g 600 fk), (dd, al g 600 us), (de, al g 600 bs)] 0 0 [(0, .ref o), (1, jv u), (2, jv v), (3, jv w)] 22 [jv 0]
        refine x_if_ne (pc := 22) C 28 dX6_poison_22 rfl ⟨by decide, by decide⟩ (fun h => absurd h (by decide)) (fun _ => ?_)
        refine x_bipush (pc := 25) C dX6_poison_25 rfl ?_
        refine x_iret (pc := 27) C Rt0 dX6_poison_27 rfl ?_
        refine Or.inl ⟨rfl, rfl, ?_⟩
        omega
  · refine x_world (ws' := [(o, ob 6 [jv rn, .ref d1, jv e, jv nc, .ref d2, jv oc, .ref d3, jv co, .ref d4, jv un, .ref d5, jv kn, .ref d6, .ref d7, .ref d8, Jv lU, Jv lB, jv vn, .ref d9, .ref da, .ref db, .ref dc, .ref dd, .ref de, jv lk]), (d1, ai g 61 rf), (d2, ai g 9 nw), (d3, ai g 9 ol), (d4, az g 64 bt), (d5, ai g 70 uf), (d6, ai g 70 kf), (d7, ai g 70 re), (d8, ai g 71 fw), (d9, ai g 10 pm), (da, ai g 600 fs), (db, ai g 600 la), (dc, ai g 600 fk), (dd, al g 600 us), (de, al g 600 bs)]) [0, 1, 2, 3, 4, 5, 6, 7, 8, 9, 10, 11, 12, 13, 14] (by decide) rfl ?_
    show X l g E ({ frames := 4, cells := 0, slots := 0, locals := 97 } : Room) 8 [(o, ob 6 [jv rn, .ref d1, jv e, jv nc, .ref d2, jv oc, .ref d3, jv co, .ref d4, jv un, .ref d5, jv kn, .ref d6, .ref d7, .ref d8, Jv lU, Jv lB, jv vn, .ref d9, .ref da, .ref db, .ref dc, .ref dd, .ref de, jv lk]), (d1, ai g 61 rf), (d2, ai g 9 nw), (d3, ai g 9 ol), (d4, az g 64 bt), (d5, ai g 70 uf), (d6, ai g 70 kf), (d7, ai g 70 re), (d8, ai g 71 fw), (d9, ai g 10 pm), (da, ai g 600 fs), (db, ai g 600 la), (dc, ai g 600 fk), (dd, al g 600 us), (de, al g 600 bs)] 0 0 [(0, .ref o), (1, jv u), (2, jv v), (3, jv w)] 5 [jv 0]
    refine x_if_eq (pc := 5) C 25 dX6_poison_5 rfl ⟨by decide, by decide⟩ (fun _ => ?_) (fun h => absurd h (by decide))
    refine x_bipush (pc := 25) C dX6_poison_25 rfl ?_
    refine x_iret (pc := 27) C Rt0 dX6_poison_27 rfl ?_
    refine Or.inl ⟨rfl, rfl, ?_⟩
    omega

set_option maxRecDepth 100000 in
theorem hiX6_count_6 : ∀ w ∈ wsX60, w ∈ wsX6_count := by decide +kernel
set_option maxRecDepth 100000 in
theorem hfX6_count_66 : Cond.fieldLink RX6 66 "KeyGuessModel" "nowMany" "I" ∈ wsX6_count := by decide +kernel
set_option maxRecDepth 100000 in
theorem hfX6_count_69 : Cond.fieldLink RX6 69 "KeyGuessModel" "rowMany" "I" ∈ wsX6_count := by decide +kernel
set_option maxRecDepth 100000 in
theorem hfX6_count_83 : Cond.fieldLink RX6 83 "KeyGuessModel" "newMany" "I" ∈ wsX6_count := by decide +kernel
set_option maxRecDepth 100000 in
theorem hfX6_count_72 : Cond.fieldLink RX6 72 "KeyGuessModel" "oldMany" "I" ∈ wsX6_count := by decide +kernel
set_option maxRecDepth 100000 in
theorem hfX6_count_92 : Cond.fieldLink RX6 92 "KeyGuessModel" "cost" "I" ∈ wsX6_count := by decide +kernel
set_option maxRecDepth 100000 in
theorem hfX6_count_23 : Cond.fieldLink RX6 23 "KeyGuessModel" "bits" "[Z" ∈ wsX6_count := by decide +kernel
set_option maxHeartbeats 4000000 in
set_option maxRecDepth 100000 in
/-- count -/
theorem ctX6_count (l : Launch) (g : xG) (o : Nat) (d1 : Nat) (d2 : Nat) (d3 : Nat) (d4 : Nat) (d5 : Nat) (d6 : Nat) (d7 : Nat) (d8 : Nat) (d9 : Nat) (da : Nat) (db : Nat) (dc : Nat) (dd : Nat) (de : Nat) (rn : Int) (e : Int) (nc : Int) (oc : Int) (co : Int) (un : Int) (kn : Int) (lU : Int) (lB : Int) (vn : Int) (lk : Int) (rf : Int → Int) (nw : Int → Int) (ol : Int → Int) (bt : Int → Bool) (uf : Int → Int) (kf : Int → Int) (re : Int → Int) (fw : Int → Int) (pm : Int → Int) (fs : Int → Int) (la : Int → Int) (fk : Int → Int) (us : Int → Int) (bs : Int → Int) (nn : Int) (nf : Int → Int) (u : Int) (B : Int → Bool) (hno : NO nn nf rn rf nc nw oc ol) (hB : ∀ j : Int, 0 ≤ j → j < 64 → bt j = B j) (ru : Rg u) : Ct l g yX6_count wsX6_count ({ frames := 2, cells := 0, slots := 0, locals := 44 } : Room) 0 0 [(o, ob 6 [jv rn, .ref d1, jv e, jv nc, .ref d2, jv oc, .ref d3, jv co, .ref d4, jv un, .ref d5, jv kn, .ref d6, .ref d7, .ref d8, Jv lU, Jv lB, jv vn, .ref d9, .ref da, .ref db, .ref dc, .ref dd, .ref de, jv lk]), (d1, ai g 61 rf), (d2, ai g 9 nw), (d3, ai g 9 ol), (d4, az g 64 bt), (d5, ai g 70 uf), (d6, ai g 70 kf), (d7, ai g 70 re), (d8, ai g 71 fw), (d9, ai g 10 pm), (da, ai g 600 fs), (db, ai g 600 la), (dc, ai g 600 fk), (dd, al g 600 us), (de, al g 600 bs)] [.ref o, jv u] (fun rV rU => (rV = some (jv (-2)) ∧ rU = [(o, ob 6 [jv rn, .ref d1, jv e, jv nc, .ref d2, jv oc, .ref d3, jv co, .ref d4, jv un, .ref d5, jv kn, .ref d6, .ref d7, .ref d8, Jv lU, Jv lB, jv vn, .ref d9, .ref da, .ref db, .ref dc, .ref dd, .ref de, jv lk]), (d1, ai g 61 rf), (d2, ai g 9 nw), (d3, ai g 9 ol), (d4, az g 64 bt), (d5, ai g 70 uf), (d6, ai g 70 kf), (d7, ai g 70 re), (d8, ai g 71 fw), (d9, ai g 10 pm), (da, ai g 600 fs), (db, ai g 600 la), (dc, ai g 600 fk), (dd, al g 600 us), (de, al g 600 bs)] ∧ (u < 0 ∨ 5 < u)) ∨ (∃ (f1 : Int → Int), rV = some (jv nn) ∧ rU = [(o, ob 6 [jv rn, .ref d1, jv e, jv nc, .ref d2, jv oc, .ref d3, jv co, .ref d4, jv nn, .ref d5, jv kn, .ref d6, .ref d7, .ref d8, Jv lU, Jv lB, jv vn, .ref d9, .ref da, .ref db, .ref dc, .ref dd, .ref de, jv lk]), (d1, ai g 61 rf), (d2, ai g 9 nw), (d3, ai g 9 ol), (d4, az g 64 bt), (d5, ai g 70 f1), (d6, ai g 70 kf), (d7, ai g 70 re), (d8, ai g 71 fw), (d9, ai g 10 pm), (da, ai g 600 fs), (db, ai g 600 la), (dc, ai g 600 fk), (dd, al g 600 us), (de, al g 600 bs)] ∧ (u = 0)) ∨ (rV = some (jv rn) ∧ rU = [(o, ob 6 [jv rn, .ref d1, jv e, jv nc, .ref d2, jv oc, .ref d3, jv co, .ref d4, jv un, .ref d5, jv kn, .ref d6, .ref d7, .ref d8, Jv lU, Jv lB, jv vn, .ref d9, .ref da, .ref db, .ref dc, .ref dd, .ref de, jv lk]), (d1, ai g 61 rf), (d2, ai g 9 nw), (d3, ai g 9 ol), (d4, az g 64 bt), (d5, ai g 70 uf), (d6, ai g 70 kf), (d7, ai g 70 re), (d8, ai g 71 fw), (d9, ai g 10 pm), (da, ai g 600 fs), (db, ai g 600 la), (dc, ai g 600 fk), (dd, al g 600 us), (de, al g 600 bs)] ∧ (u = 1)) ∨ (rV = some (jv nc) ∧ rU = [(o, ob 6 [jv rn, .ref d1, jv e, jv nc, .ref d2, jv oc, .ref d3, jv co, .ref d4, jv un, .ref d5, jv kn, .ref d6, .ref d7, .ref d8, Jv lU, Jv lB, jv vn, .ref d9, .ref da, .ref db, .ref dc, .ref dd, .ref de, jv lk]), (d1, ai g 61 rf), (d2, ai g 9 nw), (d3, ai g 9 ol), (d4, az g 64 bt), (d5, ai g 70 uf), (d6, ai g 70 kf), (d7, ai g 70 re), (d8, ai g 71 fw), (d9, ai g 10 pm), (da, ai g 600 fs), (db, ai g 600 la), (dc, ai g 600 fk), (dd, al g 600 us), (de, al g 600 bs)] ∧ (u = 2)) ∨ (rV = some (jv oc) ∧ rU = [(o, ob 6 [jv rn, .ref d1, jv e, jv nc, .ref d2, jv oc, .ref d3, jv co, .ref d4, jv un, .ref d5, jv kn, .ref d6, .ref d7, .ref d8, Jv lU, Jv lB, jv vn, .ref d9, .ref da, .ref db, .ref dc, .ref dd, .ref de, jv lk]), (d1, ai g 61 rf), (d2, ai g 9 nw), (d3, ai g 9 ol), (d4, az g 64 bt), (d5, ai g 70 uf), (d6, ai g 70 kf), (d7, ai g 70 re), (d8, ai g 71 fw), (d9, ai g 10 pm), (da, ai g 600 fs), (db, ai g 600 la), (dc, ai g 600 fk), (dd, al g 600 us), (de, al g 600 bs)] ∧ (u = 3)) ∨ (rV = some (jv co) ∧ rU = [(o, ob 6 [jv rn, .ref d1, jv e, jv nc, .ref d2, jv oc, .ref d3, jv co, .ref d4, jv un, .ref d5, jv kn, .ref d6, .ref d7, .ref d8, Jv lU, Jv lB, jv vn, .ref d9, .ref da, .ref db, .ref dc, .ref dd, .ref de, jv lk]), (d1, ai g 61 rf), (d2, ai g 9 nw), (d3, ai g 9 ol), (d4, az g 64 bt), (d5, ai g 70 uf), (d6, ai g 70 kf), (d7, ai g 70 re), (d8, ai g 71 fw), (d9, ai g 10 pm), (da, ai g 600 fs), (db, ai g 600 la), (dc, ai g 600 fk), (dd, al g 600 us), (de, al g 600 bs)] ∧ (u = 4)) ∨ (∃ (r : Int), rV = some (jv r) ∧ rU = [(o, ob 6 [jv rn, .ref d1, jv e, jv nc, .ref d2, jv oc, .ref d3, jv co, .ref d4, jv un, .ref d5, jv kn, .ref d6, .ref d7, .ref d8, Jv lU, Jv lB, jv vn, .ref d9, .ref da, .ref db, .ref dc, .ref dd, .ref de, jv lk]), (d1, ai g 61 rf), (d2, ai g 9 nw), (d3, ai g 9 ol), (d4, az g 64 bt), (d5, ai g 70 uf), (d6, ai g 70 kf), (d7, ai g 70 re), (d8, ai g 71 fw), (d9, ai g 10 pm), (da, ai g 600 fs), (db, ai g 600 la), (dc, ai g 600 fk), (dd, al g 600 us), (de, al g 600 bs)] ∧ (u = 5 ∧ r = cnt B 64))) := by
  refine ct_of (cc := cX6_count) (nL := 4) (ret := (some .int)) (by decide) rfl (Nat.le_of_ble_eq_true rfl) ?_
  intro E C Rt0
  have C : Cx l g E ({ frames := 2, cells := 0, slots := 0, locals := 44 } : Room) RX6 "count" cX6_count wsX6_count 4 := C
  show X l g E ({ frames := 2, cells := 0, slots := 0, locals := 44 } : Room) 4 [(o, ob 6 [jv rn, .ref d1, jv e, jv nc, .ref d2, jv oc, .ref d3, jv co, .ref d4, jv un, .ref d5, jv kn, .ref d6, .ref d7, .ref d8, Jv lU, Jv lB, jv vn, .ref d9, .ref da, .ref db, .ref dc, .ref dd, .ref de, jv lk]), (d1, ai g 61 rf), (d2, ai g 9 nw), (d3, ai g 9 ol), (d4, az g 64 bt), (d5, ai g 70 uf), (d6, ai g 70 kf), (d7, ai g 70 re), (d8, ai g 71 fw), (d9, ai g 10 pm), (da, ai g 600 fs), (db, ai g 600 la), (dc, ai g 600 fk), (dd, al g 600 us), (de, al g 600 bs)] 0 0 [(0, .ref o), (1, jv u)] 0 []
  have ru1 := ru.1
  have ru2 := ru.2
  refine x_iconst (pc := 0) C dX6_count_0 ?_
  refine x_istore_n (pc := 1) C (lv' := [(2, jv 0), (0, .ref o), (1, jv u)]) dX6_count_1 (by decide) rfl ?_
  refine x_iload_n (pc := 2) C 2 dX6_count_2 rfl ?_
  by_cases sw_3 : u < 0 ∨ 5 < u
  · refine x_tableOut (pc := 3) C 102 dX6_count_3 ⟨by omega, by omega⟩ sw_3 rfl ?_
    refine x_bipush (pc := 102) C dX6_count_102 rfl ?_
    refine x_iret (pc := 104) C Rt0 dX6_count_104 rfl ?_
    refine Or.inl ⟨rfl, rfl, ?_⟩
    omega
  have sv_3 : u = 0 ∨ u = 1 ∨ u = 2 ∨ u = 3 ∨ u = 4 ∨ u = 5 := by omega
  rcases sv_3 with sv_3 | sv_3 | sv_3 | sv_3 | sv_3 | sv_3
  · refine x_tableIn (pc := 3) C 40 dX6_count_3 ⟨by omega, by omega⟩ (by omega) (by omega) (by rw [sv_3]; rfl) rfl ?_
    refine x_aload_n (pc := 40) C 1 dX6_count_40 rfl ?_
    refine x_callV (pc := 41) C (n := 0) (q0 := 0) (rest := []) (wr := [(d4, az g 64 bt), (d6, ai g 70 kf), (d7, ai g 70 re), (d8, ai g 71 fw), (d9, ai g 10 pm), (da, ai g 600 fs), (db, ai g 600 la), (dc, ai g 600 fk), (dd, al g 600 us), (de, al g 600 bs)]) [0, 1, 2, 3, 5] [4, 6, 7, 8, 9, 10, 11, 12, 13, 14] (ctX6_layNow l g o d1 d2 d3 d4 d5 d6 d7 d8 d9 da db dc dd de rn e nc oc co un kn lU lB vn lk rf nw ol uf nn nf hno) gX6_count_X6_layNow rfl ⟨rfl, rfl⟩ (by decide +kernel) ⟨by decide, by decide⟩ rfl rfl rfl rfl rfl (by decide) (by decide) (by decide) rfl (Nat.le_of_ble_eq_true rfl) dX6_count_41 ⟨by decide, by decide⟩ (fun v_41 u_41 h_41 => ?_)
    rcases h_41 with ⟨f1, rfl, rfl, f_41⟩
    refine x_world (ws' := [(o, ob 6 [jv rn, .ref d1, jv e, jv nc, .ref d2, jv oc, .ref d3, jv co, .ref d4, jv nn, .ref d5, jv kn, .ref d6, .ref d7, .ref d8, Jv lU, Jv lB, jv vn, .ref d9, .ref da, .ref db, .ref dc, .ref dd, .ref de, jv lk]), (d1, ai g 61 rf), (d2, ai g 9 nw), (d3, ai g 9 ol), (d4, az g 64 bt), (d5, ai g 70 f1), (d6, ai g 70 kf), (d7, ai g 70 re), (d8, ai g 71 fw), (d9, ai g 10 pm), (da, ai g 600 fs), (db, ai g 600 la), (dc, ai g 600 fk), (dd, al g 600 us), (de, al g 600 bs)]) [10, 11, 12, 13, 0, 14, 1, 2, 3, 4, 5, 6, 7, 8, 9] (by decide) rfl ?_
    show X l g E ({ frames := 2, cells := 0, slots := 0, locals := 44 } : Room) 4 [(o, ob 6 [jv rn, .ref d1, jv e, jv nc, .ref d2, jv oc, .ref d3, jv co, .ref d4, jv nn, .ref d5, jv kn, .ref d6, .ref d7, .ref d8, Jv lU, Jv lB, jv vn, .ref d9, .ref da, .ref db, .ref dc, .ref dd, .ref de, jv lk]), (d1, ai g 61 rf), (d2, ai g 9 nw), (d3, ai g 9 ol), (d4, az g 64 bt), (d5, ai g 70 f1), (d6, ai g 70 kf), (d7, ai g 70 re), (d8, ai g 71 fw), (d9, ai g 10 pm), (da, ai g 600 fs), (db, ai g 600 la), (dc, ai g 600 fk), (dd, al g 600 us), (de, al g 600 bs)] 0 0 [(2, jv 0), (0, .ref o), (1, jv u)] 44 []
    refine x_aload_n (pc := 44) C 1 dX6_count_44 rfl ?_
    refine x_get (pc := 45) C 0 9 dX6_count_45 hiX6_count_6 hfX6_count_66 rfl rfl rfl (by decide) rfl ?_
    refine x_iret (pc := 48) C Rt0 dX6_count_48 rfl ?_
    refine Or.inr (Or.inl ⟨_, rfl, rfl, ?_⟩)
    omega
  · refine x_tableIn (pc := 3) C 49 dX6_count_3 ⟨by omega, by omega⟩ (by omega) (by omega) (by rw [sv_3]; rfl) rfl ?_
    refine x_aload_n (pc := 49) C 1 dX6_count_49 rfl ?_
    refine x_get (pc := 50) C 0 0 dX6_count_50 hiX6_count_6 hfX6_count_69 rfl rfl rfl (by decide) rfl ?_
    refine x_iret (pc := 53) C Rt0 dX6_count_53 rfl ?_
    refine Or.inr (Or.inr (Or.inl ⟨rfl, rfl, ?_⟩))
    omega
  · refine x_tableIn (pc := 3) C 54 dX6_count_3 ⟨by omega, by omega⟩ (by omega) (by omega) (by rw [sv_3]; rfl) rfl ?_
    refine x_aload_n (pc := 54) C 1 dX6_count_54 rfl ?_
    refine x_get (pc := 55) C 0 3 dX6_count_55 hiX6_count_6 hfX6_count_83 rfl rfl rfl (by decide) rfl ?_
    refine x_iret (pc := 58) C Rt0 dX6_count_58 rfl ?_
    refine Or.inr (Or.inr (Or.inr (Or.inl ⟨rfl, rfl, ?_⟩)))
    omega
  · refine x_tableIn (pc := 3) C 59 dX6_count_3 ⟨by omega, by omega⟩ (by omega) (by omega) (by rw [sv_3]; rfl) rfl ?_
    refine x_aload_n (pc := 59) C 1 dX6_count_59 rfl ?_
    refine x_get (pc := 60) C 0 5 dX6_count_60 hiX6_count_6 hfX6_count_72 rfl rfl rfl (by decide) rfl ?_
    refine x_iret (pc := 63) C Rt0 dX6_count_63 rfl ?_
    refine Or.inr (Or.inr (Or.inr (Or.inr (Or.inl ⟨rfl, rfl, ?_⟩))))
    omega
  · refine x_tableIn (pc := 3) C 64 dX6_count_3 ⟨by omega, by omega⟩ (by omega) (by omega) (by rw [sv_3]; rfl) rfl ?_
    refine x_aload_n (pc := 64) C 1 dX6_count_64 rfl ?_
    refine x_get (pc := 65) C 0 7 dX6_count_65 hiX6_count_6 hfX6_count_92 rfl rfl rfl (by decide) rfl ?_
    refine x_iret (pc := 68) C Rt0 dX6_count_68 rfl ?_
    refine Or.inr (Or.inr (Or.inr (Or.inr (Or.inr (Or.inl ⟨rfl, rfl, ?_⟩)))))
    omega
  · refine x_tableIn (pc := 3) C 69 dX6_count_3 ⟨by omega, by omega⟩ (by omega) (by omega) (by rw [sv_3]; rfl) rfl ?_
    refine x_iconst (pc := 69) C dX6_count_69 ?_
    refine x_istore_n (pc := 70) C (lv' := [(3, jv 0), (2, jv 0), (0, .ref o), (1, jv u)]) dX6_count_70 (by decide) rfl ?_
    have L71 : ∀ (kμ : Nat) (j : Int) (k : Int), (64 - k).toNat < kμ → (0 ≤ k ∧ k ≤ 64) → (j = cnt B k.toNat) → X l g E ({ frames := 2, cells := 0, slots := 0, locals := 44 } : Room) 4 [(o, ob 6 [jv rn, .ref d1, jv e, jv nc, .ref d2, jv oc, .ref d3, jv co, .ref d4, jv un, .ref d5, jv kn, .ref d6, .ref d7, .ref d8, Jv lU, Jv lB, jv vn, .ref d9, .ref da, .ref db, .ref dc, .ref dd, .ref de, jv lk]), (d1, ai g 61 rf), (d2, ai g 9 nw), (d3, ai g 9 ol), (d4, az g 64 bt), (d5, ai g 70 uf), (d6, ai g 70 kf), (d7, ai g 70 re), (d8, ai g 71 fw), (d9, ai g 10 pm), (da, ai g 600 fs), (db, ai g 600 la), (dc, ai g 600 fk), (dd, al g 600 us), (de, al g 600 bs)] 0 0 [(0, .ref o), (2, jv j), (3, jv k)] 71 [] := by
      intro kμ
      induction kμ with
      | zero => intro j k hμ; exact absurd hμ (Nat.not_lt_zero _)
      | succ kμ ih71 =>
        intro j k hμ hk hj
        refine x_iload_n (pc := 71) C 2 dX6_count_71 rfl ?_
        refine x_bipush (pc := 72) C dX6_count_72 rfl ?_
        refine x_icmp_ge (pc := 74) C 100 dX6_count_74 rfl ⟨by omega, by omega⟩ ⟨by omega, by omega⟩ (fun c_74 => ?_) (fun c_74 => ?_)
        · refine x_iload_n (pc := 100) C 1 dX6_count_100 rfl ?_
          refine x_iret (pc := 101) C Rt0 dX6_count_101 rfl ?_
          refine Or.inr (Or.inr (Or.inr (Or.inr (Or.inr (Or.inr (⟨_, rfl, rfl, ?_⟩))))))
          exact ⟨by omega, by rw [hj, show k = 64 by omega]; rfl⟩
        · refine x_iload_n (pc := 77) C 1 dX6_count_77 rfl ?_
          refine x_aload_n (pc := 78) C 0 dX6_count_78 rfl ?_
          refine x_get (pc := 79) C 0 8 dX6_count_79 hiX6_count_6 hfX6_count_23 rfl rfl rfl (by decide) rfl ?_
          refine x_iload_n (pc := 82) C 2 dX6_count_82 rfl ?_
          refine x_zald (pc := 83) C 4 dX6_count_83 rfl (by omega) (by omega) (by decide) (fun c_83 => ?_) (fun c_83 => ?_)
          · refine x_if_eq (pc := 84) C 91 dX6_count_84 rfl ⟨by decide, by decide⟩ (fun h => absurd h (by decide)) (fun _ => ?_)
            refine x_iconst (pc := 87) C dX6_count_87 ?_
            refine x_goto (pc := 88) C 92 dX6_count_88 rfl ?_
            refine x_iadd (pc := 92) C dX6_count_92 ?_
            refine x_istore_n (pc := 93) C (lv' := [(2, jv (j + 1)), (0, .ref o), (3, jv k)]) dX6_count_93 (by decide) rfl ?_
            refine x_iinc (pc := 94) C (lv' := [(3, jv (k + 1)), (2, jv (j + 1)), (0, .ref o)]) 2 dX6_count_94 rfl (by decide) rfl ?_
            refine x_goto (pc := 97) C 71 dX6_count_97 rfl ?_
            refine x_locals (lv' := [(0, .ref o), (2, jv (j + 1)), (3, jv (k + 1))]) [2, 1, 0] rfl ?_
            refine ih71 _ _ ?_ ?_ ?_
            · omega
            · omega
            · rw [cnt_s _ hk.1, ← hj, ← hB k hk.1 (by omega), c_83]
              rfl
          · refine x_if_eq (pc := 84) C 91 dX6_count_84 rfl ⟨by decide, by decide⟩ (fun _ => ?_) (fun h => absurd h (by decide))
            refine x_iconst (pc := 91) C dX6_count_91 ?_
            refine x_iadd (pc := 92) C dX6_count_92 ?_
            refine x_istore_n (pc := 93) C (lv' := [(2, jv (j + 0)), (0, .ref o), (3, jv k)]) dX6_count_93 (by decide) rfl ?_
            refine x_iinc (pc := 94) C (lv' := [(3, jv (k + 1)), (2, jv (j + 0)), (0, .ref o)]) 2 dX6_count_94 rfl (by decide) rfl ?_
            refine x_goto (pc := 97) C 71 dX6_count_97 rfl ?_
            refine x_locals (lv' := [(0, .ref o), (2, jv (j + 0)), (3, jv (k + 1))]) [2, 1, 0] rfl ?_
            refine ih71 _ _ ?_ ?_ ?_
            · omega
            · omega
            · rw [cnt_s _ hk.1, ← hj, ← hB k hk.1 (by omega), c_83]
              rfl
    refine x_locals (lv' := [(0, .ref o), (2, jv 0), (3, jv 0)]) [2, 1, 0] rfl ?_
    refine L71 _ _ _ (Nat.lt_succ_self _) ?_ ?_
    · omega
    · rfl
