def MO (g : xG) (o : Nat) (S0 : T9) (w : va_W) : Prop := match S0 with
  | (nn, nf, rn, y, e, nc, oc, co, B) => ∃ (d1 d2 d3 d4 d5 d6 d7 d8 d9 da db dc dd de : Nat) (un kn lU lB vn lk : Int) (rf nw ol : Int → Int) (bt : Int → Bool) (uf kf re fw pm fs la fk us bs : Int → Int), w = [(o, ob 6 [jv rn, .ref d1, jv e, jv nc, .ref d2, jv oc, .ref d3, jv co, .ref d4, jv un, .ref d5, jv kn, .ref d6, .ref d7, .ref d8, Jv lU, Jv lB, jv vn, .ref d9, .ref da, .ref db, .ref dc, .ref dd, .ref de, jv lk]), (d1, ai g 61 rf), (d2, ai g 9 nw), (d3, ai g 9 ol), (d4, az g 64 bt), (d5, ai g 70 uf), (d6, ai g 70 kf), (d7, ai g 70 re), (d8, ai g 71 fw), (d9, ai g 10 pm), (da, ai g 600 fs), (db, ai g 600 la), (dc, ai g 600 fk), (dd, al g 600 us), (de, al g 600 bs)] ∧ NO nn nf rn rf nc nw oc ol ∧ Agr rn rf y ∧ LvM y e rn vn pm fs la fk us bs ∧ (∀ j : Int, 0 ≤ j → j < 64 → bt j = B j) ∧ (0 ≤ e ∧ e ≤ 8)
theorem MO.len {g : xG} {o : Nat} {S0 : T9} {w : va_W} (h : MO g o S0 w) : w.length = 15 := by
  obtain ⟨nn, nf, rn, y, e, nc, oc, co, B⟩ := S0
  obtain ⟨d1, d2, d3, d4, d5, d6, d7, d8, d9, da, db, dc, dd, de, un, kn, lU, lB, vn, lk, rf, nw, ol, bt, uf, kf, re, fw, pm, fs, la, fk, us, bs, rfl, -⟩ := h
  rfl
theorem MO.hc {g : xG} {o : Nat} {nn : Int} {nf : Int → Int} {rn : Int} {y : Int → Int} {e nc oc co : Int} {B : Int → Bool} {w : va_W} (h : MO g o (nn, nf, rn, y, e, nc, oc, co, B) w) : 0 ≤ nc ∧ 0 ≤ oc ∧ nc + oc ≤ 8 := by
  obtain ⟨d1, d2, d3, d4, d5, d6, d7, d8, d9, da, db, dc, dd, de, un, kn, lU, lB, vn, lk, rf, nw, ol, bt, uf, kf, re, fw, pm, fs, la, fk, us, bs, -, h, -⟩ := h
  exact h.2.2.1
set_option maxHeartbeats 4000000 in
theorem lm_put {l : Launch} {g : xG} {E : xE} {nm : String} {o : Nat} {nn : Int} {nf : Int → Int} {rn : Int} {y : Int → Int} {e nc oc co : Int} {B : Int → Bool} {wk wm : va_W} {lv : List (Nat × Value)} {rest : List Value} {u : Int} {z : Int} {S1 : T9} (C : Cx l g E room_1 RL nm cL_law wsL_law 4) (hm : MO g o (nn, nf, rn, y, e, nc, oc, co, B) wm) (hk : wk.length = 24) (ru : Rg u) (hcat : (rest.map fun v => v.category).sum ≤ 8) (q : Qput nn nf rn y e nc oc co B u z S1) (kk : ∀ wm1 : va_W, MO g o S1 wm1 → X l g E room_1 4 (wk ++ wm1) 39 4347 lv 138 (jv z :: rest)) : X l g E room_1 4 (wm ++ wk) 39 4347 lv 135 (jv u :: .ref o :: rest) := by
  obtain ⟨d1, d2, d3, d4, d5, d6, d7, d8, d9, da, db, dc, dd, de, un, kn, lU, lB, vn, lk, rf, nw, ol, bt, uf, kf, re, fw, pm, fs, la, fk, us, bs, rfl, hno, ha, hL, hB, he⟩ := hm
  refine x_callW (pc := 135) C (n := 1) (q0 := 0) (nA := 15) (nB := 24) (rest := rest) rfl hk (by decide +kernel) (by decide +kernel) (ctX6_put l g o d1 d2 d3 d4 d5 d6 d7 d8 d9 da db dc dd de rn e nc oc co un kn lU lB vn lk rf nw ol bt uf kf re fw pm fs la fk us bs nn nf u hno he ru) gL_law_X6_put rfl ⟨rfl, rfl⟩ (by decide +kernel) ⟨by decide, by decide⟩ rfl rfl rfl rfl hcat dL_law_135 ⟨by decide, by decide⟩ (fun vv uu hh => ?_)
  rcases q with ⟨c0, rfl, rfl⟩ | ⟨c0, cI, rfl, rfl⟩ | ⟨c0, cN, cx, rfl, rfl⟩ | ⟨c0, cN, cx, cR, rfl, k1, f1, cD, rfl⟩ | ⟨c0, cN, cx, cM, cy, rfl, k1, f1, cD, rfl⟩ | ⟨c0, cN, cx, cM, cy, rfl, k1, f1, cD, rfl⟩
  · rcases hh with ⟨rfl, rfl, m0⟩ | ⟨f1, rfl, rfl, m0, m1, mI⟩ | ⟨f1, rfl, rfl, m0, m1, mN, mx⟩ | ⟨f1, ol', rfl, rfl, m0, m1, mN, mx, mR, mO⟩ | ⟨f1, nw', rfl, rfl, m0, m1, mN, mx, mM, my, mO⟩ | ⟨f2, nw', km, v, uu, ub, r1, kg, re', fw', pm', g0, g1, g2, g3, g4, bt', rfl, rfl, m0, m1, mN, mx, mM, my, mO, mA, mL, mB⟩
    · exact kk _ ⟨_, _, _, _, _, _, _, _, _, _, _, _, _, _, _, _, _, _, _, _, _, _, _, _, _, _, _, _, _, _, _, _, _, _, rfl, hno, ha, hL, hB, he⟩
    · exfalso; first | omega | exact cN mI | exact mN cI | exact cM ((ha.inr _).mp mR) | exact mM ((ha.inr _).mpr cR)
    · exfalso; first | omega | exact cN mI | exact mN cI | exact cM ((ha.inr _).mp mR) | exact mM ((ha.inr _).mpr cR)
    · exfalso; first | omega | exact cN mI | exact mN cI | exact cM ((ha.inr _).mp mR) | exact mM ((ha.inr _).mpr cR)
    · exfalso; first | omega | exact cN mI | exact mN cI | exact cM ((ha.inr _).mp mR) | exact mM ((ha.inr _).mpr cR)
    · exfalso; first | omega | exact cN mI | exact mN cI | exact cM ((ha.inr _).mp mR) | exact mM ((ha.inr _).mpr cR)
  · rcases hh with ⟨rfl, rfl, m0⟩ | ⟨f1, rfl, rfl, m0, m1, mI⟩ | ⟨f1, rfl, rfl, m0, m1, mN, mx⟩ | ⟨f1, ol', rfl, rfl, m0, m1, mN, mx, mR, mO⟩ | ⟨f1, nw', rfl, rfl, m0, m1, mN, mx, mM, my, mO⟩ | ⟨f2, nw', km, v, uu, ub, r1, kg, re', fw', pm', g0, g1, g2, g3, g4, bt', rfl, rfl, m0, m1, mN, mx, mM, my, mO, mA, mL, mB⟩
    · exfalso; first | omega | exact cN mI | exact mN cI | exact cM ((ha.inr _).mp mR) | exact mM ((ha.inr _).mpr cR)
    · exact kk _ ⟨_, _, _, _, _, _, _, _, _, _, _, _, _, _, _, _, _, _, _, _, _, _, _, _, _, _, _, _, _, _, _, _, _, _, rfl, hno, ha, hL, hB, he⟩
    · exfalso; first | omega | exact cN mI | exact mN cI | exact cM ((ha.inr _).mp mR) | exact mM ((ha.inr _).mpr cR)
    · exfalso; first | omega | exact cN mI | exact mN cI | exact cM ((ha.inr _).mp mR) | exact mM ((ha.inr _).mpr cR)
    · exfalso; first | omega | exact cN mI | exact mN cI | exact cM ((ha.inr _).mp mR) | exact mM ((ha.inr _).mpr cR)
    · exfalso; first | omega | exact cN mI | exact mN cI | exact cM ((ha.inr _).mp mR) | exact mM ((ha.inr _).mpr cR)
  · rcases hh with ⟨rfl, rfl, m0⟩ | ⟨f1, rfl, rfl, m0, m1, mI⟩ | ⟨f1, rfl, rfl, m0, m1, mN, mx⟩ | ⟨f1, ol', rfl, rfl, m0, m1, mN, mx, mR, mO⟩ | ⟨f1, nw', rfl, rfl, m0, m1, mN, mx, mM, my, mO⟩ | ⟨f2, nw', km, v, uu, ub, r1, kg, re', fw', pm', g0, g1, g2, g3, g4, bt', rfl, rfl, m0, m1, mN, mx, mM, my, mO, mA, mL, mB⟩
    · exfalso; first | omega | exact cN mI | exact mN cI | exact cM ((ha.inr _).mp mR) | exact mM ((ha.inr _).mpr cR)
    · exfalso; first | omega | exact cN mI | exact mN cI | exact cM ((ha.inr _).mp mR) | exact mM ((ha.inr _).mpr cR)
    · exact kk _ ⟨_, _, _, _, _, _, _, _, _, _, _, _, _, _, _, _, _, _, _, _, _, _, _, _, _, _, _, _, _, _, _, _, _, _, rfl, hno, ha, hL, hB, he⟩
    · exfalso; first | omega | exact cN mI | exact mN cI | exact cM ((ha.inr _).mp mR) | exact mM ((ha.inr _).mpr cR)
    · exfalso; first | omega | exact cN mI | exact mN cI | exact cM ((ha.inr _).mp mR) | exact mM ((ha.inr _).mpr cR)
    · exfalso; first | omega | exact cN mI | exact mN cI | exact cM ((ha.inr _).mp mR) | exact mM ((ha.inr _).mpr cR)
  · rcases hh with ⟨rfl, rfl, m0⟩ | ⟨f1, rfl, rfl, m0, m1, mI⟩ | ⟨f1, rfl, rfl, m0, m1, mN, mx⟩ | ⟨f1, ol', rfl, rfl, m0, m1, mN, mx, mR, mO⟩ | ⟨f1, nw', rfl, rfl, m0, m1, mN, mx, mM, my, mO⟩ | ⟨f2, nw', km, v, uu, ub, r1, kg, re', fw', pm', g0, g1, g2, g3, g4, bt', rfl, rfl, m0, m1, mN, mx, mM, my, mO, mA, mL, mB⟩
    · exfalso; first | omega | exact cN mI | exact mN cI | exact cM ((ha.inr _).mp mR) | exact mM ((ha.inr _).mpr cR)
    · exfalso; first | omega | exact cN mI | exact mN cI | exact cM ((ha.inr _).mp mR) | exact mM ((ha.inr _).mpr cR)
    · exfalso; first | omega | exact cN mI | exact mN cI | exact cM ((ha.inr _).mp mR) | exact mM ((ha.inr _).mpr cR)
    · exact kk _ ⟨_, _, _, _, _, _, _, _, _, _, _, _, _, _, _, _, _, _, _, _, _, _, _, _, _, _, _, _, _, _, _, _, _, _, rfl, mO.congr (ins_agr cD), ha, hL, setB_congr hB, he⟩
    · exfalso; first | omega | exact cN mI | exact mN cI | exact cM ((ha.inr _).mp mR) | exact mM ((ha.inr _).mpr cR)
    · exfalso; first | omega | exact cN mI | exact mN cI | exact cM ((ha.inr _).mp mR) | exact mM ((ha.inr _).mpr cR)
  · rcases hh with ⟨rfl, rfl, m0⟩ | ⟨f1, rfl, rfl, m0, m1, mI⟩ | ⟨f1, rfl, rfl, m0, m1, mN, mx⟩ | ⟨f1, ol', rfl, rfl, m0, m1, mN, mx, mR, mO⟩ | ⟨f1, nw', rfl, rfl, m0, m1, mN, mx, mM, my, mO⟩ | ⟨f2, nw', km, v, uu, ub, r1, kg, re', fw', pm', g0, g1, g2, g3, g4, bt', rfl, rfl, m0, m1, mN, mx, mM, my, mO, mA, mL, mB⟩
    · exfalso; first | omega | exact cN mI | exact mN cI | exact cM ((ha.inr _).mp mR) | exact mM ((ha.inr _).mpr cR)
    · exfalso; first | omega | exact cN mI | exact mN cI | exact cM ((ha.inr _).mp mR) | exact mM ((ha.inr _).mpr cR)
    · exfalso; first | omega | exact cN mI | exact mN cI | exact cM ((ha.inr _).mp mR) | exact mM ((ha.inr _).mpr cR)
    · exfalso; first | omega | exact cN mI | exact mN cI | exact cM ((ha.inr _).mp mR) | exact mM ((ha.inr _).mpr cR)
    · exact kk _ ⟨_, _, _, _, _, _, _, _, _, _, _, _, _, _, _, _, _, _, _, _, _, _, _, _, _, _, _, _, _, _, _, _, _, _, rfl, mO.congr (ins_agr cD), ha, hL, setB_congr hB, he⟩
    · exfalso; first | omega | exact cN mI | exact mN cI | exact cM ((ha.inr _).mp mR) | exact mM ((ha.inr _).mpr cR)
  · rcases hh with ⟨rfl, rfl, m0⟩ | ⟨f1, rfl, rfl, m0, m1, mI⟩ | ⟨f1, rfl, rfl, m0, m1, mN, mx⟩ | ⟨f1, ol', rfl, rfl, m0, m1, mN, mx, mR, mO⟩ | ⟨f1, nw', rfl, rfl, m0, m1, mN, mx, mM, my, mO⟩ | ⟨f2, nw', km, v, uu, ub, r1, kg, re', fw', pm', g0, g1, g2, g3, g4, bt', rfl, rfl, m0, m1, mN, mx, mM, my, mO, mA, mL, mB⟩
    · exfalso; first | omega | exact cN mI | exact mN cI | exact cM ((ha.inr _).mp mR) | exact mM ((ha.inr _).mpr cR)
    · exfalso; first | omega | exact cN mI | exact mN cI | exact cM ((ha.inr _).mp mR) | exact mM ((ha.inr _).mpr cR)
    · exfalso; first | omega | exact cN mI | exact mN cI | exact cM ((ha.inr _).mp mR) | exact mM ((ha.inr _).mpr cR)
    · exfalso; first | omega | exact cN mI | exact mN cI | exact cM ((ha.inr _).mp mR) | exact mM ((ha.inr _).mpr cR)
    · exfalso; first | omega | exact cN mI | exact mN cI | exact cM ((ha.inr _).mp mR) | exact mM ((ha.inr _).mpr cR)
    · exact kk _ ⟨_, _, _, _, _, _, _, _, _, _, _, _, _, _, _, _, _, _, _, _, _, _, _, _, _, _, _, _, _, _, _, _, _, _, rfl, mO.congr (ins_agr cD), mA, mL, setB_congr mB, he⟩
set_option maxHeartbeats 4000000 in
theorem lm_take {l : Launch} {g : xG} {E : xE} {nm : String} {o : Nat} {nn : Int} {nf : Int → Int} {rn : Int} {y : Int → Int} {e nc oc co : Int} {B : Int → Bool} {wk wm : va_W} {lv : List (Nat × Value)} {rest : List Value} {u : Int} {z : Int} {S1 : T9} (C : Cx l g E room_1 RL nm cL_law wsL_law 4) (hm : MO g o (nn, nf, rn, y, e, nc, oc, co, B) wm) (hk : wk.length = 24) (ru : Rg u) (hcat : (rest.map fun v => v.category).sum ≤ 8) (q : Qtake nn nf rn y e nc oc co B u z S1) (kk : ∀ wm1 : va_W, MO g o S1 wm1 → X l g E room_1 4 (wk ++ wm1) 39 4347 lv 161 (jv z :: rest)) : X l g E room_1 4 (wm ++ wk) 39 4347 lv 158 (jv u :: .ref o :: rest) := by
  obtain ⟨d1, d2, d3, d4, d5, d6, d7, d8, d9, da, db, dc, dd, de, un, kn, lU, lB, vn, lk, rf, nw, ol, bt, uf, kf, re, fw, pm, fs, la, fk, us, bs, rfl, hno, ha, hL, hB, he⟩ := hm
  refine x_callW (pc := 158) C (n := 1) (q0 := 0) (nA := 15) (nB := 24) (rest := rest) rfl hk (by decide +kernel) (by decide +kernel) (ctX6_take l g o d1 d2 d3 d4 d5 d6 d7 d8 d9 da db dc dd de rn e nc oc co un kn lU lB vn lk rf nw ol bt uf kf re fw pm fs la fk us bs nn nf u hno he ru) gL_law_X6_take rfl ⟨rfl, rfl⟩ (by decide +kernel) ⟨by decide, by decide⟩ rfl rfl rfl rfl hcat dL_law_158 ⟨by decide, by decide⟩ (fun vv uu hh => ?_)
  rcases q with ⟨c0, rfl, rfl⟩ | ⟨c0, cN, rfl, rfl⟩ | ⟨c0, cI, cM, rfl, k1, f1, cD, rfl⟩ | ⟨c0, cI, cR, cy, rfl, k1, f1, cD, rfl⟩ | ⟨c0, cI, cR, cy, rfl, k1, f1, cD, rfl⟩
  · rcases hh with ⟨rfl, rfl, m0⟩ | ⟨f1, rfl, rfl, m0, m1, mN⟩ | ⟨f1, nw', rfl, rfl, m0, m1, mI, mM, mO⟩ | ⟨f1, ol', rfl, rfl, m0, m1, mI, mR, my, mO⟩ | ⟨f2, ol', km, v, uu, ub, r1, kg, re', fw', pm', g0, g1, g2, g3, g4, bt', rfl, rfl, m0, m1, mI, mR, my, mO, mA, mL, mB⟩
    · exact kk _ ⟨_, _, _, _, _, _, _, _, _, _, _, _, _, _, _, _, _, _, _, _, _, _, _, _, _, _, _, _, _, _, _, _, _, _, rfl, hno, ha, hL, hB, he⟩
    · exfalso; first | omega | exact cN mI | exact mN cI | exact cM ((ha.inr _).mp mR) | exact mM ((ha.inr _).mpr cR)
    · exfalso; first | omega | exact cN mI | exact mN cI | exact cM ((ha.inr _).mp mR) | exact mM ((ha.inr _).mpr cR)
    · exfalso; first | omega | exact cN mI | exact mN cI | exact cM ((ha.inr _).mp mR) | exact mM ((ha.inr _).mpr cR)
    · exfalso; first | omega | exact cN mI | exact mN cI | exact cM ((ha.inr _).mp mR) | exact mM ((ha.inr _).mpr cR)
  · rcases hh with ⟨rfl, rfl, m0⟩ | ⟨f1, rfl, rfl, m0, m1, mN⟩ | ⟨f1, nw', rfl, rfl, m0, m1, mI, mM, mO⟩ | ⟨f1, ol', rfl, rfl, m0, m1, mI, mR, my, mO⟩ | ⟨f2, ol', km, v, uu, ub, r1, kg, re', fw', pm', g0, g1, g2, g3, g4, bt', rfl, rfl, m0, m1, mI, mR, my, mO, mA, mL, mB⟩
    · exfalso; first | omega | exact cN mI | exact mN cI | exact cM ((ha.inr _).mp mR) | exact mM ((ha.inr _).mpr cR)
    · exact kk _ ⟨_, _, _, _, _, _, _, _, _, _, _, _, _, _, _, _, _, _, _, _, _, _, _, _, _, _, _, _, _, _, _, _, _, _, rfl, hno, ha, hL, hB, he⟩
    · exfalso; first | omega | exact cN mI | exact mN cI | exact cM ((ha.inr _).mp mR) | exact mM ((ha.inr _).mpr cR)
    · exfalso; first | omega | exact cN mI | exact mN cI | exact cM ((ha.inr _).mp mR) | exact mM ((ha.inr _).mpr cR)
    · exfalso; first | omega | exact cN mI | exact mN cI | exact cM ((ha.inr _).mp mR) | exact mM ((ha.inr _).mpr cR)
  · rcases hh with ⟨rfl, rfl, m0⟩ | ⟨f1, rfl, rfl, m0, m1, mN⟩ | ⟨f1, nw', rfl, rfl, m0, m1, mI, mM, mO⟩ | ⟨f1, ol', rfl, rfl, m0, m1, mI, mR, my, mO⟩ | ⟨f2, ol', km, v, uu, ub, r1, kg, re', fw', pm', g0, g1, g2, g3, g4, bt', rfl, rfl, m0, m1, mI, mR, my, mO, mA, mL, mB⟩
    · exfalso; first | omega | exact cN mI | exact mN cI | exact cM ((ha.inr _).mp mR) | exact mM ((ha.inr _).mpr cR)
    · exfalso; first | omega | exact cN mI | exact mN cI | exact cM ((ha.inr _).mp mR) | exact mM ((ha.inr _).mpr cR)
    · exact kk _ ⟨_, _, _, _, _, _, _, _, _, _, _, _, _, _, _, _, _, _, _, _, _, _, _, _, _, _, _, _, _, _, _, _, _, _, rfl, mO.congr (del_agr cD hno.1), ha, hL, hB, he⟩
    · exfalso; first | omega | exact cN mI | exact mN cI | exact cM ((ha.inr _).mp mR) | exact mM ((ha.inr _).mpr cR)
    · exfalso; first | omega | exact cN mI | exact mN cI | exact cM ((ha.inr _).mp mR) | exact mM ((ha.inr _).mpr cR)
  · rcases hh with ⟨rfl, rfl, m0⟩ | ⟨f1, rfl, rfl, m0, m1, mN⟩ | ⟨f1, nw', rfl, rfl, m0, m1, mI, mM, mO⟩ | ⟨f1, ol', rfl, rfl, m0, m1, mI, mR, my, mO⟩ | ⟨f2, ol', km, v, uu, ub, r1, kg, re', fw', pm', g0, g1, g2, g3, g4, bt', rfl, rfl, m0, m1, mI, mR, my, mO, mA, mL, mB⟩
    · exfalso; first | omega | exact cN mI | exact mN cI | exact cM ((ha.inr _).mp mR) | exact mM ((ha.inr _).mpr cR)
    · exfalso; first | omega | exact cN mI | exact mN cI | exact cM ((ha.inr _).mp mR) | exact mM ((ha.inr _).mpr cR)
    · exfalso; first | omega | exact cN mI | exact mN cI | exact cM ((ha.inr _).mp mR) | exact mM ((ha.inr _).mpr cR)
    · exact kk _ ⟨_, _, _, _, _, _, _, _, _, _, _, _, _, _, _, _, _, _, _, _, _, _, _, _, _, _, _, _, _, _, _, _, _, _, rfl, mO.congr (del_agr cD hno.1), ha, hL, hB, he⟩
    · exfalso; first | omega | exact cN mI | exact mN cI | exact cM ((ha.inr _).mp mR) | exact mM ((ha.inr _).mpr cR)
  · rcases hh with ⟨rfl, rfl, m0⟩ | ⟨f1, rfl, rfl, m0, m1, mN⟩ | ⟨f1, nw', rfl, rfl, m0, m1, mI, mM, mO⟩ | ⟨f1, ol', rfl, rfl, m0, m1, mI, mR, my, mO⟩ | ⟨f2, ol', km, v, uu, ub, r1, kg, re', fw', pm', g0, g1, g2, g3, g4, bt', rfl, rfl, m0, m1, mI, mR, my, mO, mA, mL, mB⟩
    · exfalso; first | omega | exact cN mI | exact mN cI | exact cM ((ha.inr _).mp mR) | exact mM ((ha.inr _).mpr cR)
    · exfalso; first | omega | exact cN mI | exact mN cI | exact cM ((ha.inr _).mp mR) | exact mM ((ha.inr _).mpr cR)
    · exfalso; first | omega | exact cN mI | exact mN cI | exact cM ((ha.inr _).mp mR) | exact mM ((ha.inr _).mpr cR)
    · exfalso; first | omega | exact cN mI | exact mN cI | exact cM ((ha.inr _).mp mR) | exact mM ((ha.inr _).mpr cR)
    · exact kk _ ⟨_, _, _, _, _, _, _, _, _, _, _, _, _, _, _, _, _, _, _, _, _, _, _, _, _, _, _, _, _, _, _, _, _, _, rfl, mO.congr (del_agr cD hno.1), mA, mL, mB, he⟩
set_option maxHeartbeats 4000000 in
theorem lm_make {l : Launch} {g : xG} {E : xE} {nm : String} {o : Nat} {nn : Int} {nf : Int → Int} {rn : Int} {y : Int → Int} {e nc oc co : Int} {B : Int → Bool} {wk wm : va_W} {lv : List (Nat × Value)} {rest : List Value} {z : Int} (C : Cx l g E room_1 RL nm cL_law wsL_law 4) (hm : MO g o (nn, nf, rn, y, e, nc, oc, co, B) wm) (hk : wk.length = 24) (hcat : (rest.map fun v => v.category).sum ≤ 8) (q : True) (kk : ∀ wm1 : va_W, MO g o (nn, nf, nn, nf, e, 0, 0, co + nn, mkB nf nn.toNat) wm1 → X l g E room_1 4 (wk ++ wm1) 39 4347 lv 174 (jv (co + nn) :: rest)) : X l g E room_1 4 (wm ++ wk) 39 4347 lv 171 (.ref o :: rest) := by
  obtain ⟨d1, d2, d3, d4, d5, d6, d7, d8, d9, da, db, dc, dd, de, un, kn, lU, lB, vn, lk, rf, nw, ol, bt, uf, kf, re, fw, pm, fs, la, fk, us, bs, rfl, hno, ha, hL, hB, he⟩ := hm
  refine x_callW (pc := 171) C (n := 0) (q0 := 0) (nA := 15) (nB := 24) (rest := rest) rfl hk (by decide +kernel) (by decide +kernel) (ctX6_make l g o d1 d2 d3 d4 d5 d6 d7 d8 d9 da db dc dd de rn e nc oc co un kn lU lB vn lk rf nw ol bt uf kf re fw pm fs la fk us bs nn nf hno he) gL_law_X6_make rfl ⟨rfl, rfl⟩ (by decide +kernel) ⟨by decide, by decide⟩ rfl rfl rfl rfl hcat dL_law_171 ⟨by decide, by decide⟩ (fun vv uu hh => ?_)
  rcases hh with ⟨km, v, uu, ub, r1, f', kg, re', fw', pm', g0, g1, g2, g3, g4, bt', rfl, rfl, mU, mA, mL, mB⟩
  · exact kk _ ⟨_, _, _, _, _, _, _, _, _, _, _, _, _, _, _, _, _, _, _, _, _, _, _, _, _, _, _, _, _, _, _, _, _, _, rfl, NO.mk hno.1 mA, mA, mL, mB, he⟩
set_option maxHeartbeats 4000000 in
theorem lm_slack {l : Launch} {g : xG} {E : xE} {nm : String} {o : Nat} {nn : Int} {nf : Int → Int} {rn : Int} {y : Int → Int} {e nc oc co : Int} {B : Int → Bool} {wk wm : va_W} {lv : List (Nat × Value)} {rest : List Value} {u : Int} {z : Int} {S1 : T9} (C : Cx l g E room_1 RL nm cL_law wsL_law 4) (hm : MO g o (nn, nf, rn, y, e, nc, oc, co, B) wm) (hk : wk.length = 24) (ru : Rg u) (hcat : (rest.map fun v => v.category).sum ≤ 8) (q : Qslack nn nf rn y e nc oc co B u z S1) (kk : ∀ wm1 : va_W, MO g o S1 wm1 → X l g E room_1 4 (wk ++ wm1) 39 4347 lv 197 (jv z :: rest)) : X l g E room_1 4 (wm ++ wk) 39 4347 lv 194 (jv u :: .ref o :: rest) := by
  obtain ⟨d1, d2, d3, d4, d5, d6, d7, d8, d9, da, db, dc, dd, de, un, kn, lU, lB, vn, lk, rf, nw, ol, bt, uf, kf, re, fw, pm, fs, la, fk, us, bs, rfl, hno, ha, hL, hB, he⟩ := hm
  refine x_callW (pc := 194) C (n := 1) (q0 := 0) (nA := 15) (nB := 24) (rest := rest) rfl hk (by decide +kernel) (by decide +kernel) (ctX6_slack l g o d1 d2 d3 d4 d5 d6 d7 d8 d9 da db dc dd de rn e nc oc co un kn lU lB vn lk rf nw ol bt uf kf re fw pm fs la fk us bs nn nf u hno ru) gL_law_X6_slack rfl ⟨rfl, rfl⟩ (by decide +kernel) ⟨by decide, by decide⟩ rfl rfl rfl rfl hcat dL_law_194 ⟨by decide, by decide⟩ (fun vv uu hh => ?_)
  rcases q with ⟨c0, rfl, rfl⟩ | ⟨c0, rfl, rfl⟩
  · rcases hh with ⟨rfl, rfl, m0⟩ | ⟨km, v, uu, ub, r1, f', kg, re', fw', pm', g0, g1, g2, g3, g4, bt', rfl, rfl, m0, m1, mU, mA, mL, mB⟩
    · exact kk _ ⟨_, _, _, _, _, _, _, _, _, _, _, _, _, _, _, _, _, _, _, _, _, _, _, _, _, _, _, _, _, _, _, _, _, _, rfl, hno, ha, hL, hB, he⟩
    · exfalso; first | omega | exact cN mI | exact mN cI | exact cM ((ha.inr _).mp mR) | exact mM ((ha.inr _).mpr cR)
  · rcases hh with ⟨rfl, rfl, m0⟩ | ⟨km, v, uu, ub, r1, f', kg, re', fw', pm', g0, g1, g2, g3, g4, bt', rfl, rfl, m0, m1, mU, mA, mL, mB⟩
    · exfalso; first | omega | exact cN mI | exact mN cI | exact cM ((ha.inr _).mp mR) | exact mM ((ha.inr _).mpr cR)
    · exact kk _ ⟨_, _, _, _, _, _, _, _, _, _, _, _, _, _, _, _, _, _, _, _, _, _, _, _, _, _, _, _, _, _, _, _, _, _, rfl, NO.mk hno.1 mA, mA, mL, mB, ⟨m0, m1⟩⟩
set_option maxHeartbeats 4000000 in
theorem lm_place {l : Launch} {g : xG} {E : xE} {nm : String} {o : Nat} {nn : Int} {nf : Int → Int} {rn : Int} {y : Int → Int} {e nc oc co : Int} {B : Int → Bool} {wk wm : va_W} {lv : List (Nat × Value)} {rest : List Value} {u : Int} {z : Int} (C : Cx l g E room_1 RL nm cL_law wsL_law 4) (hm : MO g o (nn, nf, rn, y, e, nc, oc, co, B) wm) (hk : wk.length = 24) (ru : Rg u) (hcat : (rest.map fun v => v.category).sum ≤ 8) (q : Qplace nn nf u z) (kk : ∀ wm1 : va_W, MO g o (nn, nf, rn, y, e, nc, oc, co, B) wm1 → X l g E room_1 4 (wk ++ wm1) 39 4347 lv 220 (jv z :: rest)) : X l g E room_1 4 (wm ++ wk) 39 4347 lv 217 (jv u :: .ref o :: rest) := by
  obtain ⟨d1, d2, d3, d4, d5, d6, d7, d8, d9, da, db, dc, dd, de, un, kn, lU, lB, vn, lk, rf, nw, ol, bt, uf, kf, re, fw, pm, fs, la, fk, us, bs, rfl, hno, ha, hL, hB, he⟩ := hm
  refine x_callW (pc := 217) C (n := 1) (q0 := 0) (nA := 15) (nB := 24) (rest := rest) rfl hk (by decide +kernel) (by decide +kernel) (ctX6_place l g o d1 d2 d3 d4 d5 d6 d7 d8 d9 da db dc dd de rn e nc oc co un kn lU lB vn lk rf nw ol bt uf kf re fw pm fs la fk us bs nn nf u hno ru) gL_law_X6_place rfl ⟨rfl, rfl⟩ (by decide +kernel) ⟨by decide, by decide⟩ rfl rfl rfl rfl hcat dL_law_217 ⟨by decide, by decide⟩ (fun vv uu hh => ?_)
  rcases hh with ⟨rfl, rfl, m0⟩ | ⟨f1, rfl, rfl, m0, m1, mN⟩ | ⟨k, f1, rfl, rfl, m0, m1, m2, m3, m4⟩
  · have hz : -2 = z := by
      rcases q with ⟨c0, rfl⟩ | ⟨c0, cN, rfl⟩ | ⟨c0, c1, c2, c3⟩ <;> first | omega | rfl | exact absurd ⟨k, m2, m3, m4⟩ cN | exact absurd ⟨z, c1, c2, c3⟩ mN | exact hno.1.inj m2 m3 c1 c2 (m4.trans c3.symm)
    subst hz
    exact kk _ ⟨_, _, _, _, _, _, _, _, _, _, _, _, _, _, _, _, _, _, _, _, _, _, _, _, _, _, _, _, _, _, _, _, _, _, rfl, hno, ha, hL, hB, he⟩
  · have hz : -1 = z := by
      rcases q with ⟨c0, rfl⟩ | ⟨c0, cN, rfl⟩ | ⟨c0, c1, c2, c3⟩ <;> first | omega | rfl | exact absurd ⟨k, m2, m3, m4⟩ cN | exact absurd ⟨z, c1, c2, c3⟩ mN | exact hno.1.inj m2 m3 c1 c2 (m4.trans c3.symm)
    subst hz
    exact kk _ ⟨_, _, _, _, _, _, _, _, _, _, _, _, _, _, _, _, _, _, _, _, _, _, _, _, _, _, _, _, _, _, _, _, _, _, rfl, hno, ha, hL, hB, he⟩
  · have hz : k = z := by
      rcases q with ⟨c0, rfl⟩ | ⟨c0, cN, rfl⟩ | ⟨c0, c1, c2, c3⟩ <;> first | omega | rfl | exact absurd ⟨k, m2, m3, m4⟩ cN | exact absurd ⟨z, c1, c2, c3⟩ mN | exact hno.1.inj m2 m3 c1 c2 (m4.trans c3.symm)
    subst hz
    exact kk _ ⟨_, _, _, _, _, _, _, _, _, _, _, _, _, _, _, _, _, _, _, _, _, _, _, _, _, _, _, _, _, _, _, _, _, _, rfl, hno, ha, hL, hB, he⟩
set_option maxHeartbeats 4000000 in
theorem lm_at {l : Launch} {g : xG} {E : xE} {nm : String} {o : Nat} {nn : Int} {nf : Int → Int} {rn : Int} {y : Int → Int} {e nc oc co : Int} {B : Int → Bool} {wk wm : va_W} {lv : List (Nat × Value)} {rest : List Value} {u : Int} {z : Int} (C : Cx l g E room_1 RL nm cL_law wsL_law 4) (hm : MO g o (nn, nf, rn, y, e, nc, oc, co, B) wm) (hk : wk.length = 24) (ru : Rg u) (hcat : (rest.map fun v => v.category).sum ≤ 8) (q : Qat nn nf u z) (kk : ∀ wm1 : va_W, MO g o (nn, nf, rn, y, e, nc, oc, co, B) wm1 → X l g E room_1 4 (wk ++ wm1) 39 4347 lv 243 (jv z :: rest)) : X l g E room_1 4 (wm ++ wk) 39 4347 lv 240 (jv u :: .ref o :: rest) := by
  obtain ⟨d1, d2, d3, d4, d5, d6, d7, d8, d9, da, db, dc, dd, de, un, kn, lU, lB, vn, lk, rf, nw, ol, bt, uf, kf, re, fw, pm, fs, la, fk, us, bs, rfl, hno, ha, hL, hB, he⟩ := hm
  refine x_callW (pc := 240) C (n := 1) (q0 := 0) (nA := 15) (nB := 24) (rest := rest) rfl hk (by decide +kernel) (by decide +kernel) (ctX6_at l g o d1 d2 d3 d4 d5 d6 d7 d8 d9 da db dc dd de rn e nc oc co un kn lU lB vn lk rf nw ol bt uf kf re fw pm fs la fk us bs nn nf u hno ru) gL_law_X6_at rfl ⟨rfl, rfl⟩ (by decide +kernel) ⟨by decide, by decide⟩ rfl rfl rfl rfl hcat dL_law_240 ⟨by decide, by decide⟩ (fun vv uu hh => ?_)
  rcases hh with ⟨f1, rfl, rfl, m0⟩ | ⟨r, f1, rfl, rfl, m0, m1, me⟩
  · have hz : -2 = z := by
      rcases q with ⟨c0, rfl⟩ | ⟨c0, rfl⟩ <;> first | omega | rfl
    subst hz
    exact kk _ ⟨_, _, _, _, _, _, _, _, _, _, _, _, _, _, _, _, _, _, _, _, _, _, _, _, _, _, _, _, _, _, _, _, _, _, rfl, hno, ha, hL, hB, he⟩
  · have hz : r = z := by
      rcases q with ⟨c0, rfl⟩ | ⟨c0, rfl⟩ <;> first | omega | rfl | exact me
    subst hz
    exact kk _ ⟨_, _, _, _, _, _, _, _, _, _, _, _, _, _, _, _, _, _, _, _, _, _, _, _, _, _, _, _, _, _, _, _, _, _, rfl, hno, ha, hL, hB, he⟩
set_option maxHeartbeats 4000000 in
theorem lm_range {l : Launch} {g : xG} {E : xE} {nm : String} {o : Nat} {nn : Int} {nf : Int → Int} {rn : Int} {y : Int → Int} {e nc oc co : Int} {B : Int → Bool} {wk wm : va_W} {lv : List (Nat × Value)} {rest : List Value} {u v : Int} {z : Int} (C : Cx l g E room_1 RL nm cL_law wsL_law 4) (hm : MO g o (nn, nf, rn, y, e, nc, oc, co, B) wm) (hk : wk.length = 24) (ru : Rg u) (rv : Rg v) (hcat : (rest.map fun v => v.category).sum ≤ 8) (q : Qrange nn nf u v z) (kk : ∀ wm1 : va_W, MO g o (nn, nf, rn, y, e, nc, oc, co, B) wm1 → X l g E room_1 4 (wk ++ wm1) 39 4347 lv 276 (jv z :: rest)) : X l g E room_1 4 (wm ++ wk) 39 4347 lv 273 (jv v :: jv u :: .ref o :: rest) := by
  obtain ⟨d1, d2, d3, d4, d5, d6, d7, d8, d9, da, db, dc, dd, de, un, kn, lU, lB, vn, lk, rf, nw, ol, bt, uf, kf, re, fw, pm, fs, la, fk, us, bs, rfl, hno, ha, hL, hB, he⟩ := hm
  refine x_callW (pc := 273) C (n := 2) (q0 := 0) (nA := 15) (nB := 24) (rest := rest) rfl hk (by decide +kernel) (by decide +kernel) (ctX6_range l g o d1 d2 d3 d4 d5 d6 d7 d8 d9 da db dc dd de rn e nc oc co un kn lU lB vn lk rf nw ol bt uf kf re fw pm fs la fk us bs nn nf u v hno ru rv) gL_law_X6_range rfl ⟨rfl, rfl⟩ (by decide +kernel) ⟨by decide, by decide⟩ rfl rfl rfl rfl hcat dL_law_273 ⟨by decide, by decide⟩ (fun vv uu hh => ?_)
  rcases hh with ⟨rfl, rfl, m0⟩ | ⟨r, f1, rfl, rfl, m0, m1, m2, me⟩
  · have hz : -2 = z := by
      rcases q with ⟨c0, rfl⟩ | ⟨c0, rfl⟩ <;> first | omega | rfl
    subst hz
    exact kk _ ⟨_, _, _, _, _, _, _, _, _, _, _, _, _, _, _, _, _, _, _, _, _, _, _, _, _, _, _, _, _, _, _, _, _, _, rfl, hno, ha, hL, hB, he⟩
  · have hz : r = z := by
      rcases q with ⟨c0, rfl⟩ | ⟨c0, rfl⟩ <;> first | omega | rfl | exact me
    subst hz
    exact kk _ ⟨_, _, _, _, _, _, _, _, _, _, _, _, _, _, _, _, _, _, _, _, _, _, _, _, _, _, _, _, _, _, _, _, _, _, rfl, hno, ha, hL, hB, he⟩
set_option maxHeartbeats 4000000 in
theorem lm_sum {l : Launch} {g : xG} {E : xE} {nm : String} {o : Nat} {nn : Int} {nf : Int → Int} {rn : Int} {y : Int → Int} {e nc oc co : Int} {B : Int → Bool} {wk wm : va_W} {lv : List (Nat × Value)} {rest : List Value} {u v : Int} {z : Int} (C : Cx l g E room_1 RL nm cL_law wsL_law 4) (hm : MO g o (nn, nf, rn, y, e, nc, oc, co, B) wm) (hk : wk.length = 24) (ru : Rg u) (rv : Rg v) (hcat : (rest.map fun v => v.category).sum ≤ 8) (q : Qsum nn nf u v z) (kk : ∀ wm1 : va_W, MO g o (nn, nf, rn, y, e, nc, oc, co, B) wm1 → X l g E room_1 4 (wk ++ wm1) 39 4347 lv 309 (Jv z :: rest)) : X l g E room_1 4 (wm ++ wk) 39 4347 lv 306 (jv v :: jv u :: .ref o :: rest) := by
  obtain ⟨d1, d2, d3, d4, d5, d6, d7, d8, d9, da, db, dc, dd, de, un, kn, lU, lB, vn, lk, rf, nw, ol, bt, uf, kf, re, fw, pm, fs, la, fk, us, bs, rfl, hno, ha, hL, hB, he⟩ := hm
  refine x_callW (pc := 306) C (n := 2) (q0 := 0) (nA := 15) (nB := 24) (rest := rest) rfl hk (by decide +kernel) (by decide +kernel) (ctX6_sum l g o d1 d2 d3 d4 d5 d6 d7 d8 d9 da db dc dd de rn e nc oc co un kn lU lB vn lk rf nw ol bt uf kf re fw pm fs la fk us bs nn nf u v hno ru rv) gL_law_X6_sum rfl ⟨rfl, rfl⟩ (by decide +kernel) ⟨by decide, by decide⟩ rfl rfl rfl rfl hcat dL_law_306 ⟨by decide, by decide⟩ (fun vv uu hh => ?_)
  rcases hh with ⟨rfl, rfl, m0⟩ | ⟨r, f1, rfl, rfl, m0, m1, m2, me⟩
  · have hz : -2 = z := by
      rcases q with ⟨c0, rfl⟩ | ⟨c0, rfl⟩ <;> first | omega | rfl
    subst hz
    exact kk _ ⟨_, _, _, _, _, _, _, _, _, _, _, _, _, _, _, _, _, _, _, _, _, _, _, _, _, _, _, _, _, _, _, _, _, _, rfl, hno, ha, hL, hB, he⟩
  · have hz : r = z := by
      rcases q with ⟨c0, rfl⟩ | ⟨c0, rfl⟩ <;> first | omega | rfl | exact me
    subst hz
    exact kk _ ⟨_, _, _, _, _, _, _, _, _, _, _, _, _, _, _, _, _, _, _, _, _, _, _, _, _, _, _, _, _, _, _, _, _, _, rfl, hno, ha, hL, hB, he⟩
set_option maxHeartbeats 4000000 in
theorem lm_pieces {l : Launch} {g : xG} {E : xE} {nm : String} {o : Nat} {nn : Int} {nf : Int → Int} {rn : Int} {y : Int → Int} {e nc oc co : Int} {B : Int → Bool} {wk wm : va_W} {lv : List (Nat × Value)} {rest : List Value} {u : Int} {z : Int} (C : Cx l g E room_1 RL nm cL_law wsL_law 4) (hm : MO g o (nn, nf, rn, y, e, nc, oc, co, B) wm) (hk : wk.length = 24) (ru : Rg u) (hcat : (rest.map fun v => v.category).sum ≤ 8) (q : Qpieces y e rn u z) (kk : ∀ wm1 : va_W, MO g o (nn, nf, rn, y, e, nc, oc, co, B) wm1 → X l g E room_1 4 (wk ++ wm1) 39 4347 lv 333 (jv z :: rest)) : X l g E room_1 4 (wm ++ wk) 39 4347 lv 330 (jv u :: .ref o :: rest) := by
  obtain ⟨d1, d2, d3, d4, d5, d6, d7, d8, d9, da, db, dc, dd, de, un, kn, lU, lB, vn, lk, rf, nw, ol, bt, uf, kf, re, fw, pm, fs, la, fk, us, bs, rfl, hno, ha, hL, hB, he⟩ := hm
  refine x_callW (pc := 330) C (n := 1) (q0 := 0) (nA := 15) (nB := 24) (rest := rest) rfl hk (by decide +kernel) (by decide +kernel) (ctX6_pieces l g o d1 d2 d3 d4 d5 d6 d7 d8 d9 da db dc dd de rn e nc oc co un kn lU lB vn lk rf nw ol bt uf kf re fw pm fs la fk us bs u y he hL ru) gL_law_X6_pieces rfl ⟨rfl, rfl⟩ (by decide +kernel) ⟨by decide, by decide⟩ rfl rfl rfl rfl hcat dL_law_330 ⟨by decide, by decide⟩ (fun vv uu hh => ?_)
  rcases hh with ⟨rfl, rfl, m0⟩ | ⟨rfl, rfl, m0, m1, m2⟩ | ⟨r, rfl, rfl, m0, m1, me⟩
  · have hz : -2 = z := by
      obtain ⟨h1, hH, q⟩ := q; have eh : h1 = vn := hH.uniq hL.1; have h6 : vn ≤ 6 := hL.2.2.1; rcases q with ⟨c0, rfl⟩ | ⟨c0, rfl⟩ | ⟨c0, rfl⟩ <;> first | omega | rfl
    subst hz
    exact kk _ ⟨_, _, _, _, _, _, _, _, _, _, _, _, _, _, _, _, _, _, _, _, _, _, _, _, _, _, _, _, _, _, _, _, _, _, rfl, hno, ha, hL, hB, he⟩
  · have hz : 0 = z := by
      obtain ⟨h1, hH, q⟩ := q; have eh : h1 = vn := hH.uniq hL.1; have h6 : vn ≤ 6 := hL.2.2.1; rcases q with ⟨c0, rfl⟩ | ⟨c0, rfl⟩ | ⟨c0, rfl⟩ <;> first | omega | rfl
    subst hz
    exact kk _ ⟨_, _, _, _, _, _, _, _, _, _, _, _, _, _, _, _, _, _, _, _, _, _, _, _, _, _, _, _, _, _, _, _, _, _, rfl, hno, ha, hL, hB, he⟩
  · have hz : r = z := by
      obtain ⟨h1, hH, q⟩ := q; have eh : h1 = vn := hH.uniq hL.1; have h6 : vn ≤ 6 := hL.2.2.1; rcases q with ⟨c0, rfl⟩ | ⟨c0, rfl⟩ | ⟨c0, rfl⟩ <;> first | omega | rfl | exact me
    subst hz
    exact kk _ ⟨_, _, _, _, _, _, _, _, _, _, _, _, _, _, _, _, _, _, _, _, _, _, _, _, _, _, _, _, _, _, _, _, _, _, rfl, hno, ha, hL, hB, he⟩
set_option maxHeartbeats 4000000 in
theorem lm_piece {l : Launch} {g : xG} {E : xE} {nm : String} {o : Nat} {nn : Int} {nf : Int → Int} {rn : Int} {y : Int → Int} {e nc oc co : Int} {B : Int → Bool} {wk wm : va_W} {lv : List (Nat × Value)} {rest : List Value} {u k w : Int} {z : Int} (C : Cx l g E room_1 RL nm cL_law wsL_law 4) (hm : MO g o (nn, nf, rn, y, e, nc, oc, co, B) wm) (hk : wk.length = 24) (ru : Rg u) (rk : Rg k) (rw : Rg w) (hcat : (rest.map fun v => v.category).sum ≤ 8) (q : Qpiece y e rn u k w z) (kk : ∀ wm1 : va_W, MO g o (nn, nf, rn, y, e, nc, oc, co, B) wm1 → X l g E room_1 4 (wk ++ wm1) 39 4347 lv 376 (jv z :: rest)) : X l g E room_1 4 (wm ++ wk) 39 4347 lv 373 (jv w :: jv k :: jv u :: .ref o :: rest) := by
  obtain ⟨d1, d2, d3, d4, d5, d6, d7, d8, d9, da, db, dc, dd, de, un, kn, lU, lB, vn, lk, rf, nw, ol, bt, uf, kf, re, fw, pm, fs, la, fk, us, bs, rfl, hno, ha, hL, hB, he⟩ := hm
  refine x_callW (pc := 373) C (n := 3) (q0 := 0) (nA := 15) (nB := 24) (rest := rest) rfl hk (by decide +kernel) (by decide +kernel) (ctX6_piece l g o d1 d2 d3 d4 d5 d6 d7 d8 d9 da db dc dd de rn e nc oc co un kn lU lB vn lk rf nw ol bt uf kf re fw pm fs la fk us bs u k w y he hL ru rk rw) gL_law_X6_piece rfl ⟨rfl, rfl⟩ (by decide +kernel) ⟨by decide, by decide⟩ rfl rfl rfl rfl hcat dL_law_373 ⟨by decide, by decide⟩ (fun vv uu hh => ?_)
  rcases hh with ⟨rfl, rfl, m0⟩ | ⟨r, rfl, rfl, m0, m1, m2, m3, m4, me⟩ | ⟨r, rfl, rfl, m0, m1, m2, m3, m4, me⟩ | ⟨r, rfl, rfl, m0, m1, m2, m3, m4, me⟩ | ⟨r, rfl, rfl, m0, m1, m2, m3, m4, me⟩ | ⟨r, rfl, rfl, m0, m1, m2, m3, m4, me⟩
  · have hz : -2 = z := by
      obtain ⟨h1, hH, q⟩ := q; have eh : h1 = vn := hH.uniq hL.1; have h6 : vn ≤ 6 := hL.2.2.1; rcases q with ⟨c0, rfl⟩ | ⟨c0, rfl⟩ | ⟨c0, rfl⟩ | ⟨c0, rfl⟩ | ⟨c0, rfl⟩ | ⟨c0, rfl⟩ <;> first | omega | rfl
    subst hz
    exact kk _ ⟨_, _, _, _, _, _, _, _, _, _, _, _, _, _, _, _, _, _, _, _, _, _, _, _, _, _, _, _, _, _, _, _, _, _, rfl, hno, ha, hL, hB, he⟩
  · have hz : r = z := by
      obtain ⟨h1, hH, q⟩ := q; have eh : h1 = vn := hH.uniq hL.1; have h6 : vn ≤ 6 := hL.2.2.1; rcases q with ⟨c0, rfl⟩ | ⟨c0, rfl⟩ | ⟨c0, rfl⟩ | ⟨c0, rfl⟩ | ⟨c0, rfl⟩ | ⟨c0, rfl⟩ <;> first | omega | rfl | exact me
    subst hz
    exact kk _ ⟨_, _, _, _, _, _, _, _, _, _, _, _, _, _, _, _, _, _, _, _, _, _, _, _, _, _, _, _, _, _, _, _, _, _, rfl, hno, ha, hL, hB, he⟩
  · have hz : r = z := by
      obtain ⟨h1, hH, q⟩ := q; have eh : h1 = vn := hH.uniq hL.1; have h6 : vn ≤ 6 := hL.2.2.1; rcases q with ⟨c0, rfl⟩ | ⟨c0, rfl⟩ | ⟨c0, rfl⟩ | ⟨c0, rfl⟩ | ⟨c0, rfl⟩ | ⟨c0, rfl⟩ <;> first | omega | rfl | exact me
    subst hz
    exact kk _ ⟨_, _, _, _, _, _, _, _, _, _, _, _, _, _, _, _, _, _, _, _, _, _, _, _, _, _, _, _, _, _, _, _, _, _, rfl, hno, ha, hL, hB, he⟩
  · have hz : r = z := by
      obtain ⟨h1, hH, q⟩ := q; have eh : h1 = vn := hH.uniq hL.1; have h6 : vn ≤ 6 := hL.2.2.1; rcases q with ⟨c0, rfl⟩ | ⟨c0, rfl⟩ | ⟨c0, rfl⟩ | ⟨c0, rfl⟩ | ⟨c0, rfl⟩ | ⟨c0, rfl⟩ <;> first | omega | rfl | exact me
    subst hz
    exact kk _ ⟨_, _, _, _, _, _, _, _, _, _, _, _, _, _, _, _, _, _, _, _, _, _, _, _, _, _, _, _, _, _, _, _, _, _, rfl, hno, ha, hL, hB, he⟩
  · have hz : r = z := by
      obtain ⟨h1, hH, q⟩ := q; have eh : h1 = vn := hH.uniq hL.1; have h6 : vn ≤ 6 := hL.2.2.1; rcases q with ⟨c0, rfl⟩ | ⟨c0, rfl⟩ | ⟨c0, rfl⟩ | ⟨c0, rfl⟩ | ⟨c0, rfl⟩ | ⟨c0, rfl⟩ <;> first | omega | rfl | exact me
    subst hz
    exact kk _ ⟨_, _, _, _, _, _, _, _, _, _, _, _, _, _, _, _, _, _, _, _, _, _, _, _, _, _, _, _, _, _, _, _, _, _, rfl, hno, ha, hL, hB, he⟩
  · have hz : r = z := by
      obtain ⟨h1, hH, q⟩ := q; have eh : h1 = vn := hH.uniq hL.1; have h6 : vn ≤ 6 := hL.2.2.1; rcases q with ⟨c0, rfl⟩ | ⟨c0, rfl⟩ | ⟨c0, rfl⟩ | ⟨c0, rfl⟩ | ⟨c0, rfl⟩ | ⟨c0, rfl⟩ <;> first | omega | rfl | exact me
    subst hz
    exact kk _ ⟨_, _, _, _, _, _, _, _, _, _, _, _, _, _, _, _, _, _, _, _, _, _, _, _, _, _, _, _, _, _, _, _, _, _, rfl, hno, ha, hL, hB, he⟩
set_option maxHeartbeats 4000000 in
theorem lm_levels {l : Launch} {g : xG} {E : xE} {nm : String} {o : Nat} {nn : Int} {nf : Int → Int} {rn : Int} {y : Int → Int} {e nc oc co : Int} {B : Int → Bool} {wk wm : va_W} {lv : List (Nat × Value)} {rest : List Value} {z : Int} (C : Cx l g E room_1 RL nm cL_law wsL_law 4) (hm : MO g o (nn, nf, rn, y, e, nc, oc, co, B) wm) (hk : wk.length = 24) (hcat : (rest.map fun v => v.category).sum ≤ 8) (q : Ht y e rn z) (kk : ∀ wm1 : va_W, MO g o (nn, nf, rn, y, e, nc, oc, co, B) wm1 → X l g E room_1 4 (wk ++ wm1) 39 4347 lv 389 (jv z :: rest)) : X l g E room_1 4 (wm ++ wk) 39 4347 lv 386 (.ref o :: rest) := by
  obtain ⟨d1, d2, d3, d4, d5, d6, d7, d8, d9, da, db, dc, dd, de, un, kn, lU, lB, vn, lk, rf, nw, ol, bt, uf, kf, re, fw, pm, fs, la, fk, us, bs, rfl, hno, ha, hL, hB, he⟩ := hm
  refine x_callW (pc := 386) C (n := 0) (q0 := 0) (nA := 15) (nB := 24) (rest := rest) rfl hk (by decide +kernel) (by decide +kernel) (ctX6_levels l g o d1 d2 d3 d4 d5 d6 d7 d8 d9 da db dc dd de rn e nc oc co un kn lU lB vn lk rf nw ol bt uf kf re fw pm fs la fk us bs) gL_law_X6_levels rfl ⟨rfl, rfl⟩ (by decide +kernel) ⟨by decide, by decide⟩ rfl rfl rfl rfl hcat dL_law_386 ⟨by decide, by decide⟩ (fun vv uu hh => ?_)
  rcases hh with ⟨rfl, rfl, -⟩
  · have hz : vn = z := hL.1.uniq q
    subst hz
    exact kk _ ⟨_, _, _, _, _, _, _, _, _, _, _, _, _, _, _, _, _, _, _, _, _, _, _, _, _, _, _, _, _, _, _, _, _, _, rfl, hno, ha, hL, hB, he⟩
set_option maxHeartbeats 4000000 in
theorem lm_guess {l : Launch} {g : xG} {E : xE} {nm : String} {o : Nat} {nn : Int} {nf : Int → Int} {rn : Int} {y : Int → Int} {e nc oc co : Int} {B : Int → Bool} {wk wm : va_W} {lv : List (Nat × Value)} {rest : List Value} {u : Int} {z : Int} (C : Cx l g E room_1 RL nm cL_law wsL_law 4) (hm : MO g o (nn, nf, rn, y, e, nc, oc, co, B) wm) (hk : wk.length = 24) (ru : Rg u) (hcat : (rest.map fun v => v.category).sum ≤ 8) (q : Qguess y e rn u z) (kk : ∀ wm1 : va_W, MO g o (nn, nf, rn, y, e, nc, oc, co, B) wm1 → X l g E room_1 4 (wk ++ wm1) 39 4347 lv 412 (jv z :: rest)) : X l g E room_1 4 (wm ++ wk) 39 4347 lv 409 (jv u :: .ref o :: rest) := by
  obtain ⟨d1, d2, d3, d4, d5, d6, d7, d8, d9, da, db, dc, dd, de, un, kn, lU, lB, vn, lk, rf, nw, ol, bt, uf, kf, re, fw, pm, fs, la, fk, us, bs, rfl, hno, ha, hL, hB, he⟩ := hm
  refine x_callW (pc := 409) C (n := 1) (q0 := 0) (nA := 15) (nB := 24) (rest := rest) rfl hk (by decide +kernel) (by decide +kernel) (ctX6_guess l g o d1 d2 d3 d4 d5 d6 d7 d8 d9 da db dc dd de rn e nc oc co un kn lU lB vn lk rf nw ol bt uf kf re fw pm fs la fk us bs u y he hL ⟨hno.2.1.1, hno.2.1.2.1⟩ ru) gL_law_X6_guess rfl ⟨rfl, rfl⟩ (by decide +kernel) ⟨by decide, by decide⟩ rfl rfl rfl rfl hcat dL_law_409 ⟨by decide, by decide⟩ (fun vv uu hh => ?_)
  rcases hh with ⟨rfl, rfl, m0⟩ | ⟨rfl, rfl, m0, m1, m2⟩ | ⟨r, p, rfl, rfl, m0, m1, m2, mP, me⟩
  · have hz : -2 = z := by
      rcases q with ⟨c0, rfl⟩ | ⟨c0, c1, rfl⟩ | ⟨c0, c1, p1, cP, rfl⟩ <;> first | omega | rfl | exact me.trans (by rw [mP.uniq cP])
    subst hz
    exact kk _ ⟨_, _, _, _, _, _, _, _, _, _, _, _, _, _, _, _, _, _, _, _, _, _, _, _, _, _, _, _, _, _, _, _, _, _, rfl, hno, ha, hL, hB, he⟩
  · have hz : -1 = z := by
      rcases q with ⟨c0, rfl⟩ | ⟨c0, c1, rfl⟩ | ⟨c0, c1, p1, cP, rfl⟩ <;> first | omega | rfl | exact me.trans (by rw [mP.uniq cP])
    subst hz
    exact kk _ ⟨_, _, _, _, _, _, _, _, _, _, _, _, _, _, _, _, _, _, _, _, _, _, _, _, _, _, _, _, _, _, _, _, _, _, rfl, hno, ha, hL, hB, he⟩
  · have hz : r = z := by
      rcases q with ⟨c0, rfl⟩ | ⟨c0, c1, rfl⟩ | ⟨c0, c1, p1, cP, rfl⟩ <;> first | omega | rfl | exact me | exact me.trans (by rw [mP.uniq cP])
    subst hz
    exact kk _ ⟨_, _, _, _, _, _, _, _, _, _, _, _, _, _, _, _, _, _, _, _, _, _, _, _, _, _, _, _, _, _, _, _, _, _, rfl, hno, ha, hL, hB, he⟩
set_option maxHeartbeats 4000000 in
theorem lm_find {l : Launch} {g : xG} {E : xE} {nm : String} {o : Nat} {nn : Int} {nf : Int → Int} {rn : Int} {y : Int → Int} {e nc oc co : Int} {B : Int → Bool} {wk wm : va_W} {lv : List (Nat × Value)} {rest : List Value} {u : Int} {z : Int} (C : Cx l g E room_1 RL nm cL_law wsL_law 4) (hm : MO g o (nn, nf, rn, y, e, nc, oc, co, B) wm) (hk : wk.length = 24) (ru : Rg u) (hcat : (rest.map fun v => v.category).sum ≤ 8) (q : Qfind y e rn u z) (kk : ∀ wm1 : va_W, MO g o (nn, nf, rn, y, e, nc, oc, co, B) wm1 → X l g E room_1 4 (wk ++ wm1) 39 4347 lv 435 (jv z :: rest)) : X l g E room_1 4 (wm ++ wk) 39 4347 lv 432 (jv u :: .ref o :: rest) := by
  obtain ⟨d1, d2, d3, d4, d5, d6, d7, d8, d9, da, db, dc, dd, de, un, kn, lU, lB, vn, lk, rf, nw, ol, bt, uf, kf, re, fw, pm, fs, la, fk, us, bs, rfl, hno, ha, hL, hB, he⟩ := hm
  refine x_callW (pc := 432) C (n := 1) (q0 := 0) (nA := 15) (nB := 24) (rest := rest) rfl hk (by decide +kernel) (by decide +kernel) (ctX6_find l g o d1 d2 d3 d4 d5 d6 d7 d8 d9 da db dc dd de rn e nc oc co un kn lU lB vn lk rf nw ol bt uf kf re fw pm fs la fk us bs u y he hno.2.1 ha hL ru) gL_law_X6_find rfl ⟨rfl, rfl⟩ (by decide +kernel) ⟨by decide, by decide⟩ rfl rfl rfl rfl hcat dL_law_432 ⟨by decide, by decide⟩ (fun vv uu hh => ?_)
  rcases hh with ⟨rfl, rfl, m0⟩ | ⟨mt, sn, rfl, rfl, m0, m1, mK⟩
  · have hz : -2 = z := by
      rcases q with ⟨c0, rfl⟩ | ⟨c0, s1, cK⟩ <;> first | omega | rfl | exact (mK.uniq cK).1
    subst hz
    exact kk _ ⟨_, _, _, _, _, _, _, _, _, _, _, _, _, _, _, _, _, _, _, _, _, _, _, _, _, _, _, _, _, _, _, _, _, _, rfl, hno, ha, hL, hB, he⟩
  · have hz : mt = z := by
      rcases q with ⟨c0, rfl⟩ | ⟨c0, s1, cK⟩ <;> first | omega | rfl | exact (mK.uniq cK).1
    subst hz
    exact kk _ ⟨_, _, _, _, _, _, _, _, _, _, _, _, _, _, _, _, _, _, _, _, _, _, _, _, _, _, _, _, _, _, _, _, _, _, rfl, hno, ha, hL, hB, he⟩
set_option maxHeartbeats 4000000 in
theorem lm_looks {l : Launch} {g : xG} {E : xE} {nm : String} {o : Nat} {nn : Int} {nf : Int → Int} {rn : Int} {y : Int → Int} {e nc oc co : Int} {B : Int → Bool} {wk wm : va_W} {lv : List (Nat × Value)} {rest : List Value} {u : Int} {z : Int} (C : Cx l g E room_1 RL nm cL_law wsL_law 4) (hm : MO g o (nn, nf, rn, y, e, nc, oc, co, B) wm) (hk : wk.length = 24) (ru : Rg u) (hcat : (rest.map fun v => v.category).sum ≤ 8) (q : Qlooks y e rn u z) (kk : ∀ wm1 : va_W, MO g o (nn, nf, rn, y, e, nc, oc, co, B) wm1 → X l g E room_1 4 (wk ++ wm1) 39 4347 lv 458 (jv z :: rest)) : X l g E room_1 4 (wm ++ wk) 39 4347 lv 455 (jv u :: .ref o :: rest) := by
  obtain ⟨d1, d2, d3, d4, d5, d6, d7, d8, d9, da, db, dc, dd, de, un, kn, lU, lB, vn, lk, rf, nw, ol, bt, uf, kf, re, fw, pm, fs, la, fk, us, bs, rfl, hno, ha, hL, hB, he⟩ := hm
  refine x_callW (pc := 455) C (n := 1) (q0 := 0) (nA := 15) (nB := 24) (rest := rest) rfl hk (by decide +kernel) (by decide +kernel) (ctX6_looks l g o d1 d2 d3 d4 d5 d6 d7 d8 d9 da db dc dd de rn e nc oc co un kn lU lB vn lk rf nw ol bt uf kf re fw pm fs la fk us bs u y he hno.2.1 ha hL ru) gL_law_X6_looks rfl ⟨rfl, rfl⟩ (by decide +kernel) ⟨by decide, by decide⟩ rfl rfl rfl rfl hcat dL_law_455 ⟨by decide, by decide⟩ (fun vv uu hh => ?_)
  rcases hh with ⟨rfl, rfl, m0⟩ | ⟨mt, sn, rfl, rfl, m0, m1, mK⟩
  · have hz : -2 = z := by
      rcases q with ⟨c0, rfl⟩ | ⟨c0, s1, cK⟩ <;> first | omega | rfl | exact (mK.uniq cK).2
    subst hz
    exact kk _ ⟨_, _, _, _, _, _, _, _, _, _, _, _, _, _, _, _, _, _, _, _, _, _, _, _, _, _, _, _, _, _, _, _, _, _, rfl, hno, ha, hL, hB, he⟩
  · have hz : sn = z := by
      rcases q with ⟨c0, rfl⟩ | ⟨c0, s1, cK⟩ <;> first | omega | rfl | exact (mK.uniq cK).2
    subst hz
    exact kk _ ⟨_, _, _, _, _, _, _, _, _, _, _, _, _, _, _, _, _, _, _, _, _, _, _, _, _, _, _, _, _, _, _, _, _, _, rfl, hno, ha, hL, hB, he⟩
set_option maxHeartbeats 4000000 in
theorem lm_maybe {l : Launch} {g : xG} {E : xE} {nm : String} {o : Nat} {nn : Int} {nf : Int → Int} {rn : Int} {y : Int → Int} {e nc oc co : Int} {B : Int → Bool} {wk wm : va_W} {lv : List (Nat × Value)} {rest : List Value} {u : Int} {z : Int} (C : Cx l g E room_1 RL nm cL_law wsL_law 4) (hm : MO g o (nn, nf, rn, y, e, nc, oc, co, B) wm) (hk : wk.length = 24) (ru : Rg u) (hcat : (rest.map fun v => v.category).sum ≤ 8) (q : Qmaybe B u z) (kk : ∀ wm1 : va_W, MO g o (nn, nf, rn, y, e, nc, oc, co, B) wm1 → X l g E room_1 4 (wk ++ wm1) 39 4347 lv 481 (jv z :: rest)) : X l g E room_1 4 (wm ++ wk) 39 4347 lv 478 (jv u :: .ref o :: rest) := by
  obtain ⟨d1, d2, d3, d4, d5, d6, d7, d8, d9, da, db, dc, dd, de, un, kn, lU, lB, vn, lk, rf, nw, ol, bt, uf, kf, re, fw, pm, fs, la, fk, us, bs, rfl, hno, ha, hL, hB, he⟩ := hm
  refine x_callW (pc := 478) C (n := 1) (q0 := 0) (nA := 15) (nB := 24) (rest := rest) rfl hk (by decide +kernel) (by decide +kernel) (ctX6_maybe l g o d1 d2 d3 d4 d5 d6 d7 d8 d9 da db dc dd de rn e nc oc co un kn lU lB vn lk rf nw ol bt uf kf re fw pm fs la fk us bs u B hB ru) gL_law_X6_maybe rfl ⟨rfl, rfl⟩ (by decide +kernel) ⟨by decide, by decide⟩ rfl rfl rfl rfl hcat dL_law_478 ⟨by decide, by decide⟩ (fun vv uu hh => ?_)
  rcases hh with ⟨rfl, rfl, m0⟩ | ⟨rfl, rfl, m0, m1, mB⟩ | ⟨rfl, rfl, m0, m1, mB⟩
  · have hz : -2 = z := by
      rcases q with ⟨c0, rfl⟩ | ⟨c0, cB, rfl⟩ | ⟨c0, cB, rfl⟩ <;> first | omega | rfl | exact absurd mB cB | exact absurd cB mB
    subst hz
    exact kk _ ⟨_, _, _, _, _, _, _, _, _, _, _, _, _, _, _, _, _, _, _, _, _, _, _, _, _, _, _, _, _, _, _, _, _, _, rfl, hno, ha, hL, hB, he⟩
  · have hz : 1 = z := by
      rcases q with ⟨c0, rfl⟩ | ⟨c0, cB, rfl⟩ | ⟨c0, cB, rfl⟩ <;> first | omega | rfl | exact absurd mB cB | exact absurd cB mB
    subst hz
    exact kk _ ⟨_, _, _, _, _, _, _, _, _, _, _, _, _, _, _, _, _, _, _, _, _, _, _, _, _, _, _, _, _, _, _, _, _, _, rfl, hno, ha, hL, hB, he⟩
  · have hz : 0 = z := by
      rcases q with ⟨c0, rfl⟩ | ⟨c0, cB, rfl⟩ | ⟨c0, cB, rfl⟩ <;> first | omega | rfl | exact absurd mB cB | exact absurd cB mB
    subst hz
    exact kk _ ⟨_, _, _, _, _, _, _, _, _, _, _, _, _, _, _, _, _, _, _, _, _, _, _, _, _, _, _, _, _, _, _, _, _, _, rfl, hno, ha, hL, hB, he⟩
set_option maxHeartbeats 4000000 in
theorem lm_wrong {l : Launch} {g : xG} {E : xE} {nm : String} {o : Nat} {nn : Int} {nf : Int → Int} {rn : Int} {y : Int → Int} {e nc oc co : Int} {B : Int → Bool} {wk wm : va_W} {lv : List (Nat × Value)} {rest : List Value} {u v : Int} {z : Int} (C : Cx l g E room_1 RL nm cL_law wsL_law 4) (hm : MO g o (nn, nf, rn, y, e, nc, oc, co, B) wm) (hk : wk.length = 24) (ru : Rg u) (rv : Rg v) (hcat : (rest.map fun v => v.category).sum ≤ 8) (q : Qwrong nn nf B u v z) (kk : ∀ wm1 : va_W, MO g o (nn, nf, rn, y, e, nc, oc, co, B) wm1 → X l g E room_1 4 (wk ++ wm1) 39 4347 lv 514 (jv z :: rest)) : X l g E room_1 4 (wm ++ wk) 39 4347 lv 511 (jv v :: jv u :: .ref o :: rest) := by
  obtain ⟨d1, d2, d3, d4, d5, d6, d7, d8, d9, da, db, dc, dd, de, un, kn, lU, lB, vn, lk, rf, nw, ol, bt, uf, kf, re, fw, pm, fs, la, fk, us, bs, rfl, hno, ha, hL, hB, he⟩ := hm
  refine x_callW (pc := 511) C (n := 2) (q0 := 0) (nA := 15) (nB := 24) (rest := rest) rfl hk (by decide +kernel) (by decide +kernel) (ctX6_wrong l g o d1 d2 d3 d4 d5 d6 d7 d8 d9 da db dc dd de rn e nc oc co un kn lU lB vn lk rf nw ol bt uf kf re fw pm fs la fk us bs nn nf u v B hno hB ru rv) gL_law_X6_wrong rfl ⟨rfl, rfl⟩ (by decide +kernel) ⟨by decide, by decide⟩ rfl rfl rfl rfl hcat dL_law_511 ⟨by decide, by decide⟩ (fun vv uu hh => ?_)
  rcases hh with ⟨rfl, rfl, m0⟩ | ⟨r, f1, rfl, rfl, m0, m1, m2, m3, me⟩
  · have hz : -2 = z := by
      rcases q with ⟨c0, rfl⟩ | ⟨c0, rfl⟩ <;> first | omega | rfl
    subst hz
    exact kk _ ⟨_, _, _, _, _, _, _, _, _, _, _, _, _, _, _, _, _, _, _, _, _, _, _, _, _, _, _, _, _, _, _, _, _, _, rfl, hno, ha, hL, hB, he⟩
  · have hz : r = z := by
      rcases q with ⟨c0, rfl⟩ | ⟨c0, rfl⟩ <;> first | omega | rfl | exact me
    subst hz
    exact kk _ ⟨_, _, _, _, _, _, _, _, _, _, _, _, _, _, _, _, _, _, _, _, _, _, _, _, _, _, _, _, _, _, _, _, _, _, rfl, hno, ha, hL, hB, he⟩
set_option maxHeartbeats 4000000 in
theorem lm_poison {l : Launch} {g : xG} {E : xE} {nm : String} {o : Nat} {nn : Int} {nf : Int → Int} {rn : Int} {y : Int → Int} {e nc oc co : Int} {B : Int → Bool} {wk wm : va_W} {lv : List (Nat × Value)} {rest : List Value} {u v w : Int} {z : Int} (C : Cx l g E room_1 RL nm cL_law wsL_law 4) (hm : MO g o (nn, nf, rn, y, e, nc, oc, co, B) wm) (hk : wk.length = 24) (ru : Rg u) (rv : Rg v) (rw : Rg w) (hcat : (rest.map fun v => v.category).sum ≤ 8) (q : Qpoison nn nf e u v w z) (kk : ∀ wm1 : va_W, MO g o (nn, nf, rn, y, e, nc, oc, co, B) wm1 → X l g E room_1 4 (wk ++ wm1) 39 4347 lv 557 (jv z :: rest)) : X l g E room_1 4 (wm ++ wk) 39 4347 lv 554 (jv w :: jv v :: jv u :: .ref o :: rest) := by
  obtain ⟨d1, d2, d3, d4, d5, d6, d7, d8, d9, da, db, dc, dd, de, un, kn, lU, lB, vn, lk, rf, nw, ol, bt, uf, kf, re, fw, pm, fs, la, fk, us, bs, rfl, hno, ha, hL, hB, he⟩ := hm
  refine x_callW (pc := 554) C (n := 3) (q0 := 0) (nA := 15) (nB := 24) (rest := rest) rfl hk (by decide +kernel) (by decide +kernel) (ctX6_poison l g o d1 d2 d3 d4 d5 d6 d7 d8 d9 da db dc dd de rn e nc oc co un kn lU lB vn lk rf nw ol bt uf kf re fw pm fs la fk us bs nn nf u v w hno he ru rv rw) gL_law_X6_poison rfl ⟨rfl, rfl⟩ (by decide +kernel) ⟨by decide, by decide⟩ rfl rfl rfl rfl hcat dL_law_554 ⟨by decide, by decide⟩ (fun vv uu hh => ?_)
  rcases hh with ⟨rfl, rfl, m0⟩ | ⟨f1, rfl, rfl, m0, m1, m2, m3, m4, m5, m6⟩ | ⟨r, f1, km, uu, ub, kg, re', fw', rfl, rfl, m0, m1, m2, m3, m4, m5, m6, mo⟩
  · have hz : -2 = z := by
      rcases q with ⟨c0, rfl⟩ | ⟨c0, c6, rfl⟩ | ⟨c0, c6, rfl⟩ | ⟨c0, c6, rfl⟩ <;> first | omega | rfl | exact me
    subst hz
    exact kk _ ⟨_, _, _, _, _, _, _, _, _, _, _, _, _, _, _, _, _, _, _, _, _, _, _, _, _, _, _, _, _, _, _, _, _, _, rfl, hno, ha, hL, hB, he⟩
  · have hz : -4 = z := by
      rcases q with ⟨c0, rfl⟩ | ⟨c0, c6, rfl⟩ | ⟨c0, c6, rfl⟩ | ⟨c0, c6, rfl⟩ <;> first | omega | rfl | exact me
    subst hz
    exact kk _ ⟨_, _, _, _, _, _, _, _, _, _, _, _, _, _, _, _, _, _, _, _, _, _, _, _, _, _, _, _, _, _, _, _, _, _, rfl, hno, ha, hL, hB, he⟩
  · have hz : r = z := by
      rcases mo with ⟨mw, me⟩ | ⟨mw, me⟩ <;> rcases q with ⟨c0, rfl⟩ | ⟨c0, c6, rfl⟩ | ⟨c0, c6, rfl⟩ | ⟨c0, c6, rfl⟩ <;> first | omega | rfl | exact me
    subst hz
    exact kk _ ⟨_, _, _, _, _, _, _, _, _, _, _, _, _, _, _, _, _, _, _, _, _, _, _, _, _, _, _, _, _, _, _, _, _, _, rfl, hno, ha, hL, hB, he⟩
set_option maxHeartbeats 4000000 in
theorem lm_count {l : Launch} {g : xG} {E : xE} {nm : String} {o : Nat} {nn : Int} {nf : Int → Int} {rn : Int} {y : Int → Int} {e nc oc co : Int} {B : Int → Bool} {wk wm : va_W} {lv : List (Nat × Value)} {rest : List Value} {u : Int} {z : Int} (C : Cx l g E room_1 RL nm cL_law wsL_law 4) (hm : MO g o (nn, nf, rn, y, e, nc, oc, co, B) wm) (hk : wk.length = 24) (ru : Rg u) (hcat : (rest.map fun v => v.category).sum ≤ 8) (q : Qcount nn rn nc oc co B u z) (kk : ∀ wm1 : va_W, MO g o (nn, nf, rn, y, e, nc, oc, co, B) wm1 → X l g E room_1 4 (wk ++ wm1) 39 4347 lv 580 (jv z :: rest)) : X l g E room_1 4 (wm ++ wk) 39 4347 lv 577 (jv u :: .ref o :: rest) := by
  obtain ⟨d1, d2, d3, d4, d5, d6, d7, d8, d9, da, db, dc, dd, de, un, kn, lU, lB, vn, lk, rf, nw, ol, bt, uf, kf, re, fw, pm, fs, la, fk, us, bs, rfl, hno, ha, hL, hB, he⟩ := hm
  refine x_callW (pc := 577) C (n := 1) (q0 := 0) (nA := 15) (nB := 24) (rest := rest) rfl hk (by decide +kernel) (by decide +kernel) (ctX6_count l g o d1 d2 d3 d4 d5 d6 d7 d8 d9 da db dc dd de rn e nc oc co un kn lU lB vn lk rf nw ol bt uf kf re fw pm fs la fk us bs nn nf u B hno hB ru) gL_law_X6_count rfl ⟨rfl, rfl⟩ (by decide +kernel) ⟨by decide, by decide⟩ rfl rfl rfl rfl hcat dL_law_577 ⟨by decide, by decide⟩ (fun vv uu hh => ?_)
  rcases hh with ⟨rfl, rfl, m0⟩ | ⟨f1, rfl, rfl, m0⟩ | ⟨rfl, rfl, m0⟩ | ⟨rfl, rfl, m0⟩ | ⟨rfl, rfl, m0⟩ | ⟨rfl, rfl, m0⟩ | ⟨r, rfl, rfl, m0, me⟩
  · have hz : -2 = z := by
      rcases q with ⟨c0, rfl⟩ | ⟨c0, rfl⟩ | ⟨c0, rfl⟩ | ⟨c0, rfl⟩ | ⟨c0, rfl⟩ | ⟨c0, rfl⟩ | ⟨c0, rfl⟩ <;> first | omega | rfl
    subst hz
    exact kk _ ⟨_, _, _, _, _, _, _, _, _, _, _, _, _, _, _, _, _, _, _, _, _, _, _, _, _, _, _, _, _, _, _, _, _, _, rfl, hno, ha, hL, hB, he⟩
  · have hz : nn = z := by
      rcases q with ⟨c0, rfl⟩ | ⟨c0, rfl⟩ | ⟨c0, rfl⟩ | ⟨c0, rfl⟩ | ⟨c0, rfl⟩ | ⟨c0, rfl⟩ | ⟨c0, rfl⟩ <;> first | omega | rfl
    subst hz
    exact kk _ ⟨_, _, _, _, _, _, _, _, _, _, _, _, _, _, _, _, _, _, _, _, _, _, _, _, _, _, _, _, _, _, _, _, _, _, rfl, hno, ha, hL, hB, he⟩
  · have hz : rn = z := by
      rcases q with ⟨c0, rfl⟩ | ⟨c0, rfl⟩ | ⟨c0, rfl⟩ | ⟨c0, rfl⟩ | ⟨c0, rfl⟩ | ⟨c0, rfl⟩ | ⟨c0, rfl⟩ <;> first | omega | rfl
    subst hz
    exact kk _ ⟨_, _, _, _, _, _, _, _, _, _, _, _, _, _, _, _, _, _, _, _, _, _, _, _, _, _, _, _, _, _, _, _, _, _, rfl, hno, ha, hL, hB, he⟩
  · have hz : nc = z := by
      rcases q with ⟨c0, rfl⟩ | ⟨c0, rfl⟩ | ⟨c0, rfl⟩ | ⟨c0, rfl⟩ | ⟨c0, rfl⟩ | ⟨c0, rfl⟩ | ⟨c0, rfl⟩ <;> first | omega | rfl
    subst hz
    exact kk _ ⟨_, _, _, _, _, _, _, _, _, _, _, _, _, _, _, _, _, _, _, _, _, _, _, _, _, _, _, _, _, _, _, _, _, _, rfl, hno, ha, hL, hB, he⟩
  · have hz : oc = z := by
      rcases q with ⟨c0, rfl⟩ | ⟨c0, rfl⟩ | ⟨c0, rfl⟩ | ⟨c0, rfl⟩ | ⟨c0, rfl⟩ | ⟨c0, rfl⟩ | ⟨c0, rfl⟩ <;> first | omega | rfl
    subst hz
    exact kk _ ⟨_, _, _, _, _, _, _, _, _, _, _, _, _, _, _, _, _, _, _, _, _, _, _, _, _, _, _, _, _, _, _, _, _, _, rfl, hno, ha, hL, hB, he⟩
  · have hz : co = z := by
      rcases q with ⟨c0, rfl⟩ | ⟨c0, rfl⟩ | ⟨c0, rfl⟩ | ⟨c0, rfl⟩ | ⟨c0, rfl⟩ | ⟨c0, rfl⟩ | ⟨c0, rfl⟩ <;> first | omega | rfl
    subst hz
    exact kk _ ⟨_, _, _, _, _, _, _, _, _, _, _, _, _, _, _, _, _, _, _, _, _, _, _, _, _, _, _, _, _, _, _, _, _, _, rfl, hno, ha, hL, hB, he⟩
  · have hz : r = z := by
      rcases q with ⟨c0, rfl⟩ | ⟨c0, rfl⟩ | ⟨c0, rfl⟩ | ⟨c0, rfl⟩ | ⟨c0, rfl⟩ | ⟨c0, rfl⟩ | ⟨c0, rfl⟩ <;> first | omega | rfl | exact me
    subst hz
    exact kk _ ⟨_, _, _, _, _, _, _, _, _, _, _, _, _, _, _, _, _, _, _, _, _, _, _, _, _, _, _, _, _, _, _, _, _, _, rfl, hno, ha, hL, hB, he⟩
