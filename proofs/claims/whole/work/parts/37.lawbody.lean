set_option maxRecDepth 100000 in
theorem wl1 : Cond.classLink RL 7 RX5 ∈ wsL_law := List.mem_of_getElem? (i := 0) (by decide +kernel)
set_option maxRecDepth 100000 in
theorem wl2 : Cond.instantiable RX5 11 ∈ wsL_law := List.mem_of_getElem? (i := 1) (by decide +kernel)
set_option maxRecDepth 100000 in
theorem wl3 : Cond.initialized RX5 ∈ wsL_law := List.mem_of_getElem? (i := 2) (by decide +kernel)
set_option maxRecDepth 100000 in
theorem wl4 : Cond.methodLink RL 9 yX5_init ∈ wsL_law := List.mem_of_getElem? (i := 6) (by decide +kernel)
set_option maxRecDepth 100000 in
theorem wl5 : Cond.instanceMethod yX5_init ∈ wsL_law := List.mem_of_getElem? (i := 7) (by decide +kernel)
set_option maxRecDepth 100000 in
theorem wl6 : Cond.classLink RL 10 RX6 ∈ wsL_law := List.mem_of_getElem? (i := 3) (by decide +kernel)
set_option maxRecDepth 100000 in
theorem wl7 : Cond.instantiable RX6 25 ∈ wsL_law := List.mem_of_getElem? (i := 4) (by decide +kernel)
set_option maxRecDepth 100000 in
theorem wl8 : Cond.initialized RX6 ∈ wsL_law := List.mem_of_getElem? (i := 5) (by decide +kernel)
set_option maxRecDepth 100000 in
theorem wl9 : Cond.methodLink RL 12 yX6_init ∈ wsL_law := List.mem_of_getElem? (i := 69) (by decide +kernel)
set_option maxRecDepth 100000 in
theorem wl10 : Cond.instanceMethod yX6_init ∈ wsL_law := List.mem_of_getElem? (i := 70) (by decide +kernel)
theorem Kr.zero (f : Int → Int) : Kr 0 f := ⟨by omega, by omega, fun i h0 h1 => absurd h1 (by omega), fun i j h0 h1 h2 => absurd h2 (by omega)⟩
theorem TwR.zero (x : Int → Int) (e : Int) (S A0 A1 A2 A3 A4 : Int → Int) : TwR x e 0 0 0 S A0 A1 A2 A3 A4 := ⟨Or.inl ⟨rfl, rfl⟩, by omega, by omega, by omega, rfl, fun h => absurd h (by decide), fun s hs => absurd hs (Nat.not_lt_zero s)⟩
set_option maxHeartbeats 4000000 in
theorem law_body {l : Launch} {g : xG} {E : xE} {nm : String} {sb L : Nat} {xs : Nat → Int32} (C : Cx l g E room_1 RL nm cL_law wsL_law 4) (hX : Sc E sb L xs) (hL : L ≤ 2048) (hN : NwK E.2.2.1) (hend : ∀ (ws : va_W) (lv : List (Nat × Value)), X l g E room_1 4 ws 39 4347 lv 592 [jv 1]) : X l g E room_1 4 [] 0 0 [(0, .ref sb)] 0 [] := by
  refine x_new (pc := 0) C (fs := [.null, .null, .null, .null, .null, .null, .null, jv 0, jv 0, jv 0, jv 0]) (ci := 5) tyX5 dL_law_0 inlX5 tyX5_ok wl1 wl2 wl3 rfl (fun j hj => by match j, hj with | 0, _ => rfl | 1, _ => rfl | 2, _ => rfl | 3, _ => rfl | 4, _ => rfl | 5, _ => rfl | 6, _ => rfl | 7, _ => rfl | 8, _ => rfl | 9, _ => rfl | 10, _ => rfl | k + 11, h => exact absurd h (by omega)) (by decide) (by decide) (fun q1 => ?_)
  refine x_dup (pc := 3) C dL_law_3 rfl ?_
  refine x_callIK (pc := 4) C (n := 0) (rest := [.ref q1]) (wr := []) [0] [] hN (ctX5_init l g q1) gL_law_X5_init rfl (by decide +kernel) wl3 wl4 wl5 rfl ⟨rfl, rfl⟩ ⟨by decide, by decide⟩ rfl rfl rfl (by decide) (by decide) (by decide) rfl (Nat.le_of_ble_eq_true rfl) dL_law_4 ⟨by decide, by decide⟩ (fun vv uu hh => ?_)
  obtain ⟨q5, b5, q16, b16, q27, b27, q38, k1, k2, k3, k4, k5, q49, kb, kc, t1, t2, t3, t4, t5, t6, q60, q71, rfl, rfl, -⟩ := hh
  refine x_astore_n (pc := 7) C dL_law_7 (by decide) rfl ?_
  refine x_new (pc := 8) C (fs := [jv 0, .null, jv 0, jv 0, .null, jv 0, .null, jv 0, .null, jv 0, .null, jv 0, .null, .null, .null, Jv 0, Jv 0, jv 0, .null, .null, .null, .null, .null, .null, jv 0]) (ci := 6) tyX6 dL_law_8 inlX6 tyX6_ok wl6 wl7 wl8 rfl (fun j hj => by match j, hj with | 0, _ => rfl | 1, _ => rfl | 2, _ => rfl | 3, _ => rfl | 4, _ => rfl | 5, _ => rfl | 6, _ => rfl | 7, _ => rfl | 8, _ => rfl | 9, _ => rfl | 10, _ => rfl | 11, _ => rfl | 12, _ => rfl | 13, _ => rfl | 14, _ => rfl | 15, _ => rfl | 16, _ => rfl | 17, _ => rfl | 18, _ => rfl | 19, _ => rfl | 20, _ => rfl | 21, _ => rfl | 22, _ => rfl | 23, _ => rfl | 24, _ => rfl | k + 25, h => exact absurd h (by omega)) (by decide) (by decide) (fun q2 => ?_)
  refine x_dup (pc := 11) C dL_law_11 rfl ?_
  refine x_callI (pc := 12) C (n := 0) (rest := [.ref q2]) (wr := [(q1, ob 5 [.ref q5, .ref q16, .ref q27, .ref q38, .ref q49, .ref q60, .ref q71, jv 2, jv 0, jv 0, jv 0]), (q5, ob 2 [.ref b5, jv 0]), (b5, ai g 60 (fun _ => 0)), (q16, ob 2 [.ref b16, jv 0]), (b16, ai g 60 (fun _ => 0)), (q27, ob 2 [.ref b27, jv 0]), (b27, ai g 60 (fun _ => 0)), (q38, ob 0 [.ref k1, .ref k2, .ref k3, .ref k4, .ref k5]), (k1, ai g 60 (fun _ => 0)), (k2, ai g 61 (fun _ => 0)), (k3, ai g 60 (fun _ => 0)), (k4, ai g 60 (fun _ => 0)), (k5, ai g 60 (fun _ => 0)), (q49, ob 4 [.ref kb, .ref t1, .ref t2, .ref t3, .ref t4, .ref t5, .ref t6, jv 0, jv 0]), (kb, ob 2 [.ref kc, jv 0]), (kc, ai g 60 (fun _ => 0)), (t1, ai g 11 (fun _ => 0)), (t2, ai g 60 (fun _ => 0)), (t3, ai g 60 (fun _ => 0)), (t4, ai g 60 (fun _ => 0)), (t5, ai g 60 (fun _ => 0)), (t6, ai g 60 (fun _ => 0)), (q60, ob 1 [.long 0]), (q71, ob 3 [jv 0, jv 0])]) [24] [0, 1, 2, 3, 4, 5, 6, 7, 8, 9, 10, 11, 12, 13, 14, 15, 16, 17, 18, 19, 20, 21, 22, 23] (ctX6_init l g q2) gL_law_X6_init rfl (by decide +kernel) wl8 wl9 wl10 rfl ⟨rfl, rfl⟩ ⟨by decide, by decide⟩ rfl rfl rfl (by decide) (by decide) (by decide) rfl (Nat.le_of_ble_eq_true rfl) dL_law_12 ⟨by decide, by decide⟩ (fun vv uu hh => ?_)
  obtain ⟨q7, q20, q28, q36, q44, q52, q60, q68, q76, q85, q94, q103, q112, q121, km, v, uu, ub, kg, re', fw', pm', g0, g1, g2, g3, g4, rfl, rfl, hLv⟩ := hh
  refine x_astore_n (pc := 15) C dL_law_15 (by decide) rfl ?_
  refine x_iconst (pc := 16) C dL_law_16 ?_
  refine x_istore_n (pc := 17) C dL_law_17 (by decide) rfl ?_
  exact law_loop C hX hL hend L 0 (by omega) (by omega) (by omega) (0, fun _ => 0, 0, fun _ => 0, 2, 0, 0, 0, fun _ => false) _ _ ⟨_, _, _, _, _, _, _, _, _, _, _, _, _, _, _, _, _, _, _, _, _, _, _, _, _, _, _, _, _, _, _, _, _, _, _, _, _, _, _, _, _, _, _, _, rfl, Kr.zero _, Kr.zero _, fun _ _ _ => rfl, TwR.zero _ _ _ _ _ _ _ _, FB.zero, ⟨by decide, by decide⟩, fun z hz => by obtain ⟨i, h0, h1, _⟩ := hz; exact absurd h1 (by omega)⟩ ⟨_, _, _, _, _, _, _, _, _, _, _, _, _, _, _, _, _, _, _, _, _, _, _, _, _, _, _, _, _, _, _, _, _, _, rfl, NO.mk (Kr.zero _) (fun _ _ _ => rfl), fun _ _ _ => rfl, hLv, fun _ _ _ => rfl, ⟨by decide, by decide⟩⟩
