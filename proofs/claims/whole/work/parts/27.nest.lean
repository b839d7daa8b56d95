def NwK (U : State) : Prop := va_Nw (.methodLinkNest RX5 38 yX1_init "KeyGuess") U ∧ va_Nw (.methodLinkNest RX5 45 yX3_init "KeyGuess") U
def CtN (l : Launch) (g : xG) (y : MethodName) (wsy : List Cond) (rm : Room) (mc ms : Nat) (w : va_W) (av : List Value) (Post : Option Value → va_W → Prop) : Prop :=
  ∀ sz : Nat, Met l y wsy rm (va_Pc av (fun U => U.heap.size = sz ∧ va_P g.1 vwCl w U.heap ∧ va_K g.1 vwCl (xT g) U ∧ va_D (fun _ => True) w ∧ NwK U)) (fun _ st oc t => (∃ (v : Option Value) (u : va_W), oc = .returned v ∧ Post v u ∧ va_P g.1 vwCl u t.heap ∧ va_K g.1 vwCl (xT g) t ∧ va_D (va_A w sz) u) ∧ va_F (va_A w sz) st t) mc ms (va_A w sz)
theorem ct_ofN {l : Launch} {g : xG} {y : MethodName} {wsy ws' : List Cond} {rm : Room} {mc ms : Nat} {w : va_W} {av : List Value} {Post : Option Value → va_W → Prop} {cc : ByteArray} {nL : Nat} {ret : Option FieldType} (hy : plainName y.cls = true) (hw : wsy = Cond.code y cc nL ret :: ws') (hlen : (lg_sl av).length ≤ nL)
    (body : ∀ E : xE, NwK E.2.2.1 → Cx l g E rm y.cls y.name cc wsy nL → Rt g E ret mc ms w Post → X l g E rm nL w 0 0 (lv_args 0 av) 0 []) : CtN l g y wsy rm mc ms w av Post := by
  intro sz
  refine Met.ofW (cc := cc) (maxL := nL) (ret := ret) hy hw ?_
  intro p e s m args below meth c s₁ B hml hv
  obtain ⟨rfl, hsz, hP, hK, hD0, hN⟩ := hv
  subst hsz
  have hin : meth.name = y.name := (name_of_methodNamed B.named B.method).1
  have hl := lv_entry av (n := nL) hlen
  rw [lg_entry_eq]
  exact body (p, e, s, m, av.toArray, below, meth, c, va_A w s.heap.size, _) hN ⟨B.exec, B.bytes, hml, findClass_of_methodNamed B.named, atoms_spec (ws := wsy) B.pre, hK, B.notSynchronized, fun q h => Or.inr h, hin⟩ ⟨rfl, B.returns, rfl⟩ s.heap [] _ hP hD0.self va_S.rf hl
section XQ
variable {l : Launch} {g : xG} {E : xE} {R : Room} {own nm : String} {cc : ByteArray} {Ts : List Cond} {nL : Nat} {ws : va_W} {cl sl pc : Nat} {lv lv' : List (Nat × Value)} {rest : List Value}
variable {ret : Option FieldType} {w : va_W} {Post : Option Value → va_W → Prop}
variable {y : MethodName} {wsy ws' : List Cond} {rm : Room} {mc ms maxL index : Nat} {wc wr : va_W} {As : List Value} {bytes : ByteArray} {rety : Option FieldType}
theorem x_callIN (C : Cx l g E R own nm cc Ts nL) {n b : Nat} {host : String} (isC isR : List Nat) (hM : Ct l g y wsy rm mc ms wc (.ref b :: As) Post) (hG : GoodIn Ts wsy) (hw : wsy = Cond.code y bytes maxL none :: ws') (hdd : y.cls ≠ "java/lang/invoke/MethodHandle" ∧ y.cls ≠ "java/lang/invoke/VarHandle" ∧ (parseMethodDescriptor y.desc).map (fun d => d.parameters.length) = some n) (hini : Cond.initialized y.cls ∈ Ts) (hNw : va_Nw (.methodLinkNest own index y host) E.2.2.1) (him : Cond.instanceMethod y ∈ Ts) (hy1 : y.name = "<init>") (hrc : rm.cells = mc ∧ rm.slots = ms) (hR : rm.frames + 1 ≤ R.frames ∧ 8 + (maxL + 11) + rm.locals ≤ R.locals) (hn : As.length = n)
    (hC : isC.map (fun i => ws[i]?) = wc.map some) (hRr : isR.map (fun i => ws[i]?) = wr.map some) (hnC : va_nd isC = true) (hnR : va_nd isR = true) (hdis : ∀ i ∈ isR, i ∉ isC) {st0 : List Value} (hst : st0 = As.reverse ++ .ref b :: rest) (hcat : (rest.map fun v => v.category).sum ≤ 8) (hd : decode cc pc = .ok (.invokespecial index, 3)) (hf : cl + mc ≤ R.cells ∧ sl + ms ≤ R.slots) (kk : ∀ (v : Option Value) (u : va_W), Post v u → X l g E R nL (wr ++ u) (cl + mc) (sl + ms) lv (pc + 3) (v.toList ++ rest)) : X l g E R nL ws cl sl lv pc st0 := by
  obtain ⟨p, e, s, m, args, below, meth, c, A, Q⟩ := E
  obtain ⟨hx, hb, hml, hown, hts, hK, hlck, hA, hnm⟩ := C
  intro H locs ls hP hD hS hl
  have hDc : va_D A wc := hD.sub isC hnC hC
  have hPc : va_P g.1 vwCl wc H := by
    intro k q hk
    have h1 : (isC.map (fun i => ws[i]?))[k]? = some (some q) := by rw [hC, List.getElem?_map, hk]; rfl
    rw [List.getElem?_map] at h1
    cases hi : isC[k]? with
    | none => rw [hi] at h1; cases h1
    | some i => rw [hi] at h1; exact hP i q (Option.some.inj h1)
  have hFc := va_free (wc := wc) hD hS hA isC hC
  have hrun := va_runIN (host := host) (rest := rest) (g := F0 m pc ls st0) (l := l) (e := e) (below := below) (meth := meth) (H := H) (locs := locs) (cells := cl) (slots := sl) ⟨hx, hb, hml, hown, hts⟩ (hM H.size) (⟨va_cnB (R := R) n hts hG hw hrc.1 hrc.2 hNw (hts _ hini) hdd hR, hy1, hts _ him⟩) ⟨fun a U g' mk q => by obtain ⟨q0, q1, qP, qK, qD⟩ := q; exact ⟨q0, q1, qP, va_K.moved (u := U) (U := U.calling g' mk a) (Vm.Alike.refl U.vm) qK, qD⟩, fun U hU hW => ⟨rfl, by rw [hU], by rw [hU]; exact hPc, va_K.moved hW.alike hK, hDc.weaken (fun _ _ _ _ => trivial)⟩⟩ rfl hn hl.1 hst (lv_room hcat) hd hf
  intro T0 hT X0
  obtain ⟨v, st₀, t, T', L, h0, X', hL, e1, e2, ⟨⟨v2, u, hv, hp, hPu, hKu, hDu⟩, hz, hk⟩, st⟩ := hrun T0 hT X0
  cases hv
  rw [h0] at hz hk
  rw [← e1] at hPu hz hk
  obtain ⟨hP2, hD2⟩ := va_join hP hD isC isR hC hRr hnR hdis hk hFc hPu hDu
  have hS2 : va_S A s.heap T'.heap (locs ++ L) := ⟨Nat.le_trans hS.1 hz, fun q h1 h2 => by rw [hk q (Nat.lt_of_lt_of_le h1 hS.1) (fun z => h2 (hFc q z))]; exact hS.2.1 q h1 h2, fun q hq => by
    rcases List.mem_append.mp hq with h | h
    · exact hS.2.2 q h
    · exact hFc _ (hL q h)⟩
  obtain ⟨t2, a1, b1⟩ := kk v u hp T'.heap (locs ++ L) ls hP2 hD2 hS2 hl T' rfl X'
  exact ⟨t2, st t2 a1, b1⟩
theorem x_callIK (C : Cx l g E R own nm cc Ts nL) {n b : Nat} (isC isR : List Nat) (hNk : NwK E.2.2.1) (hM : CtN l g y wsy rm mc ms wc (.ref b :: As) Post) (hG : GoodIn Ts wsy) (hw : wsy = Cond.code y bytes maxL none :: ws') (hdd : y.cls ≠ "java/lang/invoke/MethodHandle" ∧ y.cls ≠ "java/lang/invoke/VarHandle" ∧ (parseMethodDescriptor y.desc).map (fun d => d.parameters.length) = some n) (hini : Cond.initialized y.cls ∈ Ts) (hlk : Cond.methodLink own index y ∈ Ts) (him : Cond.instanceMethod y ∈ Ts) (hy1 : y.name = "<init>") (hrc : rm.cells = mc ∧ rm.slots = ms) (hR : rm.frames + 1 ≤ R.frames ∧ 8 + (maxL + 11) + rm.locals ≤ R.locals) (hn : As.length = n)
    (hC : isC.map (fun i => ws[i]?) = wc.map some) (hRr : isR.map (fun i => ws[i]?) = wr.map some) (hnC : va_nd isC = true) (hnR : va_nd isR = true) (hdis : ∀ i ∈ isR, i ∉ isC) {st0 : List Value} (hst : st0 = As.reverse ++ .ref b :: rest) (hcat : (rest.map fun v => v.category).sum ≤ 8) (hd : decode cc pc = .ok (.invokespecial index, 3)) (hf : cl + mc ≤ R.cells ∧ sl + ms ≤ R.slots) (kk : ∀ (v : Option Value) (u : va_W), Post v u → X l g E R nL (wr ++ u) (cl + mc) (sl + ms) lv (pc + 3) (v.toList ++ rest)) : X l g E R nL ws cl sl lv pc st0 := by
  obtain ⟨p, e, s, m, args, below, meth, c, A, Q⟩ := E
  obtain ⟨hx, hb, hml, hown, hts, hK, hlck, hA, hnm⟩ := C
  intro H locs ls hP hD hS hl
  have hDc : va_D A wc := hD.sub isC hnC hC
  have hPc : va_P g.1 vwCl wc H := by
    intro k q hk
    have h1 : (isC.map (fun i => ws[i]?))[k]? = some (some q) := by rw [hC, List.getElem?_map, hk]; rfl
    rw [List.getElem?_map] at h1
    cases hi : isC[k]? with
    | none => rw [hi] at h1; cases h1
    | some i => rw [hi] at h1; exact hP i q (Option.some.inj h1)
  have hFc := va_free (wc := wc) hD hS hA isC hC
  have hrun := va_runI (rest := rest) (g := F0 m pc ls st0) (l := l) (e := e) (below := below) (meth := meth) (H := H) (locs := locs) (cells := cl) (slots := sl) ⟨hx, hb, hml, hown, hts⟩ (hM H.size) (cwI (R := R) n hts hG hw hrc.1 hrc.2 (hts _ hini) (hts _ hlk) (hts _ him) hy1 hdd hR) ⟨fun a U g' mk q => by obtain ⟨q0, q1, qP, qK, qD, qN⟩ := q; exact ⟨q0, q1, qP, va_K.moved (u := U) (U := U.calling g' mk a) (Vm.Alike.refl U.vm) qK, qD, va_Nw.same rfl rfl qN.1, va_Nw.same rfl rfl qN.2⟩, fun U hU hW => ⟨rfl, by rw [hU], by rw [hU]; exact hPc, va_K.moved hW.alike hK, hDc.weaken (fun _ _ _ _ => trivial), va_Nw.warmM hW hNk.1, va_Nw.warmM hW hNk.2⟩⟩ rfl hn hl.1 hst (lv_room hcat) hd hf
  intro T0 hT X0
  obtain ⟨v, st₀, t, T', L, h0, X', hL, e1, e2, ⟨⟨v2, u, hv, hp, hPu, hKu, hDu⟩, hz, hk⟩, st⟩ := hrun T0 hT X0
  cases hv
  rw [h0] at hz hk
  rw [← e1] at hPu hz hk
  obtain ⟨hP2, hD2⟩ := va_join hP hD isC isR hC hRr hnR hdis hk hFc hPu hDu
  have hS2 : va_S A s.heap T'.heap (locs ++ L) := ⟨Nat.le_trans hS.1 hz, fun q h1 h2 => by rw [hk q (Nat.lt_of_lt_of_le h1 hS.1) (fun z => h2 (hFc q z))]; exact hS.2.1 q h1 h2, fun q hq => by
    rcases List.mem_append.mp hq with h | h
    · exact hS.2.2 q h
    · exact hFc _ (hL q h)⟩
  obtain ⟨t2, a1, b1⟩ := kk v u hp T'.heap (locs ++ L) ls hP2 hD2 hS2 hl T' rfl X'
  exact ⟨t2, st t2 a1, b1⟩
end XQ
