/-! ===== rows of the layer for constructors ===== -/
section XN
variable {l : Launch} {g : xG} {E : xE} {R : Room} {own nm : String} {cc : ByteArray} {Ts : List Cond} {nL : Nat} {ws : va_W} {cl sl pc : Nat} {lv lv' : List (Nat × Value)} {rest : List Value}
theorem x_objInit (C : Cx l g E R own nm cc Ts nL) {i a : Nat} (hd : decode cc pc = .ok (.invokespecial i, 3)) (hlk : Cond.methodLink own i Lib.objectInit ∈ Ts) (him : Cond.instanceMethod Lib.objectInit ∈ Ts) (hco : Cond.code Lib.objectInit ⟨#[0xb1]⟩ 1 none ∈ Ts) (hfr : 1 ≤ R.frames) (hlo : (rest.map fun v => v.category).sum + 12 ≤ R.locals) (k : X l g E R nL ws cl sl lv (pc + 3) rest) : X l g E R nL ws cl sl lv pc (.ref a :: rest) := by
  obtain ⟨p, e, s, m, args, below, meth, c, A, Q⟩ := E
  obtain ⟨hx, hb, hml, hown, hts, hK, hlck, hA, hnm⟩ := C
  intro H locs ls hP hD hS hl
  refine W.objInit hx hb hown (hts _ hlk) (hts _ him) (hts _ hco) rfl (by rw [hml]; exact hl.1) rfl hd hfr (by show 2 * 0 + _ + 12 ≤ _; omega) ?_
  exact k H locs ls hP hD hS hl
theorem x_newi (C : Cx l g E R own nm cc Ts nL) {N : Nat} (hd : decode cc pc = .ok (.newarray .int, 2)) (har : Cond.arrayClass .int ∈ Ts) (hN : N ≤ 1000) (hc : cl + 1 ≤ R.cells) (hs : sl + N ≤ R.slots) (k : ∀ q : Nat, X l g E R nL (ws ++ [(q, ai g N (fun _ => 0))]) (cl + 1) (sl + N) lv (pc + 2) (.ref q :: rest)) : X l g E R nL ws cl sl lv pc (jv (N : Int) :: rest) := by
  obtain ⟨p, e, s, m, args, below, meth, c, A, Q⟩ := E
  obtain ⟨hx, hb, hml, hown, hts, hK, hlck, hA, hnm⟩ := C
  intro H locs ls hP hD hS hl
  have hr : Rg (N : Int) := ⟨by omega, by omega⟩
  refine va_newa (atype := .int) (N' := N) (a0 := (N, .inl (fun _ => iI 0))) (ty := .int) hx hb (hts _ har) rfl hK hP hD hS hA (fun cA => rfl) (fun q => by have := (iI_lt hr Rg_0).mp q; omega) (by rw [iI_nat (by omega) (by omega)]; omega) (by show N * 4 ≤ 536870912; omega) hc hs hd (fun q cA H1 hK1 hP1 hD1 hS1 => ?_)
  have e1 := (hK1.2 3 _ rfl).2
  have e2 := (hK.2 0 _ rfl).2
  have e3 : cA = g.2.1 := Option.some.inj (e1.symm.trans e2)
  subst e3
  exact k q H1 locs ls hP1 hD1 hS1 hl
theorem x_newl (C : Cx l g E R own nm cc Ts nL) {N : Nat} (hd : decode cc pc = .ok (.newarray .long, 2)) (har : Cond.arrayClass .long ∈ Ts) (hN : N ≤ 1000) (hc : cl + 1 ≤ R.cells) (hs : sl + N ≤ R.slots) (k : ∀ q : Nat, X l g E R nL (ws ++ [(q, al g N (fun _ => 0))]) (cl + 1) (sl + N) lv (pc + 2) (.ref q :: rest)) : X l g E R nL ws cl sl lv pc (jv (N : Int) :: rest) := by
  obtain ⟨p, e, s, m, args, below, meth, c, A, Q⟩ := E
  obtain ⟨hx, hb, hml, hown, hts, hK, hlck, hA, hnm⟩ := C
  intro H locs ls hP hD hS hl
  have hr : Rg (N : Int) := ⟨by omega, by omega⟩
  refine va_newa (atype := .long) (N' := N) (a0 := (N, .inr (.inl (fun _ => lI 0)))) (ty := .long) hx hb (hts _ har) rfl hK hP hD hS hA (fun cA => rfl) (fun q => by have := (iI_lt hr Rg_0).mp q; omega) (by rw [iI_nat (by omega) (by omega)]; omega) (by show N * 8 ≤ 536870912; omega) hc hs hd (fun q cA H1 hK1 hP1 hD1 hS1 => ?_)
  have e1 := (hK1.2 3 _ rfl).2
  have e2 := (hK.2 1 _ rfl).2
  have e3 : cA = g.2.2.1 := Option.some.inj (e1.symm.trans e2)
  subst e3
  exact k q H1 locs ls hP1 hD1 hS1 hl
theorem x_newz (C : Cx l g E R own nm cc Ts nL) {N : Nat} (hd : decode cc pc = .ok (.newarray .boolean, 2)) (har : Cond.arrayClass .boolean ∈ Ts) (hN : N ≤ 1000) (hc : cl + 1 ≤ R.cells) (hs : sl + N ≤ R.slots) (k : ∀ q : Nat, X l g E R nL (ws ++ [(q, az g N (fun _ => false))]) (cl + 1) (sl + N) lv (pc + 2) (.ref q :: rest)) : X l g E R nL ws cl sl lv pc (jv (N : Int) :: rest) := by
  obtain ⟨p, e, s, m, args, below, meth, c, A, Q⟩ := E
  obtain ⟨hx, hb, hml, hown, hts, hK, hlck, hA, hnm⟩ := C
  intro H locs ls hP hD hS hl
  have hr : Rg (N : Int) := ⟨by omega, by omega⟩
  refine va_newa (atype := .boolean) (N' := N) (a0 := (N, .inl (fun _ => bI false))) (ty := .boolean) hx hb (hts _ har) rfl hK hP hD hS hA (fun cA => rfl) (fun q => by have := (iI_lt hr Rg_0).mp q; omega) (by rw [iI_nat (by omega) (by omega)]; omega) (by show N * 1 ≤ 536870912; omega) hc hs hd (fun q cA H1 hK1 hP1 hD1 hS1 => ?_)
  have e1 := (hK1.2 3 _ rfl).2
  have e2 := (hK.2 2 _ rfl).2
  have e3 : cA = g.2.2.2 := Option.some.inj (e1.symm.trans e2)
  subst e3
  exact k q H1 locs ls hP1 hD1 hS1 hl
theorem x_new (C : Cx l g E R own nm cc Ts nL) {Cn : String} {T : u_T} {N ci i : Nat} {fs : List Value} (ty : Nat → FieldType) (hd : decode cc pc = .ok (.new i, 3)) (hin : ∀ w ∈ u_ws Cn T N, w ∈ Ts) (hty : ∀ k, k < N → parseFieldDescriptor (T k).2.2.1 = some (ty k)) (hcl : Cond.classLink own i Cn ∈ Ts) (hinst : Cond.instantiable Cn N ∈ Ts) (hini : Cond.initialized Cn ∈ Ts) (hc : vwCl[ci]? = some (Cn, T, N)) (hfs : ∀ j, j < N → defaultValue (ty j) = vp_V fs j) (hcc : cl + 1 ≤ R.cells) (hss : sl + N ≤ R.slots) (k : ∀ q : Nat, X l g E R nL (ws ++ [(q, ob ci fs)]) (cl + 1) (sl + N) lv (pc + 3) (.ref q :: rest)) : X l g E R nL ws cl sl lv pc rest := by
  obtain ⟨p, e, s, m, args, below, meth, c, A, Q⟩ := E
  obtain ⟨hx, hb, hml, hown, hts, hK, hlck, hA, hnm⟩ := C
  intro H locs ls hP hD hS hl
  exact va_new (ci := ci) (fs := fs) hx hb hts hin ty hty hown (hts _ hcl) (hts _ hinst) (hts _ hini) hK hP hD hS hA hc hfs hcc hss hd (fun q H1 hP1 hD1 hS1 => k q H1 locs ls hP1 hD1 hS1 hl)
end XN
