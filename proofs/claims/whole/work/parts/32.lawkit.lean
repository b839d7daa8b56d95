/-! ===== the law's rows: a world of two halves, the script, answers that are the same ===== -/
theorem sp_L {α : Type} (a b : List α) : (List.range a.length).map (fun i => (a ++ b)[i]?) = a.map some := by
  apply List.ext_getElem
  · simp
  · intro i h1 h2
    have h3 : i < a.length := by simpa using h2
    rw [List.getElem_map, List.getElem_range, List.getElem_map, List.getElem?_append_left h3, List.getElem?_eq_getElem h3]
theorem sp_R {α : Type} (a b : List α) : ((List.range b.length).map (fun i => a.length + i)).map (fun i => (a ++ b)[i]?) = b.map some := by
  apply List.ext_getElem
  · simp
  · intro i h1 h2
    have h3 : i < b.length := by simpa using h2
    rw [List.getElem_map, List.getElem_map, List.getElem_range, List.getElem_map, List.getElem?_append_right (Nat.le_add_right _ _), Nat.add_sub_cancel_left, List.getElem?_eq_getElem h3]
theorem toI (v : Int32) : Value.int v = jv v.toInt := by
  show Value.int v = Value.int (Int32.ofInt v.toInt)
  rw [Int32.ofInt_toInt]
theorem rgI (v : Int32) : Rg v.toInt := ⟨by have := v.le_toInt; omega, by have := v.toInt_lt; omega⟩
def Sc (E : xE) (b L : Nat) (xs : Nat → Int32) : Prop := match E with
  | (_, _, s, _, _, _, _, _, A, _) => va_X b L xs s s.heap ∧ b < s.heap.size ∧ ¬ A b
section XW
variable {l : Launch} {g : xG} {E : xE} {R : Room} {own nm : String} {cc : ByteArray} {Ts : List Cond} {nL : Nat} {ws : va_W} {cl sl pc : Nat} {lv lv' : List (Nat × Value)} {rest : List Value}
variable {Post : Option Value → va_W → Prop}
variable {y : MethodName} {wsy ws' : List Cond} {rm : Room} {mc ms maxL index : Nat} {wk wm : va_W} {As : List Value} {bytes : ByteArray} {rety : Option FieldType}
theorem x_callW (C : Cx l g E R own nm cc Ts nL) {b ci q0 n nA nB : Nat} {fs : List Value} {Cn : String} {T : u_T} {N : Nat} (hA : wk.length = nA) (hB : wm.length = nB) (hn1 : va_nd (List.range nA) = true) (hn2 : va_nd ((List.range nB).map (fun i => nA + i)) = true) (hM : Ct l g y wsy rm mc ms wk (.ref b :: As) Post) (hG : GoodIn Ts (wsV own index Cn y wsy)) (hw : wsy = Cond.code y bytes maxL rety :: ws') (hrc : rm.cells = mc ∧ rm.slots = ms) (hdd : y.cls = Cn ∧ y.cls ≠ "java/lang/invoke/MethodHandle" ∧ y.cls ≠ "java/lang/invoke/VarHandle" ∧ (parseMethodDescriptor y.desc).map (fun d => d.parameters.length) = some n) (hR : rm.frames + 1 ≤ R.frames ∧ 8 + (maxL + 11) + rm.locals ≤ R.locals) (hn : As.length = n) (hci : vwCl[ci]? = some (Cn, T, N)) (hq0 : wk[q0]? = some (b, ob ci fs))
    {st0 : List Value} (hst : st0 = As.reverse ++ .ref b :: rest) (hcat : (rest.map fun v => v.category).sum ≤ 8) (hd : decode cc pc = .ok (.invokevirtual index, 3)) (hf : cl + mc ≤ R.cells ∧ sl + ms ≤ R.slots) (kk : ∀ (v : Option Value) (u : va_W), Post v u → X l g E R nL (wm ++ u) (cl + mc) (sl + ms) lv (pc + 3) (v.toList ++ rest)) : X l g E R nL (wk ++ wm) cl sl lv pc st0 := by
  refine x_callV C (wr := wm) (List.range nA) ((List.range nB).map (fun i => nA + i)) hM hG hw hrc hdd hR hn hci hq0 (by subst hA; exact sp_L wk wm) (by subst hA; subst hB; exact sp_R wk wm) hn1 hn2 ?_ hst hcat hd hf kk
  intro i hi hc
  obtain ⟨j, -, rfl⟩ := List.mem_map.mp hi
  have := List.mem_range.mp hc
  omega
theorem x_sld (C : Cx l g E R own nm cc Ts nL) {b L : Nat} {xs : Nat → Int32} (hX : Sc E b L xs) (hL : L ≤ 2048) {i : Int} (h0 : 0 ≤ i) (h1 : i < L) (hd : decode cc pc = .ok (.iaload, 1)) (k : X l g E R nL ws cl sl lv (pc + 1) (jv (xs i.toNat).toInt :: rest)) : X l g E R nL ws cl sl lv pc (jv i :: .ref b :: rest) := by
  obtain ⟨p, e, s, m, args, below, meth, c, A, Q⟩ := E
  obtain ⟨hx, hb, hml, hown, hts, hK, hlck, hA, hnm⟩ := C
  obtain ⟨x1, x2, x3⟩ := hX
  intro H locs ls hP hD hS hl
  refine va_sld hx hb x1 x2 x3 hS (i := iI i) (iI_in h0 h1 (by omega)) hd ?_
  rw [iI_nat h0 (by omega), toI]
  exact k H locs ls hP hD hS hl
theorem x_slen (C : Cx l g E R own nm cc Ts nL) {b L : Nat} {xs : Nat → Int32} (hX : Sc E b L xs) (hd : decode cc pc = .ok (.arraylength, 1)) (k : X l g E R nL ws cl sl lv (pc + 1) (jv (L : Int) :: rest)) : X l g E R nL ws cl sl lv pc (.ref b :: rest) := by
  obtain ⟨p, e, s, m, args, below, meth, c, A, Q⟩ := E
  obtain ⟨hx, hb, hml, hown, hts, hK, hlck, hA, hnm⟩ := C
  obtain ⟨x1, x2, x3⟩ := hX
  intro H locs ls hP hD hS hl
  refine va_slen hx hb x1 x2 x3 hS hd ?_
  have h := k H locs ls hP hD hS hl
  rw [show jv (L : Int) = Value.int (Int32.ofNat L) from congrArg Value.int (Int32.ofInt_eq_ofNat (n := L))] at h
  exact h
theorem x_icmpSame (C : Cx l g E R own nm cc Ts nL) {a off : Int} (tgt : Nat) (hd : decode cc pc = .ok (.if_icmp .eq off, 3)) (ht : (pc : Int) + off = (tgt : Int)) (k : X l g E R nL ws cl sl lv tgt rest) : X l g E R nL ws cl sl lv pc (jv a :: jv a :: rest) := by
  obtain ⟨p, e, s, m, args, below, meth, c, A, Q⟩ := E
  obtain ⟨hx, hb, hml, hown, hts, hK, hlck, hA, hnm⟩ := C
  intro H locs ls hP hD hS hl
  exact lv_icmp_eq hx hb hd ht (fun _ => k H locs ls hP hD hS hl) (fun h => absurd rfl h)
theorem x_lcmpSame (C : Cx l g E R own nm cc Ts nL) {a off : Int} (tgt : Nat) (hd : decode cc pc = .ok (.lcmp, 1)) (hd2 : decode cc (pc + 1) = .ok (.ifCond .eq off, 3)) (ht : ((pc + 1 : Nat) : Int) + off = (tgt : Int)) (k : X l g E R nL ws cl sl lv tgt rest) : X l g E R nL ws cl sl lv pc (Jv a :: Jv a :: rest) := by
  obtain ⟨p, e, s, m, args, below, meth, c, A, Q⟩ := E
  obtain ⟨hx, hb, hml, hown, hts, hK, hlck, hA, hnm⟩ := C
  intro H locs ls hP hD hS hl
  refine W.lcmp hx hb hd ?_
  have e1 : lg_cmp (lI a) (lI a) = 0 := by
    unfold lg_cmp
    have h2 : ¬ lI a < lI a := Int64.lt_irrefl
    simp [h2]
  rw [e1]
  exact lv_if_eq hx hb hd2 ht (fun _ => k H locs ls hP hD hS hl) (fun q => absurd rfl q)
/-- any int under the mask 31 is 0 .. 31 -/
theorem x_and31 (C : Cx l g E R own nm cc Ts nL) {a : Int} (hd : decode cc pc = .ok (.iand, 1)) (k : ∀ j : Nat, j < 32 → X l g E R nL ws cl sl lv (pc + 1) (jv (j : Int) :: rest)) : X l g E R nL ws cl sl lv pc (jv 31 :: jv a :: rest) := by
  refine x_iandR C (a := iI a) (b := iI 31) hd ?_
  obtain ⟨j, hj, ej⟩ := pk_andE (iI a) (m := iI 31) 5 (by decide +kernel)
  rw [ej]
  have h := k j hj
  rw [show jv (j : Int) = Value.int (nI j) from congrArg Value.int (Int32.ofInt_eq_ofNat (n := j))] at h
  exact h
end XW
theorem arr_of {s : State} {args : Array Value} {ty : FieldType} (h : (Cond.arrayClass ty).before args s = true) : ∃ cA : ClassId, s.vm.findClass ("[" ++ ty.toString) = some cA ∧ ArrOfT s cA ty := by
  obtain ⟨cA, kA, comp, h1, h2, h3⟩ := Cond.arrayClass_spec h
  exact ⟨cA, h1, fun n z => ⟨fun k h => (by cases h), kA, h2, comp, h3⟩⟩
theorem entryK {s : State} {args : Array Value} (hts : ∀ w ∈ lw_tbl, w.before args s = true) : ∃ g : xG, va_K g.1 vwCl (xT g) s := by
  obtain ⟨c0, i0, k0⟩ := u_known (C := RX0) (T := TX0) (N := 5) hts inX0 (hts _ wiX0)
  obtain ⟨c1, i1, k1⟩ := u_known (C := RX1) (T := TX1) (N := 1) hts inX1 (hts _ wiX1)
  obtain ⟨c2, i2, k2⟩ := u_known (C := RX2) (T := TX2) (N := 2) hts inX2 (hts _ wiX2)
  obtain ⟨c3, i3, k3⟩ := u_known (C := RX3) (T := TX3) (N := 2) hts inX3 (hts _ wiX3)
  obtain ⟨c4, i4, k4⟩ := u_known (C := RX4) (T := TX4) (N := 9) hts inX4 (hts _ wiX4)
  obtain ⟨c5, i5, k5⟩ := u_known (C := RX5) (T := TX5) (N := 11) hts inX5 (hts _ wiX5)
  obtain ⟨c6, i6, k6⟩ := u_known (C := RX6) (T := TX6) (N := 25) hts inX6 (hts _ wiX6)
  obtain ⟨a1, b1, e1⟩ := arr_of (hts _ wa_int)
  obtain ⟨a2, b2, e2⟩ := arr_of (hts _ wa_long)
  obtain ⟨a3, b3, e3⟩ := arr_of (hts _ wa_boolean)
  refine ⟨((fun k => match k with | 0 => c0 | 1 => c1 | 2 => c2 | 3 => c3 | 4 => c4 | 5 => c5 | _ => c6, fun k => match k with | 0 => i0 | 1 => i1 | 2 => i2 | 3 => i3 | 4 => i4 | 5 => i5 | _ => i6), a1, a2, a3), ?_, ?_⟩
  · intro c q hq
    have h7 : c < 7 := (List.getElem?_eq_some_iff.mp hq).1
    rcases (show c = 0 ∨ c = 1 ∨ c = 2 ∨ c = 3 ∨ c = 4 ∨ c = 5 ∨ c = 6 by omega) with rfl | rfl | rfl | rfl | rfl | rfl | rfl
    · cases hq; exact k0
    · cases hq; exact k1
    · cases hq; exact k2
    · cases hq; exact k3
    · cases hq; exact k4
    · cases hq; exact k5
    · cases hq; exact k6
  · intro c q hq
    have h3 : c < 3 := (List.getElem?_eq_some_iff.mp hq).1
    rcases (show c = 0 ∨ c = 1 ∨ c = 2 by omega) with rfl | rfl | rfl
    · cases hq; exact ⟨e1, b1⟩
    · cases hq; exact ⟨e2, b2⟩
    · cases hq; exact ⟨e3, b3⟩
theorem entryN {s : State} {args : Array Value} (hts : ∀ w ∈ lw_tbl, w.before args s = true) : NwK s := ⟨va_Nw.of rfl (hts _ wn1), va_Nw.of rfl (hts _ wn3)⟩
