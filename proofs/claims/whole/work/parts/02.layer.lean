abbrev vwCl : List vw_C := [(RX0, TX0, 5), (RX1, TX1, 1), (RX2, TX2, 2), (RX3, TX3, 2), (RX4, TX4, 9), (RX5, TX5, 11), (RX6, TX6, 25)]
/-! ===== the walker's layer: a state as data: world ws, locals lv, stack st; ints by mathematical integers ===== -/
abbrev xG : Type := va_G × ClassId × ClassId × ClassId
abbrev xE : Type := Program × Env × State × MethodId × Array Value × List Frame × Method × Code × (Nat → Prop) × (State → Prop)
def xT (g : xG) : List (ClassId × FieldType) := [(g.2.1, .int), (g.2.2.1, .long), (g.2.2.2, .boolean)]
def iI (z : Int) : Int32 := Int32.ofInt z
def lI (z : Int) : Int64 := Int64.ofInt z
def bI (b : Bool) : Int32 := if b then 1 else 0
def jv (z : Int) : Value := .int (iI z)
def Jv (z : Int) : Value := .long (lI z)
def ai (g : xG) (n : Nat) (f : Int → Int) : va_E := .inl (g.2.1, (n, .inl (fun k => iI (f (k : Int)))))
def al (g : xG) (n : Nat) (f : Int → Int) : va_E := .inl (g.2.2.1, (n, .inr (.inl (fun k => lI (f (k : Int))))))
def az (g : xG) (n : Nat) (f : Int → Bool) : va_E := .inl (g.2.2.2, (n, .inl (fun k => bI (f (k : Int)))))
def ob (ci : Nat) (fs : List Value) : va_E := .inr (ci, fs)
def up {α : Type} (f : Int → α) (k : Int) (v : α) : Int → α := fun j => if j = k then v else f j
def Rg (a : Int) : Prop := -2147483648 ≤ a ∧ a < 2147483648
def Rl (a : Int) : Prop := -9223372036854775808 ≤ a ∧ a < 9223372036854775808
theorem up_eq {α : Type} (f : Int → α) (k : Int) (v : α) : up f k v k = v := by simp [up]
theorem up_ne {α : Type} (f : Int → α) {k j : Int} (v : α) (h : j ≠ k) : up f k v j = f j := by simp [up, h]
theorem iI_toInt {a : Int} (h : Rg a) : (iI a).toInt = a := Int32.toInt_ofInt_of_le (by have := h.1; omega) (by have := h.2; omega)
theorem lI_toInt {a : Int} (h : Rl a) : (lI a).toInt = a := Int64.toInt_ofInt_of_le (by have := h.1; omega) (by have := h.2; omega)
theorem iI_lt {a b : Int} (ha : Rg a) (hb : Rg b) : iI a < iI b ↔ a < b := by rw [Int32.lt_iff_toInt_lt, iI_toInt ha, iI_toInt hb]
theorem iI_le {a b : Int} (ha : Rg a) (hb : Rg b) : iI a ≤ iI b ↔ a ≤ b := by rw [Int32.le_iff_toInt_le, iI_toInt ha, iI_toInt hb]
theorem iI_eq {a b : Int} (ha : Rg a) (hb : Rg b) : iI a = iI b ↔ a = b := by rw [← Int32.toInt_inj, iI_toInt ha, iI_toInt hb]
theorem lI_lt {a b : Int} (ha : Rl a) (hb : Rl b) : lI a < lI b ↔ a < b := by rw [Int64.lt_iff_toInt_lt, lI_toInt ha, lI_toInt hb]
theorem lI_le {a b : Int} (ha : Rl a) (hb : Rl b) : lI a ≤ lI b ↔ a ≤ b := by rw [Int64.le_iff_toInt_le, lI_toInt ha, lI_toInt hb]
theorem lI_eq {a b : Int} (ha : Rl a) (hb : Rl b) : lI a = lI b ↔ a = b := by rw [← Int64.toInt_inj, lI_toInt ha, lI_toInt hb]
theorem Rg_0 : Rg 0 := ⟨by decide, by decide⟩
theorem Rl_0 : Rl 0 := ⟨by decide, by decide⟩
theorem iI_add (a b : Int) : iI a + iI b = iI (a + b) := (Int32.ofInt_add a b).symm
theorem iI_sub (a b : Int) : iI a - iI b = iI (a - b) := (Int32.ofInt_sub a b).symm
theorem iI_mul (a b : Int) : iI a * iI b = iI (a * b) := (Int32.ofInt_mul a b).symm
theorem iI_neg (a : Int) : -iI a = iI (-a) := (Int32.ofInt_neg a).symm
theorem lI_add (a b : Int) : lI a + lI b = lI (a + b) := (Int64.ofInt_add a b).symm
theorem lI_sub (a b : Int) : lI a - lI b = lI (a - b) := (Int64.ofInt_sub a b).symm
theorem lI_mul (a b : Int) : lI a * lI b = lI (a * b) := (Int64.ofInt_mul a b).symm
theorem lI_neg (a : Int) : -lI a = lI (-a) := (Int64.ofInt_neg a).symm
theorem iI_div {a b : Int} (ha : Rg a) (hb : Rg b) : iI a / iI b = iI (a.tdiv b) := (Int32.ofInt_tdiv (by have := ha.1; exact this) (by have := ha.2; show a ≤ 2147483647; omega) (by have := hb.1; exact this) (by have := hb.2; show b ≤ 2147483647; omega)).symm
theorem lI_div {a b : Int} (ha : Rl a) (hb : Rl b) : lI a / lI b = lI (a.tdiv b) := (Int64.ofInt_tdiv (by have := ha.1; exact this) (by have := ha.2; show a ≤ 9223372036854775807; omega) (by have := hb.1; exact this) (by have := hb.2; show b ≤ 9223372036854775807; omega)).symm
theorem tdm (a b : Int) : a - a.tdiv b * b = a.tmod b := by have := Int.tmod_add_mul_tdiv a b; rw [Int.mul_comm] at this; omega
theorem iI_rem {a b : Int} (ha : Rg a) (hb : Rg b) : iI a - iI a / iI b * iI b = iI (a.tmod b) := by rw [iI_div ha hb, iI_mul, iI_sub, tdm]
theorem lI_rem {a b : Int} (ha : Rl a) (hb : Rl b) : lI a - lI a / lI b * lI b = lI (a.tmod b) := by rw [lI_div ha hb, lI_mul, lI_sub, tdm]
theorem iI_l {a : Int} (ha : Rg a) : (iI a).toInt64 = lI a := Int32.toInt64_ofInt (by have := ha.1; exact this) (by have := ha.2; show a ≤ 2147483647; omega)
theorem lI_i (a : Int) : (lI a).toInt32 = iI a := Int64.toInt32_ofInt
theorem iI_nat {a : Int} (h0 : 0 ≤ a) (h : a < 2147483648) : (iI a).toNatClampNeg = a.toNat := Int32.toNatClampNeg_ofInt_of_le (by omega) (by omega)
theorem iI_in {a : Int} {n : Nat} (h0 : 0 ≤ a) (h : a < n) (hn : n < 2147483648) : vp_in (iI a) n := by
  have hr : Rg a := ⟨by omega, by omega⟩
  rw [vp_in_iff, iI_toInt hr]
  exact ⟨h0, h⟩
def Cx (l : Launch) (g : xG) (E : xE) (R : Room) (own nm : String) (cc : ByteArray) (Ts : List Cond) (nL : Nat) : Prop := match E with
  | (p, _, s, m, args, _, meth, c, A, _) => p.tables.exec = Jvm.exec ∧ c.code = cc ∧ c.maxLocals = nL ∧ s.vm.findClass own = some m.cls ∧ (∀ w ∈ Ts, w.before args s = true) ∧ va_K g.1 vwCl (xT g) s ∧ meth.locks = false ∧ (∀ q : Nat, s.heap.size ≤ q → A q) ∧ meth.name = nm
def X (l : Launch) (g : xG) (E : xE) (R : Room) (nL : Nat) (ws : va_W) (cl sl : Nat) (lv : List (Nat × Value)) (pc : Nat) (st : List Value) : Prop := match E with
  | (p, e, s, m, args, below, meth, c, A, Q) => ∀ (H : Heap) (locs : List Loc) (ls : Array Slot), va_P g.1 vwCl ws H → va_D A ws → va_S A s.heap H locs → lv_has ls nL lv → W p l e R s m args below meth c H locs cl sl Q (F0 m pc ls st)
/-- a contract: from the world w and the arguments av the method returns v with the world u, Post v u; nothing else changes -/
def Ct (l : Launch) (g : xG) (y : MethodName) (wsy : List Cond) (rm : Room) (mc ms : Nat) (w : va_W) (av : List Value) (Post : Option Value → va_W → Prop) : Prop :=
  ∀ sz : Nat, Met l y wsy rm (va_Pc av (fun U => U.heap.size = sz ∧ va_P g.1 vwCl w U.heap ∧ va_K g.1 vwCl (xT g) U ∧ va_D (fun _ => True) w)) (fun _ st oc t => (∃ (v : Option Value) (u : va_W), oc = .returned v ∧ Post v u ∧ va_P g.1 vwCl u t.heap ∧ va_K g.1 vwCl (xT g) t ∧ va_D (va_A w sz) u) ∧ va_F (va_A w sz) st t) mc ms (va_A w sz)
def Rt (g : xG) (E : xE) (ret : Option FieldType) (mc ms : Nat) (w : va_W) (Post : Option Value → va_W → Prop) : Prop := match E with
  | (_, _, s, _, args, below, meth, _, A, Q) => A = va_A w s.heap.size ∧ meth.sig.returnType = ret ∧ Q = MQ below (fun _ st oc t => (∃ (v : Option Value) (u : va_W), oc = .returned v ∧ Post v u ∧ va_P g.1 vwCl u t.heap ∧ va_K g.1 vwCl (xT g) t ∧ va_D (va_A w s.heap.size) u) ∧ va_F (va_A w s.heap.size) st t) args s mc ms (va_A w s.heap.size)
theorem ct_of {l : Launch} {g : xG} {y : MethodName} {wsy ws' : List Cond} {rm : Room} {mc ms : Nat} {w : va_W} {av : List Value} {Post : Option Value → va_W → Prop} {cc : ByteArray} {nL : Nat} {ret : Option FieldType} (hy : plainName y.cls = true) (hw : wsy = Cond.code y cc nL ret :: ws') (hlen : (lg_sl av).length ≤ nL)
    (body : ∀ E : xE, Cx l g E rm y.cls y.name cc wsy nL → Rt g E ret mc ms w Post → X l g E rm nL w 0 0 (lv_args 0 av) 0 []) : Ct l g y wsy rm mc ms w av Post := by
  intro sz
  refine Met.ofW (cc := cc) (maxL := nL) (ret := ret) hy hw ?_
  intro p e s m args below meth c s₁ B hml hv
  obtain ⟨rfl, hsz, hP, hK, hD0⟩ := hv
  subst hsz
  have hin : meth.name = y.name := (name_of_methodNamed B.named B.method).1
  have hl := lv_entry av (n := nL) hlen
  rw [lg_entry_eq]
  exact body (p, e, s, m, av.toArray, below, meth, c, va_A w s.heap.size, _) ⟨B.exec, B.bytes, hml, findClass_of_methodNamed B.named, atoms_spec (ws := wsy) B.pre, hK, B.notSynchronized, fun q h => Or.inr h, hin⟩ ⟨rfl, B.returns, rfl⟩ s.heap [] _ hP hD0.self va_S.rf hl
section XR
variable {l : Launch} {g : xG} {E : xE} {R : Room} {own nm : String} {cc : ByteArray} {Ts : List Cond} {nL : Nat} {ws : va_W} {cl sl pc : Nat} {lv lv' : List (Nat × Value)} {rest : List Value}

theorem x_iconst (C : Cx l g E R own nm cc Ts nL) {n : Int} (hd : decode cc pc = .ok (.iconst n, 1))  (k : X l g E R nL ws cl sl lv (pc + 1) (jv n :: rest)) : X l g E R nL ws cl sl lv pc (rest) := by
  obtain ⟨p, e, s, m, args, below, meth, c, A, Q⟩ := E
  obtain ⟨hx, hb, hml, hown, hts, hK, hlck, hA, hnm⟩ := C
  intro H locs ls hP hD hS hl
  exact lv_iconst hx hb hd rfl (k H locs ls hP hD hS hl)
theorem x_bipush (C : Cx l g E R own nm cc Ts nL) {n : Int} (hd : decode cc pc = .ok (.bipush n, 2)) (hv : (Int8.ofInt n).toInt32 = iI n) (k : X l g E R nL ws cl sl lv (pc + 2) (jv n :: rest)) : X l g E R nL ws cl sl lv pc (rest) := by
  obtain ⟨p, e, s, m, args, below, meth, c, A, Q⟩ := E
  obtain ⟨hx, hb, hml, hown, hts, hK, hlck, hA, hnm⟩ := C
  intro H locs ls hP hD hS hl
  exact lv_bipush hx hb hd hv (k H locs ls hP hD hS hl)
theorem x_sipush (C : Cx l g E R own nm cc Ts nL) {n : Int} (hd : decode cc pc = .ok (.sipush n, 3)) (hv : (Int16.ofInt n).toInt32 = iI n) (k : X l g E R nL ws cl sl lv (pc + 3) (jv n :: rest)) : X l g E R nL ws cl sl lv pc (rest) := by
  obtain ⟨p, e, s, m, args, below, meth, c, A, Q⟩ := E
  obtain ⟨hx, hb, hml, hown, hts, hK, hlck, hA, hnm⟩ := C
  intro H locs ls hP hD hS hl
  exact lv_sipush hx hb hd hv (k H locs ls hP hD hS hl)
theorem x_lconst (C : Cx l g E R own nm cc Ts nL) {n : Fin 2} {z : Int} (hd : decode cc pc = .ok (.lconst n, 1)) (hv : Int64.ofNat (n : Nat) = lI z) (k : X l g E R nL ws cl sl lv (pc + 1) (Jv z :: rest)) : X l g E R nL ws cl sl lv pc (rest) := by
  obtain ⟨p, e, s, m, args, below, meth, c, A, Q⟩ := E
  obtain ⟨hx, hb, hml, hown, hts, hK, hlck, hA, hnm⟩ := C
  intro H locs ls hP hD hS hl
  exact lv_lconst hx hb hd hv (k H locs ls hP hD hS hl)
theorem x_ldc (C : Cx l g E R own nm cc Ts nL) {i : Nat} {v : Int32} {z : Int} (hd : decode cc pc = .ok (.ldc i, 2)) (hc : ∀ {args : Array Value} {s : State}, (∀ w ∈ Ts, w.before args s = true) → (Jvm.Cond.constant own i v).before args s = true) (hv : iI z = v) (k : X l g E R nL ws cl sl lv (pc + 2) (jv z :: rest)) : X l g E R nL ws cl sl lv pc (rest) := by
  obtain ⟨p, e, s, m, args, below, meth, c, A, Q⟩ := E
  obtain ⟨hx, hb, hml, hown, hts, hK, hlck, hA, hnm⟩ := C
  intro H locs ls hP hD hS hl
  subst hv
  exact lv_ldc hx hb hown (hc hts) hd (k H locs ls hP hD hS hl)
theorem x_ldc2 (C : Cx l g E R own nm cc Ts nL) {i : Nat} {v : Int64} {z : Int} (hd : decode cc pc = .ok (.ldc2_w i, 3)) (hc : ∀ {args : Array Value} {s : State}, (∀ w ∈ Ts, w.before args s = true) → (Jvm.Cond.constantLong own i v).before args s = true) (hv : lI z = v) (k : X l g E R nL ws cl sl lv (pc + 3) (Jv z :: rest)) : X l g E R nL ws cl sl lv pc (rest) := by
  obtain ⟨p, e, s, m, args, below, meth, c, A, Q⟩ := E
  obtain ⟨hx, hb, hml, hown, hts, hK, hlck, hA, hnm⟩ := C
  intro H locs ls hP hD hS hl
  subst hv
  exact lv_ldc2 hx hb hown (hc hts) hd (k H locs ls hP hD hS hl)
theorem x_iload_n (C : Cx l g E R own nm cc Ts nL) {i : Fin 4} {z : Int} (j : Nat) (hd : decode cc pc = .ok (.iload_n i, 1)) (hj : lv[j]? = some (i.val, jv z)) (k : X l g E R nL ws cl sl lv (pc + 1) (jv z :: rest)) : X l g E R nL ws cl sl lv pc (rest) := by
  obtain ⟨p, e, s, m, args, below, meth, c, A, Q⟩ := E
  obtain ⟨hx, hb, hml, hown, hts, hK, hlck, hA, hnm⟩ := C
  intro H locs ls hP hD hS hl
  exact lv_iload_n hx hb hd rfl (lv_at hl j hj) (k H locs ls hP hD hS hl)
theorem x_iload (C : Cx l g E R own nm cc Ts nL) {i : Nat} {z : Int} (j : Nat) (hd : decode cc pc = .ok (.iload i, 2)) (hj : lv[j]? = some (i, jv z)) (k : X l g E R nL ws cl sl lv (pc + 2) (jv z :: rest)) : X l g E R nL ws cl sl lv pc (rest) := by
  obtain ⟨p, e, s, m, args, below, meth, c, A, Q⟩ := E
  obtain ⟨hx, hb, hml, hown, hts, hK, hlck, hA, hnm⟩ := C
  intro H locs ls hP hD hS hl
  exact lv_iload hx hb hd (lv_at hl j hj) (k H locs ls hP hD hS hl)
theorem x_iload_nR (C : Cx l g E R own nm cc Ts nL) {i : Fin 4} {z : Int32} (j : Nat) (hd : decode cc pc = .ok (.iload_n i, 1)) (hj : lv[j]? = some (i.val, .int z)) (k : X l g E R nL ws cl sl lv (pc + 1) (.int z :: rest)) : X l g E R nL ws cl sl lv pc (rest) := by
  obtain ⟨p, e, s, m, args, below, meth, c, A, Q⟩ := E
  obtain ⟨hx, hb, hml, hown, hts, hK, hlck, hA, hnm⟩ := C
  intro H locs ls hP hD hS hl
  exact lv_iload_n hx hb hd rfl (lv_at hl j hj) (k H locs ls hP hD hS hl)
theorem x_lload_n (C : Cx l g E R own nm cc Ts nL) {i : Fin 4} {z : Int} (j : Nat) (hd : decode cc pc = .ok (.lload_n i, 1)) (hj : lv[j]? = some (i.val, Jv z)) (k : X l g E R nL ws cl sl lv (pc + 1) (Jv z :: rest)) : X l g E R nL ws cl sl lv pc (rest) := by
  obtain ⟨p, e, s, m, args, below, meth, c, A, Q⟩ := E
  obtain ⟨hx, hb, hml, hown, hts, hK, hlck, hA, hnm⟩ := C
  intro H locs ls hP hD hS hl
  exact lv_lload_n hx hb hd rfl (lv_at hl j hj) (k H locs ls hP hD hS hl)
theorem x_lload (C : Cx l g E R own nm cc Ts nL) {i : Nat} {z : Int} (j : Nat) (hd : decode cc pc = .ok (.lload i, 2)) (hj : lv[j]? = some (i, Jv z)) (k : X l g E R nL ws cl sl lv (pc + 2) (Jv z :: rest)) : X l g E R nL ws cl sl lv pc (rest) := by
  obtain ⟨p, e, s, m, args, below, meth, c, A, Q⟩ := E
  obtain ⟨hx, hb, hml, hown, hts, hK, hlck, hA, hnm⟩ := C
  intro H locs ls hP hD hS hl
  exact lv_lload hx hb hd (lv_at hl j hj) (k H locs ls hP hD hS hl)
theorem x_lload_nR (C : Cx l g E R own nm cc Ts nL) {i : Fin 4} {z : Int64} (j : Nat) (hd : decode cc pc = .ok (.lload_n i, 1)) (hj : lv[j]? = some (i.val, .long z)) (k : X l g E R nL ws cl sl lv (pc + 1) (.long z :: rest)) : X l g E R nL ws cl sl lv pc (rest) := by
  obtain ⟨p, e, s, m, args, below, meth, c, A, Q⟩ := E
  obtain ⟨hx, hb, hml, hown, hts, hK, hlck, hA, hnm⟩ := C
  intro H locs ls hP hD hS hl
  exact lv_lload_n hx hb hd rfl (lv_at hl j hj) (k H locs ls hP hD hS hl)
theorem x_lloadR (C : Cx l g E R own nm cc Ts nL) {i : Nat} {z : Int64} (j : Nat) (hd : decode cc pc = .ok (.lload i, 2)) (hj : lv[j]? = some (i, .long z)) (k : X l g E R nL ws cl sl lv (pc + 2) (.long z :: rest)) : X l g E R nL ws cl sl lv pc (rest) := by
  obtain ⟨p, e, s, m, args, below, meth, c, A, Q⟩ := E
  obtain ⟨hx, hb, hml, hown, hts, hK, hlck, hA, hnm⟩ := C
  intro H locs ls hP hD hS hl
  exact lv_lload hx hb hd (lv_at hl j hj) (k H locs ls hP hD hS hl)
theorem x_aload_n (C : Cx l g E R own nm cc Ts nL) {i : Fin 4} {a : Nat} (j : Nat) (hd : decode cc pc = .ok (.aload_n i, 1)) (hj : lv[j]? = some (i.val, .ref a)) (k : X l g E R nL ws cl sl lv (pc + 1) (.ref a :: rest)) : X l g E R nL ws cl sl lv pc (rest) := by
  obtain ⟨p, e, s, m, args, below, meth, c, A, Q⟩ := E
  obtain ⟨hx, hb, hml, hown, hts, hK, hlck, hA, hnm⟩ := C
  intro H locs ls hP hD hS hl
  exact lv_aload_n hx hb hd rfl (lv_at hl j hj) (k H locs ls hP hD hS hl)
theorem x_aload (C : Cx l g E R own nm cc Ts nL) {i : Nat} {a : Nat} (j : Nat) (hd : decode cc pc = .ok (.aload i, 2)) (hj : lv[j]? = some (i, .ref a)) (k : X l g E R nL ws cl sl lv (pc + 2) (.ref a :: rest)) : X l g E R nL ws cl sl lv pc (rest) := by
  obtain ⟨p, e, s, m, args, below, meth, c, A, Q⟩ := E
  obtain ⟨hx, hb, hml, hown, hts, hK, hlck, hA, hnm⟩ := C
  intro H locs ls hP hD hS hl
  exact lv_aload hx hb hd (lv_at hl j hj) (k H locs ls hP hD hS hl)
theorem x_istore_n (C : Cx l g E R own nm cc Ts nL) {i : Fin 4} {z : Int} (hd : decode cc pc = .ok (.istore_n i, 1)) (hn : i.val < nL) (hl2 : (i.val, jv z) :: lv.filter (fun q => !(q.1 == i.val) && !(q.1 + 1 == i.val && q.2.category == 2)) = lv') (k : X l g E R nL ws cl sl lv' (pc + 1) rest) : X l g E R nL ws cl sl lv pc (jv z :: rest) := by
  obtain ⟨p, e, s, m, args, below, meth, c, A, Q⟩ := E
  obtain ⟨hx, hb, hml, hown, hts, hK, hlck, hA, hnm⟩ := C
  intro H locs ls hP hD hS hl
  exact lv_istore_n hx hb hd rfl hl hn hl2 (fun ls' hl' => k H locs ls' hP hD hS hl')
theorem x_istore (C : Cx l g E R own nm cc Ts nL) {i : Nat} {z : Int} (hd : decode cc pc = .ok (.istore i, 2)) (hn : i < nL) (hl2 : (i, jv z) :: lv.filter (fun q => !(q.1 == i) && !(q.1 + 1 == i && q.2.category == 2)) = lv') (k : X l g E R nL ws cl sl lv' (pc + 2) rest) : X l g E R nL ws cl sl lv pc (jv z :: rest) := by
  obtain ⟨p, e, s, m, args, below, meth, c, A, Q⟩ := E
  obtain ⟨hx, hb, hml, hown, hts, hK, hlck, hA, hnm⟩ := C
  intro H locs ls hP hD hS hl
  exact lv_istore hx hb hd hl hn hl2 (fun ls' hl' => k H locs ls' hP hD hS hl')
theorem x_lstore_n (C : Cx l g E R own nm cc Ts nL) {i : Fin 4} {z : Int} (hd : decode cc pc = .ok (.lstore_n i, 1)) (hn : i.val + 1 < nL) (hl2 : (i.val, Jv z) :: lv.filter (fun q => !(q.1 == i.val) && (!(q.1 == i.val + 1) && !(q.1 + 1 == i.val && q.2.category == 2))) = lv') (k : X l g E R nL ws cl sl lv' (pc + 1) rest) : X l g E R nL ws cl sl lv pc (Jv z :: rest) := by
  obtain ⟨p, e, s, m, args, below, meth, c, A, Q⟩ := E
  obtain ⟨hx, hb, hml, hown, hts, hK, hlck, hA, hnm⟩ := C
  intro H locs ls hP hD hS hl
  exact lv_lstore_n hx hb hd rfl hl hn hl2 (fun ls' hl' => k H locs ls' hP hD hS hl')
theorem x_lstore (C : Cx l g E R own nm cc Ts nL) {i : Nat} {z : Int} (hd : decode cc pc = .ok (.lstore i, 2)) (hn : i + 1 < nL) (hl2 : (i, Jv z) :: lv.filter (fun q => !(q.1 == i) && (!(q.1 == i + 1) && !(q.1 + 1 == i && q.2.category == 2))) = lv') (k : X l g E R nL ws cl sl lv' (pc + 2) rest) : X l g E R nL ws cl sl lv pc (Jv z :: rest) := by
  obtain ⟨p, e, s, m, args, below, meth, c, A, Q⟩ := E
  obtain ⟨hx, hb, hml, hown, hts, hK, hlck, hA, hnm⟩ := C
  intro H locs ls hP hD hS hl
  exact lv_lstore hx hb hd hl hn hl2 (fun ls' hl' => k H locs ls' hP hD hS hl')
theorem x_lstore_nR (C : Cx l g E R own nm cc Ts nL) {i : Fin 4} {z : Int64} (hd : decode cc pc = .ok (.lstore_n i, 1)) (hn : i.val + 1 < nL) (hl2 : (i.val, .long z) :: lv.filter (fun q => !(q.1 == i.val) && (!(q.1 == i.val + 1) && !(q.1 + 1 == i.val && q.2.category == 2))) = lv') (k : X l g E R nL ws cl sl lv' (pc + 1) rest) : X l g E R nL ws cl sl lv pc (.long z :: rest) := by
  obtain ⟨p, e, s, m, args, below, meth, c, A, Q⟩ := E
  obtain ⟨hx, hb, hml, hown, hts, hK, hlck, hA, hnm⟩ := C
  intro H locs ls hP hD hS hl
  exact lv_lstore_n hx hb hd rfl hl hn hl2 (fun ls' hl' => k H locs ls' hP hD hS hl')
theorem x_astore_n (C : Cx l g E R own nm cc Ts nL) {i : Fin 4} {a : Nat} (hd : decode cc pc = .ok (.astore_n i, 1)) (hn : i.val < nL) (hl2 : (i.val, .ref a) :: lv.filter (fun q => !(q.1 == i.val) && !(q.1 + 1 == i.val && q.2.category == 2)) = lv') (k : X l g E R nL ws cl sl lv' (pc + 1) rest) : X l g E R nL ws cl sl lv pc (.ref a :: rest) := by
  obtain ⟨p, e, s, m, args, below, meth, c, A, Q⟩ := E
  obtain ⟨hx, hb, hml, hown, hts, hK, hlck, hA, hnm⟩ := C
  intro H locs ls hP hD hS hl
  exact lv_astore_n hx hb hd rfl hl hn hl2 (fun ls' hl' => k H locs ls' hP hD hS hl')
theorem x_iinc (C : Cx l g E R own nm cc Ts nL) {i : Nat} {n z : Int} (j : Nat) (hd : decode cc pc = .ok (.iinc i n, 3)) (hj : lv[j]? = some (i, jv z)) (hn : i < nL) (hl2 : (i, jv (z + n)) :: lv.filter (fun q => !(q.1 == i) && !(q.1 + 1 == i && q.2.category == 2)) = lv') (k : X l g E R nL ws cl sl lv' (pc + 3) rest) : X l g E R nL ws cl sl lv pc rest := by
  obtain ⟨p, e, s, m, args, below, meth, c, A, Q⟩ := E
  obtain ⟨hx, hb, hml, hown, hts, hK, hlck, hA, hnm⟩ := C
  intro H locs ls hP hD hS hl
  exact lv_iinc (v := iI (z + n)) hx hb hd hl hj (iI_add z n) hn hl2 (fun ls' hl' => k H locs ls' hP hD hS hl')
theorem x_iadd (C : Cx l g E R own nm cc Ts nL) {a b : Int} (hd : decode cc pc = .ok (.iadd, 1))  (k : X l g E R nL ws cl sl lv (pc + 1) (jv (a + b) :: rest)) : X l g E R nL ws cl sl lv pc (jv b :: jv a :: rest) := by
  obtain ⟨p, e, s, m, args, below, meth, c, A, Q⟩ := E
  obtain ⟨hx, hb, hml, hown, hts, hK, hlck, hA, hnm⟩ := C
  intro H locs ls hP hD hS hl
  have k := k H locs ls hP hD hS hl
  refine lv_iadd hx hb hd ?_
  rw [iI_add]
  exact k
theorem x_isub (C : Cx l g E R own nm cc Ts nL) {a b : Int} (hd : decode cc pc = .ok (.isub, 1))  (k : X l g E R nL ws cl sl lv (pc + 1) (jv (a - b) :: rest)) : X l g E R nL ws cl sl lv pc (jv b :: jv a :: rest) := by
  obtain ⟨p, e, s, m, args, below, meth, c, A, Q⟩ := E
  obtain ⟨hx, hb, hml, hown, hts, hK, hlck, hA, hnm⟩ := C
  intro H locs ls hP hD hS hl
  have k := k H locs ls hP hD hS hl
  refine lv_isub hx hb hd ?_
  rw [iI_sub]
  exact k
theorem x_imul (C : Cx l g E R own nm cc Ts nL) {a b : Int} (hd : decode cc pc = .ok (.imul, 1))  (k : X l g E R nL ws cl sl lv (pc + 1) (jv (a * b) :: rest)) : X l g E R nL ws cl sl lv pc (jv b :: jv a :: rest) := by
  obtain ⟨p, e, s, m, args, below, meth, c, A, Q⟩ := E
  obtain ⟨hx, hb, hml, hown, hts, hK, hlck, hA, hnm⟩ := C
  intro H locs ls hP hD hS hl
  have k := k H locs ls hP hD hS hl
  refine lv_imul hx hb hd ?_
  rw [iI_mul]
  exact k
theorem x_ladd (C : Cx l g E R own nm cc Ts nL) {a b : Int} (hd : decode cc pc = .ok (.ladd, 1))  (k : X l g E R nL ws cl sl lv (pc + 1) (Jv (a + b) :: rest)) : X l g E R nL ws cl sl lv pc (Jv b :: Jv a :: rest) := by
  obtain ⟨p, e, s, m, args, below, meth, c, A, Q⟩ := E
  obtain ⟨hx, hb, hml, hown, hts, hK, hlck, hA, hnm⟩ := C
  intro H locs ls hP hD hS hl
  have k := k H locs ls hP hD hS hl
  refine lv_ladd hx hb hd ?_
  rw [lI_add]
  exact k
theorem x_lsub (C : Cx l g E R own nm cc Ts nL) {a b : Int} (hd : decode cc pc = .ok (.lsub, 1))  (k : X l g E R nL ws cl sl lv (pc + 1) (Jv (a - b) :: rest)) : X l g E R nL ws cl sl lv pc (Jv b :: Jv a :: rest) := by
  obtain ⟨p, e, s, m, args, below, meth, c, A, Q⟩ := E
  obtain ⟨hx, hb, hml, hown, hts, hK, hlck, hA, hnm⟩ := C
  intro H locs ls hP hD hS hl
  have k := k H locs ls hP hD hS hl
  refine lv_lsub hx hb hd ?_
  rw [lI_sub]
  exact k
theorem x_lmul (C : Cx l g E R own nm cc Ts nL) {a b : Int} (hd : decode cc pc = .ok (.lmul, 1))  (k : X l g E R nL ws cl sl lv (pc + 1) (Jv (a * b) :: rest)) : X l g E R nL ws cl sl lv pc (Jv b :: Jv a :: rest) := by
  obtain ⟨p, e, s, m, args, below, meth, c, A, Q⟩ := E
  obtain ⟨hx, hb, hml, hown, hts, hK, hlck, hA, hnm⟩ := C
  intro H locs ls hP hD hS hl
  have k := k H locs ls hP hD hS hl
  refine lv_lmul hx hb hd ?_
  rw [lI_mul]
  exact k
theorem x_idiv (C : Cx l g E R own nm cc Ts nL) {a b : Int} (hd : decode cc pc = .ok (.idiv, 1)) (ha : Rg a) (hb2 : Rg b) (hne : b ≠ 0) (k : X l g E R nL ws cl sl lv (pc + 1) (jv (a.tdiv b) :: rest)) : X l g E R nL ws cl sl lv pc (jv b :: jv a :: rest) := by
  obtain ⟨p, e, s, m, args, below, meth, c, A, Q⟩ := E
  obtain ⟨hx, hb, hml, hown, hts, hK, hlck, hA, hnm⟩ := C
  intro H locs ls hP hD hS hl
  have k := k H locs ls hP hD hS hl
  refine lv_idiv hx hb hd (fun h => hne ((iI_eq hb2 Rg_0).mp h)) ?_
  rw [iI_div ha hb2]
  exact k
theorem x_irem (C : Cx l g E R own nm cc Ts nL) {a b : Int} (hd : decode cc pc = .ok (.irem, 1)) (ha : Rg a) (hb2 : Rg b) (hne : b ≠ 0) (k : X l g E R nL ws cl sl lv (pc + 1) (jv (a.tmod b) :: rest)) : X l g E R nL ws cl sl lv pc (jv b :: jv a :: rest) := by
  obtain ⟨p, e, s, m, args, below, meth, c, A, Q⟩ := E
  obtain ⟨hx, hb, hml, hown, hts, hK, hlck, hA, hnm⟩ := C
  intro H locs ls hP hD hS hl
  have k := k H locs ls hP hD hS hl
  refine lv_irem hx hb hd (fun h => hne ((iI_eq hb2 Rg_0).mp h)) ?_
  rw [iI_rem ha hb2]
  exact k
theorem x_ldiv (C : Cx l g E R own nm cc Ts nL) {a b : Int} (hd : decode cc pc = .ok (.ldiv, 1)) (ha : Rl a) (hb2 : Rl b) (hne : b ≠ 0) (k : X l g E R nL ws cl sl lv (pc + 1) (Jv (a.tdiv b) :: rest)) : X l g E R nL ws cl sl lv pc (Jv b :: Jv a :: rest) := by
  obtain ⟨p, e, s, m, args, below, meth, c, A, Q⟩ := E
  obtain ⟨hx, hb, hml, hown, hts, hK, hlck, hA, hnm⟩ := C
  intro H locs ls hP hD hS hl
  have k := k H locs ls hP hD hS hl
  refine lv_ldiv hx hb hd (fun h => hne ((lI_eq hb2 Rl_0).mp h)) ?_
  rw [lI_div ha hb2]
  exact k
theorem x_lrem (C : Cx l g E R own nm cc Ts nL) {a b : Int} (hd : decode cc pc = .ok (.lrem, 1)) (ha : Rl a) (hb2 : Rl b) (hne : b ≠ 0) (k : X l g E R nL ws cl sl lv (pc + 1) (Jv (a.tmod b) :: rest)) : X l g E R nL ws cl sl lv pc (Jv b :: Jv a :: rest) := by
  obtain ⟨p, e, s, m, args, below, meth, c, A, Q⟩ := E
  obtain ⟨hx, hb, hml, hown, hts, hK, hlck, hA, hnm⟩ := C
  intro H locs ls hP hD hS hl
  have k := k H locs ls hP hD hS hl
  refine lv_lrem hx hb hd (fun h => hne ((lI_eq hb2 Rl_0).mp h)) ?_
  rw [lI_rem ha hb2]
  exact k
theorem x_i2l (C : Cx l g E R own nm cc Ts nL) {a : Int} (hd : decode cc pc = .ok (.i2l, 1)) (ha : Rg a) (k : X l g E R nL ws cl sl lv (pc + 1) (Jv a :: rest)) : X l g E R nL ws cl sl lv pc (jv a :: rest) := by
  obtain ⟨p, e, s, m, args, below, meth, c, A, Q⟩ := E
  obtain ⟨hx, hb, hml, hown, hts, hK, hlck, hA, hnm⟩ := C
  intro H locs ls hP hD hS hl
  exact lv_i2l hx hb hd (iI_l ha) (k H locs ls hP hD hS hl)
theorem x_l2i (C : Cx l g E R own nm cc Ts nL) {a : Int} (hd : decode cc pc = .ok (.l2i, 1))  (k : X l g E R nL ws cl sl lv (pc + 1) (jv a :: rest)) : X l g E R nL ws cl sl lv pc (Jv a :: rest) := by
  obtain ⟨p, e, s, m, args, below, meth, c, A, Q⟩ := E
  obtain ⟨hx, hb, hml, hown, hts, hK, hlck, hA, hnm⟩ := C
  intro H locs ls hP hD hS hl
  exact lv_l2i hx hb hd (lI_i a) (k H locs ls hP hD hS hl)
theorem x_l2iR (C : Cx l g E R own nm cc Ts nL) {a : Int64} (hd : decode cc pc = .ok (.l2i, 1))  (k : X l g E R nL ws cl sl lv (pc + 1) (.int a.toInt32 :: rest)) : X l g E R nL ws cl sl lv pc (.long a :: rest) := by
  obtain ⟨p, e, s, m, args, below, meth, c, A, Q⟩ := E
  obtain ⟨hx, hb, hml, hown, hts, hK, hlck, hA, hnm⟩ := C
  intro H locs ls hP hD hS hl
  exact lv_l2i hx hb hd rfl (k H locs ls hP hD hS hl)
theorem x_ineg (C : Cx l g E R own nm cc Ts nL) {a : Int} (hd : decode cc pc = .ok (.ineg, 1)) (k : X l g E R nL ws cl sl lv (pc + 1) (jv (-a) :: rest)) : X l g E R nL ws cl sl lv pc (jv a :: rest) := by
  obtain ⟨p, e, s, m, args, below, meth, c, A, Q⟩ := E
  obtain ⟨hx, hb, hml, hown, hts, hK, hlck, hA, hnm⟩ := C
  intro H locs ls hP hD hS hl
  have k := k H locs ls hP hD hS hl
  refine lv_ineg hx hb hd ?_
  rw [iI_neg]
  exact k
theorem x_lneg (C : Cx l g E R own nm cc Ts nL) {a : Int} (hd : decode cc pc = .ok (.lneg, 1)) (k : X l g E R nL ws cl sl lv (pc + 1) (Jv (-a) :: rest)) : X l g E R nL ws cl sl lv pc (Jv a :: rest) := by
  obtain ⟨p, e, s, m, args, below, meth, c, A, Q⟩ := E
  obtain ⟨hx, hb, hml, hown, hts, hK, hlck, hA, hnm⟩ := C
  intro H locs ls hP hD hS hl
  have k := k H locs ls hP hD hS hl
  refine lv_lneg hx hb hd ?_
  rw [lI_neg]
  exact k
theorem x_lorR (C : Cx l g E R own nm cc Ts nL) {a b : Int64} (hd : decode cc pc = .ok (.lor, 1))  (k : X l g E R nL ws cl sl lv (pc + 1) (.long (a ||| b) :: rest)) : X l g E R nL ws cl sl lv pc (.long b :: .long a :: rest) := by
  obtain ⟨p, e, s, m, args, below, meth, c, A, Q⟩ := E
  obtain ⟨hx, hb, hml, hown, hts, hK, hlck, hA, hnm⟩ := C
  intro H locs ls hP hD hS hl
  exact lv_lor hx hb hd (k H locs ls hP hD hS hl)
theorem x_landR (C : Cx l g E R own nm cc Ts nL) {a b : Int64} (hd : decode cc pc = .ok (.land, 1))  (k : X l g E R nL ws cl sl lv (pc + 1) (.long (a &&& b) :: rest)) : X l g E R nL ws cl sl lv pc (.long b :: .long a :: rest) := by
  obtain ⟨p, e, s, m, args, below, meth, c, A, Q⟩ := E
  obtain ⟨hx, hb, hml, hown, hts, hK, hlck, hA, hnm⟩ := C
  intro H locs ls hP hD hS hl
  exact lv_land hx hb hd (k H locs ls hP hD hS hl)
theorem x_laddR (C : Cx l g E R own nm cc Ts nL) {a b : Int64} (hd : decode cc pc = .ok (.ladd, 1))  (k : X l g E R nL ws cl sl lv (pc + 1) (.long (a + b) :: rest)) : X l g E R nL ws cl sl lv pc (.long b :: .long a :: rest) := by
  obtain ⟨p, e, s, m, args, below, meth, c, A, Q⟩ := E
  obtain ⟨hx, hb, hml, hown, hts, hK, hlck, hA, hnm⟩ := C
  intro H locs ls hP hD hS hl
  exact lv_ladd hx hb hd (k H locs ls hP hD hS hl)
theorem x_lsubR (C : Cx l g E R own nm cc Ts nL) {a b : Int64} (hd : decode cc pc = .ok (.lsub, 1))  (k : X l g E R nL ws cl sl lv (pc + 1) (.long (a - b) :: rest)) : X l g E R nL ws cl sl lv pc (.long b :: .long a :: rest) := by
  obtain ⟨p, e, s, m, args, below, meth, c, A, Q⟩ := E
  obtain ⟨hx, hb, hml, hown, hts, hK, hlck, hA, hnm⟩ := C
  intro H locs ls hP hD hS hl
  exact lv_lsub hx hb hd (k H locs ls hP hD hS hl)
theorem x_lshlR (C : Cx l g E R own nm cc Ts nL) {a : Int64} {b : Int32} (hd : decode cc pc = .ok (.lshl, 1))  (k : X l g E R nL ws cl sl lv (pc + 1) (.long (a <<< (b.toInt64 &&& 63)) :: rest)) : X l g E R nL ws cl sl lv pc (.int b :: .long a :: rest) := by
  obtain ⟨p, e, s, m, args, below, meth, c, A, Q⟩ := E
  obtain ⟨hx, hb, hml, hown, hts, hK, hlck, hA, hnm⟩ := C
  intro H locs ls hP hD hS hl
  exact lv_lshl hx hb hd rfl (k H locs ls hP hD hS hl)
theorem x_lushrR (C : Cx l g E R own nm cc Ts nL) {a : Int64} {b : Int32} (hd : decode cc pc = .ok (.lushr, 1))  (k : X l g E R nL ws cl sl lv (pc + 1) (.long ((a.toUInt64 >>> (b.toInt64.toUInt64 &&& Int64.toUInt64 63)).toInt64) :: rest)) : X l g E R nL ws cl sl lv pc (.int b :: .long a :: rest) := by
  obtain ⟨p, e, s, m, args, below, meth, c, A, Q⟩ := E
  obtain ⟨hx, hb, hml, hown, hts, hK, hlck, hA, hnm⟩ := C
  intro H locs ls hP hD hS hl
  exact lv_lushr hx hb hd rfl (k H locs ls hP hD hS hl)
theorem x_iandR (C : Cx l g E R own nm cc Ts nL) {a b : Int32} (hd : decode cc pc = .ok (.iand, 1))  (k : X l g E R nL ws cl sl lv (pc + 1) (.int (a &&& b) :: rest)) : X l g E R nL ws cl sl lv pc (.int b :: .int a :: rest) := by
  obtain ⟨p, e, s, m, args, below, meth, c, A, Q⟩ := E
  obtain ⟨hx, hb, hml, hown, hts, hK, hlck, hA, hnm⟩ := C
  intro H locs ls hP hD hS hl
  exact lv_iand hx hb hd (k H locs ls hP hD hS hl)
theorem x_dup (C : Cx l g E R own nm cc Ts nL) {v : Value} (hd : decode cc pc = .ok (.dup, 1)) (hv : v.category = 1) (k : X l g E R nL ws cl sl lv (pc + 1) (v :: v :: rest)) : X l g E R nL ws cl sl lv pc (v :: rest) := by
  obtain ⟨p, e, s, m, args, below, meth, c, A, Q⟩ := E
  obtain ⟨hx, hb, hml, hown, hts, hK, hlck, hA, hnm⟩ := C
  intro H locs ls hP hD hS hl
  exact lv_dup hx hb hd hv (k H locs ls hP hD hS hl)
theorem x_pop (C : Cx l g E R own nm cc Ts nL) {v : Value} (hd : decode cc pc = .ok (.pop, 1)) (hv : v.category = 1) (k : X l g E R nL ws cl sl lv (pc + 1) (rest)) : X l g E R nL ws cl sl lv pc (v :: rest) := by
  obtain ⟨p, e, s, m, args, below, meth, c, A, Q⟩ := E
  obtain ⟨hx, hb, hml, hown, hts, hK, hlck, hA, hnm⟩ := C
  intro H locs ls hP hD hS hl
  exact lv_pop hx hb hd hv (k H locs ls hP hD hS hl)
theorem x_lconstR (C : Cx l g E R own nm cc Ts nL) {n : Fin 2} {z : Int64} (hd : decode cc pc = .ok (.lconst n, 1)) (hv : Int64.ofNat (n : Nat) = z) (k : X l g E R nL ws cl sl lv (pc + 1) (.long z :: rest)) : X l g E R nL ws cl sl lv pc (rest) := by
  obtain ⟨p, e, s, m, args, below, meth, c, A, Q⟩ := E
  obtain ⟨hx, hb, hml, hown, hts, hK, hlck, hA, hnm⟩ := C
  intro H locs ls hP hD hS hl
  exact lv_lconst hx hb hd hv (k H locs ls hP hD hS hl)
theorem x_lcmp (C : Cx l g E R own nm cc Ts nL) {a b : Int} (hd : decode cc pc = .ok (.lcmp, 1)) (ha : Rl a) (hb2 : Rl b) (k1 : a < b → X l g E R nL ws cl sl lv (pc + 1) (jv (-1) :: rest)) (k2 : a = b → X l g E R nL ws cl sl lv (pc + 1) (jv 0 :: rest)) (k3 : b < a → X l g E R nL ws cl sl lv (pc + 1) (jv 1 :: rest)) : X l g E R nL ws cl sl lv pc (Jv b :: Jv a :: rest) := by
  obtain ⟨p, e, s, m, args, below, meth, c, A, Q⟩ := E
  obtain ⟨hx, hb, hml, hown, hts, hK, hlck, hA, hnm⟩ := C
  intro H locs ls hP hD hS hl
  refine W.lcmp hx hb hd ?_
  rcases Int.lt_trichotomy a b with h | h | h
  · have := k1 h H locs ls hP hD hS hl
    have e : lg_cmp (lI a) (lI b) = iI (-1) := by
      unfold lg_cmp
      have h1 : lI a < lI b := (lI_lt ha hb2).mpr h
      have h2 : ¬ lI b < lI a := fun q => by have := (lI_lt hb2 ha).mp q; omega
      have h3 : ¬ lI a = lI b := fun q => by have := (lI_eq ha hb2).mp q; omega
      simp [h1, h2, h3]
      try rfl
    rw [e]
    exact this
  · have := k2 h H locs ls hP hD hS hl
    have e : lg_cmp (lI a) (lI b) = iI 0 := by
      subst h
      unfold lg_cmp
      have h2 : ¬ lI a < lI a := fun q => by have := (lI_lt ha ha).mp q; omega
      simp [h2]
      try rfl
    rw [e]
    exact this
  · have := k3 h H locs ls hP hD hS hl
    have e : lg_cmp (lI a) (lI b) = iI 1 := by
      unfold lg_cmp
      have h1 : lI b < lI a := (lI_lt hb2 ha).mpr h
      have h2 : ¬ lI a < lI b := fun q => by have := (lI_lt ha hb2).mp q; omega
      have h3 : ¬ lI a = lI b := fun q => by have := (lI_eq ha hb2).mp q; omega
      simp [h1, h2, h3]
      try rfl
    rw [e]
    exact this
theorem x_icmp_eq (C : Cx l g E R own nm cc Ts nL) {a b off : Int} (tgt : Nat) (hd : decode cc pc = .ok (.if_icmp .eq off, 3)) (ht : (pc : Int) + off = (tgt : Int)) (ha : Rg a) (hb2 : Rg b) (kt : a = b → X l g E R nL ws cl sl lv tgt rest) (kf : ¬ a = b → X l g E R nL ws cl sl lv (pc + 3) rest) : X l g E R nL ws cl sl lv pc (jv b :: jv a :: rest) := by
  obtain ⟨p, e, s, m, args, below, meth, c, A, Q⟩ := E
  obtain ⟨hx, hb, hml, hown, hts, hK, hlck, hA, hnm⟩ := C
  intro H locs ls hP hD hS hl
  exact lv_icmp_eq hx hb hd ht (fun h => kt ((iI_eq ha hb2).mp h) H locs ls hP hD hS hl) (fun h => kf (fun q => h ((iI_eq ha hb2).mpr q)) H locs ls hP hD hS hl)
theorem x_icmp_ne (C : Cx l g E R own nm cc Ts nL) {a b off : Int} (tgt : Nat) (hd : decode cc pc = .ok (.if_icmp .ne off, 3)) (ht : (pc : Int) + off = (tgt : Int)) (ha : Rg a) (hb2 : Rg b) (kt : ¬ a = b → X l g E R nL ws cl sl lv tgt rest) (kf : a = b → X l g E R nL ws cl sl lv (pc + 3) rest) : X l g E R nL ws cl sl lv pc (jv b :: jv a :: rest) := by
  obtain ⟨p, e, s, m, args, below, meth, c, A, Q⟩ := E
  obtain ⟨hx, hb, hml, hown, hts, hK, hlck, hA, hnm⟩ := C
  intro H locs ls hP hD hS hl
  exact lv_icmp_ne hx hb hd ht (fun h => kt (fun q => h ((iI_eq ha hb2).mpr q)) H locs ls hP hD hS hl) (fun h => kf ((iI_eq ha hb2).mp h) H locs ls hP hD hS hl)
theorem x_icmp_lt (C : Cx l g E R own nm cc Ts nL) {a b off : Int} (tgt : Nat) (hd : decode cc pc = .ok (.if_icmp .lt off, 3)) (ht : (pc : Int) + off = (tgt : Int)) (ha : Rg a) (hb2 : Rg b) (kt : a < b → X l g E R nL ws cl sl lv tgt rest) (kf : ¬ a < b → X l g E R nL ws cl sl lv (pc + 3) rest) : X l g E R nL ws cl sl lv pc (jv b :: jv a :: rest) := by
  obtain ⟨p, e, s, m, args, below, meth, c, A, Q⟩ := E
  obtain ⟨hx, hb, hml, hown, hts, hK, hlck, hA, hnm⟩ := C
  intro H locs ls hP hD hS hl
  exact lv_icmp_lt hx hb hd ht (fun h => kt ((iI_lt ha hb2).mp h) H locs ls hP hD hS hl) (fun h => kf (fun q => h ((iI_lt ha hb2).mpr q)) H locs ls hP hD hS hl)
theorem x_icmp_ge (C : Cx l g E R own nm cc Ts nL) {a b off : Int} (tgt : Nat) (hd : decode cc pc = .ok (.if_icmp .ge off, 3)) (ht : (pc : Int) + off = (tgt : Int)) (ha : Rg a) (hb2 : Rg b) (kt : b ≤ a → X l g E R nL ws cl sl lv tgt rest) (kf : ¬ b ≤ a → X l g E R nL ws cl sl lv (pc + 3) rest) : X l g E R nL ws cl sl lv pc (jv b :: jv a :: rest) := by
  obtain ⟨p, e, s, m, args, below, meth, c, A, Q⟩ := E
  obtain ⟨hx, hb, hml, hown, hts, hK, hlck, hA, hnm⟩ := C
  intro H locs ls hP hD hS hl
  exact lv_icmp_ge hx hb hd ht (fun h => kt ((iI_le hb2 ha).mp h) H locs ls hP hD hS hl) (fun h => kf (fun q => h ((iI_le hb2 ha).mpr q)) H locs ls hP hD hS hl)
theorem x_icmp_gt (C : Cx l g E R own nm cc Ts nL) {a b off : Int} (tgt : Nat) (hd : decode cc pc = .ok (.if_icmp .gt off, 3)) (ht : (pc : Int) + off = (tgt : Int)) (ha : Rg a) (hb2 : Rg b) (kt : b < a → X l g E R nL ws cl sl lv tgt rest) (kf : ¬ b < a → X l g E R nL ws cl sl lv (pc + 3) rest) : X l g E R nL ws cl sl lv pc (jv b :: jv a :: rest) := by
  obtain ⟨p, e, s, m, args, below, meth, c, A, Q⟩ := E
  obtain ⟨hx, hb, hml, hown, hts, hK, hlck, hA, hnm⟩ := C
  intro H locs ls hP hD hS hl
  exact lv_icmp_gt hx hb hd ht (fun h => kt ((iI_lt hb2 ha).mp h) H locs ls hP hD hS hl) (fun h => kf (fun q => h ((iI_lt hb2 ha).mpr q)) H locs ls hP hD hS hl)
theorem x_icmp_le (C : Cx l g E R own nm cc Ts nL) {a b off : Int} (tgt : Nat) (hd : decode cc pc = .ok (.if_icmp .le off, 3)) (ht : (pc : Int) + off = (tgt : Int)) (ha : Rg a) (hb2 : Rg b) (kt : a ≤ b → X l g E R nL ws cl sl lv tgt rest) (kf : ¬ a ≤ b → X l g E R nL ws cl sl lv (pc + 3) rest) : X l g E R nL ws cl sl lv pc (jv b :: jv a :: rest) := by
  obtain ⟨p, e, s, m, args, below, meth, c, A, Q⟩ := E
  obtain ⟨hx, hb, hml, hown, hts, hK, hlck, hA, hnm⟩ := C
  intro H locs ls hP hD hS hl
  exact lv_icmp_le hx hb hd ht (fun h => kt ((iI_le ha hb2).mp h) H locs ls hP hD hS hl) (fun h => kf (fun q => h ((iI_le ha hb2).mpr q)) H locs ls hP hD hS hl)
theorem x_if_eq (C : Cx l g E R own nm cc Ts nL) {a off : Int} (tgt : Nat) (hd : decode cc pc = .ok (.ifCond .eq off, 3)) (ht : (pc : Int) + off = (tgt : Int)) (ha : Rg a) (kt : a = 0 → X l g E R nL ws cl sl lv tgt rest) (kf : ¬ a = 0 → X l g E R nL ws cl sl lv (pc + 3) rest) : X l g E R nL ws cl sl lv pc (jv a :: rest) := by
  obtain ⟨p, e, s, m, args, below, meth, c, A, Q⟩ := E
  obtain ⟨hx, hb, hml, hown, hts, hK, hlck, hA, hnm⟩ := C
  intro H locs ls hP hD hS hl
  exact lv_if_eq hx hb hd ht (fun h => kt ((iI_eq ha Rg_0).mp h) H locs ls hP hD hS hl) (fun h => kf (fun q => h ((iI_eq ha Rg_0).mpr q)) H locs ls hP hD hS hl)
theorem x_if_ne (C : Cx l g E R own nm cc Ts nL) {a off : Int} (tgt : Nat) (hd : decode cc pc = .ok (.ifCond .ne off, 3)) (ht : (pc : Int) + off = (tgt : Int)) (ha : Rg a) (kt : ¬ a = 0 → X l g E R nL ws cl sl lv tgt rest) (kf : a = 0 → X l g E R nL ws cl sl lv (pc + 3) rest) : X l g E R nL ws cl sl lv pc (jv a :: rest) := by
  obtain ⟨p, e, s, m, args, below, meth, c, A, Q⟩ := E
  obtain ⟨hx, hb, hml, hown, hts, hK, hlck, hA, hnm⟩ := C
  intro H locs ls hP hD hS hl
  exact lv_if_ne hx hb hd ht (fun h => kt (fun q => h ((iI_eq ha Rg_0).mpr q)) H locs ls hP hD hS hl) (fun h => kf ((iI_eq ha Rg_0).mp h) H locs ls hP hD hS hl)
theorem x_if_lt (C : Cx l g E R own nm cc Ts nL) {a off : Int} (tgt : Nat) (hd : decode cc pc = .ok (.ifCond .lt off, 3)) (ht : (pc : Int) + off = (tgt : Int)) (ha : Rg a) (kt : a < 0 → X l g E R nL ws cl sl lv tgt rest) (kf : ¬ a < 0 → X l g E R nL ws cl sl lv (pc + 3) rest) : X l g E R nL ws cl sl lv pc (jv a :: rest) := by
  obtain ⟨p, e, s, m, args, below, meth, c, A, Q⟩ := E
  obtain ⟨hx, hb, hml, hown, hts, hK, hlck, hA, hnm⟩ := C
  intro H locs ls hP hD hS hl
  exact lv_if_lt hx hb hd ht (fun h => kt ((iI_lt ha Rg_0).mp h) H locs ls hP hD hS hl) (fun h => kf (fun q => h ((iI_lt ha Rg_0).mpr q)) H locs ls hP hD hS hl)
theorem x_if_ge (C : Cx l g E R own nm cc Ts nL) {a off : Int} (tgt : Nat) (hd : decode cc pc = .ok (.ifCond .ge off, 3)) (ht : (pc : Int) + off = (tgt : Int)) (ha : Rg a) (kt : 0 ≤ a → X l g E R nL ws cl sl lv tgt rest) (kf : ¬ 0 ≤ a → X l g E R nL ws cl sl lv (pc + 3) rest) : X l g E R nL ws cl sl lv pc (jv a :: rest) := by
  obtain ⟨p, e, s, m, args, below, meth, c, A, Q⟩ := E
  obtain ⟨hx, hb, hml, hown, hts, hK, hlck, hA, hnm⟩ := C
  intro H locs ls hP hD hS hl
  exact lv_if_ge hx hb hd ht (fun h => kt ((iI_le Rg_0 ha).mp h) H locs ls hP hD hS hl) (fun h => kf (fun q => h ((iI_le Rg_0 ha).mpr q)) H locs ls hP hD hS hl)
theorem x_if_gt (C : Cx l g E R own nm cc Ts nL) {a off : Int} (tgt : Nat) (hd : decode cc pc = .ok (.ifCond .gt off, 3)) (ht : (pc : Int) + off = (tgt : Int)) (ha : Rg a) (kt : 0 < a → X l g E R nL ws cl sl lv tgt rest) (kf : ¬ 0 < a → X l g E R nL ws cl sl lv (pc + 3) rest) : X l g E R nL ws cl sl lv pc (jv a :: rest) := by
  obtain ⟨p, e, s, m, args, below, meth, c, A, Q⟩ := E
  obtain ⟨hx, hb, hml, hown, hts, hK, hlck, hA, hnm⟩ := C
  intro H locs ls hP hD hS hl
  exact lv_if_gt hx hb hd ht (fun h => kt ((iI_lt Rg_0 ha).mp h) H locs ls hP hD hS hl) (fun h => kf (fun q => h ((iI_lt Rg_0 ha).mpr q)) H locs ls hP hD hS hl)
theorem x_if_le (C : Cx l g E R own nm cc Ts nL) {a off : Int} (tgt : Nat) (hd : decode cc pc = .ok (.ifCond .le off, 3)) (ht : (pc : Int) + off = (tgt : Int)) (ha : Rg a) (kt : a ≤ 0 → X l g E R nL ws cl sl lv tgt rest) (kf : ¬ a ≤ 0 → X l g E R nL ws cl sl lv (pc + 3) rest) : X l g E R nL ws cl sl lv pc (jv a :: rest) := by
  obtain ⟨p, e, s, m, args, below, meth, c, A, Q⟩ := E
  obtain ⟨hx, hb, hml, hown, hts, hK, hlck, hA, hnm⟩ := C
  intro H locs ls hP hD hS hl
  exact lv_if_le hx hb hd ht (fun h => kt ((iI_le ha Rg_0).mp h) H locs ls hP hD hS hl) (fun h => kf (fun q => h ((iI_le ha Rg_0).mpr q)) H locs ls hP hD hS hl)
theorem x_goto (C : Cx l g E R own nm cc Ts nL) {off : Int} (tgt : Nat) (hd : decode cc pc = .ok (.goto off, 3)) (ht : (pc : Int) + off = (tgt : Int)) (k : X l g E R nL ws cl sl lv tgt rest) : X l g E R nL ws cl sl lv pc rest := by
  obtain ⟨p, e, s, m, args, below, meth, c, A, Q⟩ := E
  obtain ⟨hx, hb, hml, hown, hts, hK, hlck, hA, hnm⟩ := C
  intro H locs ls hP hD hS hl
  exact lv_goto hx hb hd ht (k H locs ls hP hD hS hl)
theorem x_tableIn (C : Cx l g E R own nm cc Ts nL) {dflt lo hi : Int} {offs : Array Int} {len : Nat} {a off : Int} (tgt : Nat) (hd : decode cc pc = .ok (.tableswitch dflt lo hi offs, len)) (ha : Rg a) (h1 : lo ≤ a) (h2 : a ≤ hi) (ho : offs[(a - lo).toNat]? = some off) (ht : (pc : Int) + off = (tgt : Int)) (k : X l g E R nL ws cl sl lv tgt rest) : X l g E R nL ws cl sl lv pc (jv a :: rest) := by
  obtain ⟨p, e, s, m, args, below, meth, c, A, Q⟩ := E
  obtain ⟨hx, hb, hml, hown, hts, hK, hlck, hA, hnm⟩ := C
  intro H locs ls hP hD hS hl
  exact lv_tableIn hx hb hd (by rw [iI_toInt ha]; omega) (by rw [iI_toInt ha]; omega) (by rw [iI_toInt ha]; exact ho) ht (k H locs ls hP hD hS hl)
theorem x_tableOut (C : Cx l g E R own nm cc Ts nL) {dflt lo hi : Int} {offs : Array Int} {len : Nat} {a : Int} (tgt : Nat) (hd : decode cc pc = .ok (.tableswitch dflt lo hi offs, len)) (ha : Rg a) (h : a < lo ∨ hi < a) (ht : (pc : Int) + dflt = (tgt : Int)) (k : X l g E R nL ws cl sl lv tgt rest) : X l g E R nL ws cl sl lv pc (jv a :: rest) := by
  obtain ⟨p, e, s, m, args, below, meth, c, A, Q⟩ := E
  obtain ⟨hx, hb, hml, hown, hts, hK, hlck, hA, hnm⟩ := C
  intro H locs ls hP hD hS hl
  exact lv_tableOut hx hb hd (by rw [iI_toInt ha]; exact h) ht (k H locs ls hP hD hS hl)
theorem x_get (C : Cx l g E R own nm cc Ts nL) {ref Cn : String} {T : u_T} {N ci i a : Nat} {fs : List Value} {v : Value} (q0 k : Nat) (hd : decode cc pc = .ok (.getfield i, 3)) (hin : ∀ w ∈ u_ws Cn T N, w ∈ Ts) (hlk : Cond.fieldLink own i ref (T k).2.1 (T k).2.2.1 ∈ Ts) (hrf : (T k).1 = ref) (he : ws[q0]? = some (a, ob ci fs)) (hc : vwCl[ci]? = some (Cn, T, N)) (hk : k < N) (hv : fs[k]? = some v) (kk : X l g E R nL ws cl sl lv (pc + 3) (v :: rest)) : X l g E R nL ws cl sl lv pc (.ref a :: rest) := by
  obtain ⟨p, e, s, m, args, below, meth, c, A, Q⟩ := E
  obtain ⟨hx, hb, hml, hown, hts, hK, hlk2, hA, hnm⟩ := C
  subst hrf
  intro H locs ls hP hD hS hl
  exact va_get hx hb hts hin hown hK hP q0 he hc k hk (hts _ hlk) (fun _ h => h) hv hd (kk H locs ls hP hD hS hl)
theorem x_put (C : Cx l g E R own nm cc Ts nL) {ref Cn : String} {T : u_T} {N ci i a : Nat} {fs : List Value} {v : Value} {ws' : va_W} {ty : FieldType} (ty0 : Nat → FieldType) (q0 k : Nat) (hd : decode cc pc = .ok (.putfield i, 3)) (hin : ∀ w ∈ u_ws Cn T N, w ∈ Ts) (hty : ∀ k, k < N → parseFieldDescriptor (T k).2.2.1 = some (ty0 k)) (hnm2 : ∀ a, a < N → ∀ b, b < N → a ≠ b → (T a).2.1 ≠ (T b).2.1) (hlk : Cond.fieldLink own i ref (T k).2.1 (T k).2.2.1 ∈ Ts) (hrf : (T k).1 = ref) (he : ws[q0]? = some (a, ob ci fs)) (hc : vwCl[ci]? = some (Cn, T, N)) (hk : k < N) (hfin : (T k).2.2.2 = false) (hde : parseFieldDescriptor (T k).2.2.1 = some ty) (hn : narrow ty v = v) (hfit : fits ty v = true) (hl2 : k < fs.length) (hw : ws.set q0 (a, ob ci (fs.set k v)) = ws') (kk : X l g E R nL ws' cl sl lv (pc + 3) rest) : X l g E R nL ws cl sl lv pc (v :: .ref a :: rest) := by
  obtain ⟨p, e, s, m, args, below, meth, c, A, Q⟩ := E
  obtain ⟨hx, hb, hml, hown, hts, hK, hlk2, hA, hnm⟩ := C
  subst hrf
  subst hw
  intro H locs ls hP hD hS hl
  exact va_put hx hb hts hin ty0 hty hnm2 hown hK hP hD hS q0 he hc k hk (hts _ hlk) (fun _ h => h) hfin hde hn hfit hl2 hd (fun H1 locs1 hP1 hD1 hS1 => kk H1 locs1 ls hP1 hD1 hS1 hl)
theorem x_putF (C : Cx l g E R own nm cc Ts nL) {Cn : String} {T : u_T} {N ci i a : Nat} {fs : List Value} {v : Value} {ws' : va_W} {ty : FieldType} (ty0 : Nat → FieldType) (q0 k : Nat) (hd : decode cc pc = .ok (.putfield i, 3)) (hin : ∀ w ∈ u_ws Cn T N, w ∈ Ts) (hty : ∀ k, k < N → parseFieldDescriptor (T k).2.2.1 = some (ty0 k)) (hnm2 : ∀ a, a < N → ∀ b, b < N → a ≠ b → (T a).2.1 ≠ (T b).2.1) (hlk : Cond.fieldLink own i own (T k).2.1 (T k).2.2.1 ∈ Ts) (hrf : (T k).1 = own) (he : ws[q0]? = some (a, ob ci fs)) (hc : vwCl[ci]? = some (Cn, T, N)) (hk : k < N) (hfin : (T k).2.2.2 = true) (hini : nm = "<init>") (hde : parseFieldDescriptor (T k).2.2.1 = some ty) (hn : narrow ty v = v) (hfit : fits ty v = true) (hl2 : k < fs.length) (hw : ws.set q0 (a, ob ci (fs.set k v)) = ws') (kk : X l g E R nL ws' cl sl lv (pc + 3) rest) : X l g E R nL ws cl sl lv pc (v :: .ref a :: rest) := by
  obtain ⟨p, e, s, m, args, below, meth, c, A, Q⟩ := E
  obtain ⟨hx, hb, hml, hown, hts, hK, hlk2, hA, hnm⟩ := C
  subst hw
  intro H locs ls hP hD hS hl
  exact va_putF hx hb hts hin ty0 hty hnm2 hown hK hP hD hS q0 he hc k hk (hts _ hlk) (fun _ h => by rw [← hrf]; exact h) hfin (hnm.trans hini) hrf hde hn hfit hl2 hd (fun H1 locs1 hP1 hD1 hS1 => kk H1 locs1 ls hP1 hD1 hS1 hl)
theorem x_iald (C : Cx l g E R own nm cc Ts nL) {a n : Nat} {f : Int → Int} {i : Int} (q0 : Nat) (hd : decode cc pc = .ok (.iaload, 1)) (ha : ws[q0]? = some (a, ai g n f)) (h0 : 0 ≤ i) (h1 : i < n) (hn : n < 2147483648) (k : X l g E R nL ws cl sl lv (pc + 1) (jv (f i) :: rest)) : X l g E R nL ws cl sl lv pc (jv i :: .ref a :: rest) := by
  obtain ⟨p, e, s, m, args, below, meth, c, A, Q⟩ := E
  obtain ⟨hx, hb, hml, hown, hts, hK, hlck, hA, hnm⟩ := C
  intro H locs ls hP hD hS hl
  have k := k H locs ls hP hD hS hl
  refine va_iald hx hb hK hP q0 0 ha rfl (iI_in h0 h1 hn) hd ?_
  rw [iI_nat h0 (by omega), Int.toNat_of_nonneg h0]
  exact k
theorem x_lald (C : Cx l g E R own nm cc Ts nL) {a n : Nat} {f : Int → Int} {i : Int} (q0 : Nat) (hd : decode cc pc = .ok (.laload, 1)) (ha : ws[q0]? = some (a, al g n f)) (h0 : 0 ≤ i) (h1 : i < n) (hn : n < 2147483648) (k : X l g E R nL ws cl sl lv (pc + 1) (Jv (f i) :: rest)) : X l g E R nL ws cl sl lv pc (jv i :: .ref a :: rest) := by
  obtain ⟨p, e, s, m, args, below, meth, c, A, Q⟩ := E
  obtain ⟨hx, hb, hml, hown, hts, hK, hlck, hA, hnm⟩ := C
  intro H locs ls hP hD hS hl
  have k := k H locs ls hP hD hS hl
  refine va_lald hx hb hK hP q0 1 ha rfl (iI_in h0 h1 hn) hd ?_
  rw [iI_nat h0 (by omega), Int.toNat_of_nonneg h0]
  exact k
theorem x_zald (C : Cx l g E R own nm cc Ts nL) {a n : Nat} {f : Int → Bool} {i : Int} (q0 : Nat) (hd : decode cc pc = .ok (.baload, 1)) (ha : ws[q0]? = some (a, az g n f)) (h0 : 0 ≤ i) (h1 : i < n) (hn : n < 2147483648) (k1 : f i = true → X l g E R nL ws cl sl lv (pc + 1) (jv 1 :: rest)) (k2 : f i = false → X l g E R nL ws cl sl lv (pc + 1) (jv 0 :: rest)) : X l g E R nL ws cl sl lv pc (jv i :: .ref a :: rest) := by
  obtain ⟨p, e, s, m, args, below, meth, c, A, Q⟩ := E
  obtain ⟨hx, hb, hml, hown, hts, hK, hlck, hA, hnm⟩ := C
  intro H locs ls hP hD hS hl
  refine va_zald hx hb hK hP q0 2 ha rfl (iI_in h0 h1 hn) hd ?_
  rw [iI_nat h0 (by omega), Int.toNat_of_nonneg h0]
  cases hf : f i with
  | true => exact k1 hf H locs ls hP hD hS hl
  | false => exact k2 hf H locs ls hP hD hS hl
theorem up_ai {f : Int → Int} {k v : Int} (h0 : 0 ≤ k) : upd (fun j => iI (f (j : Int))) k.toNat (iI v) = fun j : Nat => iI (up f k v (j : Int)) := by
  funext j
  unfold upd up
  by_cases h : j = k.toNat
  · rw [if_pos h, if_pos (by omega)]
  · rw [if_neg h, if_neg (by omega)]
theorem up_al {f : Int → Int} {k v : Int} (h0 : 0 ≤ k) : vp_updL (fun j => lI (f (j : Int))) k.toNat (lI v) = fun j : Nat => lI (up f k v (j : Int)) := by
  funext j
  unfold vp_updL up
  by_cases h : j = k.toNat
  · rw [if_pos h, if_pos (by omega)]
  · rw [if_neg h, if_neg (by omega)]
theorem up_az {f : Int → Bool} {k : Int} {v : Bool} (h0 : 0 ≤ k) : upd (fun j => bI (f (j : Int))) k.toNat (bI v) = fun j : Nat => bI (up f k v (j : Int)) := by
  funext j
  unfold upd up
  by_cases h : j = k.toNat
  · rw [if_pos h, if_pos (by omega)]
  · rw [if_neg h, if_neg (by omega)]
theorem x_iast (C : Cx l g E R own nm cc Ts nL) {a n : Nat} {f : Int → Int} {i v : Int} {ws' : va_W} (q0 : Nat) (hd : decode cc pc = .ok (.iastore, 1)) (ha : ws[q0]? = some (a, ai g n f)) (h0 : 0 ≤ i) (h1 : i < n) (hn : n < 2147483648) (hw : ws.set q0 (a, ai g n (up f i v)) = ws') (k : X l g E R nL ws' cl sl lv (pc + 1) rest) : X l g E R nL ws cl sl lv pc (jv v :: jv i :: .ref a :: rest) := by
  obtain ⟨p, e, s, m, args, below, meth, c, A, Q⟩ := E
  obtain ⟨hx, hb, hml, hown, hts, hK, hlck, hA, hnm⟩ := C
  subst hw
  intro H locs ls hP hD hS hl
  refine va_iast hx hb hK hP hD hS q0 0 ha rfl (iI_in h0 h1 hn) hd (fun H1 locs1 hP1 hD1 hS1 => ?_)
  rw [iI_nat h0 (by omega), up_ai h0] at hP1 hD1
  exact k H1 locs1 ls hP1 hD1 hS1 hl
theorem x_last (C : Cx l g E R own nm cc Ts nL) {a n : Nat} {f : Int → Int} {i v : Int} {ws' : va_W} (q0 : Nat) (hd : decode cc pc = .ok (.lastore, 1)) (ha : ws[q0]? = some (a, al g n f)) (h0 : 0 ≤ i) (h1 : i < n) (hn : n < 2147483648) (hw : ws.set q0 (a, al g n (up f i v)) = ws') (k : X l g E R nL ws' cl sl lv (pc + 1) rest) : X l g E R nL ws cl sl lv pc (Jv v :: jv i :: .ref a :: rest) := by
  obtain ⟨p, e, s, m, args, below, meth, c, A, Q⟩ := E
  obtain ⟨hx, hb, hml, hown, hts, hK, hlck, hA, hnm⟩ := C
  subst hw
  intro H locs ls hP hD hS hl
  refine va_last hx hb hK hP hD hS q0 1 ha rfl (iI_in h0 h1 hn) hd (fun H1 locs1 hP1 hD1 hS1 => ?_)
  rw [iI_nat h0 (by omega), up_al h0] at hP1 hD1
  exact k H1 locs1 ls hP1 hD1 hS1 hl
theorem vz0 : vp_nar .boolean (iI 0) = bI false := rfl
theorem vz1 : vp_nar .boolean (iI 1) = bI true := rfl
theorem x_zast (C : Cx l g E R own nm cc Ts nL) {a n : Nat} {f : Int → Bool} {i v : Int} (bv : Bool) {ws' : va_W} (q0 : Nat) (hd : decode cc pc = .ok (.bastore, 1)) (ha : ws[q0]? = some (a, az g n f)) (hbv : vp_nar .boolean (iI v) = bI bv) (h0 : 0 ≤ i) (h1 : i < n) (hn : n < 2147483648) (hw : ws.set q0 (a, az g n (up f i bv)) = ws') (k : X l g E R nL ws' cl sl lv (pc + 1) rest) : X l g E R nL ws cl sl lv pc (jv v :: jv i :: .ref a :: rest) := by
  obtain ⟨p, e, s, m, args, below, meth, c, A, Q⟩ := E
  obtain ⟨hx, hb, hml, hown, hts, hK, hlck, hA, hnm⟩ := C
  subst hw
  intro H locs ls hP hD hS hl
  refine va_zast hx hb hK hP hD hS q0 2 ha rfl (iI_in h0 h1 hn) hd (fun H1 locs1 hP1 hD1 hS1 => ?_)
  rw [iI_nat h0 (by omega), hbv, up_az h0] at hP1 hD1
  exact k H1 locs1 ls hP1 hD1 hS1 hl
theorem x_alen (C : Cx l g E R own nm cc Ts nL) {a n : Nat} {f : Int → Int} (q0 : Nat) (hd : decode cc pc = .ok (.arraylength, 1)) (ha : ws[q0]? = some (a, ai g n f)) (k : X l g E R nL ws cl sl lv (pc + 1) (jv (n : Int) :: rest)) : X l g E R nL ws cl sl lv pc (.ref a :: rest) := by
  obtain ⟨p, e, s, m, args, below, meth, c, A, Q⟩ := E
  obtain ⟨hx, hb, hml, hown, hts, hK, hlck, hA, hnm⟩ := C
  intro H locs ls hP hD hS hl
  exact va_alen hx hb hK hP q0 0 ha rfl (v := iI (n : Int)) (by show Int32.ofNat n = Int32.ofInt (n : Int); exact (Int32.ofInt_eq_ofNat (n := n)).symm) hd (k H locs ls hP hD hS hl)
/-- fewer cells, or in another order -/
theorem x_world {ws' : va_W} (is : List Nat) (hn : va_nd is = true) (hs : is.map (fun i => ws[i]?) = ws'.map some) (k : X l g E R nL ws' cl sl lv pc rest) : X l g E R nL ws cl sl lv pc rest := by
  obtain ⟨p, e, s, m, args, below, meth, c, A, Q⟩ := E
  intro H locs ls hP hD hS hl
  have hf : is.filterMap (fun i => ws[i]?) = ws' := by
    have h1 : ∀ (is : List Nat) (w : va_W), is.map (fun i => ws[i]?) = w.map some → is.filterMap (fun i => ws[i]?) = w := by
      intro is
      induction is with
      | nil => intro w h; cases w with
        | nil => rfl
        | cons a t => simp at h
      | cons i is ih => intro w h; cases w with
        | nil => simp at h
        | cons a t =>
          simp only [List.map_cons, List.cons.injEq] at h
          rw [List.filterMap_cons, h.1]
          simp [ih t h.2]
    exact h1 is ws' hs
  exact k H locs ls (hP.sub is hf) (hD.sub is hn hs) hS hl
theorem x_locals (ks : List Nat) (hl2 : lv_pick lv ks = lv') (k : X l g E R nL ws cl sl lv' pc rest) : X l g E R nL ws cl sl lv pc rest := by
  obtain ⟨p, e, s, m, args, below, meth, c, A, Q⟩ := E
  intro H locs ls hP hD hS hl
  exact k H locs ls hP hD hS (lv_sub hl ks hl2)
theorem x_widen {cl' sl' : Nat} (h1 : cl ≤ cl') (h2 : sl ≤ sl') (k : X l g E R nL ws cl' sl' lv pc rest) : X l g E R nL ws cl sl lv pc rest := by
  obtain ⟨p, e, s, m, args, below, meth, c, A, Q⟩ := E
  intro H locs ls hP hD hS hl
  exact W.widen h1 h2 (k H locs ls hP hD hS hl)
theorem x_eq {st2 : List Value} {ws2 : va_W} {lv2 : List (Nat × Value)} (h : rest = st2) (h2 : ws = ws2) (h3 : lv = lv2) (k : X l g E R nL ws2 cl sl lv2 pc st2) : X l g E R nL ws cl sl lv pc rest := by
  subst h; subst h2; subst h3; exact k
-- ends
variable {ret : Option FieldType} {w : va_W} {Post : Option Value → va_W → Prop}
theorem x_iret (C : Cx l g E R own nm cc Ts nL) (Rt0 : Rt g E ret cl sl w Post) {v : Int} (hd : decode cc pc = .ok (.ireturn, 1)) (hr : ret = some .int) (hp : Post (some (jv v)) ws) : X l g E R nL ws cl sl lv pc [jv v] := by
  obtain ⟨p, e, s, m, args, below, meth, c, A, Q⟩ := E
  obtain ⟨hx, hb, hml, hown, hts, hK, hlck, hA, hnm⟩ := C
  obtain ⟨rfl, h2, rfl⟩ := Rt0
  intro H locs ls hP hD hS hl
  exact W.iret (v := iI v) hx hb (h2.trans hr) (fun t ht hW => ⟨⟨_, _, rfl, hp, by rw [ht]; exact hP, va_K.moved hW.alike hK, hD⟩, hS.F ht⟩) hS.2.2 hd
theorem x_iretR (C : Cx l g E R own nm cc Ts nL) (Rt0 : Rt g E ret cl sl w Post) {v : Int32} (hd : decode cc pc = .ok (.ireturn, 1)) (hr : ret = some .int) (hp : Post (some (.int v)) ws) : X l g E R nL ws cl sl lv pc [.int v] := by
  obtain ⟨p, e, s, m, args, below, meth, c, A, Q⟩ := E
  obtain ⟨hx, hb, hml, hown, hts, hK, hlck, hA, hnm⟩ := C
  obtain ⟨rfl, h2, rfl⟩ := Rt0
  intro H locs ls hP hD hS hl
  exact W.iret (v := v) hx hb (h2.trans hr) (fun t ht hW => ⟨⟨_, _, rfl, hp, by rw [ht]; exact hP, va_K.moved hW.alike hK, hD⟩, hS.F ht⟩) hS.2.2 hd
theorem x_zret (C : Cx l g E R own nm cc Ts nL) (Rt0 : Rt g E ret cl sl w Post) {v : Int} (hd : decode cc pc = .ok (.ireturn, 1)) (hr : ret = some .boolean) (hn : narrow .boolean (jv v) = jv v) (hp : Post (some (jv v)) ws) : X l g E R nL ws cl sl lv pc [jv v] := by
  obtain ⟨p, e, s, m, args, below, meth, c, A, Q⟩ := E
  obtain ⟨hx, hb, hml, hown, hts, hK, hlck, hA, hnm⟩ := C
  obtain ⟨rfl, h2, rfl⟩ := Rt0
  intro H locs ls hP hD hS hl
  exact W.zret (v := iI v) (ty := .boolean) hx hb (h2.trans hr) hn (fun t ht hW => ⟨⟨_, _, rfl, hp, by rw [ht]; exact hP, va_K.moved hW.alike hK, hD⟩, hS.F ht⟩) hS.2.2 hd
theorem x_lret (C : Cx l g E R own nm cc Ts nL) (Rt0 : Rt g E ret cl sl w Post) {v : Int64} (hd : decode cc pc = .ok (.lreturn, 1)) (hr : ret = some .long) (hp : Post (some (.long v)) ws) : X l g E R nL ws cl sl lv pc [.long v] := by
  obtain ⟨p, e, s, m, args, below, meth, c, A, Q⟩ := E
  obtain ⟨hx, hb, hml, hown, hts, hK, hlck, hA, hnm⟩ := C
  obtain ⟨rfl, h2, rfl⟩ := Rt0
  intro H locs ls hP hD hS hl
  exact W.lret (v := v) hx hb (h2.trans hr) (fun t ht hW => ⟨⟨_, _, rfl, hp, by rw [ht]; exact hP, va_K.moved hW.alike hK, hD⟩, hS.F ht⟩) hS.2.2 hd
theorem x_vret (C : Cx l g E R own nm cc Ts nL) (Rt0 : Rt g E ret cl sl w Post) (hd : decode cc pc = .ok (.return_, 1)) (hr : ret = none) (hp : Post none ws) : X l g E R nL ws cl sl lv pc [] := by
  obtain ⟨p, e, s, m, args, below, meth, c, A, Q⟩ := E
  obtain ⟨hx, hb, hml, hown, hts, hK, hlck, hA, hnm⟩ := C
  obtain ⟨rfl, h2, rfl⟩ := Rt0
  intro H locs ls hP hD hS hl
  exact W.vret hx hb (h2.trans hr) (fun t ht hW => ⟨⟨_, _, rfl, hp, by rw [ht]; exact hP, va_K.moved hW.alike hK, hD⟩, hS.F ht⟩) hS.2.2 hd
-- calls
variable {y : MethodName} {wsy ws' : List Cond} {rm : Room} {mc ms maxL index : Nat} {wc wr : va_W} {As : List Value} {bytes : ByteArray} {rety : Option FieldType}
theorem x_callV (C : Cx l g E R own nm cc Ts nL) {b ci q0 n : Nat} {fs : List Value} {Cn : String} {T : u_T} {N : Nat} (isC isR : List Nat) (hM : Ct l g y wsy rm mc ms wc (.ref b :: As) Post) (hG : GoodIn Ts (wsV own index Cn y wsy)) (hw : wsy = Cond.code y bytes maxL rety :: ws') (hrc : rm.cells = mc ∧ rm.slots = ms) (hdd : y.cls = Cn ∧ y.cls ≠ "java/lang/invoke/MethodHandle" ∧ y.cls ≠ "java/lang/invoke/VarHandle" ∧ (parseMethodDescriptor y.desc).map (fun d => d.parameters.length) = some n) (hR : rm.frames + 1 ≤ R.frames ∧ 8 + (maxL + 11) + rm.locals ≤ R.locals) (hn : As.length = n) (hci : vwCl[ci]? = some (Cn, T, N)) (hq0 : wc[q0]? = some (b, ob ci fs))
    (hC : isC.map (fun i => ws[i]?) = wc.map some) (hRr : isR.map (fun i => ws[i]?) = wr.map some) (hnC : va_nd isC = true) (hnR : va_nd isR = true) (hdis : ∀ i ∈ isR, i ∉ isC) {st0 : List Value} (hst : st0 = As.reverse ++ .ref b :: rest) (hcat : (rest.map fun v => v.category).sum ≤ 8) (hd : decode cc pc = .ok (.invokevirtual index, 3)) (hf : cl + mc ≤ R.cells ∧ sl + ms ≤ R.slots) (kk : ∀ (v : Option Value) (u : va_W), Post v u → X l g E R nL (wr ++ u) (cl + mc) (sl + ms) lv (pc + 3) (v.toList ++ rest)) : X l g E R nL ws cl sl lv pc st0 := by
  obtain ⟨p, e, s, m, args, below, meth, c, A, Q⟩ := E
  obtain ⟨hx, hb, hml, hown, hts, hK, hlck, hA, hnm⟩ := C
  intro H locs ls hP hD hS hl
  have hDc : va_D A wc := hD.sub isC hnC hC
  have hPc : va_P g.1 vwCl wc H := by
    intro k q hk
    have h1 : (isC.map (fun i => ws[i]?))[k]? = some (some q) := by rw [hC, List.getElem?_map, hk]; rfl
    rw [List.getElem?_map] at h1
    cases hi : isC[k]? with
    | none => rw [hi] at h1; cases h1
    | some i => rw [hi] at h1; exact hP i q (Option.some.inj h1)
  have hFc := va_free (wc := wc) hD hS hA isC hC
  have hrun := va_runV (rest := rest) (g := F0 m pc ls st0) (l := l) (e := e) (below := below) (meth := meth) (H := H) (locs := locs) (cells := cl) (slots := sl) ⟨hx, hb, hml, hown, hts⟩ (hM H.size) (cwV (R := R) n hts hG hw hrc.1 hrc.2 hdd hR) ⟨fun a U g' mk q => by obtain ⟨q0, q1, qP, qK, qD⟩ := q; exact ⟨q0, q1, qP, va_K.moved (u := U) (U := U.calling g' mk a) (Vm.Alike.refl U.vm) qK, qD⟩, va_recv hK hPc hci hq0, fun U hU hW => ⟨rfl, by rw [hU], by rw [hU]; exact hPc, va_K.moved hW.alike hK, hDc.weaken (fun _ _ _ _ => trivial)⟩⟩ rfl hn hl.1 hst (lv_room hcat) hd hf
  intro T0 hT X0
  obtain ⟨v, st₀, t, T', L, h0, X', hL, e1, e2, ⟨⟨v2, u, hv, hp, hPu, hKu, hDu⟩, hz, hk⟩, st⟩ := hrun T0 hT X0
  cases hv
  rw [h0] at hz hk
  rw [← e1] at hPu hz hk
  obtain ⟨hP2, hD2⟩ := va_join hP hD isC isR hC hRr hnR hdis hk hFc hPu hDu
  have hS2 : va_S A s.heap T'.heap (locs ++ L) := ⟨Nat.le_trans hS.1 hz, fun q h1 h2 => by rw [hk q (Nat.lt_of_lt_of_le h1 hS.1) (fun z => h2 (hFc q z))]; exact hS.2.1 q h1 h2, fun q hq => by
    rcases List.mem_append.mp hq with h | h
    · exact hS.2.2 q h
    · exact hFc _ (hL q h)⟩
  obtain ⟨t2, a1, b1⟩ := kk v u hp T'.heap (locs ++ L) ls hP2 hD2 hS2 hl T' rfl X'
  exact ⟨t2, st t2 a1, b1⟩

theorem x_callS (C : Cx l g E R own nm cc Ts nL) {n : Nat} (isC isR : List Nat) (hM : Ct l g y wsy rm mc ms wc (As) Post) (hG : GoodIn Ts (va_wsS own index y wsy)) (hw : wsy = Cond.code y bytes maxL rety :: ws') (hdd : y.cls ≠ "java/lang/invoke/MethodHandle" ∧ y.cls ≠ "java/lang/invoke/VarHandle" ∧ (parseMethodDescriptor y.desc).map (fun d => d.parameters.length) = some n) (hrc : rm.cells = mc ∧ rm.slots = ms) (hR : rm.frames + 1 ≤ R.frames ∧ 8 + (maxL + 11) + rm.locals ≤ R.locals) (hn : As.length = n)
    (hC : isC.map (fun i => ws[i]?) = wc.map some) (hRr : isR.map (fun i => ws[i]?) = wr.map some) (hnC : va_nd isC = true) (hnR : va_nd isR = true) (hdis : ∀ i ∈ isR, i ∉ isC) {st0 : List Value} (hst : st0 = As.reverse ++ rest) (hcat : (rest.map fun v => v.category).sum ≤ 8) (hd : decode cc pc = .ok (.invokestatic index, 3)) (hf : cl + mc ≤ R.cells ∧ sl + ms ≤ R.slots) (kk : ∀ (v : Option Value) (u : va_W), Post v u → X l g E R nL (wr ++ u) (cl + mc) (sl + ms) lv (pc + 3) (v.toList ++ rest)) : X l g E R nL ws cl sl lv pc st0 := by
  obtain ⟨p, e, s, m, args, below, meth, c, A, Q⟩ := E
  obtain ⟨hx, hb, hml, hown, hts, hK, hlck, hA, hnm⟩ := C
  intro H locs ls hP hD hS hl
  have hDc : va_D A wc := hD.sub isC hnC hC
  have hPc : va_P g.1 vwCl wc H := by
    intro k q hk
    have h1 : (isC.map (fun i => ws[i]?))[k]? = some (some q) := by rw [hC, List.getElem?_map, hk]; rfl
    rw [List.getElem?_map] at h1
    cases hi : isC[k]? with
    | none => rw [hi] at h1; cases h1
    | some i => rw [hi] at h1; exact hP i q (Option.some.inj h1)
  have hFc := va_free (wc := wc) hD hS hA isC hC
  have hrun := va_runS (rest := rest) (g := F0 m pc ls st0) (l := l) (e := e) (below := below) (meth := meth) (H := H) (locs := locs) (cells := cl) (slots := sl) ⟨hx, hb, hml, hown, hts⟩ (hM H.size) (va_cwS (R := R) n hts hG hw hrc.1 hrc.2 hdd hR) ⟨fun a U g' mk q => by obtain ⟨q0, q1, qP, qK, qD⟩ := q; exact ⟨q0, q1, qP, va_K.moved (u := U) (U := U.calling g' mk a) (Vm.Alike.refl U.vm) qK, qD⟩, fun U hU hW => ⟨rfl, by rw [hU], by rw [hU]; exact hPc, va_K.moved hW.alike hK, hDc.weaken (fun _ _ _ _ => trivial)⟩⟩ rfl hn hl.1 hst (lv_room hcat) hd hf
  intro T0 hT X0
  obtain ⟨v, st₀, t, T', L, h0, X', hL, e1, e2, ⟨⟨v2, u, hv, hp, hPu, hKu, hDu⟩, hz, hk⟩, st⟩ := hrun T0 hT X0
  cases hv
  rw [h0] at hz hk
  rw [← e1] at hPu hz hk
  obtain ⟨hP2, hD2⟩ := va_join hP hD isC isR hC hRr hnR hdis hk hFc hPu hDu
  have hS2 : va_S A s.heap T'.heap (locs ++ L) := ⟨Nat.le_trans hS.1 hz, fun q h1 h2 => by rw [hk q (Nat.lt_of_lt_of_le h1 hS.1) (fun z => h2 (hFc q z))]; exact hS.2.1 q h1 h2, fun q hq => by
    rcases List.mem_append.mp hq with h | h
    · exact hS.2.2 q h
    · exact hFc _ (hL q h)⟩
  obtain ⟨t2, a1, b1⟩ := kk v u hp T'.heap (locs ++ L) ls hP2 hD2 hS2 hl T' rfl X'
  exact ⟨t2, st t2 a1, b1⟩
theorem x_callI (C : Cx l g E R own nm cc Ts nL) {n b : Nat} (isC isR : List Nat) (hM : Ct l g y wsy rm mc ms wc (.ref b :: As) Post) (hG : GoodIn Ts wsy) (hw : wsy = Cond.code y bytes maxL none :: ws') (hdd : y.cls ≠ "java/lang/invoke/MethodHandle" ∧ y.cls ≠ "java/lang/invoke/VarHandle" ∧ (parseMethodDescriptor y.desc).map (fun d => d.parameters.length) = some n) (hini : Cond.initialized y.cls ∈ Ts) (hlk : Cond.methodLink own index y ∈ Ts) (him : Cond.instanceMethod y ∈ Ts) (hy1 : y.name = "<init>") (hrc : rm.cells = mc ∧ rm.slots = ms) (hR : rm.frames + 1 ≤ R.frames ∧ 8 + (maxL + 11) + rm.locals ≤ R.locals) (hn : As.length = n)
    (hC : isC.map (fun i => ws[i]?) = wc.map some) (hRr : isR.map (fun i => ws[i]?) = wr.map some) (hnC : va_nd isC = true) (hnR : va_nd isR = true) (hdis : ∀ i ∈ isR, i ∉ isC) {st0 : List Value} (hst : st0 = As.reverse ++ .ref b :: rest) (hcat : (rest.map fun v => v.category).sum ≤ 8) (hd : decode cc pc = .ok (.invokespecial index, 3)) (hf : cl + mc ≤ R.cells ∧ sl + ms ≤ R.slots) (kk : ∀ (v : Option Value) (u : va_W), Post v u → X l g E R nL (wr ++ u) (cl + mc) (sl + ms) lv (pc + 3) (v.toList ++ rest)) : X l g E R nL ws cl sl lv pc st0 := by
  obtain ⟨p, e, s, m, args, below, meth, c, A, Q⟩ := E
  obtain ⟨hx, hb, hml, hown, hts, hK, hlck, hA, hnm⟩ := C
  intro H locs ls hP hD hS hl
  have hDc : va_D A wc := hD.sub isC hnC hC
  have hPc : va_P g.1 vwCl wc H := by
    intro k q hk
    have h1 : (isC.map (fun i => ws[i]?))[k]? = some (some q) := by rw [hC, List.getElem?_map, hk]; rfl
    rw [List.getElem?_map] at h1
    cases hi : isC[k]? with
    | none => rw [hi] at h1; cases h1
    | some i => rw [hi] at h1; exact hP i q (Option.some.inj h1)
  have hFc := va_free (wc := wc) hD hS hA isC hC
  have hrun := va_runI (rest := rest) (g := F0 m pc ls st0) (l := l) (e := e) (below := below) (meth := meth) (H := H) (locs := locs) (cells := cl) (slots := sl) ⟨hx, hb, hml, hown, hts⟩ (hM H.size) (cwI (R := R) n hts hG hw hrc.1 hrc.2 (hts _ hini) (hts _ hlk) (hts _ him) hy1 hdd hR) ⟨fun a U g' mk q => by obtain ⟨q0, q1, qP, qK, qD⟩ := q; exact ⟨q0, q1, qP, va_K.moved (u := U) (U := U.calling g' mk a) (Vm.Alike.refl U.vm) qK, qD⟩, fun U hU hW => ⟨rfl, by rw [hU], by rw [hU]; exact hPc, va_K.moved hW.alike hK, hDc.weaken (fun _ _ _ _ => trivial)⟩⟩ rfl hn hl.1 hst (lv_room hcat) hd hf
  intro T0 hT X0
  obtain ⟨v, st₀, t, T', L, h0, X', hL, e1, e2, ⟨⟨v2, u, hv, hp, hPu, hKu, hDu⟩, hz, hk⟩, st⟩ := hrun T0 hT X0
  cases hv
  rw [h0] at hz hk
  rw [← e1] at hPu hz hk
  obtain ⟨hP2, hD2⟩ := va_join hP hD isC isR hC hRr hnR hdis hk hFc hPu hDu
  have hS2 : va_S A s.heap T'.heap (locs ++ L) := ⟨Nat.le_trans hS.1 hz, fun q h1 h2 => by rw [hk q (Nat.lt_of_lt_of_le h1 hS.1) (fun z => h2 (hFc q z))]; exact hS.2.1 q h1 h2, fun q hq => by
    rcases List.mem_append.mp hq with h | h
    · exact hS.2.2 q h
    · exact hFc _ (hL q h)⟩
  obtain ⟨t2, a1, b1⟩ := kk v u hp T'.heap (locs ++ L) ls hP2 hD2 hS2 hl T' rfl X'
  exact ⟨t2, st t2 a1, b1⟩
theorem x_mmin (C : Cx l g E R own nm cc Ts nL) {a b : Int} {i : Nat} (hd : decode cc pc = .ok (.invokestatic i, 3)) (hlk : Cond.methodLink own i Lib.Math.min.name ∈ Ts) (hst : Cond.static Lib.Math.min.name ∈ Ts) (hini : Cond.initialized "java/lang/Math" ∈ Ts) (hco : Cond.code Lib.Math.min.name Lib.Math.min.code 2 (some .int) ∈ Ts) (hfr : 1 ≤ R.frames) (hlo : (rest.map fun v => v.category).sum + 13 ≤ R.locals) (hcc : cl ≤ R.cells) (hss : sl ≤ R.slots) (ha : Rg a) (hb2 : Rg b) (k : X l g E R nL ws cl sl lv (pc + 3) (jv (if b < a then b else a) :: rest)) : X l g E R nL ws cl sl lv pc (jv b :: jv a :: rest) := by
  obtain ⟨p, e, s, m, args, below, meth, c, A, Q⟩ := E
  obtain ⟨hx, hb, hml, hown, hts, hK, hlck, hA, hnm⟩ := C
  intro H locs ls hP hD hS hl
  have k := k H locs ls hP hD hS hl
  refine va_mmin hx hb (hml.trans hl.1.symm) hown (hts _ hlk) (hts _ hst) (hts _ hini) (hts _ hco) hfr hlo hcc hss hd ?_
  have e1 : (if iI b < iI a then iI b else iI a) = iI (if b < a then b else a) := by
    by_cases h : b < a
    · rw [if_pos h, if_pos ((iI_lt hb2 ha).mpr h)]
    · rw [if_neg h, if_neg (fun q => h ((iI_lt hb2 ha).mp q))]
  rw [e1]
  exact k
theorem x_mmax (C : Cx l g E R own nm cc Ts nL) {a b : Int} {i : Nat} (hd : decode cc pc = .ok (.invokestatic i, 3)) (hlk : Cond.methodLink own i Lib.Math.max.name ∈ Ts) (hst : Cond.static Lib.Math.max.name ∈ Ts) (hini : Cond.initialized "java/lang/Math" ∈ Ts) (hco : Cond.code Lib.Math.max.name Lib.Math.max.code 2 (some .int) ∈ Ts) (hfr : 1 ≤ R.frames) (hlo : (rest.map fun v => v.category).sum + 13 ≤ R.locals) (hcc : cl ≤ R.cells) (hss : sl ≤ R.slots) (ha : Rg a) (hb2 : Rg b) (k : X l g E R nL ws cl sl lv (pc + 3) (jv (if a < b then b else a) :: rest)) : X l g E R nL ws cl sl lv pc (jv b :: jv a :: rest) := by
  obtain ⟨p, e, s, m, args, below, meth, c, A, Q⟩ := E
  obtain ⟨hx, hb, hml, hown, hts, hK, hlck, hA, hnm⟩ := C
  intro H locs ls hP hD hS hl
  have k := k H locs ls hP hD hS hl
  refine va_mmax hx hb (hml.trans hl.1.symm) hown (hts _ hlk) (hts _ hst) (hts _ hini) (hts _ hco) hfr hlo hcc hss hd ?_
  have e1 : (if iI a < iI b then iI b else iI a) = iI (if a < b then b else a) := by
    by_cases h : a < b
    · rw [if_pos h, if_pos ((iI_lt ha hb2).mpr h)]
    · rw [if_neg h, if_neg (fun q => h ((iI_lt ha hb2).mp q))]
  rw [e1]
  exact k
end XR
