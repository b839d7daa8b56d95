theorem ct_ofF {l : Launch} {g : xG} {y : MethodName} {wsy ws' : List Cond} {rm : Room} {mc ms : Nat} {w : va_W} {av : List Value} {Post : Option Value → va_W → Prop} {cc : ByteArray} {nL : Nat} {ret : Option FieldType} (hy : plainFor y = true) (hw : wsy = Cond.code y cc nL ret :: ws') (hlen : (lg_sl av).length ≤ nL)
    (body : ∀ E : xE, Cx l g E rm y.cls y.name cc wsy nL → Rt g E ret mc ms w Post → X l g E rm nL w 0 0 (lv_args 0 av) 0 []) : Ct l g y wsy rm mc ms w av Post := by
  intro sz
  refine va_MetF (cc := cc) (maxL := nL) (ret := ret) hy hw ?_
  intro p e s m args below meth c s₁ B hml hv
  obtain ⟨rfl, hsz, hP, hK, hD0⟩ := hv
  subst hsz
  have hin : meth.name = y.name := (name_of_methodNamed B.named B.method).1
  have hl := lv_entry av (n := nL) hlen
  rw [lg_entry_eq]
  exact body (p, e, s, m, av.toArray, below, meth, c, va_A w s.heap.size, _) ⟨B.exec, B.bytes, hml, findClass_of_methodNamed B.named, atoms_spec (ws := wsy) B.pre, hK, B.notSynchronized, fun q h => Or.inr h, hin⟩ ⟨rfl, B.returns, rfl⟩ s.heap [] _ hP hD0.self va_S.rf hl
/-- the rows of a tower fit one another -/
def TwF (h sz : Int) (S : Int → Int) : Prop := 0 ≤ h ∧ h ≤ 10 ∧ 0 ≤ sz ∧ sz ≤ 60 ∧ ∀ t : Int, 0 ≤ t → t < h → 0 ≤ S t ∧ S t ≤ S (t + 1) ∧ S (t + 1) ≤ sz
theorem tmf {a b : Int} (h : 0 ≤ a) (hb : 0 < b) : 0 ≤ a.tmod b ∧ a.tmod b < b ∧ a.tmod b ≤ a := by
  rw [Int.tmod_eq_emod_of_nonneg h]
  have h1 := Int.mul_ediv_add_emod a b
  have h2 := Int.mul_nonneg (Int.le_of_lt hb) (Int.ediv_nonneg h (Int.le_of_lt hb))
  exact ⟨Int.emod_nonneg a (by omega), Int.emod_lt_of_pos a hb, by omega⟩
theorem fdv {x y : Int} (_ : Rg x) (hy : 0 < y) : (0 ≤ x ∧ x.tdiv y = x / y) ∨ (x < 0 ∧ x % y = 0 ∧ x.tdiv y = x / y) ∨ (x < 0 ∧ x % y ≠ 0 ∧ x.tdiv y = x / y + 1) := by
  rcases Int.lt_or_le x 0 with q | q
  · right
    have e1 := Int.tdiv_eq_ediv (a := x) (b := y)
    by_cases hd : x % y = 0
    · left
      refine ⟨q, hd, ?_⟩
      rw [e1, if_pos (Or.inr (Int.dvd_of_emod_eq_zero hd))]
      omega
    · right
      refine ⟨q, hd, ?_⟩
      rw [e1, if_neg (fun z => by rcases z with z | z; omega; exact hd (Int.emod_eq_zero_of_dvd z)), Int.sign_eq_one_of_pos hy]
  · left
    exact ⟨q, Int.tdiv_eq_ediv_of_nonneg q⟩
set_option maxHeartbeats 4000000 in
set_option maxRecDepth 100000 in
/-- Math.floorDiv -/
theorem ctJ9_floorDiv_7cf53 (l : Launch) (g : xG) (x : Int) (y : Int) (hx : Rg x) (hy : 1 ≤ y ∧ y < 2147483648) : Ct l g yJ9_floorDiv_7cf53 wsJ9_floorDiv_7cf53 ({ frames := 0, cells := 0, slots := 0, locals := 0 } : Room) 0 0 [] [jv x, jv y] (fun v u => ∃ (r : Int), v = some (jv r) ∧ u = [] ∧ (r = x / y)) := by
  refine ct_ofF (cc := cJ9_floorDiv_7cf53) (nL := 3) (ret := (some .int)) (by decide +kernel) rfl (Nat.le_of_ble_eq_true rfl) ?_
  intro E C Rt0
  have C : Cx l g E ({ frames := 0, cells := 0, slots := 0, locals := 0 } : Room) RJ9 "floorDiv" cJ9_floorDiv_7cf53 wsJ9_floorDiv_7cf53 3 := C
  show X l g E ({ frames := 0, cells := 0, slots := 0, locals := 0 } : Room) 3 [] 0 0 [(0, jv x), (1, jv y)] 0 []
  have hx1 := hx.1
  have hx2 := hx.2
  have hdm := Int.mul_ediv_add_emod x y
  have hm0 := Int.emod_nonneg x (show y ≠ 0 by omega)
  have hm1 := Int.emod_lt_of_pos x (show 0 < y by omega)
  have hq : (0 ≤ x ∧ x.tdiv y = x / y) ∨ (x < 0 ∧ x % y = 0 ∧ x.tdiv y = x / y) ∨ (x < 0 ∧ x % y ≠ 0 ∧ x.tdiv y = x / y + 1) := fdv hx (by omega)
  have hpr : 0 ≤ x ∨ (x % y = 0 ∧ x.tdiv y * y = x) ∨ (x % y ≠ 0 ∧ x.tdiv y * y = x - x % y + y) := by
    rcases hq with q | q | q
    · left; exact q.1
    · right; left; refine ⟨q.2.1, ?_⟩; rw [q.2.2, Int.mul_comm]; omega
    · right; right; refine ⟨q.2.1, ?_⟩; rw [q.2.2, Int.add_mul, Int.one_mul, Int.mul_comm]; omega
  refine x_iload_n (pc := 0) C 0 dJ9_floorDiv_7cf53_0 rfl ?_
  refine x_iload_n (pc := 1) C 1 dJ9_floorDiv_7cf53_1 rfl ?_
  refine x_idiv (pc := 2) C dJ9_floorDiv_7cf53_2 hx ⟨by omega, by omega⟩ (by first | decide | omega) ?_
  refine x_istore_n (pc := 3) C (lv' := [(2, jv ((x).tdiv y)), (0, jv x), (1, jv y)]) dJ9_floorDiv_7cf53_3 (by decide) rfl ?_
  refine x_iload_n (pc := 4) C 1 dJ9_floorDiv_7cf53_4 rfl ?_
  refine x_iload_n (pc := 5) C 2 dJ9_floorDiv_7cf53_5 rfl ?_
  refine x_ixge (pc := 6) C 21 dJ9_floorDiv_7cf53_6 dJ9_floorDiv_7cf53_7 rfl ⟨by omega, by omega⟩ ⟨by omega, by omega⟩ (fun c_6 => ?_) (fun c_6 => ?_)
  · refine x_iload_n (pc := 21) C 0 dJ9_floorDiv_7cf53_21 rfl ?_
    refine x_iret (pc := 22) C Rt0 dJ9_floorDiv_7cf53_22 rfl ?_
    refine ⟨_, rfl, rfl, ?_⟩
    omega
  · refine x_iload_n (pc := 10) C 0 dJ9_floorDiv_7cf53_10 rfl ?_
    refine x_iload_n (pc := 11) C 2 dJ9_floorDiv_7cf53_11 rfl ?_
    refine x_imul (pc := 12) C dJ9_floorDiv_7cf53_12 ?_
    refine x_iload_n (pc := 13) C 1 dJ9_floorDiv_7cf53_13 rfl ?_
    refine x_icmp_eq (pc := 14) C 21 dJ9_floorDiv_7cf53_14 rfl ⟨by omega, by omega⟩ hx (fun c_14 => ?_) (fun c_14 => ?_)
    · refine x_iload_n (pc := 21) C 0 dJ9_floorDiv_7cf53_21 rfl ?_
      refine x_iret (pc := 22) C Rt0 dJ9_floorDiv_7cf53_22 rfl ?_
      refine ⟨_, rfl, rfl, ?_⟩
      omega
    · refine x_iload_n (pc := 17) C 0 dJ9_floorDiv_7cf53_17 rfl ?_
      refine x_iconst (pc := 18) C dJ9_floorDiv_7cf53_18 ?_
      refine x_isub (pc := 19) C dJ9_floorDiv_7cf53_19 ?_
      refine x_iret (pc := 20) C Rt0 dJ9_floorDiv_7cf53_20 rfl ?_
      refine ⟨_, rfl, rfl, ?_⟩
      omega

set_option maxRecDepth 100000 in
theorem hiX4_height_4 : ∀ w ∈ wsX40, w ∈ wsX4_height := by decide +kernel
set_option maxRecDepth 100000 in
theorem hfX4_height_37 : Cond.fieldLink RX4 37 "KeyGuess$Tower" "height" "I" ∈ wsX4_height := by decide +kernel
set_option maxHeartbeats 4000000 in
set_option maxRecDepth 100000 in
/-- Tower.height -/
theorem ctX4_height (l : Launch) (g : xG) (a : Nat) (kb : Nat) (kc : Nat) (t1 : Nat) (t2 : Nat) (t3 : Nat) (t4 : Nat) (t5 : Nat) (t6 : Nat) (h : Int) (sz : Int) (bn : Int) (bf : Int → Int) (S : Int → Int) (A0 : Int → Int) (A1 : Int → Int) (A2 : Int → Int) (A3 : Int → Int) (A4 : Int → Int)  : Ct l g yX4_height wsX4_height ({ frames := 0, cells := 0, slots := 0, locals := 0 } : Room) 0 0 [(a, ob 4 [.ref kb, .ref t1, .ref t2, .ref t3, .ref t4, .ref t5, .ref t6, jv h, jv sz]), (kb, ob 2 [.ref kc, jv bn]), (kc, ai g 60 bf), (t1, ai g 11 S), (t2, ai g 60 A0), (t3, ai g 60 A1), (t4, ai g 60 A2), (t5, ai g 60 A3), (t6, ai g 60 A4)] [.ref a] (fun v u => v = some (jv h) ∧ u = [(a, ob 4 [.ref kb, .ref t1, .ref t2, .ref t3, .ref t4, .ref t5, .ref t6, jv h, jv sz]), (kb, ob 2 [.ref kc, jv bn]), (kc, ai g 60 bf), (t1, ai g 11 S), (t2, ai g 60 A0), (t3, ai g 60 A1), (t4, ai g 60 A2), (t5, ai g 60 A3), (t6, ai g 60 A4)] ∧ (True)) := by
  refine ct_of (cc := cX4_height) (nL := 1) (ret := (some .int)) (by decide) rfl (Nat.le_of_ble_eq_true rfl) ?_
  intro E C Rt0
  have C : Cx l g E ({ frames := 0, cells := 0, slots := 0, locals := 0 } : Room) RX4 "height" cX4_height wsX4_height 1 := C
  show X l g E ({ frames := 0, cells := 0, slots := 0, locals := 0 } : Room) 1 [(a, ob 4 [.ref kb, .ref t1, .ref t2, .ref t3, .ref t4, .ref t5, .ref t6, jv h, jv sz]), (kb, ob 2 [.ref kc, jv bn]), (kc, ai g 60 bf), (t1, ai g 11 S), (t2, ai g 60 A0), (t3, ai g 60 A1), (t4, ai g 60 A2), (t5, ai g 60 A3), (t6, ai g 60 A4)] 0 0 [(0, .ref a)] 0 []
  refine x_aload_n (pc := 0) C 0 dX4_height_0 rfl ?_
  refine x_get (pc := 1) C 0 7 dX4_height_1 hiX4_height_4 hfX4_height_37 rfl rfl rfl (by decide) rfl ?_
  refine x_iret (pc := 4) C Rt0 dX4_height_4 rfl ?_
  refine ⟨rfl, rfl, ?_⟩
  trivial

set_option maxRecDepth 100000 in
theorem hiX4_isPiece_4 : ∀ w ∈ wsX40, w ∈ wsX4_isPiece := by decide +kernel
set_option maxRecDepth 100000 in
theorem hfX4_isPiece_49 : Cond.fieldLink RX4 49 "KeyGuess$Tower" "size" "I" ∈ wsX4_isPiece := by decide +kernel
set_option maxHeartbeats 4000000 in
set_option maxRecDepth 100000 in
/-- Tower.isPiece -/
theorem ctX4_isPiece (l : Launch) (g : xG) (a : Nat) (kb : Nat) (kc : Nat) (t1 : Nat) (t2 : Nat) (t3 : Nat) (t4 : Nat) (t5 : Nat) (t6 : Nat) (h : Int) (sz : Int) (bn : Int) (bf : Int → Int) (S : Int → Int) (A0 : Int → Int) (A1 : Int → Int) (A2 : Int → Int) (A3 : Int → Int) (A4 : Int → Int) (p : Int) (hz : 0 ≤ sz ∧ sz ≤ 60) (hr : Rg p) : Ct l g yX4_isPiece wsX4_isPiece ({ frames := 0, cells := 0, slots := 0, locals := 0 } : Room) 0 0 [(a, ob 4 [.ref kb, .ref t1, .ref t2, .ref t3, .ref t4, .ref t5, .ref t6, jv h, jv sz]), (kb, ob 2 [.ref kc, jv bn]), (kc, ai g 60 bf), (t1, ai g 11 S), (t2, ai g 60 A0), (t3, ai g 60 A1), (t4, ai g 60 A2), (t5, ai g 60 A3), (t6, ai g 60 A4)] [.ref a, jv p] (fun v u => (v = some (jv 1) ∧ u = [(a, ob 4 [.ref kb, .ref t1, .ref t2, .ref t3, .ref t4, .ref t5, .ref t6, jv h, jv sz]), (kb, ob 2 [.ref kc, jv bn]), (kc, ai g 60 bf), (t1, ai g 11 S), (t2, ai g 60 A0), (t3, ai g 60 A1), (t4, ai g 60 A2), (t5, ai g 60 A3), (t6, ai g 60 A4)] ∧ (0 ≤ p ∧ p < sz ∧ p < 60)) ∨ (v = some (jv 0) ∧ u = [(a, ob 4 [.ref kb, .ref t1, .ref t2, .ref t3, .ref t4, .ref t5, .ref t6, jv h, jv sz]), (kb, ob 2 [.ref kc, jv bn]), (kc, ai g 60 bf), (t1, ai g 11 S), (t2, ai g 60 A0), (t3, ai g 60 A1), (t4, ai g 60 A2), (t5, ai g 60 A3), (t6, ai g 60 A4)] ∧ (p < 0 ∨ sz ≤ p))) := by
  refine ct_of (cc := cX4_isPiece) (nL := 2) (ret := (some .boolean)) (by decide) rfl (Nat.le_of_ble_eq_true rfl) ?_
  intro E C Rt0
  have C : Cx l g E ({ frames := 0, cells := 0, slots := 0, locals := 0 } : Room) RX4 "isPiece" cX4_isPiece wsX4_isPiece 2 := C
  show X l g E ({ frames := 0, cells := 0, slots := 0, locals := 0 } : Room) 2 [(a, ob 4 [.ref kb, .ref t1, .ref t2, .ref t3, .ref t4, .ref t5, .ref t6, jv h, jv sz]), (kb, ob 2 [.ref kc, jv bn]), (kc, ai g 60 bf), (t1, ai g 11 S), (t2, ai g 60 A0), (t3, ai g 60 A1), (t4, ai g 60 A2), (t5, ai g 60 A3), (t6, ai g 60 A4)] 0 0 [(0, .ref a), (1, jv p)] 0 []
  have hr1 := hr.1
  have hr2 := hr.2
  refine x_iload_n (pc := 0) C 1 dX4_isPiece_0 rfl ?_
  refine x_if_lt (pc := 1) C 22 dX4_isPiece_1 rfl ⟨by omega, by omega⟩ (fun c_1 => ?_) (fun c_1 => ?_)
  · refine x_iconst (pc := 22) C dX4_isPiece_22 ?_
    refine x_zret (pc := 23) C Rt0 dX4_isPiece_23 rfl rfl ?_
    refine Or.inr (⟨rfl, rfl, ?_⟩)
    omega
  · refine x_iload_n (pc := 4) C 1 dX4_isPiece_4 rfl ?_
    refine x_aload_n (pc := 5) C 0 dX4_isPiece_5 rfl ?_
    refine x_get (pc := 6) C 0 8 dX4_isPiece_6 hiX4_isPiece_4 hfX4_isPiece_49 rfl rfl rfl (by decide) rfl ?_
    refine x_icmp_ge (pc := 9) C 22 dX4_isPiece_9 rfl ⟨by omega, by omega⟩ ⟨by omega, by omega⟩ (fun c_9 => ?_) (fun c_9 => ?_)
    · refine x_iconst (pc := 22) C dX4_isPiece_22 ?_
      refine x_zret (pc := 23) C Rt0 dX4_isPiece_23 rfl rfl ?_
      refine Or.inr (⟨rfl, rfl, ?_⟩)
      omega
    · refine x_iload_n (pc := 12) C 1 dX4_isPiece_12 rfl ?_
      refine x_bipush (pc := 13) C dX4_isPiece_13 rfl ?_
      refine x_icmp_ge (pc := 15) C 22 dX4_isPiece_15 rfl ⟨by omega, by omega⟩ ⟨by omega, by omega⟩ (fun c_15 => ?_) (fun c_15 => ?_)
      · refine x_iconst (pc := 22) C dX4_isPiece_22 ?_
        refine x_zret (pc := 23) C Rt0 dX4_isPiece_23 rfl rfl ?_
        refine Or.inr (⟨rfl, rfl, ?_⟩)
        omega
      · refine x_iconst (pc := 18) C dX4_isPiece_18 ?_
        refine x_goto (pc := 19) C 23 dX4_isPiece_19 rfl ?_
        refine x_zret (pc := 23) C Rt0 dX4_isPiece_23 rfl rfl ?_
        refine Or.inl ⟨rfl, rfl, ?_⟩
        omega

set_option maxRecDepth 100000 in
theorem hiX4_width_4 : ∀ w ∈ wsX40, w ∈ wsX4_width := by decide +kernel
set_option maxRecDepth 100000 in
theorem hfX4_width_37 : Cond.fieldLink RX4 37 "KeyGuess$Tower" "height" "I" ∈ wsX4_width := by decide +kernel
set_option maxRecDepth 100000 in
theorem hfX4_width_18 : Cond.fieldLink RX4 18 "KeyGuess$Tower" "starts" "[I" ∈ wsX4_width := by decide +kernel
set_option maxHeartbeats 4000000 in
set_option maxRecDepth 100000 in
/-- Tower.width -/
theorem ctX4_width (l : Launch) (g : xG) (a : Nat) (kb : Nat) (kc : Nat) (t1 : Nat) (t2 : Nat) (t3 : Nat) (t4 : Nat) (t5 : Nat) (t6 : Nat) (h : Int) (sz : Int) (bn : Int) (bf : Int → Int) (S : Int → Int) (A0 : Int → Int) (A1 : Int → Int) (A2 : Int → Int) (A3 : Int → Int) (A4 : Int → Int) (t : Int) (hw : TwF h sz S) (hr : Rg t) : Ct l g yX4_width wsX4_width ({ frames := 0, cells := 0, slots := 0, locals := 0 } : Room) 0 0 [(a, ob 4 [.ref kb, .ref t1, .ref t2, .ref t3, .ref t4, .ref t5, .ref t6, jv h, jv sz]), (kb, ob 2 [.ref kc, jv bn]), (kc, ai g 60 bf), (t1, ai g 11 S), (t2, ai g 60 A0), (t3, ai g 60 A1), (t4, ai g 60 A2), (t5, ai g 60 A3), (t6, ai g 60 A4)] [.ref a, jv t] (fun v u => (v = some (jv (S (t + 1) - S t)) ∧ u = [(a, ob 4 [.ref kb, .ref t1, .ref t2, .ref t3, .ref t4, .ref t5, .ref t6, jv h, jv sz]), (kb, ob 2 [.ref kc, jv bn]), (kc, ai g 60 bf), (t1, ai g 11 S), (t2, ai g 60 A0), (t3, ai g 60 A1), (t4, ai g 60 A2), (t5, ai g 60 A3), (t6, ai g 60 A4)] ∧ (0 ≤ t ∧ t < h)) ∨ (v = some (jv 0) ∧ u = [(a, ob 4 [.ref kb, .ref t1, .ref t2, .ref t3, .ref t4, .ref t5, .ref t6, jv h, jv sz]), (kb, ob 2 [.ref kc, jv bn]), (kc, ai g 60 bf), (t1, ai g 11 S), (t2, ai g 60 A0), (t3, ai g 60 A1), (t4, ai g 60 A2), (t5, ai g 60 A3), (t6, ai g 60 A4)] ∧ (t < 0 ∨ h ≤ t))) := by
  refine ct_of (cc := cX4_width) (nL := 2) (ret := (some .int)) (by decide) rfl (Nat.le_of_ble_eq_true rfl) ?_
  intro E C Rt0
  have C : Cx l g E ({ frames := 0, cells := 0, slots := 0, locals := 0 } : Room) RX4 "width" cX4_width wsX4_width 2 := C
  show X l g E ({ frames := 0, cells := 0, slots := 0, locals := 0 } : Room) 2 [(a, ob 4 [.ref kb, .ref t1, .ref t2, .ref t3, .ref t4, .ref t5, .ref t6, jv h, jv sz]), (kb, ob 2 [.ref kc, jv bn]), (kc, ai g 60 bf), (t1, ai g 11 S), (t2, ai g 60 A0), (t3, ai g 60 A1), (t4, ai g 60 A2), (t5, ai g 60 A3), (t6, ai g 60 A4)] 0 0 [(0, .ref a), (1, jv t)] 0 []
  have hw1 := hw.1
  have hw2 := hw.2.1
  have hw3 := hw.2.2.1
  have hw4 := hw.2.2.2.1
  have hr1 := hr.1
  have hr2 := hr.2
  refine x_iload_n (pc := 0) C 1 dX4_width_0 rfl ?_
  refine x_if_lt (pc := 1) C 36 dX4_width_1 rfl ⟨by omega, by omega⟩ (fun c_1 => ?_) (fun c_1 => ?_)
  · refine x_iconst (pc := 36) C dX4_width_36 ?_
    refine x_iret (pc := 37) C Rt0 dX4_width_37 rfl ?_
    refine Or.inr (⟨rfl, rfl, ?_⟩)
    omega
  · refine x_iload_n (pc := 4) C 1 dX4_width_4 rfl ?_
    refine x_aload_n (pc := 5) C 0 dX4_width_5 rfl ?_
    refine x_get (pc := 6) C 0 7 dX4_width_6 hiX4_width_4 hfX4_width_37 rfl rfl rfl (by decide) rfl ?_
    refine x_icmp_ge (pc := 9) C 36 dX4_width_9 rfl ⟨by omega, by omega⟩ ⟨by omega, by omega⟩ (fun c_9 => ?_) (fun c_9 => ?_)
    · refine x_iconst (pc := 36) C dX4_width_36 ?_
      refine x_iret (pc := 37) C Rt0 dX4_width_37 rfl ?_
      refine Or.inr (⟨rfl, rfl, ?_⟩)
      omega
    · refine x_iload_n (pc := 12) C 1 dX4_width_12 rfl ?_
      refine x_bipush (pc := 13) C dX4_width_13 rfl ?_
      refine x_icmp_ge (pc := 15) C 36 dX4_width_15 rfl ⟨by omega, by omega⟩ ⟨by omega, by omega⟩ (fun c_15 => ?_) (fun c_15 => ?_)
      · refine x_iconst (pc := 36) C dX4_width_36 ?_
        refine x_iret (pc := 37) C Rt0 dX4_width_37 rfl ?_
        refine Or.inr (⟨rfl, rfl, ?_⟩)
        omega
      · refine x_aload_n (pc := 18) C 0 dX4_width_18 rfl ?_
        refine x_get (pc := 19) C 0 1 dX4_width_19 hiX4_width_4 hfX4_width_18 rfl rfl rfl (by decide) rfl ?_
        refine x_iload_n (pc := 22) C 1 dX4_width_22 rfl ?_
        refine x_iconst (pc := 23) C dX4_width_23 ?_
        refine x_iadd (pc := 24) C dX4_width_24 ?_
        refine x_iald (pc := 25) C 3 dX4_width_25 rfl (by omega) (by omega) (by decide) ?_
        refine x_aload_n (pc := 26) C 0 dX4_width_26 rfl ?_
        refine x_get (pc := 27) C 0 1 dX4_width_27 hiX4_width_4 hfX4_width_18 rfl rfl rfl (by decide) rfl ?_
        refine x_iload_n (pc := 30) C 1 dX4_width_30 rfl ?_
        refine x_iald (pc := 31) C 3 dX4_width_31 rfl (by omega) (by omega) (by decide) ?_
        refine x_isub (pc := 32) C dX4_width_32 ?_
        refine x_goto (pc := 33) C 37 dX4_width_33 rfl ?_
        refine x_iret (pc := 37) C Rt0 dX4_width_37 rfl ?_
        refine Or.inl ⟨rfl, rfl, ?_⟩
        omega

set_option maxRecDepth 100000 in
theorem hiX4_tell_4 : ∀ w ∈ wsX40, w ∈ wsX4_tell := by decide +kernel
set_option maxRecDepth 100000 in
theorem hfX4_tell_18 : Cond.fieldLink RX4 18 "KeyGuess$Tower" "starts" "[I" ∈ wsX4_tell := by decide +kernel
set_option maxRecDepth 100000 in
theorem hfX4_tell_22 : Cond.fieldLink RX4 22 "KeyGuess$Tower" "froms" "[I" ∈ wsX4_tell := by decide +kernel
set_option maxRecDepth 100000 in
theorem hfX4_tell_25 : Cond.fieldLink RX4 25 "KeyGuess$Tower" "lasts" "[I" ∈ wsX4_tell := by decide +kernel
set_option maxRecDepth 100000 in
theorem hfX4_tell_28 : Cond.fieldLink RX4 28 "KeyGuess$Tower" "firsts" "[I" ∈ wsX4_tell := by decide +kernel
set_option maxRecDepth 100000 in
theorem hfX4_tell_31 : Cond.fieldLink RX4 31 "KeyGuess$Tower" "slopeNums" "[I" ∈ wsX4_tell := by decide +kernel
set_option maxRecDepth 100000 in
theorem hfX4_tell_34 : Cond.fieldLink RX4 34 "KeyGuess$Tower" "slopeDens" "[I" ∈ wsX4_tell := by decide +kernel
set_option maxHeartbeats 4000000 in
set_option maxRecDepth 100000 in
/-- Tower.tell -/
theorem ctX4_tell (l : Launch) (g : xG) (a : Nat) (kb : Nat) (kc : Nat) (t1 : Nat) (t2 : Nat) (t3 : Nat) (t4 : Nat) (t5 : Nat) (t6 : Nat) (h : Int) (sz : Int) (bn : Int) (bf : Int → Int) (S : Int → Int) (A0 : Int → Int) (A1 : Int → Int) (A2 : Int → Int) (A3 : Int → Int) (A4 : Int → Int) (t : Int) (k : Int) (w : Int) (hw : TwF h sz S) (ht : Rg t) (hk : Rg k) (hv : Rg w) : Ct l g yX4_tell wsX4_tell ({ frames := 1, cells := 0, slots := 0, locals := 21 } : Room) 0 0 [(a, ob 4 [.ref kb, .ref t1, .ref t2, .ref t3, .ref t4, .ref t5, .ref t6, jv h, jv sz]), (kb, ob 2 [.ref kc, jv bn]), (kc, ai g 60 bf), (t1, ai g 11 S), (t2, ai g 60 A0), (t3, ai g 60 A1), (t4, ai g 60 A2), (t5, ai g 60 A3), (t6, ai g 60 A4)] [.ref a, jv t, jv k, jv w] (fun v u => (v = some (jv (-2)) ∧ u = [(a, ob 4 [.ref kb, .ref t1, .ref t2, .ref t3, .ref t4, .ref t5, .ref t6, jv h, jv sz]), (kb, ob 2 [.ref kc, jv bn]), (kc, ai g 60 bf), (t1, ai g 11 S), (t2, ai g 60 A0), (t3, ai g 60 A1), (t4, ai g 60 A2), (t5, ai g 60 A3), (t6, ai g 60 A4)] ∧ (k < 0 ∨ t < 0 ∨ h ≤ t ∨ S (t + 1) - S t ≤ k ∨ w < 0 ∨ 4 < w)) ∨ (v = some (jv (A0 (S t + k))) ∧ u = [(a, ob 4 [.ref kb, .ref t1, .ref t2, .ref t3, .ref t4, .ref t5, .ref t6, jv h, jv sz]), (kb, ob 2 [.ref kc, jv bn]), (kc, ai g 60 bf), (t1, ai g 11 S), (t2, ai g 60 A0), (t3, ai g 60 A1), (t4, ai g 60 A2), (t5, ai g 60 A3), (t6, ai g 60 A4)] ∧ (w = 0 ∧ 0 ≤ t ∧ t < h ∧ 0 ≤ k ∧ k < S (t + 1) - S t)) ∨ (v = some (jv (A1 (S t + k))) ∧ u = [(a, ob 4 [.ref kb, .ref t1, .ref t2, .ref t3, .ref t4, .ref t5, .ref t6, jv h, jv sz]), (kb, ob 2 [.ref kc, jv bn]), (kc, ai g 60 bf), (t1, ai g 11 S), (t2, ai g 60 A0), (t3, ai g 60 A1), (t4, ai g 60 A2), (t5, ai g 60 A3), (t6, ai g 60 A4)] ∧ (w = 1 ∧ 0 ≤ t ∧ t < h ∧ 0 ≤ k ∧ k < S (t + 1) - S t)) ∨ (v = some (jv (A2 (S t + k))) ∧ u = [(a, ob 4 [.ref kb, .ref t1, .ref t2, .ref t3, .ref t4, .ref t5, .ref t6, jv h, jv sz]), (kb, ob 2 [.ref kc, jv bn]), (kc, ai g 60 bf), (t1, ai g 11 S), (t2, ai g 60 A0), (t3, ai g 60 A1), (t4, ai g 60 A2), (t5, ai g 60 A3), (t6, ai g 60 A4)] ∧ (w = 2 ∧ 0 ≤ t ∧ t < h ∧ 0 ≤ k ∧ k < S (t + 1) - S t)) ∨ (v = some (jv (A3 (S t + k))) ∧ u = [(a, ob 4 [.ref kb, .ref t1, .ref t2, .ref t3, .ref t4, .ref t5, .ref t6, jv h, jv sz]), (kb, ob 2 [.ref kc, jv bn]), (kc, ai g 60 bf), (t1, ai g 11 S), (t2, ai g 60 A0), (t3, ai g 60 A1), (t4, ai g 60 A2), (t5, ai g 60 A3), (t6, ai g 60 A4)] ∧ (w = 3 ∧ 0 ≤ t ∧ t < h ∧ 0 ≤ k ∧ k < S (t + 1) - S t)) ∨ (v = some (jv (A4 (S t + k))) ∧ u = [(a, ob 4 [.ref kb, .ref t1, .ref t2, .ref t3, .ref t4, .ref t5, .ref t6, jv h, jv sz]), (kb, ob 2 [.ref kc, jv bn]), (kc, ai g 60 bf), (t1, ai g 11 S), (t2, ai g 60 A0), (t3, ai g 60 A1), (t4, ai g 60 A2), (t5, ai g 60 A3), (t6, ai g 60 A4)] ∧ (w = 4 ∧ 0 ≤ t ∧ t < h ∧ 0 ≤ k ∧ k < S (t + 1) - S t))) := by
  refine ct_of (cc := cX4_tell) (nL := 5) (ret := (some .int)) (by decide) rfl (Nat.le_of_ble_eq_true rfl) ?_
  intro E C Rt0
  have C : Cx l g E ({ frames := 1, cells := 0, slots := 0, locals := 21 } : Room) RX4 "tell" cX4_tell wsX4_tell 5 := C
  show X l g E ({ frames := 1, cells := 0, slots := 0, locals := 21 } : Room) 5 [(a, ob 4 [.ref kb, .ref t1, .ref t2, .ref t3, .ref t4, .ref t5, .ref t6, jv h, jv sz]), (kb, ob 2 [.ref kc, jv bn]), (kc, ai g 60 bf), (t1, ai g 11 S), (t2, ai g 60 A0), (t3, ai g 60 A1), (t4, ai g 60 A2), (t5, ai g 60 A3), (t6, ai g 60 A4)] 0 0 [(0, .ref a), (1, jv t), (2, jv k), (3, jv w)] 0 []
  have hw1 := hw.1
  have hw2 := hw.2.1
  have hw3 := hw.2.2.1
  have hw4 := hw.2.2.2.1
  have ht1 := ht.1
  have ht2 := ht.2
  have hk1 := hk.1
  have hk2 := hk.2
  have hv1 := hv.1
  have hv2 := hv.2
  refine x_iload_n (pc := 0) C 2 dX4_tell_0 rfl ?_
  refine x_if_lt (pc := 1) C 13 dX4_tell_1 rfl ⟨by omega, by omega⟩ (fun c_1 => ?_) (fun c_1 => ?_)
  · refine x_bipush (pc := 13) C dX4_tell_13 rfl ?_
    refine x_iret (pc := 15) C Rt0 dX4_tell_15 rfl ?_
    refine Or.inl ⟨rfl, rfl, ?_⟩
    omega
  · refine x_iload_n (pc := 4) C 2 dX4_tell_4 rfl ?_
    refine x_aload_n (pc := 5) C 0 dX4_tell_5 rfl ?_
    refine x_iload_n (pc := 6) C 1 dX4_tell_6 rfl ?_
    refine x_callV (pc := 7) C (n := 1) (q0 := 0) (rest := [jv k]) (wr := []) [0, 1, 2, 3, 4, 5, 6, 7, 8] [] (ctX4_width l g a kb kc t1 t2 t3 t4 t5 t6 h sz bn bf S A0 A1 A2 A3 A4 t hw ht) gX4_tell_X4_width rfl ⟨rfl, rfl⟩ (by decide +kernel) ⟨by decide, by decide⟩ rfl rfl rfl rfl rfl (by decide) (by decide) (by decide) rfl (Nat.le_of_ble_eq_true rfl) dX4_tell_7 ⟨by decide, by decide⟩ (fun v_7 u_7 h_7 => ?_)
    rcases h_7 with ⟨rfl, rfl, f_7⟩ | ⟨rfl, rfl, f_7⟩
    · refine x_world (ws' := [(a, ob 4 [.ref kb, .ref t1, .ref t2, .ref t3, .ref t4, .ref t5, .ref t6, jv h, jv sz]), (kb, ob 2 [.ref kc, jv bn]), (kc, ai g 60 bf), (t1, ai g 11 S), (t2, ai g 60 A0), (t3, ai g 60 A1), (t4, ai g 60 A2), (t5, ai g 60 A3), (t6, ai g 60 A4)]) [0, 1, 2, 3, 4, 5, 6, 7, 8] (by decide) rfl ?_
      show X l g E ({ frames := 1, cells := 0, slots := 0, locals := 21 } : Room) 5 [(a, ob 4 [.ref kb, .ref t1, .ref t2, .ref t3, .ref t4, .ref t5, .ref t6, jv h, jv sz]), (kb, ob 2 [.ref kc, jv bn]), (kc, ai g 60 bf), (t1, ai g 11 S), (t2, ai g 60 A0), (t3, ai g 60 A1), (t4, ai g 60 A2), (t5, ai g 60 A3), (t6, ai g 60 A4)] 0 0 [(0, .ref a), (1, jv t), (2, jv k), (3, jv w)] 10 [jv (S (t + 1) - S t), jv k]
      have hs := hw.2.2.2.2 t (by omega) (by omega)
      refine x_icmp_lt (pc := 10) C 16 dX4_tell_10 rfl ⟨by omega, by omega⟩ ⟨by omega, by omega⟩ (fun c_10 => ?_) (fun c_10 => ?_)
      · refine x_aload_n (pc := 16) C 0 dX4_tell_16 rfl ?_
        refine x_get (pc := 17) C 0 1 dX4_tell_17 hiX4_tell_4 hfX4_tell_18 rfl rfl rfl (by decide) rfl ?_
        refine x_iload_n (pc := 20) C 1 dX4_tell_20 rfl ?_
        refine x_iald (pc := 21) C 3 dX4_tell_21 rfl (by omega) (by omega) (by decide) ?_
        refine x_iload_n (pc := 22) C 2 dX4_tell_22 rfl ?_
        refine x_iadd (pc := 23) C dX4_tell_23 ?_
        refine x_istore (pc := 24) C (lv' := [(4, jv ((S t) + k)), (0, .ref a), (1, jv t), (2, jv k), (3, jv w)]) dX4_tell_24 (by decide) rfl ?_
        refine x_aload_n (pc := 26) C 1 dX4_tell_26 rfl ?_
        refine x_iload (pc := 27) C 0 dX4_tell_27 rfl ?_
        refine x_callV (pc := 29) C (n := 1) (q0 := 0) (rest := []) (wr := []) [0, 1, 2, 3, 4, 5, 6, 7, 8] [] (ctX4_isPiece l g a kb kc t1 t2 t3 t4 t5 t6 h sz bn bf S A0 A1 A2 A3 A4 (S t + k) ⟨hw3, hw4⟩ ⟨by omega, by omega⟩) gX4_tell_X4_isPiece rfl ⟨rfl, rfl⟩ (by decide +kernel) ⟨by decide, by decide⟩ rfl rfl rfl rfl rfl (by decide) (by decide) (by decide) rfl (Nat.le_of_ble_eq_true rfl) dX4_tell_29 ⟨by decide, by decide⟩ (fun v_29 u_29 h_29 => ?_)
        rcases h_29 with ⟨rfl, rfl, f_29⟩ | ⟨rfl, rfl, f_29⟩
        · refine x_world (ws' := [(a, ob 4 [.ref kb, .ref t1, .ref t2, .ref t3, .ref t4, .ref t5, .ref t6, jv h, jv sz]), (kb, ob 2 [.ref kc, jv bn]), (kc, ai g 60 bf), (t1, ai g 11 S), (t2, ai g 60 A0), (t3, ai g 60 A1), (t4, ai g 60 A2), (t5, ai g 60 A3), (t6, ai g 60 A4)]) [0, 1, 2, 3, 4, 5, 6, 7, 8] (by decide) rfl ?_
          show X l g E ({ frames := 1, cells := 0, slots := 0, locals := 21 } : Room) 5 [(a, ob 4 [.ref kb, .ref t1, .ref t2, .ref t3, .ref t4, .ref t5, .ref t6, jv h, jv sz]), (kb, ob 2 [.ref kc, jv bn]), (kc, ai g 60 bf), (t1, ai g 11 S), (t2, ai g 60 A0), (t3, ai g 60 A1), (t4, ai g 60 A2), (t5, ai g 60 A3), (t6, ai g 60 A4)] 0 0 [(4, jv ((S t) + k)), (0, .ref a), (1, jv t), (2, jv k), (3, jv w)] 32 [jv 1]
          refine x_if_ne (pc := 32) C 38 dX4_tell_32 rfl ⟨by decide, by decide⟩ (fun _ => ?_) (fun h => absurd h (by decide))
          refine x_iload_n (pc := 38) C 4 dX4_tell_38 rfl ?_
          by_cases sw_39 : w < 0 ∨ 4 < w
          · refine x_tableOut (pc := 39) C 112 dX4_tell_39 ⟨by omega, by omega⟩ sw_39 rfl ?_
            refine x_bipush (pc := 112) C dX4_tell_112 rfl ?_
            refine x_iret (pc := 114) C Rt0 dX4_tell_114 rfl ?_
            refine Or.inl ⟨rfl, rfl, ?_⟩
            omega
          have sv_39 : w = 0 ∨ w = 1 ∨ w = 2 ∨ w = 3 ∨ w = 4 := by omega
          rcases sv_39 with sv_39 | sv_39 | sv_39 | sv_39 | sv_39
          · refine x_tableIn (pc := 39) C 72 dX4_tell_39 ⟨by omega, by omega⟩ (by omega) (by omega) (by rw [sv_39]; rfl) rfl ?_
            refine x_aload_n (pc := 72) C 1 dX4_tell_72 rfl ?_
            refine x_get (pc := 73) C 0 2 dX4_tell_73 hiX4_tell_4 hfX4_tell_22 rfl rfl rfl (by decide) rfl ?_
            refine x_iload (pc := 76) C 0 dX4_tell_76 rfl ?_
            refine x_iald (pc := 78) C 4 dX4_tell_78 rfl (by omega) (by omega) (by decide) ?_
            refine x_iret (pc := 79) C Rt0 dX4_tell_79 rfl ?_
            refine Or.inr (Or.inl ⟨rfl, rfl, ?_⟩)
            omega
          · refine x_tableIn (pc := 39) C 80 dX4_tell_39 ⟨by omega, by omega⟩ (by omega) (by omega) (by rw [sv_39]; rfl) rfl ?_
            refine x_aload_n (pc := 80) C 1 dX4_tell_80 rfl ?_
            refine x_get (pc := 81) C 0 3 dX4_tell_81 hiX4_tell_4 hfX4_tell_25 rfl rfl rfl (by decide) rfl ?_
            refine x_iload (pc := 84) C 0 dX4_tell_84 rfl ?_
            refine x_iald (pc := 86) C 5 dX4_tell_86 rfl (by omega) (by omega) (by decide) ?_
            refine x_iret (pc := 87) C Rt0 dX4_tell_87 rfl ?_
            refine Or.inr (Or.inr (Or.inl ⟨rfl, rfl, ?_⟩))
            omega
          · refine x_tableIn (pc := 39) C 88 dX4_tell_39 ⟨by omega, by omega⟩ (by omega) (by omega) (by rw [sv_39]; rfl) rfl ?_
            refine x_aload_n (pc := 88) C 1 dX4_tell_88 rfl ?_
            refine x_get (pc := 89) C 0 4 dX4_tell_89 hiX4_tell_4 hfX4_tell_28 rfl rfl rfl (by decide) rfl ?_
            refine x_iload (pc := 92) C 0 dX4_tell_92 rfl ?_
            refine x_iald (pc := 94) C 6 dX4_tell_94 rfl (by omega) (by omega) (by decide) ?_
            refine x_iret (pc := 95) C Rt0 dX4_tell_95 rfl ?_
            refine Or.inr (Or.inr (Or.inr (Or.inl ⟨rfl, rfl, ?_⟩)))
            omega
          · refine x_tableIn (pc := 39) C 96 dX4_tell_39 ⟨by omega, by omega⟩ (by omega) (by omega) (by rw [sv_39]; rfl) rfl ?_
            refine x_aload_n (pc := 96) C 1 dX4_tell_96 rfl ?_
            refine x_get (pc := 97) C 0 5 dX4_tell_97 hiX4_tell_4 hfX4_tell_31 rfl rfl rfl (by decide) rfl ?_
            refine x_iload (pc := 100) C 0 dX4_tell_100 rfl ?_
            refine x_iald (pc := 102) C 7 dX4_tell_102 rfl (by omega) (by omega) (by decide) ?_
            refine x_iret (pc := 103) C Rt0 dX4_tell_103 rfl ?_
            refine Or.inr (Or.inr (Or.inr (Or.inr (Or.inl ⟨rfl, rfl, ?_⟩))))
            omega
          · refine x_tableIn (pc := 39) C 104 dX4_tell_39 ⟨by omega, by omega⟩ (by omega) (by omega) (by rw [sv_39]; rfl) rfl ?_
            refine x_aload_n (pc := 104) C 1 dX4_tell_104 rfl ?_
            refine x_get (pc := 105) C 0 6 dX4_tell_105 hiX4_tell_4 hfX4_tell_34 rfl rfl rfl (by decide) rfl ?_
            refine x_iload (pc := 108) C 0 dX4_tell_108 rfl ?_
            refine x_iald (pc := 110) C 8 dX4_tell_110 rfl (by omega) (by omega) (by decide) ?_
            refine x_iret (pc := 111) C Rt0 dX4_tell_111 rfl ?_
            refine Or.inr (Or.inr (Or.inr (Or.inr (Or.inr (⟨rfl, rfl, ?_⟩)))))
            omega
        · refine x_world (ws' := [(a, ob 4 [.ref kb, .ref t1, .ref t2, .ref t3, .ref t4, .ref t5, .ref t6, jv h, jv sz]), (kb, ob 2 [.ref kc, jv bn]), (kc, ai g 60 bf), (t1, ai g 11 S), (t2, ai g 60 A0), (t3, ai g 60 A1), (t4, ai g 60 A2), (t5, ai g 60 A3), (t6, ai g 60 A4)]) [0, 1, 2, 3, 4, 5, 6, 7, 8] (by decide) rfl ?_
          show X l g E ({ frames := 1, cells := 0, slots := 0, locals := 21 } : Room) 5 [(a, ob 4 [.ref kb, .ref t1, .ref t2, .ref t3, .ref t4, .ref t5, .ref t6, jv h, jv sz]), (kb, ob 2 [.ref kc, jv bn]), (kc, ai g 60 bf), (t1, ai g 11 S), (t2, ai g 60 A0), (t3, ai g 60 A1), (t4, ai g 60 A2), (t5, ai g 60 A3), (t6, ai g 60 A4)] 0 0 [(4, jv ((S t) + k)), (0, .ref a), (1, jv t), (2, jv k), (3, jv w)] 32 [jv 0]
          omega
      · refine x_bipush (pc := 13) C dX4_tell_13 rfl ?_
        refine x_iret (pc := 15) C Rt0 dX4_tell_15 rfl ?_
        refine Or.inl ⟨rfl, rfl, ?_⟩
        omega
    · refine x_world (ws' := [(a, ob 4 [.ref kb, .ref t1, .ref t2, .ref t3, .ref t4, .ref t5, .ref t6, jv h, jv sz]), (kb, ob 2 [.ref kc, jv bn]), (kc, ai g 60 bf), (t1, ai g 11 S), (t2, ai g 60 A0), (t3, ai g 60 A1), (t4, ai g 60 A2), (t5, ai g 60 A3), (t6, ai g 60 A4)]) [0, 1, 2, 3, 4, 5, 6, 7, 8] (by decide) rfl ?_
      show X l g E ({ frames := 1, cells := 0, slots := 0, locals := 21 } : Room) 5 [(a, ob 4 [.ref kb, .ref t1, .ref t2, .ref t3, .ref t4, .ref t5, .ref t6, jv h, jv sz]), (kb, ob 2 [.ref kc, jv bn]), (kc, ai g 60 bf), (t1, ai g 11 S), (t2, ai g 60 A0), (t3, ai g 60 A1), (t4, ai g 60 A2), (t5, ai g 60 A3), (t6, ai g 60 A4)] 0 0 [(0, .ref a), (1, jv t), (2, jv k), (3, jv w)] 10 [jv 0, jv k]
      refine x_icmp_lt (pc := 10) C 16 dX4_tell_10 rfl ⟨by omega, by omega⟩ ⟨by omega, by omega⟩ (fun c_10 => ?_) (fun c_10 => ?_)
      · omega
      · refine x_bipush (pc := 13) C dX4_tell_13 rfl ?_
        refine x_iret (pc := 15) C Rt0 dX4_tell_15 rfl ?_
        refine Or.inl ⟨rfl, rfl, ?_⟩
        omega

set_option maxHeartbeats 4000000 in
set_option maxRecDepth 100000 in
/-- Tower.commonDivisor -/
theorem ctX4_commonDivisor (l : Launch) (g : xG) (x : Int) (y : Int) (hx : 0 ≤ x ∧ x ≤ 60) (hy : 1 ≤ y ∧ y ≤ 1000000) : Ct l g yX4_commonDivisor wsX4_commonDivisor ({ frames := 0, cells := 0, slots := 0, locals := 0 } : Room) 0 0 [] [jv x, jv y] (fun v u => ∃ (r : Int), v = some (jv r) ∧ u = [] ∧ (r = gcdI x y)) := by
  refine ct_of (cc := cX4_commonDivisor) (nL := 4) (ret := (some .int)) (by decide) rfl (Nat.le_of_ble_eq_true rfl) ?_
  intro E C Rt0
  have C : Cx l g E ({ frames := 0, cells := 0, slots := 0, locals := 0 } : Room) RX4 "commonDivisor" cX4_commonDivisor wsX4_commonDivisor 4 := C
  show X l g E ({ frames := 0, cells := 0, slots := 0, locals := 0 } : Room) 4 [] 0 0 [(0, jv x), (1, jv y)] 0 []
  refine x_iconst (pc := 0) C dX4_commonDivisor_0 ?_
  refine x_istore_n (pc := 1) C (lv' := [(2, jv 0), (0, jv x), (1, jv y)]) dX4_commonDivisor_1 (by decide) rfl ?_
  have L2 : ∀ (nn : Nat) (u : Int) (v : Int) (j : Int), (v).toNat < nn → (0 ≤ u ∧ u ≤ 1000000 ∧ 0 ≤ v ∧ v ≤ 1000000) → ((j = 0 ∧ u ≤ 60 ∧ 1 ≤ v) ∨ (1 ≤ j ∧ j ≤ 62 ∧ v ≤ 61 - j)) → (gcdI u v = gcdI x y) → X l g E ({ frames := 0, cells := 0, slots := 0, locals := 0 } : Room) 4 [] 0 0 [(0, jv u), (1, jv v), (2, jv j)] 2 [] := by
    intro nn
    induction nn with
    | zero => intro u v j hμ; exact absurd hμ (Nat.not_lt_zero _)
    | succ nn ih2 =>
      intro u v j hμ hu hj hg
      refine x_iload_n (pc := 2) C 2 dX4_commonDivisor_2 rfl ?_
      refine x_bipush (pc := 3) C dX4_commonDivisor_3 rfl ?_
      refine x_icmp_ge (pc := 5) C 26 dX4_commonDivisor_5 rfl ⟨by omega, by omega⟩ ⟨by omega, by omega⟩ (fun c_5 => ?_) (fun c_5 => ?_)
      · omega
      · refine x_iload_n (pc := 8) C 1 dX4_commonDivisor_8 rfl ?_
        refine x_if_eq (pc := 9) C 26 dX4_commonDivisor_9 rfl ⟨by omega, by omega⟩ (fun c_9 => ?_) (fun c_9 => ?_)
        · refine x_iload_n (pc := 26) C 0 dX4_commonDivisor_26 rfl ?_
          refine x_iret (pc := 27) C Rt0 dX4_commonDivisor_27 rfl ?_
          refine ⟨_, rfl, rfl, ?_⟩
          rw [← hg, show v = 0 by omega, gcdI_0 (by omega)]
        · refine x_iload_n (pc := 12) C 0 dX4_commonDivisor_12 rfl ?_
          refine x_iload_n (pc := 13) C 1 dX4_commonDivisor_13 rfl ?_
          refine x_irem (pc := 14) C dX4_commonDivisor_14 ⟨by omega, by omega⟩ ⟨by omega, by omega⟩ (by first | decide | omega) ?_
          refine x_istore_n (pc := 15) C (lv' := [(3, jv ((u).tmod v)), (0, jv u), (1, jv v), (2, jv j)]) dX4_commonDivisor_15 (by decide) rfl ?_
          refine x_iload_n (pc := 16) C 2 dX4_commonDivisor_16 rfl ?_
          refine x_istore_n (pc := 17) C (lv' := [(0, jv v), (3, jv ((u).tmod v)), (1, jv v), (2, jv j)]) dX4_commonDivisor_17 (by decide) rfl ?_
          refine x_iload_n (pc := 18) C 1 dX4_commonDivisor_18 rfl ?_
          refine x_istore_n (pc := 19) C (lv' := [(1, jv ((u).tmod v)), (0, jv v), (3, jv ((u).tmod v)), (2, jv j)]) dX4_commonDivisor_19 (by decide) rfl ?_
          refine x_iinc (pc := 20) C (lv' := [(2, jv (j + 1)), (1, jv ((u).tmod v)), (0, jv v), (3, jv ((u).tmod v))]) 3 dX4_commonDivisor_20 rfl (by decide) rfl ?_
          refine x_goto (pc := 23) C 2 dX4_commonDivisor_23 rfl ?_
          refine x_locals (lv' := [(0, jv v), (1, jv ((u).tmod v)), (2, jv (j + 1))]) [2, 1, 0] rfl ?_
          refine ih2 _ _ _ ?_ ?_ ?_ ?_
          · have := tmf (a := u) (b := v) (by omega) (by omega); omega
          · have := tmf (a := u) (b := v) (by omega) (by omega); omega
          · have := tmf (a := u) (b := v) (by omega) (by omega); omega
          · rw [gcdI_s (by omega) (by omega)]; exact hg
  refine x_locals (lv' := [(0, jv x), (1, jv y), (2, jv 0)]) [1, 2, 0] rfl ?_
  refine L2 _ _ _ _ (Nat.lt_succ_self _) ?_ ?_ ?_
  · omega
  · omega
  · rfl

set_option maxRecDepth 100000 in
theorem hiX4_lay_4 : ∀ w ∈ wsX40, w ∈ wsX4_lay := by decide +kernel
set_option maxRecDepth 100000 in
theorem hfX4_lay_49 : Cond.fieldLink RX4 49 "KeyGuess$Tower" "size" "I" ∈ wsX4_lay := by decide +kernel
set_option maxRecDepth 100000 in
theorem hfX4_lay_22 : Cond.fieldLink RX4 22 "KeyGuess$Tower" "froms" "[I" ∈ wsX4_lay := by decide +kernel
set_option maxRecDepth 100000 in
theorem hfX4_lay_25 : Cond.fieldLink RX4 25 "KeyGuess$Tower" "lasts" "[I" ∈ wsX4_lay := by decide +kernel
set_option maxRecDepth 100000 in
theorem hfX4_lay_28 : Cond.fieldLink RX4 28 "KeyGuess$Tower" "firsts" "[I" ∈ wsX4_lay := by decide +kernel
set_option maxRecDepth 100000 in
theorem hfX4_lay_12 : Cond.fieldLink RX4 12 "KeyGuess$Tower" "base" "LKeyGuess$Keys;" ∈ wsX4_lay := by decide +kernel
set_option maxRecDepth 100000 in
theorem hfX4_lay_31 : Cond.fieldLink RX4 31 "KeyGuess$Tower" "slopeNums" "[I" ∈ wsX4_lay := by decide +kernel
set_option maxRecDepth 100000 in
theorem hfX4_lay_34 : Cond.fieldLink RX4 34 "KeyGuess$Tower" "slopeDens" "[I" ∈ wsX4_lay := by decide +kernel
set_option maxHeartbeats 4000000 in
set_option maxRecDepth 100000 in
/-- Tower.lay -/
theorem ctX4_lay (l : Launch) (g : xG) (a : Nat) (kb : Nat) (kc : Nat) (t1 : Nat) (t2 : Nat) (t3 : Nat) (t4 : Nat) (t5 : Nat) (t6 : Nat) (h : Int) (sz : Int) (bn : Int) (bf : Int → Int) (S : Int → Int) (A0 : Int → Int) (A1 : Int → Int) (A2 : Int → Int) (A3 : Int → Int) (A4 : Int → Int) (ca : Nat) (c1 : Nat) (c2 : Nat) (c3 : Nat) (c4 : Nat) (c5 : Nat) (x : Int → Int) (F : Int → Int) (Ls : Int → Int) (Nm : Int → Int) (Dn : Int → Int) (i : Int) (hz : 0 ≤ sz ∧ sz < 60) (hb : bn ≤ 60) (hi : 0 ≤ i ∧ i < bn) (hN : 0 ≤ Nm i ∧ Nm i ≤ 60 ∧ 1 ≤ Dn i ∧ Dn i ≤ 1000000) : Ct l g yX4_lay wsX4_lay ({ frames := 2, cells := 0, slots := 0, locals := 41 } : Room) 0 0 [(a, ob 4 [.ref kb, .ref t1, .ref t2, .ref t3, .ref t4, .ref t5, .ref t6, jv h, jv sz]), (kb, ob 2 [.ref kc, jv bn]), (kc, ai g 60 bf), (t1, ai g 11 S), (t2, ai g 60 A0), (t3, ai g 60 A1), (t4, ai g 60 A2), (t5, ai g 60 A3), (t6, ai g 60 A4), (ca, ob 0 [.ref c1, .ref c2, .ref c3, .ref c4, .ref c5]), (c1, ai g 60 x), (c2, ai g 61 F), (c3, ai g 60 Ls), (c4, ai g 60 Nm), (c5, ai g 60 Dn)] [.ref a, jv i, .ref ca] (fun v u => v = none ∧ u = [(a, ob 4 [.ref kb, .ref t1, .ref t2, .ref t3, .ref t4, .ref t5, .ref t6, jv h, jv (sz + 1)]), (kb, ob 2 [.ref kc, jv bn]), (kc, ai g 60 bf), (t1, ai g 11 S), (t2, ai g 60 (up A0 sz i)), (t3, ai g 60 (up A1 sz (Ls i))), (t4, ai g 60 (up A2 sz (bf i))), (t5, ai g 60 (up A3 sz (Nm i / gcdI (Nm i) (Dn i)))), (t6, ai g 60 (up A4 sz (Dn i / gcdI (Nm i) (Dn i)))), (ca, ob 0 [.ref c1, .ref c2, .ref c3, .ref c4, .ref c5]), (c1, ai g 60 x), (c2, ai g 61 F), (c3, ai g 60 Ls), (c4, ai g 60 Nm), (c5, ai g 60 Dn)] ∧ (True)) := by
  refine ct_of (cc := cX4_lay) (nL := 6) (ret := none) (by decide) rfl (Nat.le_of_ble_eq_true rfl) ?_
  intro E C Rt0
  have C : Cx l g E ({ frames := 2, cells := 0, slots := 0, locals := 41 } : Room) RX4 "lay" cX4_lay wsX4_lay 6 := C
  show X l g E ({ frames := 2, cells := 0, slots := 0, locals := 41 } : Room) 6 [(a, ob 4 [.ref kb, .ref t1, .ref t2, .ref t3, .ref t4, .ref t5, .ref t6, jv h, jv sz]), (kb, ob 2 [.ref kc, jv bn]), (kc, ai g 60 bf), (t1, ai g 11 S), (t2, ai g 60 A0), (t3, ai g 60 A1), (t4, ai g 60 A2), (t5, ai g 60 A3), (t6, ai g 60 A4), (ca, ob 0 [.ref c1, .ref c2, .ref c3, .ref c4, .ref c5]), (c1, ai g 60 x), (c2, ai g 61 F), (c3, ai g 60 Ls), (c4, ai g 60 Nm), (c5, ai g 60 Dn)] 0 0 [(0, .ref a), (1, jv i), (2, .ref ca)] 0 []
  refine x_aload_n (pc := 0) C 0 dX4_lay_0 rfl ?_
  refine x_get (pc := 1) C 0 8 dX4_lay_1 hiX4_lay_4 hfX4_lay_49 rfl rfl rfl (by decide) rfl ?_
  refine x_if_lt (pc := 4) C 16 dX4_lay_4 rfl ⟨by omega, by omega⟩ (fun c_4 => ?_) (fun c_4 => ?_)
  · omega
  · refine x_aload_n (pc := 7) C 0 dX4_lay_7 rfl ?_
    refine x_get (pc := 8) C 0 8 dX4_lay_8 hiX4_lay_4 hfX4_lay_49 rfl rfl rfl (by decide) rfl ?_
    refine x_bipush (pc := 11) C dX4_lay_11 rfl ?_
    refine x_icmp_lt (pc := 13) C 17 dX4_lay_13 rfl ⟨by omega, by omega⟩ ⟨by omega, by omega⟩ (fun c_13 => ?_) (fun c_13 => ?_)
    · refine x_aload_n (pc := 17) C 2 dX4_lay_17 rfl ?_
      refine x_iload_n (pc := 18) C 1 dX4_lay_18 rfl ?_
      refine x_callV (pc := 19) C (n := 1) (q0 := 0) (rest := []) (wr := [(a, ob 4 [.ref kb, .ref t1, .ref t2, .ref t3, .ref t4, .ref t5, .ref t6, jv h, jv sz]), (kb, ob 2 [.ref kc, jv bn]), (kc, ai g 60 bf), (t1, ai g 11 S), (t2, ai g 60 A0), (t3, ai g 60 A1), (t4, ai g 60 A2), (t5, ai g 60 A3), (t6, ai g 60 A4)]) [9, 10, 11, 12, 13, 14] [0, 1, 2, 3, 4, 5, 6, 7, 8] (ctX0_slopeNum l g ca c1 c2 c3 c4 c5 x F Ls Nm Dn i ⟨hi.1, by omega⟩) gX4_lay_X0_slopeNum rfl ⟨rfl, rfl⟩ (by decide +kernel) ⟨by decide, by decide⟩ rfl rfl rfl rfl rfl (by decide) (by decide) (by decide) rfl (Nat.le_of_ble_eq_true rfl) dX4_lay_19 ⟨by decide, by decide⟩ (fun v_19 u_19 h_19 => ?_)
      rcases h_19 with ⟨rfl, rfl, f_19⟩
      refine x_world (ws' := [(a, ob 4 [.ref kb, .ref t1, .ref t2, .ref t3, .ref t4, .ref t5, .ref t6, jv h, jv sz]), (kb, ob 2 [.ref kc, jv bn]), (kc, ai g 60 bf), (t1, ai g 11 S), (t2, ai g 60 A0), (t3, ai g 60 A1), (t4, ai g 60 A2), (t5, ai g 60 A3), (t6, ai g 60 A4), (ca, ob 0 [.ref c1, .ref c2, .ref c3, .ref c4, .ref c5]), (c1, ai g 60 x), (c2, ai g 61 F), (c3, ai g 60 Ls), (c4, ai g 60 Nm), (c5, ai g 60 Dn)]) [0, 1, 2, 3, 4, 5, 6, 7, 8, 9, 10, 11, 12, 13, 14] (by decide) rfl ?_
      show X l g E ({ frames := 2, cells := 0, slots := 0, locals := 41 } : Room) 6 [(a, ob 4 [.ref kb, .ref t1, .ref t2, .ref t3, .ref t4, .ref t5, .ref t6, jv h, jv sz]), (kb, ob 2 [.ref kc, jv bn]), (kc, ai g 60 bf), (t1, ai g 11 S), (t2, ai g 60 A0), (t3, ai g 60 A1), (t4, ai g 60 A2), (t5, ai g 60 A3), (t6, ai g 60 A4), (ca, ob 0 [.ref c1, .ref c2, .ref c3, .ref c4, .ref c5]), (c1, ai g 60 x), (c2, ai g 61 F), (c3, ai g 60 Ls), (c4, ai g 60 Nm), (c5, ai g 60 Dn)] 0 0 [(0, .ref a), (1, jv i), (2, .ref ca)] 22 [jv (Nm i)]
      refine x_istore_n (pc := 22) C (lv' := [(3, jv (Nm i)), (0, .ref a), (1, jv i), (2, .ref ca)]) dX4_lay_22 (by decide) rfl ?_
      refine x_aload_n (pc := 23) C 3 dX4_lay_23 rfl ?_
      refine x_iload_n (pc := 24) C 2 dX4_lay_24 rfl ?_
      refine x_callV (pc := 25) C (n := 1) (q0 := 0) (rest := []) (wr := [(a, ob 4 [.ref kb, .ref t1, .ref t2, .ref t3, .ref t4, .ref t5, .ref t6, jv h, jv sz]), (kb, ob 2 [.ref kc, jv bn]), (kc, ai g 60 bf), (t1, ai g 11 S), (t2, ai g 60 A0), (t3, ai g 60 A1), (t4, ai g 60 A2), (t5, ai g 60 A3), (t6, ai g 60 A4)]) [9, 10, 11, 12, 13, 14] [0, 1, 2, 3, 4, 5, 6, 7, 8] (ctX0_slopeDen l g ca c1 c2 c3 c4 c5 x F Ls Nm Dn i ⟨hi.1, by omega⟩) gX4_lay_X0_slopeDen rfl ⟨rfl, rfl⟩ (by decide +kernel) ⟨by decide, by decide⟩ rfl rfl rfl rfl rfl (by decide) (by decide) (by decide) rfl (Nat.le_of_ble_eq_true rfl) dX4_lay_25 ⟨by decide, by decide⟩ (fun v_25 u_25 h_25 => ?_)
      rcases h_25 with ⟨rfl, rfl, f_25⟩
      refine x_world (ws' := [(a, ob 4 [.ref kb, .ref t1, .ref t2, .ref t3, .ref t4, .ref t5, .ref t6, jv h, jv sz]), (kb, ob 2 [.ref kc, jv bn]), (kc, ai g 60 bf), (t1, ai g 11 S), (t2, ai g 60 A0), (t3, ai g 60 A1), (t4, ai g 60 A2), (t5, ai g 60 A3), (t6, ai g 60 A4), (ca, ob 0 [.ref c1, .ref c2, .ref c3, .ref c4, .ref c5]), (c1, ai g 60 x), (c2, ai g 61 F), (c3, ai g 60 Ls), (c4, ai g 60 Nm), (c5, ai g 60 Dn)]) [0, 1, 2, 3, 4, 5, 6, 7, 8, 9, 10, 11, 12, 13, 14] (by decide) rfl ?_
      show X l g E ({ frames := 2, cells := 0, slots := 0, locals := 41 } : Room) 6 [(a, ob 4 [.ref kb, .ref t1, .ref t2, .ref t3, .ref t4, .ref t5, .ref t6, jv h, jv sz]), (kb, ob 2 [.ref kc, jv bn]), (kc, ai g 60 bf), (t1, ai g 11 S), (t2, ai g 60 A0), (t3, ai g 60 A1), (t4, ai g 60 A2), (t5, ai g 60 A3), (t6, ai g 60 A4), (ca, ob 0 [.ref c1, .ref c2, .ref c3, .ref c4, .ref c5]), (c1, ai g 60 x), (c2, ai g 61 F), (c3, ai g 60 Ls), (c4, ai g 60 Nm), (c5, ai g 60 Dn)] 0 0 [(3, jv (Nm i)), (0, .ref a), (1, jv i), (2, .ref ca)] 28 [jv (Dn i)]
      refine x_istore (pc := 28) C (lv' := [(4, jv (Dn i)), (3, jv (Nm i)), (0, .ref a), (1, jv i), (2, .ref ca)]) dX4_lay_28 (by decide) rfl ?_
      refine x_iload_n (pc := 30) C 1 dX4_lay_30 rfl ?_
      refine x_iload (pc := 31) C 0 dX4_lay_31 rfl ?_
      refine x_callS (pc := 33) C (n := 2) (rest := []) (wr := [(a, ob 4 [.ref kb, .ref t1, .ref t2, .ref t3, .ref t4, .ref t5, .ref t6, jv h, jv sz]), (kb, ob 2 [.ref kc, jv bn]), (kc, ai g 60 bf), (t1, ai g 11 S), (t2, ai g 60 A0), (t3, ai g 60 A1), (t4, ai g 60 A2), (t5, ai g 60 A3), (t6, ai g 60 A4), (ca, ob 0 [.ref c1, .ref c2, .ref c3, .ref c4, .ref c5]), (c1, ai g 60 x), (c2, ai g 61 F), (c3, ai g 60 Ls), (c4, ai g 60 Nm), (c5, ai g 60 Dn)]) [] [0, 1, 2, 3, 4, 5, 6, 7, 8, 9, 10, 11, 12, 13, 14] (ctX4_commonDivisor l g (Nm i) (Dn i) ⟨hN.1, hN.2.1⟩ ⟨hN.2.2.1, hN.2.2.2⟩) gX4_lay_X4_commonDivisor rfl (by decide +kernel) ⟨rfl, rfl⟩ ⟨by decide, by decide⟩ rfl rfl rfl (by decide) (by decide) (by decide) rfl (Nat.le_of_ble_eq_true rfl) dX4_lay_33 ⟨by decide, by decide⟩ (fun v_33 u_33 h_33 => ?_)
      rcases h_33 with ⟨r, rfl, rfl, f_33⟩
      refine x_world (ws' := [(a, ob 4 [.ref kb, .ref t1, .ref t2, .ref t3, .ref t4, .ref t5, .ref t6, jv h, jv sz]), (kb, ob 2 [.ref kc, jv bn]), (kc, ai g 60 bf), (t1, ai g 11 S), (t2, ai g 60 A0), (t3, ai g 60 A1), (t4, ai g 60 A2), (t5, ai g 60 A3), (t6, ai g 60 A4), (ca, ob 0 [.ref c1, .ref c2, .ref c3, .ref c4, .ref c5]), (c1, ai g 60 x), (c2, ai g 61 F), (c3, ai g 60 Ls), (c4, ai g 60 Nm), (c5, ai g 60 Dn)]) [0, 1, 2, 3, 4, 5, 6, 7, 8, 9, 10, 11, 12, 13, 14] (by decide) rfl ?_
      show X l g E ({ frames := 2, cells := 0, slots := 0, locals := 41 } : Room) 6 [(a, ob 4 [.ref kb, .ref t1, .ref t2, .ref t3, .ref t4, .ref t5, .ref t6, jv h, jv sz]), (kb, ob 2 [.ref kc, jv bn]), (kc, ai g 60 bf), (t1, ai g 11 S), (t2, ai g 60 A0), (t3, ai g 60 A1), (t4, ai g 60 A2), (t5, ai g 60 A3), (t6, ai g 60 A4), (ca, ob 0 [.ref c1, .ref c2, .ref c3, .ref c4, .ref c5]), (c1, ai g 60 x), (c2, ai g 61 F), (c3, ai g 60 Ls), (c4, ai g 60 Nm), (c5, ai g 60 Dn)] 0 0 [(4, jv (Dn i)), (3, jv (Nm i)), (0, .ref a), (1, jv i), (2, .ref ca)] 36 [jv r]
      have g1 : 1 ≤ r := by rw [f_33]; exact gcdI_pos (a := Nm i) (b := Dn i) hN.2.2.1
      have g2 : r ≤ Dn i := by rw [f_33]; exact gcdI_le (a := Nm i) (b := Dn i) hN.2.2.1
      refine x_istore (pc := 36) C (lv' := [(5, jv r), (4, jv (Dn i)), (3, jv (Nm i)), (0, .ref a), (1, jv i), (2, .ref ca)]) dX4_lay_36 (by decide) rfl ?_
      refine x_aload_n (pc := 38) C 3 dX4_lay_38 rfl ?_
      refine x_get (pc := 39) C 0 2 dX4_lay_39 hiX4_lay_4 hfX4_lay_22 rfl rfl rfl (by decide) rfl ?_
      refine x_aload_n (pc := 42) C 3 dX4_lay_42 rfl ?_
      refine x_get (pc := 43) C 0 8 dX4_lay_43 hiX4_lay_4 hfX4_lay_49 rfl rfl rfl (by decide) rfl ?_
      refine x_iload_n (pc := 46) C 4 dX4_lay_46 rfl ?_
      refine x_iast (pc := 47) C (ws' := [(a, ob 4 [.ref kb, .ref t1, .ref t2, .ref t3, .ref t4, .ref t5, .ref t6, jv h, jv sz]), (kb, ob 2 [.ref kc, jv bn]), (kc, ai g 60 bf), (t1, ai g 11 S), (t2, ai g 60 (up A0 sz i)), (t3, ai g 60 A1), (t4, ai g 60 A2), (t5, ai g 60 A3), (t6, ai g 60 A4), (ca, ob 0 [.ref c1, .ref c2, .ref c3, .ref c4, .ref c5]), (c1, ai g 60 x), (c2, ai g 61 F), (c3, ai g 60 Ls), (c4, ai g 60 Nm), (c5, ai g 60 Dn)]) 4 dX4_lay_47 rfl (by omega) (by omega) (by decide) rfl ?_
      refine x_aload_n (pc := 48) C 3 dX4_lay_48 rfl ?_
      refine x_get (pc := 49) C 0 3 dX4_lay_49 hiX4_lay_4 hfX4_lay_25 rfl rfl rfl (by decide) rfl ?_
      refine x_aload_n (pc := 52) C 3 dX4_lay_52 rfl ?_
      refine x_get (pc := 53) C 0 8 dX4_lay_53 hiX4_lay_4 hfX4_lay_49 rfl rfl rfl (by decide) rfl ?_
      refine x_aload_n (pc := 56) C 5 dX4_lay_56 rfl ?_
      refine x_iload_n (pc := 57) C 4 dX4_lay_57 rfl ?_
      refine x_callV (pc := 58) C (n := 1) (q0 := 0) (rest := [jv sz, .ref t3]) (wr := [(a, ob 4 [.ref kb, .ref t1, .ref t2, .ref t3, .ref t4, .ref t5, .ref t6, jv h, jv sz]), (kb, ob 2 [.ref kc, jv bn]), (kc, ai g 60 bf), (t1, ai g 11 S), (t2, ai g 60 (up A0 sz i)), (t3, ai g 60 A1), (t4, ai g 60 A2), (t5, ai g 60 A3), (t6, ai g 60 A4)]) [9, 10, 11, 12, 13, 14] [0, 1, 2, 3, 4, 5, 6, 7, 8] (ctX0_lastOf l g ca c1 c2 c3 c4 c5 x F Ls Nm Dn i ⟨hi.1, by omega⟩) gX4_lay_X0_lastOf rfl ⟨rfl, rfl⟩ (by decide +kernel) ⟨by decide, by decide⟩ rfl rfl rfl rfl rfl (by decide) (by decide) (by decide) rfl (Nat.le_of_ble_eq_true rfl) dX4_lay_58 ⟨by decide, by decide⟩ (fun v_58 u_58 h_58 => ?_)
      rcases h_58 with ⟨rfl, rfl, f_58⟩
      refine x_world (ws' := [(a, ob 4 [.ref kb, .ref t1, .ref t2, .ref t3, .ref t4, .ref t5, .ref t6, jv h, jv sz]), (kb, ob 2 [.ref kc, jv bn]), (kc, ai g 60 bf), (t1, ai g 11 S), (t2, ai g 60 (up A0 sz i)), (t3, ai g 60 A1), (t4, ai g 60 A2), (t5, ai g 60 A3), (t6, ai g 60 A4), (ca, ob 0 [.ref c1, .ref c2, .ref c3, .ref c4, .ref c5]), (c1, ai g 60 x), (c2, ai g 61 F), (c3, ai g 60 Ls), (c4, ai g 60 Nm), (c5, ai g 60 Dn)]) [0, 1, 2, 3, 4, 5, 6, 7, 8, 9, 10, 11, 12, 13, 14] (by decide) rfl ?_
      show X l g E ({ frames := 2, cells := 0, slots := 0, locals := 41 } : Room) 6 [(a, ob 4 [.ref kb, .ref t1, .ref t2, .ref t3, .ref t4, .ref t5, .ref t6, jv h, jv sz]), (kb, ob 2 [.ref kc, jv bn]), (kc, ai g 60 bf), (t1, ai g 11 S), (t2, ai g 60 (up A0 sz i)), (t3, ai g 60 A1), (t4, ai g 60 A2), (t5, ai g 60 A3), (t6, ai g 60 A4), (ca, ob 0 [.ref c1, .ref c2, .ref c3, .ref c4, .ref c5]), (c1, ai g 60 x), (c2, ai g 61 F), (c3, ai g 60 Ls), (c4, ai g 60 Nm), (c5, ai g 60 Dn)] 0 0 [(5, jv r), (4, jv (Dn i)), (3, jv (Nm i)), (0, .ref a), (1, jv i), (2, .ref ca)] 61 [jv (Ls i), jv sz, .ref t3]
      refine x_iast (pc := 61) C (ws' := [(a, ob 4 [.ref kb, .ref t1, .ref t2, .ref t3, .ref t4, .ref t5, .ref t6, jv h, jv sz]), (kb, ob 2 [.ref kc, jv bn]), (kc, ai g 60 bf), (t1, ai g 11 S), (t2, ai g 60 (up A0 sz i)), (t3, ai g 60 (up A1 sz (Ls i))), (t4, ai g 60 A2), (t5, ai g 60 A3), (t6, ai g 60 A4), (ca, ob 0 [.ref c1, .ref c2, .ref c3, .ref c4, .ref c5]), (c1, ai g 60 x), (c2, ai g 61 F), (c3, ai g 60 Ls), (c4, ai g 60 Nm), (c5, ai g 60 Dn)]) 5 dX4_lay_61 rfl (by omega) (by omega) (by decide) rfl ?_
      refine x_aload_n (pc := 62) C 3 dX4_lay_62 rfl ?_
      refine x_get (pc := 63) C 0 4 dX4_lay_63 hiX4_lay_4 hfX4_lay_28 rfl rfl rfl (by decide) rfl ?_
      refine x_aload_n (pc := 66) C 3 dX4_lay_66 rfl ?_
      refine x_get (pc := 67) C 0 8 dX4_lay_67 hiX4_lay_4 hfX4_lay_49 rfl rfl rfl (by decide) rfl ?_
      refine x_aload_n (pc := 70) C 3 dX4_lay_70 rfl ?_
      refine x_get (pc := 71) C 0 0 dX4_lay_71 hiX4_lay_4 hfX4_lay_12 rfl rfl rfl (by decide) rfl ?_
      refine x_iload_n (pc := 74) C 4 dX4_lay_74 rfl ?_
      refine x_callV (pc := 75) C (n := 1) (q0 := 0) (rest := [jv sz, .ref t4]) (wr := [(a, ob 4 [.ref kb, .ref t1, .ref t2, .ref t3, .ref t4, .ref t5, .ref t6, jv h, jv sz]), (t1, ai g 11 S), (t2, ai g 60 (up A0 sz i)), (t3, ai g 60 (up A1 sz (Ls i))), (t4, ai g 60 A2), (t5, ai g 60 A3), (t6, ai g 60 A4), (ca, ob 0 [.ref c1, .ref c2, .ref c3, .ref c4, .ref c5]), (c1, ai g 60 x), (c2, ai g 61 F), (c3, ai g 60 Ls), (c4, ai g 60 Nm), (c5, ai g 60 Dn)]) [1, 2] [0, 3, 4, 5, 6, 7, 8, 9, 10, 11, 12, 13, 14] (ctX2_key l g kb kc bn bf i ⟨by omega, hb⟩ ⟨by omega, by omega⟩) gX4_lay_X2_key rfl ⟨rfl, rfl⟩ (by decide +kernel) ⟨by decide, by decide⟩ rfl rfl rfl rfl rfl (by decide) (by decide) (by decide) rfl (Nat.le_of_ble_eq_true rfl) dX4_lay_75 ⟨by decide, by decide⟩ (fun v_75 u_75 h_75 => ?_)
      rcases h_75 with ⟨rfl, rfl, f_75⟩ | ⟨rfl, rfl, f_75⟩
      · refine x_world (ws' := [(a, ob 4 [.ref kb, .ref t1, .ref t2, .ref t3, .ref t4, .ref t5, .ref t6, jv h, jv sz]), (kb, ob 2 [.ref kc, jv bn]), (kc, ai g 60 bf), (t1, ai g 11 S), (t2, ai g 60 (up A0 sz i)), (t3, ai g 60 (up A1 sz (Ls i))), (t4, ai g 60 A2), (t5, ai g 60 A3), (t6, ai g 60 A4), (ca, ob 0 [.ref c1, .ref c2, .ref c3, .ref c4, .ref c5]), (c1, ai g 60 x), (c2, ai g 61 F), (c3, ai g 60 Ls), (c4, ai g 60 Nm), (c5, ai g 60 Dn)]) [0, 13, 14, 1, 2, 3, 4, 5, 6, 7, 8, 9, 10, 11, 12] (by decide) rfl ?_
        show X l g E ({ frames := 2, cells := 0, slots := 0, locals := 41 } : Room) 6 [(a, ob 4 [.ref kb, .ref t1, .ref t2, .ref t3, .ref t4, .ref t5, .ref t6, jv h, jv sz]), (kb, ob 2 [.ref kc, jv bn]), (kc, ai g 60 bf), (t1, ai g 11 S), (t2, ai g 60 (up A0 sz i)), (t3, ai g 60 (up A1 sz (Ls i))), (t4, ai g 60 A2), (t5, ai g 60 A3), (t6, ai g 60 A4), (ca, ob 0 [.ref c1, .ref c2, .ref c3, .ref c4, .ref c5]), (c1, ai g 60 x), (c2, ai g 61 F), (c3, ai g 60 Ls), (c4, ai g 60 Nm), (c5, ai g 60 Dn)] 0 0 [(5, jv r), (4, jv (Dn i)), (3, jv (Nm i)), (0, .ref a), (1, jv i), (2, .ref ca)] 78 [jv (bf i), jv sz, .ref t4]
        refine x_iast (pc := 78) C (ws' := [(a, ob 4 [.ref kb, .ref t1, .ref t2, .ref t3, .ref t4, .ref t5, .ref t6, jv h, jv sz]), (kb, ob 2 [.ref kc, jv bn]), (kc, ai g 60 bf), (t1, ai g 11 S), (t2, ai g 60 (up A0 sz i)), (t3, ai g 60 (up A1 sz (Ls i))), (t4, ai g 60 (up A2 sz (bf i))), (t5, ai g 60 A3), (t6, ai g 60 A4), (ca, ob 0 [.ref c1, .ref c2, .ref c3, .ref c4, .ref c5]), (c1, ai g 60 x), (c2, ai g 61 F), (c3, ai g 60 Ls), (c4, ai g 60 Nm), (c5, ai g 60 Dn)]) 6 dX4_lay_78 rfl (by omega) (by omega) (by decide) rfl ?_
        refine x_aload_n (pc := 79) C 3 dX4_lay_79 rfl ?_
        refine x_get (pc := 80) C 0 5 dX4_lay_80 hiX4_lay_4 hfX4_lay_31 rfl rfl rfl (by decide) rfl ?_
        refine x_aload_n (pc := 83) C 3 dX4_lay_83 rfl ?_
        refine x_get (pc := 84) C 0 8 dX4_lay_84 hiX4_lay_4 hfX4_lay_49 rfl rfl rfl (by decide) rfl ?_
        refine x_iload (pc := 87) C 0 dX4_lay_87 rfl ?_
        refine x_if_le (pc := 89) C 99 dX4_lay_89 rfl ⟨by omega, by omega⟩ (fun c_89 => ?_) (fun c_89 => ?_)
        · omega
        · refine x_iload_n (pc := 92) C 2 dX4_lay_92 rfl ?_
          refine x_iload (pc := 93) C 0 dX4_lay_93 rfl ?_
          refine x_idiv (pc := 95) C dX4_lay_95 ⟨by omega, by omega⟩ ⟨by omega, by omega⟩ (by first | decide | omega) ?_
          rw [show (Nm i).tdiv r = Nm i / gcdI (Nm i) (Dn i) from (by rw [f_33]; exact Int.tdiv_eq_ediv_of_nonneg hN.1)]
          refine x_goto (pc := 96) C 100 dX4_lay_96 rfl ?_
          refine x_iast (pc := 100) C (ws' := [(a, ob 4 [.ref kb, .ref t1, .ref t2, .ref t3, .ref t4, .ref t5, .ref t6, jv h, jv sz]), (kb, ob 2 [.ref kc, jv bn]), (kc, ai g 60 bf), (t1, ai g 11 S), (t2, ai g 60 (up A0 sz i)), (t3, ai g 60 (up A1 sz (Ls i))), (t4, ai g 60 (up A2 sz (bf i))), (t5, ai g 60 (up A3 sz (Nm i / gcdI (Nm i) (Dn i)))), (t6, ai g 60 A4), (ca, ob 0 [.ref c1, .ref c2, .ref c3, .ref c4, .ref c5]), (c1, ai g 60 x), (c2, ai g 61 F), (c3, ai g 60 Ls), (c4, ai g 60 Nm), (c5, ai g 60 Dn)]) 7 dX4_lay_100 rfl (by omega) (by omega) (by decide) rfl ?_
          refine x_aload_n (pc := 101) C 3 dX4_lay_101 rfl ?_
          refine x_get (pc := 102) C 0 6 dX4_lay_102 hiX4_lay_4 hfX4_lay_34 rfl rfl rfl (by decide) rfl ?_
          refine x_aload_n (pc := 105) C 3 dX4_lay_105 rfl ?_
          refine x_get (pc := 106) C 0 8 dX4_lay_106 hiX4_lay_4 hfX4_lay_49 rfl rfl rfl (by decide) rfl ?_
          refine x_iload (pc := 109) C 0 dX4_lay_109 rfl ?_
          refine x_if_le (pc := 111) C 122 dX4_lay_111 rfl ⟨by omega, by omega⟩ (fun c_111 => ?_) (fun c_111 => ?_)
          · omega
          · refine x_iload (pc := 114) C 1 dX4_lay_114 rfl ?_
            refine x_iload (pc := 116) C 0 dX4_lay_116 rfl ?_
            refine x_idiv (pc := 118) C dX4_lay_118 ⟨by omega, by omega⟩ ⟨by omega, by omega⟩ (by first | decide | omega) ?_
            rw [show (Dn i).tdiv r = Dn i / gcdI (Nm i) (Dn i) from (by rw [f_33]; exact Int.tdiv_eq_ediv_of_nonneg (by omega))]
            refine x_goto (pc := 119) C 124 dX4_lay_119 rfl ?_
            refine x_iast (pc := 124) C (ws' := [(a, ob 4 [.ref kb, .ref t1, .ref t2, .ref t3, .ref t4, .ref t5, .ref t6, jv h, jv sz]), (kb, ob 2 [.ref kc, jv bn]), (kc, ai g 60 bf), (t1, ai g 11 S), (t2, ai g 60 (up A0 sz i)), (t3, ai g 60 (up A1 sz (Ls i))), (t4, ai g 60 (up A2 sz (bf i))), (t5, ai g 60 (up A3 sz (Nm i / gcdI (Nm i) (Dn i)))), (t6, ai g 60 (up A4 sz (Dn i / gcdI (Nm i) (Dn i)))), (ca, ob 0 [.ref c1, .ref c2, .ref c3, .ref c4, .ref c5]), (c1, ai g 60 x), (c2, ai g 61 F), (c3, ai g 60 Ls), (c4, ai g 60 Nm), (c5, ai g 60 Dn)]) 8 dX4_lay_124 rfl (by omega) (by omega) (by decide) rfl ?_
            refine x_aload_n (pc := 125) C 3 dX4_lay_125 rfl ?_
            refine x_dup (pc := 126) C dX4_lay_126 rfl ?_
            refine x_get (pc := 127) C 0 8 dX4_lay_127 hiX4_lay_4 hfX4_lay_49 rfl rfl rfl (by decide) rfl ?_
            refine x_iconst (pc := 130) C dX4_lay_130 ?_
            refine x_iadd (pc := 131) C dX4_lay_131 ?_
            refine x_put (pc := 132) C (ty := .int) (ws' := [(a, ob 4 [.ref kb, .ref t1, .ref t2, .ref t3, .ref t4, .ref t5, .ref t6, jv h, jv (sz + 1)]), (kb, ob 2 [.ref kc, jv bn]), (kc, ai g 60 bf), (t1, ai g 11 S), (t2, ai g 60 (up A0 sz i)), (t3, ai g 60 (up A1 sz (Ls i))), (t4, ai g 60 (up A2 sz (bf i))), (t5, ai g 60 (up A3 sz (Nm i / gcdI (Nm i) (Dn i)))), (t6, ai g 60 (up A4 sz (Dn i / gcdI (Nm i) (Dn i)))), (ca, ob 0 [.ref c1, .ref c2, .ref c3, .ref c4, .ref c5]), (c1, ai g 60 x), (c2, ai g 61 F), (c3, ai g 60 Ls), (c4, ai g 60 Nm), (c5, ai g 60 Dn)]) tyX4 0 8 dX4_lay_132 hiX4_lay_4 tyX4_ok nmX4 hfX4_lay_49 rfl rfl rfl (by decide) rfl (by decide +kernel) rfl rfl (Nat.le_of_ble_eq_true rfl) rfl ?_
            refine x_vret (pc := 135) C Rt0 dX4_lay_135 rfl ?_
            refine ⟨rfl, rfl, ?_⟩
            trivial
      · refine x_world (ws' := [(a, ob 4 [.ref kb, .ref t1, .ref t2, .ref t3, .ref t4, .ref t5, .ref t6, jv h, jv sz]), (kb, ob 2 [.ref kc, jv bn]), (kc, ai g 60 bf), (t1, ai g 11 S), (t2, ai g 60 (up A0 sz i)), (t3, ai g 60 (up A1 sz (Ls i))), (t4, ai g 60 A2), (t5, ai g 60 A3), (t6, ai g 60 A4), (ca, ob 0 [.ref c1, .ref c2, .ref c3, .ref c4, .ref c5]), (c1, ai g 60 x), (c2, ai g 61 F), (c3, ai g 60 Ls), (c4, ai g 60 Nm), (c5, ai g 60 Dn)]) [0, 13, 14, 1, 2, 3, 4, 5, 6, 7, 8, 9, 10, 11, 12] (by decide) rfl ?_
        show X l g E ({ frames := 2, cells := 0, slots := 0, locals := 41 } : Room) 6 [(a, ob 4 [.ref kb, .ref t1, .ref t2, .ref t3, .ref t4, .ref t5, .ref t6, jv h, jv sz]), (kb, ob 2 [.ref kc, jv bn]), (kc, ai g 60 bf), (t1, ai g 11 S), (t2, ai g 60 (up A0 sz i)), (t3, ai g 60 (up A1 sz (Ls i))), (t4, ai g 60 A2), (t5, ai g 60 A3), (t6, ai g 60 A4), (ca, ob 0 [.ref c1, .ref c2, .ref c3, .ref c4, .ref c5]), (c1, ai g 60 x), (c2, ai g 61 F), (c3, ai g 60 Ls), (c4, ai g 60 Nm), (c5, ai g 60 Dn)] 0 0 [(5, jv r), (4, jv (Dn i)), (3, jv (Nm i)), (0, .ref a), (1, jv i), (2, .ref ca)] 78 [jv (-1), jv sz, .ref t4]
        omega
    · omega

set_option maxRecDepth 100000 in
theorem hiX4_raise_4 : ∀ w ∈ wsX40, w ∈ wsX4_raise := by decide +kernel
set_option maxRecDepth 100000 in
theorem hfX4_raise_18 : Cond.fieldLink RX4 18 "KeyGuess$Tower" "starts" "[I" ∈ wsX4_raise := by decide +kernel
set_option maxRecDepth 100000 in
theorem hfX4_raise_49 : Cond.fieldLink RX4 49 "KeyGuess$Tower" "size" "I" ∈ wsX4_raise := by decide +kernel
set_option maxRecDepth 100000 in
theorem hfX4_raise_12 : Cond.fieldLink RX4 12 "KeyGuess$Tower" "base" "LKeyGuess$Keys;" ∈ wsX4_raise := by decide +kernel
set_option maxRecDepth 100000 in
theorem hfX4_raise_37 : Cond.fieldLink RX4 37 "KeyGuess$Tower" "height" "I" ∈ wsX4_raise := by decide +kernel
set_option maxHeartbeats 4000000 in
set_option maxRecDepth 100000 in
/-- Tower.raise -/
theorem ctX4_raise (l : Launch) (g : xG) (a : Nat) (kb : Nat) (kc : Nat) (t1 : Nat) (t2 : Nat) (t3 : Nat) (t4 : Nat) (t5 : Nat) (t6 : Nat) (h : Int) (sz : Int) (bn : Int) (bf : Int → Int) (S : Int → Int) (A0 : Int → Int) (A1 : Int → Int) (A2 : Int → Int) (A3 : Int → Int) (A4 : Int → Int) (ca : Nat) (c1 : Nat) (c2 : Nat) (c3 : Nat) (c4 : Nat) (c5 : Nat) (x : Int → Int) (F : Int → Int) (Ls : Int → Int) (Nm : Int → Int) (Dn : Int → Int) (t : Int) (e : Int) (ht : 0 ≤ t ∧ t < 10) (he : 0 ≤ e ∧ e ≤ 8) (hk : Kr bn bf) (hn : 1 ≤ bn) (hc : Cut4 bf e bn F Ls Nm Dn) (hz : 0 ≤ sz ∧ sz + F 0 ≤ 60) : Ct l g yX4_raise wsX4_raise ({ frames := 3, cells := 0, slots := 0, locals := 66 } : Room) 0 0 [(a, ob 4 [.ref kb, .ref t1, .ref t2, .ref t3, .ref t4, .ref t5, .ref t6, jv h, jv sz]), (kb, ob 2 [.ref kc, jv bn]), (kc, ai g 60 bf), (t1, ai g 11 S), (t2, ai g 60 A0), (t3, ai g 60 A1), (t4, ai g 60 A2), (t5, ai g 60 A3), (t6, ai g 60 A4), (ca, ob 0 [.ref c1, .ref c2, .ref c3, .ref c4, .ref c5]), (c1, ai g 60 x), (c2, ai g 61 F), (c3, ai g 60 Ls), (c4, ai g 60 Nm), (c5, ai g 60 Dn)] [.ref a, jv t, .ref ca] (fun v u => ∃ (z : Int) (B0 : Int → Int) (B1 : Int → Int) (B2 : Int → Int) (B3 : Int → Int) (B4 : Int → Int), v = none ∧ u = [(a, ob 4 [.ref kb, .ref t1, .ref t2, .ref t3, .ref t4, .ref t5, .ref t6, jv (t + 1), jv z]), (kb, ob 2 [.ref kc, jv bn]), (kc, ai g 60 bf), (t1, ai g 11 (up (up S t sz) (t + 1) z)), (t2, ai g 60 B0), (t3, ai g 60 B1), (t4, ai g 60 B2), (t5, ai g 60 B3), (t6, ai g 60 B4), (ca, ob 0 [.ref c1, .ref c2, .ref c3, .ref c4, .ref c5]), (c1, ai g 60 x), (c2, ai g 61 F), (c3, ai g 60 Ls), (c4, ai g 60 Nm), (c5, ai g 60 Dn)] ∧ (z = sz + F 0 ∧ (∀ j : Int, 0 ≤ j → j < sz → B0 j = A0 j) ∧ (∀ j : Int, 0 ≤ j → j < sz → B1 j = A1 j) ∧ (∀ j : Int, 0 ≤ j → j < sz → B2 j = A2 j) ∧ (∀ j : Int, 0 ≤ j → j < sz → B3 j = A3 j) ∧ (∀ j : Int, 0 ≤ j → j < sz → B4 j = A4 j) ∧ ∀ j : Int, 0 ≤ j → j < F 0 → B0 (sz + j) = frm Ls j.toNat ∧ B1 (sz + j) = Ls (frm Ls j.toNat) ∧ B2 (sz + j) = bf (frm Ls j.toNat) ∧ B3 (sz + j) = Nm (frm Ls j.toNat) / gcdI (Nm (frm Ls j.toNat)) (Dn (frm Ls j.toNat)) ∧ B4 (sz + j) = Dn (frm Ls j.toNat) / gcdI (Nm (frm Ls j.toNat)) (Dn (frm Ls j.toNat)))) := by
  refine ct_of (cc := cX4_raise) (nL := 5) (ret := none) (by decide) rfl (Nat.le_of_ble_eq_true rfl) ?_
  intro E C Rt0
  have C : Cx l g E ({ frames := 3, cells := 0, slots := 0, locals := 66 } : Room) RX4 "raise" cX4_raise wsX4_raise 5 := C
  show X l g E ({ frames := 3, cells := 0, slots := 0, locals := 66 } : Room) 5 [(a, ob 4 [.ref kb, .ref t1, .ref t2, .ref t3, .ref t4, .ref t5, .ref t6, jv h, jv sz]), (kb, ob 2 [.ref kc, jv bn]), (kc, ai g 60 bf), (t1, ai g 11 S), (t2, ai g 60 A0), (t3, ai g 60 A1), (t4, ai g 60 A2), (t5, ai g 60 A3), (t6, ai g 60 A4), (ca, ob 0 [.ref c1, .ref c2, .ref c3, .ref c4, .ref c5]), (c1, ai g 60 x), (c2, ai g 61 F), (c3, ai g 60 Ls), (c4, ai g 60 Nm), (c5, ai g 60 Dn)] 0 0 [(0, .ref a), (1, jv t), (2, .ref ca)] 0 []
  have hb1 := hk.2.1
  have hF1 := hc.fb 0 (by omega) (by omega)
  have hF2 := hc.half hk he.1 0 (by omega) (by omega)
  refine x_iload_n (pc := 0) C 1 dX4_raise_0 rfl ?_
  refine x_if_lt (pc := 1) C 10 dX4_raise_1 rfl ⟨by omega, by omega⟩ (fun c_1 => ?_) (fun c_1 => ?_)
  · omega
  · refine x_iload_n (pc := 4) C 1 dX4_raise_4 rfl ?_
    refine x_bipush (pc := 5) C dX4_raise_5 rfl ?_
    refine x_icmp_lt (pc := 7) C 11 dX4_raise_7 rfl ⟨by omega, by omega⟩ ⟨by omega, by omega⟩ (fun c_7 => ?_) (fun c_7 => ?_)
    · refine x_aload_n (pc := 11) C 0 dX4_raise_11 rfl ?_
      refine x_get (pc := 12) C 0 1 dX4_raise_12 hiX4_raise_4 hfX4_raise_18 rfl rfl rfl (by decide) rfl ?_
      refine x_iload_n (pc := 15) C 1 dX4_raise_15 rfl ?_
      refine x_aload_n (pc := 16) C 0 dX4_raise_16 rfl ?_
      refine x_get (pc := 17) C 0 8 dX4_raise_17 hiX4_raise_4 hfX4_raise_49 rfl rfl rfl (by decide) rfl ?_
      refine x_iast (pc := 20) C (ws' := [(a, ob 4 [.ref kb, .ref t1, .ref t2, .ref t3, .ref t4, .ref t5, .ref t6, jv h, jv sz]), (kb, ob 2 [.ref kc, jv bn]), (kc, ai g 60 bf), (t1, ai g 11 (up S t sz)), (t2, ai g 60 A0), (t3, ai g 60 A1), (t4, ai g 60 A2), (t5, ai g 60 A3), (t6, ai g 60 A4), (ca, ob 0 [.ref c1, .ref c2, .ref c3, .ref c4, .ref c5]), (c1, ai g 60 x), (c2, ai g 61 F), (c3, ai g 60 Ls), (c4, ai g 60 Nm), (c5, ai g 60 Dn)]) 3 dX4_raise_20 rfl (by omega) (by omega) (by decide) rfl ?_
      refine x_iconst (pc := 21) C dX4_raise_21 ?_
      refine x_istore_n (pc := 22) C (lv' := [(3, jv 0), (0, .ref a), (1, jv t), (2, .ref ca)]) dX4_raise_22 (by decide) rfl ?_
      refine x_iconst (pc := 23) C dX4_raise_23 ?_
      refine x_istore (pc := 24) C (lv' := [(4, jv 0), (3, jv 0), (0, .ref a), (1, jv t), (2, .ref ca)]) dX4_raise_24 (by decide) rfl ?_
      have L26 : ∀ (nn : Nat) (k : Int) (i : Int) (z : Int) (B0 : Int → Int) (B1 : Int → Int) (B2 : Int → Int) (B3 : Int → Int) (B4 : Int → Int), (F 0 - k).toNat < nn → (0 ≤ k ∧ k ≤ F 0) → (z = sz + k) → (i = frm Ls k.toNat) → ((∀ j : Int, 0 ≤ j → j < sz → B0 j = A0 j) ∧ (∀ j : Int, 0 ≤ j → j < sz → B1 j = A1 j) ∧ (∀ j : Int, 0 ≤ j → j < sz → B2 j = A2 j) ∧ (∀ j : Int, 0 ≤ j → j < sz → B3 j = A3 j) ∧ (∀ j : Int, 0 ≤ j → j < sz → B4 j = A4 j)) → (∀ j : Int, 0 ≤ j → j < k → B0 (sz + j) = frm Ls j.toNat ∧ B1 (sz + j) = Ls (frm Ls j.toNat) ∧ B2 (sz + j) = bf (frm Ls j.toNat) ∧ B3 (sz + j) = Nm (frm Ls j.toNat) / gcdI (Nm (frm Ls j.toNat)) (Dn (frm Ls j.toNat)) ∧ B4 (sz + j) = Dn (frm Ls j.toNat) / gcdI (Nm (frm Ls j.toNat)) (Dn (frm Ls j.toNat))) → X l g E ({ frames := 3, cells := 0, slots := 0, locals := 66 } : Room) 5 [(a, ob 4 [.ref kb, .ref t1, .ref t2, .ref t3, .ref t4, .ref t5, .ref t6, jv h, jv z]), (kb, ob 2 [.ref kc, jv bn]), (kc, ai g 60 bf), (t1, ai g 11 (up S t sz)), (t2, ai g 60 B0), (t3, ai g 60 B1), (t4, ai g 60 B2), (t5, ai g 60 B3), (t6, ai g 60 B4), (ca, ob 0 [.ref c1, .ref c2, .ref c3, .ref c4, .ref c5]), (c1, ai g 60 x), (c2, ai g 61 F), (c3, ai g 60 Ls), (c4, ai g 60 Nm), (c5, ai g 60 Dn)] 0 0 [(0, .ref a), (1, jv t), (2, .ref ca), (3, jv i), (4, jv k)] 26 [] := by
        intro nn
        induction nn with
        | zero => intro k i z B0 B1 B2 B3 B4 hμ; exact absurd hμ (Nat.not_lt_zero _)
        | succ nn ih26 =>
          intro k i z B0 B1 B2 B3 B4 hμ hk0 hzk hi hoff hlaid
          refine x_iload (pc := 26) C 4 dX4_raise_26 rfl ?_
          refine x_bipush (pc := 28) C dX4_raise_28 rfl ?_
          refine x_icmp_ge (pc := 30) C 64 dX4_raise_30 rfl ⟨by omega, by omega⟩ ⟨by omega, by omega⟩ (fun c_30 => ?_) (fun c_30 => ?_)
          · omega
          · refine x_iload_n (pc := 33) C 3 dX4_raise_33 rfl ?_
            refine x_aload_n (pc := 34) C 0 dX4_raise_34 rfl ?_
            refine x_get (pc := 35) C 0 0 dX4_raise_35 hiX4_raise_4 hfX4_raise_12 rfl rfl rfl (by decide) rfl ?_
            refine x_callV (pc := 38) C (n := 0) (q0 := 0) (rest := [jv i]) (wr := [(a, ob 4 [.ref kb, .ref t1, .ref t2, .ref t3, .ref t4, .ref t5, .ref t6, jv h, jv z]), (t1, ai g 11 (up S t sz)), (t2, ai g 60 B0), (t3, ai g 60 B1), (t4, ai g 60 B2), (t5, ai g 60 B3), (t6, ai g 60 B4), (ca, ob 0 [.ref c1, .ref c2, .ref c3, .ref c4, .ref c5]), (c1, ai g 60 x), (c2, ai g 61 F), (c3, ai g 60 Ls), (c4, ai g 60 Nm), (c5, ai g 60 Dn)]) [1, 2] [0, 3, 4, 5, 6, 7, 8, 9, 10, 11, 12, 13, 14] (ctX2_size l g kb kc bn bf ⟨by omega, hb1⟩) gX4_raise_X2_size rfl ⟨rfl, rfl⟩ (by decide +kernel) ⟨by decide, by decide⟩ rfl rfl rfl rfl rfl (by decide) (by decide) (by decide) rfl (Nat.le_of_ble_eq_true rfl) dX4_raise_38 ⟨by decide, by decide⟩ (fun v_38 u_38 h_38 => ?_)
            rcases h_38 with ⟨rfl, rfl, f_38⟩
            refine x_world (ws' := [(a, ob 4 [.ref kb, .ref t1, .ref t2, .ref t3, .ref t4, .ref t5, .ref t6, jv h, jv z]), (kb, ob 2 [.ref kc, jv bn]), (kc, ai g 60 bf), (t1, ai g 11 (up S t sz)), (t2, ai g 60 B0), (t3, ai g 60 B1), (t4, ai g 60 B2), (t5, ai g 60 B3), (t6, ai g 60 B4), (ca, ob 0 [.ref c1, .ref c2, .ref c3, .ref c4, .ref c5]), (c1, ai g 60 x), (c2, ai g 61 F), (c3, ai g 60 Ls), (c4, ai g 60 Nm), (c5, ai g 60 Dn)]) [0, 13, 14, 1, 2, 3, 4, 5, 6, 7, 8, 9, 10, 11, 12] (by decide) rfl ?_
            show X l g E ({ frames := 3, cells := 0, slots := 0, locals := 66 } : Room) 5 [(a, ob 4 [.ref kb, .ref t1, .ref t2, .ref t3, .ref t4, .ref t5, .ref t6, jv h, jv z]), (kb, ob 2 [.ref kc, jv bn]), (kc, ai g 60 bf), (t1, ai g 11 (up S t sz)), (t2, ai g 60 B0), (t3, ai g 60 B1), (t4, ai g 60 B2), (t5, ai g 60 B3), (t6, ai g 60 B4), (ca, ob 0 [.ref c1, .ref c2, .ref c3, .ref c4, .ref c5]), (c1, ai g 60 x), (c2, ai g 61 F), (c3, ai g 60 Ls), (c4, ai g 60 Nm), (c5, ai g 60 Dn)] 0 0 [(0, .ref a), (1, jv t), (2, .ref ca), (3, jv i), (4, jv k)] 41 [jv bn, jv i]
            have hil : 0 ≤ i ∧ (k < F 0 → i < bn) ∧ (k = F 0 → i = bn) := by
              rw [hi]
              exact ⟨(hc.chain (by omega) k.toNat (by omega)).1, fun q => (hc.lt (by omega) (k := k.toNat) (by omega)).2, fun q => hc.end (by omega) (by omega)⟩
            refine x_icmp_ge (pc := 41) C 64 dX4_raise_41 rfl ⟨by omega, by omega⟩ ⟨by omega, by omega⟩ (fun c_41 => ?_) (fun c_41 => ?_)
            · refine x_aload_n (pc := 64) C 0 dX4_raise_64 rfl ?_
              refine x_get (pc := 65) C 0 1 dX4_raise_65 hiX4_raise_4 hfX4_raise_18 rfl rfl rfl (by decide) rfl ?_
              refine x_iload_n (pc := 68) C 1 dX4_raise_68 rfl ?_
              refine x_iconst (pc := 69) C dX4_raise_69 ?_
              refine x_iadd (pc := 70) C dX4_raise_70 ?_
              refine x_aload_n (pc := 71) C 0 dX4_raise_71 rfl ?_
              refine x_get (pc := 72) C 0 8 dX4_raise_72 hiX4_raise_4 hfX4_raise_49 rfl rfl rfl (by decide) rfl ?_
              refine x_iast (pc := 75) C (ws' := [(a, ob 4 [.ref kb, .ref t1, .ref t2, .ref t3, .ref t4, .ref t5, .ref t6, jv h, jv z]), (kb, ob 2 [.ref kc, jv bn]), (kc, ai g 60 bf), (t1, ai g 11 (up (up S t sz) (t + 1) z)), (t2, ai g 60 B0), (t3, ai g 60 B1), (t4, ai g 60 B2), (t5, ai g 60 B3), (t6, ai g 60 B4), (ca, ob 0 [.ref c1, .ref c2, .ref c3, .ref c4, .ref c5]), (c1, ai g 60 x), (c2, ai g 61 F), (c3, ai g 60 Ls), (c4, ai g 60 Nm), (c5, ai g 60 Dn)]) 3 dX4_raise_75 rfl (by omega) (by omega) (by decide) rfl ?_
              refine x_aload_n (pc := 76) C 0 dX4_raise_76 rfl ?_
              refine x_iload_n (pc := 77) C 1 dX4_raise_77 rfl ?_
              refine x_iconst (pc := 78) C dX4_raise_78 ?_
              refine x_iadd (pc := 79) C dX4_raise_79 ?_
              refine x_put (pc := 80) C (ty := .int) (ws' := [(a, ob 4 [.ref kb, .ref t1, .ref t2, .ref t3, .ref t4, .ref t5, .ref t6, jv (t + 1), jv z]), (kb, ob 2 [.ref kc, jv bn]), (kc, ai g 60 bf), (t1, ai g 11 (up (up S t sz) (t + 1) z)), (t2, ai g 60 B0), (t3, ai g 60 B1), (t4, ai g 60 B2), (t5, ai g 60 B3), (t6, ai g 60 B4), (ca, ob 0 [.ref c1, .ref c2, .ref c3, .ref c4, .ref c5]), (c1, ai g 60 x), (c2, ai g 61 F), (c3, ai g 60 Ls), (c4, ai g 60 Nm), (c5, ai g 60 Dn)]) tyX4 0 7 dX4_raise_80 hiX4_raise_4 tyX4_ok nmX4 hfX4_raise_37 rfl rfl rfl (by decide) rfl (by decide +kernel) rfl rfl (Nat.le_of_ble_eq_true rfl) rfl ?_
              refine x_vret (pc := 83) C Rt0 dX4_raise_83 rfl ?_
              refine ⟨_, _, _, _, _, _, rfl, rfl, ?_⟩
              have hkF : k = F 0 := by
                rcases Int.lt_or_le k (F 0) with q | q
                · have := hil.2.1 q
                  omega
                · omega
              exact ⟨by omega, hoff.1, hoff.2.1, hoff.2.2.1, hoff.2.2.2.1, hoff.2.2.2.2, fun j h0 h1 => hlaid j h0 (by omega)⟩
            · have hkF : k < F 0 := by
                rcases Int.lt_or_le k (F 0) with q | q
                · exact q
                · have := hil.2.2 (by omega)
                  omega
              refine x_aload_n (pc := 44) C 0 dX4_raise_44 rfl ?_
              refine x_iload_n (pc := 45) C 3 dX4_raise_45 rfl ?_
              refine x_aload_n (pc := 46) C 2 dX4_raise_46 rfl ?_
              refine x_callV (pc := 47) C (n := 2) (q0 := 0) (rest := []) (wr := []) [0, 1, 2, 3, 4, 5, 6, 7, 8, 9, 10, 11, 12, 13, 14] [] (ctX4_lay l g a kb kc t1 t2 t3 t4 t5 t6 h z bn bf (up S t sz) B0 B1 B2 B3 B4 ca c1 c2 c3 c4 c5 x F Ls Nm Dn i ⟨by omega, by omega⟩ hb1 ⟨hil.1, by omega⟩ (hc.sl hk he.1 hil.1 (by omega))) gX4_raise_X4_lay rfl ⟨rfl, rfl⟩ (by decide +kernel) ⟨by decide, by decide⟩ rfl rfl rfl rfl rfl (by decide) (by decide) (by decide) rfl (Nat.le_of_ble_eq_true rfl) dX4_raise_47 ⟨by decide, by decide⟩ (fun v_47 u_47 h_47 => ?_)
              rcases h_47 with ⟨rfl, rfl, f_47⟩
              refine x_world (ws' := [(a, ob 4 [.ref kb, .ref t1, .ref t2, .ref t3, .ref t4, .ref t5, .ref t6, jv h, jv (z + 1)]), (kb, ob 2 [.ref kc, jv bn]), (kc, ai g 60 bf), (t1, ai g 11 (up S t sz)), (t2, ai g 60 (up B0 z i)), (t3, ai g 60 (up B1 z (Ls i))), (t4, ai g 60 (up B2 z (bf i))), (t5, ai g 60 (up B3 z (Nm i / gcdI (Nm i) (Dn i)))), (t6, ai g 60 (up B4 z (Dn i / gcdI (Nm i) (Dn i)))), (ca, ob 0 [.ref c1, .ref c2, .ref c3, .ref c4, .ref c5]), (c1, ai g 60 x), (c2, ai g 61 F), (c3, ai g 60 Ls), (c4, ai g 60 Nm), (c5, ai g 60 Dn)]) [0, 1, 2, 3, 4, 5, 6, 7, 8, 9, 10, 11, 12, 13, 14] (by decide) rfl ?_
              show X l g E ({ frames := 3, cells := 0, slots := 0, locals := 66 } : Room) 5 [(a, ob 4 [.ref kb, .ref t1, .ref t2, .ref t3, .ref t4, .ref t5, .ref t6, jv h, jv (z + 1)]), (kb, ob 2 [.ref kc, jv bn]), (kc, ai g 60 bf), (t1, ai g 11 (up S t sz)), (t2, ai g 60 (up B0 z i)), (t3, ai g 60 (up B1 z (Ls i))), (t4, ai g 60 (up B2 z (bf i))), (t5, ai g 60 (up B3 z (Nm i / gcdI (Nm i) (Dn i)))), (t6, ai g 60 (up B4 z (Dn i / gcdI (Nm i) (Dn i)))), (ca, ob 0 [.ref c1, .ref c2, .ref c3, .ref c4, .ref c5]), (c1, ai g 60 x), (c2, ai g 61 F), (c3, ai g 60 Ls), (c4, ai g 60 Nm), (c5, ai g 60 Dn)] 0 0 [(0, .ref a), (1, jv t), (2, .ref ca), (3, jv i), (4, jv k)] 50 []
              refine x_aload_n (pc := 50) C 2 dX4_raise_50 rfl ?_
              refine x_iload_n (pc := 51) C 3 dX4_raise_51 rfl ?_
              refine x_callV (pc := 52) C (n := 1) (q0 := 0) (rest := []) (wr := [(a, ob 4 [.ref kb, .ref t1, .ref t2, .ref t3, .ref t4, .ref t5, .ref t6, jv h, jv (z + 1)]), (kb, ob 2 [.ref kc, jv bn]), (kc, ai g 60 bf), (t1, ai g 11 (up S t sz)), (t2, ai g 60 (up B0 z i)), (t3, ai g 60 (up B1 z (Ls i))), (t4, ai g 60 (up B2 z (bf i))), (t5, ai g 60 (up B3 z (Nm i / gcdI (Nm i) (Dn i)))), (t6, ai g 60 (up B4 z (Dn i / gcdI (Nm i) (Dn i))))]) [9, 10, 11, 12, 13, 14] [0, 1, 2, 3, 4, 5, 6, 7, 8] (ctX0_lastOf l g ca c1 c2 c3 c4 c5 x F Ls Nm Dn i ⟨hil.1, by omega⟩) gX4_raise_X0_lastOf rfl ⟨rfl, rfl⟩ (by decide +kernel) ⟨by decide, by decide⟩ rfl rfl rfl rfl rfl (by decide) (by decide) (by decide) rfl (Nat.le_of_ble_eq_true rfl) dX4_raise_52 ⟨by decide, by decide⟩ (fun v_52 u_52 h_52 => ?_)
              rcases h_52 with ⟨rfl, rfl, f_52⟩
              refine x_world (ws' := [(a, ob 4 [.ref kb, .ref t1, .ref t2, .ref t3, .ref t4, .ref t5, .ref t6, jv h, jv (z + 1)]), (kb, ob 2 [.ref kc, jv bn]), (kc, ai g 60 bf), (t1, ai g 11 (up S t sz)), (t2, ai g 60 (up B0 z i)), (t3, ai g 60 (up B1 z (Ls i))), (t4, ai g 60 (up B2 z (bf i))), (t5, ai g 60 (up B3 z (Nm i / gcdI (Nm i) (Dn i)))), (t6, ai g 60 (up B4 z (Dn i / gcdI (Nm i) (Dn i)))), (ca, ob 0 [.ref c1, .ref c2, .ref c3, .ref c4, .ref c5]), (c1, ai g 60 x), (c2, ai g 61 F), (c3, ai g 60 Ls), (c4, ai g 60 Nm), (c5, ai g 60 Dn)]) [0, 1, 2, 3, 4, 5, 6, 7, 8, 9, 10, 11, 12, 13, 14] (by decide) rfl ?_
              show X l g E ({ frames := 3, cells := 0, slots := 0, locals := 66 } : Room) 5 [(a, ob 4 [.ref kb, .ref t1, .ref t2, .ref t3, .ref t4, .ref t5, .ref t6, jv h, jv (z + 1)]), (kb, ob 2 [.ref kc, jv bn]), (kc, ai g 60 bf), (t1, ai g 11 (up S t sz)), (t2, ai g 60 (up B0 z i)), (t3, ai g 60 (up B1 z (Ls i))), (t4, ai g 60 (up B2 z (bf i))), (t5, ai g 60 (up B3 z (Nm i / gcdI (Nm i) (Dn i)))), (t6, ai g 60 (up B4 z (Dn i / gcdI (Nm i) (Dn i)))), (ca, ob 0 [.ref c1, .ref c2, .ref c3, .ref c4, .ref c5]), (c1, ai g 60 x), (c2, ai g 61 F), (c3, ai g 60 Ls), (c4, ai g 60 Nm), (c5, ai g 60 Dn)] 0 0 [(0, .ref a), (1, jv t), (2, .ref ca), (3, jv i), (4, jv k)] 55 [jv (Ls i)]
              refine x_iconst (pc := 55) C dX4_raise_55 ?_
              refine x_iadd (pc := 56) C dX4_raise_56 ?_
              refine x_istore_n (pc := 57) C (lv' := [(3, jv ((Ls i) + 1)), (0, .ref a), (1, jv t), (2, .ref ca), (4, jv k)]) dX4_raise_57 (by decide) rfl ?_
              refine x_iinc (pc := 58) C (lv' := [(4, jv (k + 1)), (3, jv ((Ls i) + 1)), (0, .ref a), (1, jv t), (2, .ref ca)]) 4 dX4_raise_58 rfl (by decide) rfl ?_
              refine x_goto (pc := 61) C 26 dX4_raise_61 rfl ?_
              refine x_locals (lv' := [(0, .ref a), (1, jv t), (2, .ref ca), (3, jv ((Ls i) + 1)), (4, jv (k + 1))]) [2, 3, 4, 1, 0] rfl ?_
              refine ih26 _ _ _ _ _ _ _ _ ?_ ?_ ?_ ?_ ?_ ?_
              · omega
              · omega
              · omega
              · rw [show (k + 1).toNat = k.toNat + 1 by omega, frm, ← hi]
              · exact ⟨(fun j h0 h1 => by rw [up_ne _ _ (by omega)]; exact hoff.1 j h0 h1), (fun j h0 h1 => by rw [up_ne _ _ (by omega)]; exact hoff.2.1 j h0 h1), (fun j h0 h1 => by rw [up_ne _ _ (by omega)]; exact hoff.2.2.1 j h0 h1), (fun j h0 h1 => by rw [up_ne _ _ (by omega)]; exact hoff.2.2.2.1 j h0 h1), (fun j h0 h1 => by rw [up_ne _ _ (by omega)]; exact hoff.2.2.2.2 j h0 h1)⟩
              · intro j h0 h1
                by_cases q : j = k
                · rw [q, ← hzk, up_eq, up_eq, up_eq, up_eq, up_eq, ← hi]; exact ⟨rfl, rfl, rfl, rfl, rfl⟩
                · rw [up_ne _ _ (by omega), up_ne _ _ (by omega), up_ne _ _ (by omega), up_ne _ _ (by omega), up_ne _ _ (by omega)]; exact hlaid j h0 (by omega)
      refine x_locals (lv' := [(0, .ref a), (1, jv t), (2, .ref ca), (3, jv 0), (4, jv 0)]) [2, 3, 4, 1, 0] rfl ?_
      refine L26 _ _ _ _ _ _ _ _ _ (Nat.lt_succ_self _) ?_ ?_ ?_ ?_ ?_
      · omega
      · omega
      · rfl
      · exact ⟨fun _ _ _ => rfl, fun _ _ _ => rfl, fun _ _ _ => rfl, fun _ _ _ => rfl, fun _ _ _ => rfl⟩
      · exact fun j h0 h1 => absurd h1 (by omega)
    · omega

set_option maxRecDepth 100000 in
theorem hiX4_layBase_4 : ∀ w ∈ wsX40, w ∈ wsX4_layBase := by decide +kernel
set_option maxRecDepth 100000 in
theorem hfX4_layBase_12 : Cond.fieldLink RX4 12 "KeyGuess$Tower" "base" "LKeyGuess$Keys;" ∈ wsX4_layBase := by decide +kernel
set_option maxHeartbeats 4000000 in
set_option maxRecDepth 100000 in
/-- Tower.layBase -/
theorem ctX4_layBase (l : Launch) (g : xG) (a : Nat) (kb : Nat) (kc : Nat) (t1 : Nat) (t2 : Nat) (t3 : Nat) (t4 : Nat) (t5 : Nat) (t6 : Nat) (h : Int) (sz : Int) (bn : Int) (bf : Int → Int) (S : Int → Int) (A0 : Int → Int) (A1 : Int → Int) (A2 : Int → Int) (A3 : Int → Int) (A4 : Int → Int) (t : Int) (hw : TwF h sz S) (ht : 0 ≤ t ∧ t < h) (hb : 0 ≤ bn ∧ bn ≤ 60) : Ct l g yX4_layBase wsX4_layBase ({ frames := 2, cells := 0, slots := 0, locals := 45 } : Room) 0 0 [(a, ob 4 [.ref kb, .ref t1, .ref t2, .ref t3, .ref t4, .ref t5, .ref t6, jv h, jv sz]), (kb, ob 2 [.ref kc, jv bn]), (kc, ai g 60 bf), (t1, ai g 11 S), (t2, ai g 60 A0), (t3, ai g 60 A1), (t4, ai g 60 A2), (t5, ai g 60 A3), (t6, ai g 60 A4)] [.ref a, jv t] (fun v u => ∃ (w : Int) (f' : Int → Int), v = none ∧ u = [(a, ob 4 [.ref kb, .ref t1, .ref t2, .ref t3, .ref t4, .ref t5, .ref t6, jv h, jv sz]), (kb, ob 2 [.ref kc, jv w]), (kc, ai g 60 f'), (t1, ai g 11 S), (t2, ai g 60 A0), (t3, ai g 60 A1), (t4, ai g 60 A2), (t5, ai g 60 A3), (t6, ai g 60 A4)] ∧ (w = S (t + 1) - S t ∧ ∀ j : Int, 0 ≤ j → j < w → f' j = A2 (S t + j))) := by
  refine ct_of (cc := cX4_layBase) (nL := 3) (ret := none) (by decide) rfl (Nat.le_of_ble_eq_true rfl) ?_
  intro E C Rt0
  have C : Cx l g E ({ frames := 2, cells := 0, slots := 0, locals := 45 } : Room) RX4 "layBase" cX4_layBase wsX4_layBase 3 := C
  show X l g E ({ frames := 2, cells := 0, slots := 0, locals := 45 } : Room) 3 [(a, ob 4 [.ref kb, .ref t1, .ref t2, .ref t3, .ref t4, .ref t5, .ref t6, jv h, jv sz]), (kb, ob 2 [.ref kc, jv bn]), (kc, ai g 60 bf), (t1, ai g 11 S), (t2, ai g 60 A0), (t3, ai g 60 A1), (t4, ai g 60 A2), (t5, ai g 60 A3), (t6, ai g 60 A4)] 0 0 [(0, .ref a), (1, jv t)] 0 []
  have hw1 := hw.1
  have hw2 := hw.2.1
  have hw3 := hw.2.2.1
  have hw4 := hw.2.2.2.1
  have hs := hw.2.2.2.2 t ht.1 ht.2
  refine x_aload_n (pc := 0) C 0 dX4_layBase_0 rfl ?_
  refine x_get (pc := 1) C 0 0 dX4_layBase_1 hiX4_layBase_4 hfX4_layBase_12 rfl rfl rfl (by decide) rfl ?_
  refine x_callV (pc := 4) C (n := 0) (q0 := 0) (rest := []) (wr := [(a, ob 4 [.ref kb, .ref t1, .ref t2, .ref t3, .ref t4, .ref t5, .ref t6, jv h, jv sz]), (t1, ai g 11 S), (t2, ai g 60 A0), (t3, ai g 60 A1), (t4, ai g 60 A2), (t5, ai g 60 A3), (t6, ai g 60 A4)]) [1, 2] [0, 3, 4, 5, 6, 7, 8] (ctX2_clear l g kb kc bn bf hb) gX4_layBase_X2_clear rfl ⟨rfl, rfl⟩ (by decide +kernel) ⟨by decide, by decide⟩ rfl rfl rfl rfl rfl (by decide) (by decide) (by decide) rfl (Nat.le_of_ble_eq_true rfl) dX4_layBase_4 ⟨by decide, by decide⟩ (fun v_4 u_4 h_4 => ?_)
  rcases h_4 with ⟨rfl, rfl, f_4⟩
  refine x_world (ws' := [(a, ob 4 [.ref kb, .ref t1, .ref t2, .ref t3, .ref t4, .ref t5, .ref t6, jv h, jv sz]), (kb, ob 2 [.ref kc, jv 0]), (kc, ai g 60 bf), (t1, ai g 11 S), (t2, ai g 60 A0), (t3, ai g 60 A1), (t4, ai g 60 A2), (t5, ai g 60 A3), (t6, ai g 60 A4)]) [0, 7, 8, 1, 2, 3, 4, 5, 6] (by decide) rfl ?_
  show X l g E ({ frames := 2, cells := 0, slots := 0, locals := 45 } : Room) 3 [(a, ob 4 [.ref kb, .ref t1, .ref t2, .ref t3, .ref t4, .ref t5, .ref t6, jv h, jv sz]), (kb, ob 2 [.ref kc, jv 0]), (kc, ai g 60 bf), (t1, ai g 11 S), (t2, ai g 60 A0), (t3, ai g 60 A1), (t4, ai g 60 A2), (t5, ai g 60 A3), (t6, ai g 60 A4)] 0 0 [(0, .ref a), (1, jv t)] 7 []
  refine x_iconst (pc := 7) C dX4_layBase_7 ?_
  refine x_istore_n (pc := 8) C (lv' := [(2, jv 0), (0, .ref a), (1, jv t)]) dX4_layBase_8 (by decide) rfl ?_
  have L9 : ∀ (nn : Nat) (k : Int) (f' : Int → Int), (S (t + 1) - S t - k).toNat < nn → (0 ≤ k ∧ k ≤ S (t + 1) - S t) → (∀ j : Int, 0 ≤ j → j < k → f' j = A2 (S t + j)) → X l g E ({ frames := 2, cells := 0, slots := 0, locals := 45 } : Room) 3 [(a, ob 4 [.ref kb, .ref t1, .ref t2, .ref t3, .ref t4, .ref t5, .ref t6, jv h, jv sz]), (kb, ob 2 [.ref kc, jv k]), (kc, ai g 60 f'), (t1, ai g 11 S), (t2, ai g 60 A0), (t3, ai g 60 A1), (t4, ai g 60 A2), (t5, ai g 60 A3), (t6, ai g 60 A4)] 0 0 [(0, .ref a), (1, jv t), (2, jv k)] 9 [] := by
    intro nn
    induction nn with
    | zero => intro k f' hμ; exact absurd hμ (Nat.not_lt_zero _)
    | succ nn ih9 =>
      intro k f' hμ hk0 hf
      refine x_iload_n (pc := 9) C 2 dX4_layBase_9 rfl ?_
      refine x_aload_n (pc := 10) C 0 dX4_layBase_10 rfl ?_
      refine x_iload_n (pc := 11) C 1 dX4_layBase_11 rfl ?_
      refine x_callV (pc := 12) C (n := 1) (q0 := 0) (rest := [jv k]) (wr := []) [0, 1, 2, 3, 4, 5, 6, 7, 8] [] (ctX4_width l g a kb kc t1 t2 t3 t4 t5 t6 h sz k f' S A0 A1 A2 A3 A4 t hw ⟨by omega, by omega⟩) gX4_layBase_X4_width rfl ⟨rfl, rfl⟩ (by decide +kernel) ⟨by decide, by decide⟩ rfl rfl rfl rfl rfl (by decide) (by decide) (by decide) rfl (Nat.le_of_ble_eq_true rfl) dX4_layBase_12 ⟨by decide, by decide⟩ (fun v_12 u_12 h_12 => ?_)
      rcases h_12 with ⟨rfl, rfl, f_12⟩ | ⟨rfl, rfl, f_12⟩
      · refine x_world (ws' := [(a, ob 4 [.ref kb, .ref t1, .ref t2, .ref t3, .ref t4, .ref t5, .ref t6, jv h, jv sz]), (kb, ob 2 [.ref kc, jv k]), (kc, ai g 60 f'), (t1, ai g 11 S), (t2, ai g 60 A0), (t3, ai g 60 A1), (t4, ai g 60 A2), (t5, ai g 60 A3), (t6, ai g 60 A4)]) [0, 1, 2, 3, 4, 5, 6, 7, 8] (by decide) rfl ?_
        show X l g E ({ frames := 2, cells := 0, slots := 0, locals := 45 } : Room) 3 [(a, ob 4 [.ref kb, .ref t1, .ref t2, .ref t3, .ref t4, .ref t5, .ref t6, jv h, jv sz]), (kb, ob 2 [.ref kc, jv k]), (kc, ai g 60 f'), (t1, ai g 11 S), (t2, ai g 60 A0), (t3, ai g 60 A1), (t4, ai g 60 A2), (t5, ai g 60 A3), (t6, ai g 60 A4)] 0 0 [(0, .ref a), (1, jv t), (2, jv k)] 15 [jv (S (t + 1) - S t), jv k]
        refine x_icmp_ge (pc := 15) C 38 dX4_layBase_15 rfl ⟨by omega, by omega⟩ ⟨by omega, by omega⟩ (fun c_15 => ?_) (fun c_15 => ?_)
        · refine x_vret (pc := 38) C Rt0 dX4_layBase_38 rfl ?_
          refine ⟨_, _, rfl, rfl, ?_⟩
          exact ⟨by omega, hf⟩
        · refine x_aload_n (pc := 18) C 0 dX4_layBase_18 rfl ?_
          refine x_get (pc := 19) C 0 0 dX4_layBase_19 hiX4_layBase_4 hfX4_layBase_12 rfl rfl rfl (by decide) rfl ?_
          refine x_aload_n (pc := 22) C 0 dX4_layBase_22 rfl ?_
          refine x_iload_n (pc := 23) C 1 dX4_layBase_23 rfl ?_
          refine x_iload_n (pc := 24) C 2 dX4_layBase_24 rfl ?_
          refine x_iconst (pc := 25) C dX4_layBase_25 ?_
          refine x_callV (pc := 26) C (n := 3) (q0 := 0) (rest := [.ref kb]) (wr := []) [0, 1, 2, 3, 4, 5, 6, 7, 8] [] (ctX4_tell l g a kb kc t1 t2 t3 t4 t5 t6 h sz k f' S A0 A1 A2 A3 A4 t k 2 hw ⟨by omega, by omega⟩ ⟨by omega, by omega⟩ ⟨by omega, by omega⟩) gX4_layBase_X4_tell rfl ⟨rfl, rfl⟩ (by decide +kernel) ⟨by decide, by decide⟩ rfl rfl rfl rfl rfl (by decide) (by decide) (by decide) rfl (Nat.le_of_ble_eq_true rfl) dX4_layBase_26 ⟨by decide, by decide⟩ (fun v_26 u_26 h_26 => ?_)
          rcases h_26 with ⟨rfl, rfl, f_26⟩ | ⟨rfl, rfl, f_26⟩ | ⟨rfl, rfl, f_26⟩ | ⟨rfl, rfl, f_26⟩ | ⟨rfl, rfl, f_26⟩ | ⟨rfl, rfl, f_26⟩
          · refine x_world (ws' := [(a, ob 4 [.ref kb, .ref t1, .ref t2, .ref t3, .ref t4, .ref t5, .ref t6, jv h, jv sz]), (kb, ob 2 [.ref kc, jv k]), (kc, ai g 60 f'), (t1, ai g 11 S), (t2, ai g 60 A0), (t3, ai g 60 A1), (t4, ai g 60 A2), (t5, ai g 60 A3), (t6, ai g 60 A4)]) [0, 1, 2, 3, 4, 5, 6, 7, 8] (by decide) rfl ?_
            show X l g E ({ frames := 2, cells := 0, slots := 0, locals := 45 } : Room) 3 [(a, ob 4 [.ref kb, .ref t1, .ref t2, .ref t3, .ref t4, .ref t5, .ref t6, jv h, jv sz]), (kb, ob 2 [.ref kc, jv k]), (kc, ai g 60 f'), (t1, ai g 11 S), (t2, ai g 60 A0), (t3, ai g 60 A1), (t4, ai g 60 A2), (t5, ai g 60 A3), (t6, ai g 60 A4)] 0 0 [(0, .ref a), (1, jv t), (2, jv k)] 29 [jv (-2), .ref kb]
            omega
          · refine x_world (ws' := [(a, ob 4 [.ref kb, .ref t1, .ref t2, .ref t3, .ref t4, .ref t5, .ref t6, jv h, jv sz]), (kb, ob 2 [.ref kc, jv k]), (kc, ai g 60 f'), (t1, ai g 11 S), (t2, ai g 60 A0), (t3, ai g 60 A1), (t4, ai g 60 A2), (t5, ai g 60 A3), (t6, ai g 60 A4)]) [0, 1, 2, 3, 4, 5, 6, 7, 8] (by decide) rfl ?_
            show X l g E ({ frames := 2, cells := 0, slots := 0, locals := 45 } : Room) 3 [(a, ob 4 [.ref kb, .ref t1, .ref t2, .ref t3, .ref t4, .ref t5, .ref t6, jv h, jv sz]), (kb, ob 2 [.ref kc, jv k]), (kc, ai g 60 f'), (t1, ai g 11 S), (t2, ai g 60 A0), (t3, ai g 60 A1), (t4, ai g 60 A2), (t5, ai g 60 A3), (t6, ai g 60 A4)] 0 0 [(0, .ref a), (1, jv t), (2, jv k)] 29 [jv (A0 (S t + k)), .ref kb]
            omega
          · refine x_world (ws' := [(a, ob 4 [.ref kb, .ref t1, .ref t2, .ref t3, .ref t4, .ref t5, .ref t6, jv h, jv sz]), (kb, ob 2 [.ref kc, jv k]), (kc, ai g 60 f'), (t1, ai g 11 S), (t2, ai g 60 A0), (t3, ai g 60 A1), (t4, ai g 60 A2), (t5, ai g 60 A3), (t6, ai g 60 A4)]) [0, 1, 2, 3, 4, 5, 6, 7, 8] (by decide) rfl ?_
            show X l g E ({ frames := 2, cells := 0, slots := 0, locals := 45 } : Room) 3 [(a, ob 4 [.ref kb, .ref t1, .ref t2, .ref t3, .ref t4, .ref t5, .ref t6, jv h, jv sz]), (kb, ob 2 [.ref kc, jv k]), (kc, ai g 60 f'), (t1, ai g 11 S), (t2, ai g 60 A0), (t3, ai g 60 A1), (t4, ai g 60 A2), (t5, ai g 60 A3), (t6, ai g 60 A4)] 0 0 [(0, .ref a), (1, jv t), (2, jv k)] 29 [jv (A1 (S t + k)), .ref kb]
            omega
          · refine x_world (ws' := [(a, ob 4 [.ref kb, .ref t1, .ref t2, .ref t3, .ref t4, .ref t5, .ref t6, jv h, jv sz]), (kb, ob 2 [.ref kc, jv k]), (kc, ai g 60 f'), (t1, ai g 11 S), (t2, ai g 60 A0), (t3, ai g 60 A1), (t4, ai g 60 A2), (t5, ai g 60 A3), (t6, ai g 60 A4)]) [0, 1, 2, 3, 4, 5, 6, 7, 8] (by decide) rfl ?_
            show X l g E ({ frames := 2, cells := 0, slots := 0, locals := 45 } : Room) 3 [(a, ob 4 [.ref kb, .ref t1, .ref t2, .ref t3, .ref t4, .ref t5, .ref t6, jv h, jv sz]), (kb, ob 2 [.ref kc, jv k]), (kc, ai g 60 f'), (t1, ai g 11 S), (t2, ai g 60 A0), (t3, ai g 60 A1), (t4, ai g 60 A2), (t5, ai g 60 A3), (t6, ai g 60 A4)] 0 0 [(0, .ref a), (1, jv t), (2, jv k)] 29 [jv (A2 (S t + k)), .ref kb]
            refine x_callV (pc := 29) C (n := 1) (q0 := 0) (rest := []) (wr := [(a, ob 4 [.ref kb, .ref t1, .ref t2, .ref t3, .ref t4, .ref t5, .ref t6, jv h, jv sz]), (t1, ai g 11 S), (t2, ai g 60 A0), (t3, ai g 60 A1), (t4, ai g 60 A2), (t5, ai g 60 A3), (t6, ai g 60 A4)]) [1, 2] [0, 3, 4, 5, 6, 7, 8] (ctX2_append l g kb kc k f' (A2 (S t + k)) ⟨by omega, by omega⟩) gX4_layBase_X2_append rfl ⟨rfl, rfl⟩ (by decide +kernel) ⟨by decide, by decide⟩ rfl rfl rfl rfl rfl (by decide) (by decide) (by decide) rfl (Nat.le_of_ble_eq_true rfl) dX4_layBase_29 ⟨by decide, by decide⟩ (fun v_29 u_29 h_29 => ?_)
            rcases h_29 with ⟨rfl, rfl, f_29⟩
            refine x_world (ws' := [(a, ob 4 [.ref kb, .ref t1, .ref t2, .ref t3, .ref t4, .ref t5, .ref t6, jv h, jv sz]), (kb, ob 2 [.ref kc, jv (k + 1)]), (kc, ai g 60 (up f' k (A2 (S t + k)))), (t1, ai g 11 S), (t2, ai g 60 A0), (t3, ai g 60 A1), (t4, ai g 60 A2), (t5, ai g 60 A3), (t6, ai g 60 A4)]) [0, 7, 8, 1, 2, 3, 4, 5, 6] (by decide) rfl ?_
            show X l g E ({ frames := 2, cells := 0, slots := 0, locals := 45 } : Room) 3 [(a, ob 4 [.ref kb, .ref t1, .ref t2, .ref t3, .ref t4, .ref t5, .ref t6, jv h, jv sz]), (kb, ob 2 [.ref kc, jv (k + 1)]), (kc, ai g 60 (up f' k (A2 (S t + k)))), (t1, ai g 11 S), (t2, ai g 60 A0), (t3, ai g 60 A1), (t4, ai g 60 A2), (t5, ai g 60 A3), (t6, ai g 60 A4)] 0 0 [(0, .ref a), (1, jv t), (2, jv k)] 32 []
            refine x_iinc (pc := 32) C (lv' := [(2, jv (k + 1)), (0, .ref a), (1, jv t)]) 2 dX4_layBase_32 rfl (by decide) rfl ?_
            refine x_goto (pc := 35) C 9 dX4_layBase_35 rfl ?_
            refine x_locals (lv' := [(0, .ref a), (1, jv t), (2, jv (k + 1))]) [1, 2, 0] rfl ?_
            refine ih9 _ _ ?_ ?_ ?_
            · omega
            · omega
            · exact al_s (fun j h0 h1 => by rw [up_ne _ _ (by omega)]; exact hf j h0 h1) (up_eq _ _ _)
          · refine x_world (ws' := [(a, ob 4 [.ref kb, .ref t1, .ref t2, .ref t3, .ref t4, .ref t5, .ref t6, jv h, jv sz]), (kb, ob 2 [.ref kc, jv k]), (kc, ai g 60 f'), (t1, ai g 11 S), (t2, ai g 60 A0), (t3, ai g 60 A1), (t4, ai g 60 A2), (t5, ai g 60 A3), (t6, ai g 60 A4)]) [0, 1, 2, 3, 4, 5, 6, 7, 8] (by decide) rfl ?_
            show X l g E ({ frames := 2, cells := 0, slots := 0, locals := 45 } : Room) 3 [(a, ob 4 [.ref kb, .ref t1, .ref t2, .ref t3, .ref t4, .ref t5, .ref t6, jv h, jv sz]), (kb, ob 2 [.ref kc, jv k]), (kc, ai g 60 f'), (t1, ai g 11 S), (t2, ai g 60 A0), (t3, ai g 60 A1), (t4, ai g 60 A2), (t5, ai g 60 A3), (t6, ai g 60 A4)] 0 0 [(0, .ref a), (1, jv t), (2, jv k)] 29 [jv (A3 (S t + k)), .ref kb]
            omega
          · refine x_world (ws' := [(a, ob 4 [.ref kb, .ref t1, .ref t2, .ref t3, .ref t4, .ref t5, .ref t6, jv h, jv sz]), (kb, ob 2 [.ref kc, jv k]), (kc, ai g 60 f'), (t1, ai g 11 S), (t2, ai g 60 A0), (t3, ai g 60 A1), (t4, ai g 60 A2), (t5, ai g 60 A3), (t6, ai g 60 A4)]) [0, 1, 2, 3, 4, 5, 6, 7, 8] (by decide) rfl ?_
            show X l g E ({ frames := 2, cells := 0, slots := 0, locals := 45 } : Room) 3 [(a, ob 4 [.ref kb, .ref t1, .ref t2, .ref t3, .ref t4, .ref t5, .ref t6, jv h, jv sz]), (kb, ob 2 [.ref kc, jv k]), (kc, ai g 60 f'), (t1, ai g 11 S), (t2, ai g 60 A0), (t3, ai g 60 A1), (t4, ai g 60 A2), (t5, ai g 60 A3), (t6, ai g 60 A4)] 0 0 [(0, .ref a), (1, jv t), (2, jv k)] 29 [jv (A4 (S t + k)), .ref kb]
            omega
      · refine x_world (ws' := [(a, ob 4 [.ref kb, .ref t1, .ref t2, .ref t3, .ref t4, .ref t5, .ref t6, jv h, jv sz]), (kb, ob 2 [.ref kc, jv k]), (kc, ai g 60 f'), (t1, ai g 11 S), (t2, ai g 60 A0), (t3, ai g 60 A1), (t4, ai g 60 A2), (t5, ai g 60 A3), (t6, ai g 60 A4)]) [0, 1, 2, 3, 4, 5, 6, 7, 8] (by decide) rfl ?_
        show X l g E ({ frames := 2, cells := 0, slots := 0, locals := 45 } : Room) 3 [(a, ob 4 [.ref kb, .ref t1, .ref t2, .ref t3, .ref t4, .ref t5, .ref t6, jv h, jv sz]), (kb, ob 2 [.ref kc, jv k]), (kc, ai g 60 f'), (t1, ai g 11 S), (t2, ai g 60 A0), (t3, ai g 60 A1), (t4, ai g 60 A2), (t5, ai g 60 A3), (t6, ai g 60 A4)] 0 0 [(0, .ref a), (1, jv t), (2, jv k)] 15 [jv 0, jv k]
        omega
  refine x_locals (lv' := [(0, .ref a), (1, jv t), (2, jv 0)]) [1, 2, 0] rfl ?_
  refine L9 _ _ _ (Nat.lt_succ_self _) ?_ ?_
  · omega
  · exact al_0
