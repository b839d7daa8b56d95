theorem wb_tb (n : Nat) : (lN n).toBitVec = BitVec.ofNat 64 n := rfl
theorem wb_inj {a b : Int64} (h : a.toBitVec = b.toBitVec) : a = b := Int64.toBitVec_inj.mp h
theorem wb_tn {n : Nat} (h : n < 2 ^ 64) : (lN n).toBitVec.toNat = n := by rw [wb_tb, BitVec.toNat_ofNat, Nat.mod_eq_of_lt h]
theorem wb_of (x : Int64) : ∃ n, n < 2 ^ 64 ∧ x = lN n := ⟨x.toBitVec.toNat, x.toBitVec.isLt, wb_inj (by rw [wb_tb]; simp)⟩
theorem wb_cu : ∀ k, k < 64 → ((nI k).toInt64.toUInt64 &&& Int64.toUInt64 63) = UInt64.ofNat k := by decide +kernel
theorem wb_shr {n k : Nat} (hn : n < 2 ^ 64) (hk : k < 64) : ((lN n).toUInt64 >>> ((nI k).toInt64.toUInt64 &&& Int64.toUInt64 63)).toInt64 = lN (n / 2 ^ k) := by
  rw [wb_cu k hk]
  apply wb_inj
  apply BitVec.eq_of_toNat_eq
  show ((lN n).toUInt64 >>> UInt64.ofNat k).toNat = (BitVec.ofNat 64 _).toNat
  have h1 : (UInt64.ofNat k).toNat = k := by
    show (BitVec.ofNat 64 k).toNat = k
    rw [BitVec.toNat_ofNat, Nat.mod_eq_of_lt (by omega)]
  have h2 : (lN n).toUInt64.toNat = n := wb_tn hn
  rw [UInt64.toNat_shiftRight, h1, h2, Nat.mod_eq_of_lt hk, Nat.shiftRight_eq_div_pow, BitVec.toNat_ofNat, Nat.mod_eq_of_lt (Nat.lt_of_le_of_lt (Nat.div_le_self _ _) hn)]
theorem wb_and {a b : Nat} (ha : a < 2 ^ 64) (hb : b < 2 ^ 64) : lN a &&& lN b = lN (a &&& b) := by
  apply wb_inj
  rw [Int64.toBitVec_and, wb_tb, wb_tb, wb_tb]
  apply BitVec.eq_of_toNat_eq
  rw [BitVec.toNat_and, BitVec.toNat_ofNat, BitVec.toNat_ofNat, BitVec.toNat_ofNat, Nat.mod_eq_of_lt ha, Nat.mod_eq_of_lt hb, Nat.mod_eq_of_lt (Nat.and_lt_two_pow _ hb)]
theorem q1 {n : Nat} (hn : n < 2 ^ 64) : ((lN n).toUInt64 >>> ((iI 1).toInt64.toUInt64 &&& Int64.toUInt64 63)).toInt64 = lN (n / 2) := wb_shr (k := 1) hn (by decide)
theorem q2 {n : Nat} (hn : n < 2 ^ 64) : ((lN n).toUInt64 >>> ((iI 2).toInt64.toUInt64 &&& Int64.toUInt64 63)).toInt64 = lN (n / 4) := wb_shr (k := 2) hn (by decide)
theorem q4 {n : Nat} (hn : n < 2 ^ 64) : ((lN n).toUInt64 >>> ((iI 4).toInt64.toUInt64 &&& Int64.toUInt64 63)).toInt64 = lN (n / 16) := wb_shr (k := 4) hn (by decide)
theorem q8 {n : Nat} (hn : n < 2 ^ 64) : ((lN n).toUInt64 >>> ((iI 8).toInt64.toUInt64 &&& Int64.toUInt64 63)).toInt64 = lN (n / 256) := wb_shr (k := 8) hn (by decide)
theorem q16 {n : Nat} (hn : n < 2 ^ 64) : ((lN n).toUInt64 >>> ((iI 16).toInt64.toUInt64 &&& Int64.toUInt64 63)).toInt64 = lN (n / 65536) := wb_shr (k := 16) hn (by decide)
theorem q32 {n : Nat} (hn : n < 2 ^ 64) : ((lN n).toUInt64 >>> ((iI 32).toInt64.toUInt64 &&& Int64.toUInt64 63)).toInt64 = lN (n / 4294967296) := wb_shr (k := 32) hn (by decide)
theorem m85 : mkm 85 8 = 6148914691236517205 := by decide
theorem m51 : mkm 51 8 = 3689348814741910323 := by decide
theorem m15 : mkm 15 8 = 1085102592571150095 := by decide
theorem s1_lt {n : Nat} (hn : n < 2 ^ 64) : s1n (mkm 85 8) n < 2 ^ 64 := by unfold s1n; omega
theorem s2_lt (M n : Nat) (hM : M = mkm 51 8 := by rfl) : s2n M n < 2 ^ 63 := by
  subst hM
  unfold s2n
  have a : n &&& mkm 51 8 ≤ mkm 51 8 := Nat.and_le_right
  have b : n / 4 &&& mkm 51 8 ≤ mkm 51 8 := Nat.and_le_right
  rw [m51] at *
  omega
theorem w_s1 {n : Nat} (hn : n < 2 ^ 64) : lN n - (((lN n).toUInt64 >>> ((iI 1).toInt64.toUInt64 &&& Int64.toUInt64 63)).toInt64 &&& 6148914691236517205) = lN (s1n (mkm 85 8) n) := by
  rw [q1 hn]
  have e := wb_and (a := n / 2) (b := 6148914691236517205) (by omega) (by decide)
  have c : (n / 2 &&& 6148914691236517205) ≤ n / 2 := Nat.and_le_left
  show lN n - (lN (n / 2) &&& lN 6148914691236517205) = _
  rw [e, lN_sub (by omega), s1n, m85]
theorem w_s2 {n : Nat} (hn : n < 2 ^ 64) : (lN n &&& 3689348814741910323) + (((lN n).toUInt64 >>> ((iI 2).toInt64.toUInt64 &&& Int64.toUInt64 63)).toInt64 &&& 3689348814741910323) = lN (s2n (mkm 51 8) n) := by
  rw [q2 hn]
  show (lN n &&& lN 3689348814741910323) + (lN (n / 4) &&& lN 3689348814741910323) = _
  rw [wb_and hn (by decide), wb_and (by omega) (by decide), lN_add, s2n, m51]
theorem w_s3 {n : Nat} (hn : n < 2 ^ 63) : (lN n + ((lN n).toUInt64 >>> ((iI 4).toInt64.toUInt64 &&& Int64.toUInt64 63)).toInt64) &&& 1085102592571150095 = lN (s3n (mkm 15 8) n) := by
  rw [q4 (by omega), lN_add]
  show lN (n + n / 16) &&& lN 1085102592571150095 = _
  rw [wb_and (by omega) (by decide), s3n, m15]
theorem w_a8 {n : Nat} (hn : n < 2 ^ 62) : lN n + ((lN n).toUInt64 >>> ((iI 8).toInt64.toUInt64 &&& Int64.toUInt64 63)).toInt64 = lN (n + n / 256) := by rw [q8 (by omega), lN_add]
theorem w_a16 {n : Nat} (hn : n < 2 ^ 62) : lN n + ((lN n).toUInt64 >>> ((iI 16).toInt64.toUInt64 &&& Int64.toUInt64 63)).toInt64 = lN (n + n / 65536) := by rw [q16 (by omega), lN_add]
theorem w_a32 {n : Nat} (hn : n < 2 ^ 62) : lN n + ((lN n).toUInt64 >>> ((iI 32).toInt64.toUInt64 &&& Int64.toUInt64 63)).toInt64 = lN (n + n / 4294967296) := by rw [q32 (by omega), lN_add]
theorem w_end {n : Nat} : [Value.int ((lN n).toInt32 &&& iI 127)] = [jv ((n % 128 : Nat) : Int)] := by
  rw [lN_i, pk_and (nI n) (m := iI 127) 7 (by decide)]
  have e : (nI n).toBitVec.toNat % 2 ^ 7 = n % 128 := by
    show (BitVec.ofNat 32 n).toNat % 2 ^ 7 = n % 128
    rw [BitVec.toNat_ofNat]
    omega
  rw [e]
  show [Value.int (Int32.ofNat (n % 128))] = [Value.int (Int32.ofInt ((n % 128 : Nat) : Int))]
  rw [Int32.ofInt_eq_ofNat]
/-- how many bits are set -/
def pcn (b : Int64) : Int := cnt (fun j => b.toBitVec.getLsbD j.toNat) 64
theorem pcn_lN {n : Nat} (hn : n < 2 ^ 64) : ((cb n 64 : Nat) : Int) = pcn (lN n) := by
  unfold pcn
  have key : ∀ m : Nat, cnt (fun j => (lN n).toBitVec.getLsbD j.toNat) m = ((cb n m : Nat) : Int) := by
    intro m
    induction m with
    | zero => rfl
    | succ m ih =>
      rw [cnt, ih, cb, Int.toNat_natCast]
      have e : (lN n).toBitVec.getLsbD m = decide (n / 2 ^ m % 2 = 1) := by
        rw [← BitVec.testBit_toNat, wb_tn hn, Nat.testBit_eq_decide_div_mod_eq]
      rw [e]
      by_cases c : n / 2 ^ m % 2 = 1
      · rw [c]; simp
      · have : n / 2 ^ m % 2 = 0 := by omega
        rw [this]; simp
  rw [key]
theorem cnt_congr {p q : Int → Bool} (n : Nat) (h : ∀ j : Int, 0 ≤ j → j < (n : Int) → p j = q j) : cnt p n = cnt q n := by
  induction n with
  | zero => rfl
  | succ n ih => rw [cnt, cnt, ih (fun j j0 j1 => h j j0 (by omega)), h (n : Int) (by omega) (by omega)]
theorem FB.pc {b : Int64} {B : Int → Bool} (h : FB b B) : pcn b = cnt B 64 := cnt_congr 64 (fun j j0 j1 => h j j0 j1)
set_option maxHeartbeats 4000000 in
set_option maxRecDepth 100000 in
/-- Long.bitCount -/
theorem ctJ13_bitCount_95d88 (l : Launch) (g : xG) (b : Int64)  : Ct l g yJ13_bitCount_95d88 wsJ13_bitCount_95d88 ({ frames := 0, cells := 0, slots := 0, locals := 0 } : Room) 0 0 [] [.long b] (fun rV rU => rV = some (jv (pcn b)) ∧ rU = [] ∧ (True)) := by
  refine ct_ofF (cc := cJ13_bitCount_95d88) (nL := 2) (ret := (some .int)) (by decide +kernel) rfl (Nat.le_of_ble_eq_true rfl) ?_
  intro E C Rt0
  have C : Cx l g E ({ frames := 0, cells := 0, slots := 0, locals := 0 } : Room) RJ13 "bitCount" cJ13_bitCount_95d88 wsJ13_bitCount_95d88 2 := C
  show X l g E ({ frames := 0, cells := 0, slots := 0, locals := 0 } : Room) 2 [] 0 0 [(0, .long b)] 0 []
  obtain ⟨n, hn, hbn⟩ := wb_of b
  obtain ⟨x, hx⟩ : ∃ x, x = s3n (mkm 15 8) (s2n (mkm 51 8) (s1n (mkm 85 8) n)) := ⟨_, rfl⟩
  obtain ⟨xa, hxa⟩ : ∃ y, y = x + x / 256 := ⟨_, rfl⟩
  obtain ⟨xb, hxb⟩ : ∃ y, y = xa + xa / 65536 := ⟨_, rfl⟩
  obtain ⟨xc, hxc⟩ : ∃ y, y = xb + xb / 4294967296 := ⟨_, rfl⟩
  have hp := popc hn hx hxa hxb hxc
  have hxl := hp.2
  refine x_lload_nR (pc := 0) C 0 dJ13_bitCount_95d88_0 rfl ?_
  refine x_lload_nR (pc := 1) C 0 dJ13_bitCount_95d88_1 rfl ?_
  refine x_iconst (pc := 2) C dJ13_bitCount_95d88_2 ?_
  refine x_lushrR (pc := 3) C dJ13_bitCount_95d88_3 ?_
  refine x_ldc2R (pc := 4) C (v := 6148914691236517205) dJ13_bitCount_95d88_4 (fun h => h (.constantLong RJ13 314 (6148914691236517205)) (by decide +kernel)) ?_
  refine x_landR (pc := 7) C dJ13_bitCount_95d88_7 ?_
  refine x_lsubR (pc := 8) C dJ13_bitCount_95d88_8 ?_
  refine x_lstore_nR (pc := 9) C (lv' := [(0, .long (b - (((b.toUInt64 >>> ((iI 1).toInt64.toUInt64 &&& Int64.toUInt64 63)).toInt64) &&& 6148914691236517205)))]) dJ13_bitCount_95d88_9 (by decide) rfl ?_
  have L10 : ∀ (z1 : Int64), (z1 = lN (s1n (mkm 85 8) n)) → X l g E ({ frames := 0, cells := 0, slots := 0, locals := 0 } : Room) 2 [] 0 0 [(0, .long z1)] 10 [] := by
    intro z1 hz1
    refine x_lload_nR (pc := 10) C 0 dJ13_bitCount_95d88_10 rfl ?_
    refine x_ldc2R (pc := 11) C (v := 3689348814741910323) dJ13_bitCount_95d88_11 (fun h => h (.constantLong RJ13 316 (3689348814741910323)) (by decide +kernel)) ?_
    refine x_landR (pc := 14) C dJ13_bitCount_95d88_14 ?_
    refine x_lload_nR (pc := 15) C 0 dJ13_bitCount_95d88_15 rfl ?_
    refine x_iconst (pc := 16) C dJ13_bitCount_95d88_16 ?_
    refine x_lushrR (pc := 17) C dJ13_bitCount_95d88_17 ?_
    refine x_ldc2R (pc := 18) C (v := 3689348814741910323) dJ13_bitCount_95d88_18 (fun h => h (.constantLong RJ13 316 (3689348814741910323)) (by decide +kernel)) ?_
    refine x_landR (pc := 21) C dJ13_bitCount_95d88_21 ?_
    refine x_laddR (pc := 22) C dJ13_bitCount_95d88_22 ?_
    refine x_lstore_nR (pc := 23) C (lv' := [(0, .long ((z1 &&& 3689348814741910323) + (((z1.toUInt64 >>> ((iI 2).toInt64.toUInt64 &&& Int64.toUInt64 63)).toInt64) &&& 3689348814741910323)))]) dJ13_bitCount_95d88_23 (by decide) rfl ?_
    have L24 : ∀ (z2 : Int64), (z2 = lN (s2n (mkm 51 8) (s1n (mkm 85 8) n))) → X l g E ({ frames := 0, cells := 0, slots := 0, locals := 0 } : Room) 2 [] 0 0 [(0, .long z2)] 24 [] := by
      intro z2 hz2
      refine x_lload_nR (pc := 24) C 0 dJ13_bitCount_95d88_24 rfl ?_
      refine x_lload_nR (pc := 25) C 0 dJ13_bitCount_95d88_25 rfl ?_
      refine x_iconst (pc := 26) C dJ13_bitCount_95d88_26 ?_
      refine x_lushrR (pc := 27) C dJ13_bitCount_95d88_27 ?_
      refine x_laddR (pc := 28) C dJ13_bitCount_95d88_28 ?_
      refine x_ldc2R (pc := 29) C (v := 1085102592571150095) dJ13_bitCount_95d88_29 (fun h => h (.constantLong RJ13 318 (1085102592571150095)) (by decide +kernel)) ?_
      refine x_landR (pc := 32) C dJ13_bitCount_95d88_32 ?_
      refine x_lstore_nR (pc := 33) C (lv' := [(0, .long ((z2 + ((z2.toUInt64 >>> ((iI 4).toInt64.toUInt64 &&& Int64.toUInt64 63)).toInt64)) &&& 1085102592571150095))]) dJ13_bitCount_95d88_33 (by decide) rfl ?_
      have L34 : ∀ (z3 : Int64), (z3 = lN (x)) → X l g E ({ frames := 0, cells := 0, slots := 0, locals := 0 } : Room) 2 [] 0 0 [(0, .long z3)] 34 [] := by
        intro z3 hz3
        refine x_lload_nR (pc := 34) C 0 dJ13_bitCount_95d88_34 rfl ?_
        refine x_lload_nR (pc := 35) C 0 dJ13_bitCount_95d88_35 rfl ?_
        refine x_bipush (pc := 36) C dJ13_bitCount_95d88_36 rfl ?_
        refine x_lushrR (pc := 38) C dJ13_bitCount_95d88_38 ?_
        refine x_laddR (pc := 39) C dJ13_bitCount_95d88_39 ?_
        refine x_lstore_nR (pc := 40) C (lv' := [(0, .long (z3 + ((z3.toUInt64 >>> ((iI 8).toInt64.toUInt64 &&& Int64.toUInt64 63)).toInt64)))]) dJ13_bitCount_95d88_40 (by decide) rfl ?_
        have L41 : ∀ (z4 : Int64), (z4 = lN (xa)) → X l g E ({ frames := 0, cells := 0, slots := 0, locals := 0 } : Room) 2 [] 0 0 [(0, .long z4)] 41 [] := by
          intro z4 hz4
          refine x_lload_nR (pc := 41) C 0 dJ13_bitCount_95d88_41 rfl ?_
          refine x_lload_nR (pc := 42) C 0 dJ13_bitCount_95d88_42 rfl ?_
          refine x_bipush (pc := 43) C dJ13_bitCount_95d88_43 rfl ?_
          refine x_lushrR (pc := 45) C dJ13_bitCount_95d88_45 ?_
          refine x_laddR (pc := 46) C dJ13_bitCount_95d88_46 ?_
          refine x_lstore_nR (pc := 47) C (lv' := [(0, .long (z4 + ((z4.toUInt64 >>> ((iI 16).toInt64.toUInt64 &&& Int64.toUInt64 63)).toInt64)))]) dJ13_bitCount_95d88_47 (by decide) rfl ?_
          have L48 : ∀ (z5 : Int64), (z5 = lN (xb)) → X l g E ({ frames := 0, cells := 0, slots := 0, locals := 0 } : Room) 2 [] 0 0 [(0, .long z5)] 48 [] := by
            intro z5 hz5
            refine x_lload_nR (pc := 48) C 0 dJ13_bitCount_95d88_48 rfl ?_
            refine x_lload_nR (pc := 49) C 0 dJ13_bitCount_95d88_49 rfl ?_
            refine x_bipush (pc := 50) C dJ13_bitCount_95d88_50 rfl ?_
            refine x_lushrR (pc := 52) C dJ13_bitCount_95d88_52 ?_
            refine x_laddR (pc := 53) C dJ13_bitCount_95d88_53 ?_
            refine x_lstore_nR (pc := 54) C (lv' := [(0, .long (z5 + ((z5.toUInt64 >>> ((iI 32).toInt64.toUInt64 &&& Int64.toUInt64 63)).toInt64)))]) dJ13_bitCount_95d88_54 (by decide) rfl ?_
            have L55 : ∀ (z6 : Int64), (z6 = lN (xc)) → X l g E ({ frames := 0, cells := 0, slots := 0, locals := 0 } : Room) 2 [] 0 0 [(0, .long z6)] 55 [] := by
              intro z6 hz6
              refine x_lload_nR (pc := 55) C 0 dJ13_bitCount_95d88_55 rfl ?_
              refine x_l2iR (pc := 56) C dJ13_bitCount_95d88_56 ?_
              refine x_bipush (pc := 57) C dJ13_bitCount_95d88_57 rfl ?_
              refine x_iandR (pc := 59) C dJ13_bitCount_95d88_59 ?_
              refine x_eq (st2 := [jv (pcn b)]) ?_ rfl rfl ?_
              · rw [hz6, w_end, hp.1]
                rw [hbn, pcn_lN hn]
              refine x_iret (pc := 60) C Rt0 dJ13_bitCount_95d88_60 rfl ?_
              refine ⟨rfl, rfl, ?_⟩
              trivial
            refine L55 _ ?_
            · rw [hz5, hxc]; exact w_a32 (by omega)
          refine L48 _ ?_
          · rw [hz4, hxb]; exact w_a16 (by omega)
        refine L41 _ ?_
        · rw [hz3, hxa]; exact w_a8 (by omega)
      refine L34 _ ?_
      · rw [hz2, hx]; exact w_s3 (s2_lt _ _)
    refine L24 _ ?_
    · rw [hz1]; exact w_s2 (s1_lt hn)
  refine L10 _ ?_
  · rw [hbn]; exact w_s1 hn

set_option maxRecDepth 100000 in
theorem hiX1_bitsSet_1 : ∀ w ∈ wsX10, w ∈ wsX1_bitsSet := by decide +kernel
set_option maxRecDepth 100000 in
theorem hfX1_bitsSet_7 : Cond.fieldLink RX1 7 "KeyGuess$Filter" "bits" "J" ∈ wsX1_bitsSet := by decide +kernel
set_option maxHeartbeats 4000000 in
set_option maxRecDepth 100000 in
/-- Filter.bitsSet -/
theorem ctX1_bitsSet (l : Launch) (g : xG) (a : Nat) (b : Int64)  : Ct l g yX1_bitsSet wsX1_bitsSet ({ frames := 1, cells := 0, slots := 0, locals := 21 } : Room) 0 0 [(a, ob 1 [.long b])] [.ref a] (fun rV rU => rV = some (jv (pcn b)) ∧ rU = [(a, ob 1 [.long b])] ∧ (True)) := by
  refine ct_of (cc := cX1_bitsSet) (nL := 1) (ret := (some .int)) (by decide) rfl (Nat.le_of_ble_eq_true rfl) ?_
  intro E C Rt0
  have C : Cx l g E ({ frames := 1, cells := 0, slots := 0, locals := 21 } : Room) RX1 "bitsSet" cX1_bitsSet wsX1_bitsSet 1 := C
  show X l g E ({ frames := 1, cells := 0, slots := 0, locals := 21 } : Room) 1 [(a, ob 1 [.long b])] 0 0 [(0, .ref a)] 0 []
  refine x_aload_n (pc := 0) C 0 dX1_bitsSet_0 rfl ?_
  refine x_get (pc := 1) C 0 0 dX1_bitsSet_1 hiX1_bitsSet_1 hfX1_bitsSet_7 rfl rfl rfl (by decide) rfl ?_
  refine x_callS (pc := 4) C (n := 1) (rest := []) (wr := [(a, ob 1 [.long b])]) [] [0] (ctJ13_bitCount_95d88 l g b ) gX1_bitsSet_J13_bitCount_95d88 rfl (by decide +kernel) ⟨rfl, rfl⟩ ⟨by decide, by decide⟩ rfl rfl rfl (by decide) (by decide) (by decide) rfl (Nat.le_of_ble_eq_true rfl) dX1_bitsSet_4 ⟨by decide, by decide⟩ (fun v_4 u_4 h_4 => ?_)
  rcases h_4 with ⟨rfl, rfl, f_4⟩
  refine x_world (ws' := [(a, ob 1 [.long b])]) [0] (by decide) rfl ?_
  show X l g E ({ frames := 1, cells := 0, slots := 0, locals := 21 } : Room) 1 [(a, ob 1 [.long b])] 0 0 [(0, .ref a)] 7 [jv (pcn b)]
  refine x_iret (pc := 7) C Rt0 dX1_bitsSet_7 rfl ?_
  refine ⟨rfl, rfl, ?_⟩
  trivial

set_option maxRecDepth 100000 in
theorem hiX5_count_5 : ∀ w ∈ wsX50, w ∈ wsX5_count := by decide +kernel
set_option maxRecDepth 100000 in
theorem hfX5_count_10 : Cond.fieldLink RX5 10 "KeyGuess" "now" "LKeyGuess$Keys;" ∈ wsX5_count := by decide +kernel
set_option maxRecDepth 100000 in
theorem hfX5_count_16 : Cond.fieldLink RX5 16 "KeyGuess" "row" "LKeyGuess$Keys;" ∈ wsX5_count := by decide +kernel
set_option maxRecDepth 100000 in
theorem hfX5_count_71 : Cond.fieldLink RX5 71 "KeyGuess" "newKeys" "I" ∈ wsX5_count := by decide +kernel
set_option maxRecDepth 100000 in
theorem hfX5_count_65 : Cond.fieldLink RX5 65 "KeyGuess" "oldKeys" "I" ∈ wsX5_count := by decide +kernel
set_option maxRecDepth 100000 in
theorem hfX5_count_85 : Cond.fieldLink RX5 85 "KeyGuess" "cost" "I" ∈ wsX5_count := by decide +kernel
set_option maxRecDepth 100000 in
theorem hfX5_count_39 : Cond.fieldLink RX5 39 "KeyGuess" "filter" "LKeyGuess$Filter;" ∈ wsX5_count := by decide +kernel
set_option maxHeartbeats 4000000 in
set_option maxRecDepth 100000 in
/-- count -/
theorem ctX5_count (l : Launch) (g : xG) (o : Nat) (na : Nat) (nb : Nat) (ra : Nat) (rb : Nat) (ya : Nat) (yb : Nat) (ca : Nat) (c1 : Nat) (c2 : Nat) (c3 : Nat) (c4 : Nat) (c5 : Nat) (a : Nat) (kb : Nat) (kc : Nat) (t1 : Nat) (t2 : Nat) (t3 : Nat) (t4 : Nat) (t5 : Nat) (t6 : Nat) (fa : Nat) (la : Nat) (nn : Int) (nf : Int → Int) (rn : Int) (rf : Int → Int) (yn : Int) (yf : Int → Int) (x : Int → Int) (F : Int → Int) (Ls : Int → Int) (Nm : Int → Int) (Dn : Int → Int) (h : Int) (sz : Int) (bn : Int) (bf : Int → Int) (S : Int → Int) (A0 : Int → Int) (A1 : Int → Int) (A2 : Int → Int) (A3 : Int → Int) (A4 : Int → Int) (b : Int64) (m0 : Int) (q0 : Int) (e : Int) (nc : Int) (oc : Int) (co : Int) (u : Int) (hn : Kr nn nf) (hr : Kr rn rf) (ru : Rg u) : Ct l g yX5_count wsX5_count ({ frames := 2, cells := 0, slots := 0, locals := 41 } : Room) 0 0 [(o, ob 5 [.ref na, .ref ra, .ref ya, .ref ca, .ref a, .ref fa, .ref la, jv e, jv nc, jv oc, jv co]), (na, ob 2 [.ref nb, jv nn]), (nb, ai g 60 nf), (ra, ob 2 [.ref rb, jv rn]), (rb, ai g 60 rf), (ya, ob 2 [.ref yb, jv yn]), (yb, ai g 60 yf), (ca, ob 0 [.ref c1, .ref c2, .ref c3, .ref c4, .ref c5]), (c1, ai g 60 x), (c2, ai g 61 F), (c3, ai g 60 Ls), (c4, ai g 60 Nm), (c5, ai g 60 Dn), (a, ob 4 [.ref kb, .ref t1, .ref t2, .ref t3, .ref t4, .ref t5, .ref t6, jv h, jv sz]), (kb, ob 2 [.ref kc, jv bn]), (kc, ai g 60 bf), (t1, ai g 11 S), (t2, ai g 60 A0), (t3, ai g 60 A1), (t4, ai g 60 A2), (t5, ai g 60 A3), (t6, ai g 60 A4), (fa, ob 1 [.long b]), (la, ob 3 [jv m0, jv q0])] [.ref o, jv u] (fun rV rU => (rV = some (jv (-2)) ∧ rU = [(o, ob 5 [.ref na, .ref ra, .ref ya, .ref ca, .ref a, .ref fa, .ref la, jv e, jv nc, jv oc, jv co]), (na, ob 2 [.ref nb, jv nn]), (nb, ai g 60 nf), (ra, ob 2 [.ref rb, jv rn]), (rb, ai g 60 rf), (ya, ob 2 [.ref yb, jv yn]), (yb, ai g 60 yf), (ca, ob 0 [.ref c1, .ref c2, .ref c3, .ref c4, .ref c5]), (c1, ai g 60 x), (c2, ai g 61 F), (c3, ai g 60 Ls), (c4, ai g 60 Nm), (c5, ai g 60 Dn), (a, ob 4 [.ref kb, .ref t1, .ref t2, .ref t3, .ref t4, .ref t5, .ref t6, jv h, jv sz]), (kb, ob 2 [.ref kc, jv bn]), (kc, ai g 60 bf), (t1, ai g 11 S), (t2, ai g 60 A0), (t3, ai g 60 A1), (t4, ai g 60 A2), (t5, ai g 60 A3), (t6, ai g 60 A4), (fa, ob 1 [.long b]), (la, ob 3 [jv m0, jv q0])] ∧ (u < 0 ∨ 5 < u)) ∨ (rV = some (jv nn) ∧ rU = [(o, ob 5 [.ref na, .ref ra, .ref ya, .ref ca, .ref a, .ref fa, .ref la, jv e, jv nc, jv oc, jv co]), (na, ob 2 [.ref nb, jv nn]), (nb, ai g 60 nf), (ra, ob 2 [.ref rb, jv rn]), (rb, ai g 60 rf), (ya, ob 2 [.ref yb, jv yn]), (yb, ai g 60 yf), (ca, ob 0 [.ref c1, .ref c2, .ref c3, .ref c4, .ref c5]), (c1, ai g 60 x), (c2, ai g 61 F), (c3, ai g 60 Ls), (c4, ai g 60 Nm), (c5, ai g 60 Dn), (a, ob 4 [.ref kb, .ref t1, .ref t2, .ref t3, .ref t4, .ref t5, .ref t6, jv h, jv sz]), (kb, ob 2 [.ref kc, jv bn]), (kc, ai g 60 bf), (t1, ai g 11 S), (t2, ai g 60 A0), (t3, ai g 60 A1), (t4, ai g 60 A2), (t5, ai g 60 A3), (t6, ai g 60 A4), (fa, ob 1 [.long b]), (la, ob 3 [jv m0, jv q0])] ∧ (u = 0)) ∨ (rV = some (jv rn) ∧ rU = [(o, ob 5 [.ref na, .ref ra, .ref ya, .ref ca, .ref a, .ref fa, .ref la, jv e, jv nc, jv oc, jv co]), (na, ob 2 [.ref nb, jv nn]), (nb, ai g 60 nf), (ra, ob 2 [.ref rb, jv rn]), (rb, ai g 60 rf), (ya, ob 2 [.ref yb, jv yn]), (yb, ai g 60 yf), (ca, ob 0 [.ref c1, .ref c2, .ref c3, .ref c4, .ref c5]), (c1, ai g 60 x), (c2, ai g 61 F), (c3, ai g 60 Ls), (c4, ai g 60 Nm), (c5, ai g 60 Dn), (a, ob 4 [.ref kb, .ref t1, .ref t2, .ref t3, .ref t4, .ref t5, .ref t6, jv h, jv sz]), (kb, ob 2 [.ref kc, jv bn]), (kc, ai g 60 bf), (t1, ai g 11 S), (t2, ai g 60 A0), (t3, ai g 60 A1), (t4, ai g 60 A2), (t5, ai g 60 A3), (t6, ai g 60 A4), (fa, ob 1 [.long b]), (la, ob 3 [jv m0, jv q0])] ∧ (u = 1)) ∨ (rV = some (jv nc) ∧ rU = [(o, ob 5 [.ref na, .ref ra, .ref ya, .ref ca, .ref a, .ref fa, .ref la, jv e, jv nc, jv oc, jv co]), (na, ob 2 [.ref nb, jv nn]), (nb, ai g 60 nf), (ra, ob 2 [.ref rb, jv rn]), (rb, ai g 60 rf), (ya, ob 2 [.ref yb, jv yn]), (yb, ai g 60 yf), (ca, ob 0 [.ref c1, .ref c2, .ref c3, .ref c4, .ref c5]), (c1, ai g 60 x), (c2, ai g 61 F), (c3, ai g 60 Ls), (c4, ai g 60 Nm), (c5, ai g 60 Dn), (a, ob 4 [.ref kb, .ref t1, .ref t2, .ref t3, .ref t4, .ref t5, .ref t6, jv h, jv sz]), (kb, ob 2 [.ref kc, jv bn]), (kc, ai g 60 bf), (t1, ai g 11 S), (t2, ai g 60 A0), (t3, ai g 60 A1), (t4, ai g 60 A2), (t5, ai g 60 A3), (t6, ai g 60 A4), (fa, ob 1 [.long b]), (la, ob 3 [jv m0, jv q0])] ∧ (u = 2)) ∨ (rV = some (jv oc) ∧ rU = [(o, ob 5 [.ref na, .ref ra, .ref ya, .ref ca, .ref a, .ref fa, .ref la, jv e, jv nc, jv oc, jv co]), (na, ob 2 [.ref nb, jv nn]), (nb, ai g 60 nf), (ra, ob 2 [.ref rb, jv rn]), (rb, ai g 60 rf), (ya, ob 2 [.ref yb, jv yn]), (yb, ai g 60 yf), (ca, ob 0 [.ref c1, .ref c2, .ref c3, .ref c4, .ref c5]), (c1, ai g 60 x), (c2, ai g 61 F), (c3, ai g 60 Ls), (c4, ai g 60 Nm), (c5, ai g 60 Dn), (a, ob 4 [.ref kb, .ref t1, .ref t2, .ref t3, .ref t4, .ref t5, .ref t6, jv h, jv sz]), (kb, ob 2 [.ref kc, jv bn]), (kc, ai g 60 bf), (t1, ai g 11 S), (t2, ai g 60 A0), (t3, ai g 60 A1), (t4, ai g 60 A2), (t5, ai g 60 A3), (t6, ai g 60 A4), (fa, ob 1 [.long b]), (la, ob 3 [jv m0, jv q0])] ∧ (u = 3)) ∨ (rV = some (jv co) ∧ rU = [(o, ob 5 [.ref na, .ref ra, .ref ya, .ref ca, .ref a, .ref fa, .ref la, jv e, jv nc, jv oc, jv co]), (na, ob 2 [.ref nb, jv nn]), (nb, ai g 60 nf), (ra, ob 2 [.ref rb, jv rn]), (rb, ai g 60 rf), (ya, ob 2 [.ref yb, jv yn]), (yb, ai g 60 yf), (ca, ob 0 [.ref c1, .ref c2, .ref c3, .ref c4, .ref c5]), (c1, ai g 60 x), (c2, ai g 61 F), (c3, ai g 60 Ls), (c4, ai g 60 Nm), (c5, ai g 60 Dn), (a, ob 4 [.ref kb, .ref t1, .ref t2, .ref t3, .ref t4, .ref t5, .ref t6, jv h, jv sz]), (kb, ob 2 [.ref kc, jv bn]), (kc, ai g 60 bf), (t1, ai g 11 S), (t2, ai g 60 A0), (t3, ai g 60 A1), (t4, ai g 60 A2), (t5, ai g 60 A3), (t6, ai g 60 A4), (fa, ob 1 [.long b]), (la, ob 3 [jv m0, jv q0])] ∧ (u = 4)) ∨ (rV = some (jv (pcn b)) ∧ rU = [(o, ob 5 [.ref na, .ref ra, .ref ya, .ref ca, .ref a, .ref fa, .ref la, jv e, jv nc, jv oc, jv co]), (na, ob 2 [.ref nb, jv nn]), (nb, ai g 60 nf), (ra, ob 2 [.ref rb, jv rn]), (rb, ai g 60 rf), (ya, ob 2 [.ref yb, jv yn]), (yb, ai g 60 yf), (ca, ob 0 [.ref c1, .ref c2, .ref c3, .ref c4, .ref c5]), (c1, ai g 60 x), (c2, ai g 61 F), (c3, ai g 60 Ls), (c4, ai g 60 Nm), (c5, ai g 60 Dn), (a, ob 4 [.ref kb, .ref t1, .ref t2, .ref t3, .ref t4, .ref t5, .ref t6, jv h, jv sz]), (kb, ob 2 [.ref kc, jv bn]), (kc, ai g 60 bf), (t1, ai g 11 S), (t2, ai g 60 A0), (t3, ai g 60 A1), (t4, ai g 60 A2), (t5, ai g 60 A3), (t6, ai g 60 A4), (fa, ob 1 [.long b]), (la, ob 3 [jv m0, jv q0])] ∧ (u = 5))) := by
  refine ct_of (cc := cX5_count) (nL := 2) (ret := (some .int)) (by decide) rfl (Nat.le_of_ble_eq_true rfl) ?_
  intro E C Rt0
  have C : Cx l g E ({ frames := 2, cells := 0, slots := 0, locals := 41 } : Room) RX5 "count" cX5_count wsX5_count 2 := C
  show X l g E ({ frames := 2, cells := 0, slots := 0, locals := 41 } : Room) 2 [(o, ob 5 [.ref na, .ref ra, .ref ya, .ref ca, .ref a, .ref fa, .ref la, jv e, jv nc, jv oc, jv co]), (na, ob 2 [.ref nb, jv nn]), (nb, ai g 60 nf), (ra, ob 2 [.ref rb, jv rn]), (rb, ai g 60 rf), (ya, ob 2 [.ref yb, jv yn]), (yb, ai g 60 yf), (ca, ob 0 [.ref c1, .ref c2, .ref c3, .ref c4, .ref c5]), (c1, ai g 60 x), (c2, ai g 61 F), (c3, ai g 60 Ls), (c4, ai g 60 Nm), (c5, ai g 60 Dn), (a, ob 4 [.ref kb, .ref t1, .ref t2, .ref t3, .ref t4, .ref t5, .ref t6, jv h, jv sz]), (kb, ob 2 [.ref kc, jv bn]), (kc, ai g 60 bf), (t1, ai g 11 S), (t2, ai g 60 A0), (t3, ai g 60 A1), (t4, ai g 60 A2), (t5, ai g 60 A3), (t6, ai g 60 A4), (fa, ob 1 [.long b]), (la, ob 3 [jv m0, jv q0])] 0 0 [(0, .ref o), (1, jv u)] 0 []
  have ru1 := ru.1
  have ru2 := ru.2
  refine x_iload_n (pc := 0) C 1 dX5_count_0 rfl ?_
  by_cases sw_1 : u < 0 ∨ 5 < u
  · refine x_tableOut (pc := 1) C 79 dX5_count_1 ⟨by omega, by omega⟩ sw_1 rfl ?_
    refine x_bipush (pc := 79) C dX5_count_79 rfl ?_
    refine x_iret (pc := 81) C Rt0 dX5_count_81 rfl ?_
    refine Or.inl ⟨rfl, rfl, ?_⟩
    omega
  have sv_1 : u = 0 ∨ u = 1 ∨ u = 2 ∨ u = 3 ∨ u = 4 ∨ u = 5 := by omega
  rcases sv_1 with sv_1 | sv_1 | sv_1 | sv_1 | sv_1 | sv_1
  · refine x_tableIn (pc := 1) C 40 dX5_count_1 ⟨by omega, by omega⟩ (by omega) (by omega) (by rw [sv_1]; rfl) rfl ?_
    refine x_aload_n (pc := 40) C 0 dX5_count_40 rfl ?_
    refine x_get (pc := 41) C 0 0 dX5_count_41 hiX5_count_5 hfX5_count_10 rfl rfl rfl (by decide) rfl ?_
    refine x_callV (pc := 44) C (n := 0) (q0 := 0) (rest := []) (wr := [(o, ob 5 [.ref na, .ref ra, .ref ya, .ref ca, .ref a, .ref fa, .ref la, jv e, jv nc, jv oc, jv co]), (ra, ob 2 [.ref rb, jv rn]), (rb, ai g 60 rf), (ya, ob 2 [.ref yb, jv yn]), (yb, ai g 60 yf), (ca, ob 0 [.ref c1, .ref c2, .ref c3, .ref c4, .ref c5]), (c1, ai g 60 x), (c2, ai g 61 F), (c3, ai g 60 Ls), (c4, ai g 60 Nm), (c5, ai g 60 Dn), (a, ob 4 [.ref kb, .ref t1, .ref t2, .ref t3, .ref t4, .ref t5, .ref t6, jv h, jv sz]), (kb, ob 2 [.ref kc, jv bn]), (kc, ai g 60 bf), (t1, ai g 11 S), (t2, ai g 60 A0), (t3, ai g 60 A1), (t4, ai g 60 A2), (t5, ai g 60 A3), (t6, ai g 60 A4), (fa, ob 1 [.long b]), (la, ob 3 [jv m0, jv q0])]) [1, 2] [0, 3, 4, 5, 6, 7, 8, 9, 10, 11, 12, 13, 14, 15, 16, 17, 18, 19, 20, 21, 22, 23] (ctX2_size l g na nb nn nf ⟨hn.1, hn.2.1⟩) gX5_count_X2_size rfl ⟨rfl, rfl⟩ (by decide +kernel) ⟨by decide, by decide⟩ rfl rfl rfl rfl rfl (by decide) (by decide) (by decide) rfl (Nat.le_of_ble_eq_true rfl) dX5_count_44 ⟨by decide, by decide⟩ (fun v_44 u_44 h_44 => ?_)
    rcases h_44 with ⟨rfl, rfl, f_44⟩
    refine x_world (ws' := [(o, ob 5 [.ref na, .ref ra, .ref ya, .ref ca, .ref a, .ref fa, .ref la, jv e, jv nc, jv oc, jv co]), (na, ob 2 [.ref nb, jv nn]), (nb, ai g 60 nf), (ra, ob 2 [.ref rb, jv rn]), (rb, ai g 60 rf), (ya, ob 2 [.ref yb, jv yn]), (yb, ai g 60 yf), (ca, ob 0 [.ref c1, .ref c2, .ref c3, .ref c4, .ref c5]), (c1, ai g 60 x), (c2, ai g 61 F), (c3, ai g 60 Ls), (c4, ai g 60 Nm), (c5, ai g 60 Dn), (a, ob 4 [.ref kb, .ref t1, .ref t2, .ref t3, .ref t4, .ref t5, .ref t6, jv h, jv sz]), (kb, ob 2 [.ref kc, jv bn]), (kc, ai g 60 bf), (t1, ai g 11 S), (t2, ai g 60 A0), (t3, ai g 60 A1), (t4, ai g 60 A2), (t5, ai g 60 A3), (t6, ai g 60 A4), (fa, ob 1 [.long b]), (la, ob 3 [jv m0, jv q0])]) [0, 22, 23, 1, 2, 3, 4, 5, 6, 7, 8, 9, 10, 11, 12, 13, 14, 15, 16, 17, 18, 19, 20, 21] (by decide) rfl ?_
    show X l g E ({ frames := 2, cells := 0, slots := 0, locals := 41 } : Room) 2 [(o, ob 5 [.ref na, .ref ra, .ref ya, .ref ca, .ref a, .ref fa, .ref la, jv e, jv nc, jv oc, jv co]), (na, ob 2 [.ref nb, jv nn]), (nb, ai g 60 nf), (ra, ob 2 [.ref rb, jv rn]), (rb, ai g 60 rf), (ya, ob 2 [.ref yb, jv yn]), (yb, ai g 60 yf), (ca, ob 0 [.ref c1, .ref c2, .ref c3, .ref c4, .ref c5]), (c1, ai g 60 x), (c2, ai g 61 F), (c3, ai g 60 Ls), (c4, ai g 60 Nm), (c5, ai g 60 Dn), (a, ob 4 [.ref kb, .ref t1, .ref t2, .ref t3, .ref t4, .ref t5, .ref t6, jv h, jv sz]), (kb, ob 2 [.ref kc, jv bn]), (kc, ai g 60 bf), (t1, ai g 11 S), (t2, ai g 60 A0), (t3, ai g 60 A1), (t4, ai g 60 A2), (t5, ai g 60 A3), (t6, ai g 60 A4), (fa, ob 1 [.long b]), (la, ob 3 [jv m0, jv q0])] 0 0 [(0, .ref o), (1, jv u)] 47 [jv nn]
    refine x_iret (pc := 47) C Rt0 dX5_count_47 rfl ?_
    refine Or.inr (Or.inl ⟨rfl, rfl, ?_⟩)
    omega
  · refine x_tableIn (pc := 1) C 48 dX5_count_1 ⟨by omega, by omega⟩ (by omega) (by omega) (by rw [sv_1]; rfl) rfl ?_
    refine x_aload_n (pc := 48) C 0 dX5_count_48 rfl ?_
    refine x_get (pc := 49) C 0 1 dX5_count_49 hiX5_count_5 hfX5_count_16 rfl rfl rfl (by decide) rfl ?_
    refine x_callV (pc := 52) C (n := 0) (q0 := 0) (rest := []) (wr := [(o, ob 5 [.ref na, .ref ra, .ref ya, .ref ca, .ref a, .ref fa, .ref la, jv e, jv nc, jv oc, jv co]), (na, ob 2 [.ref nb, jv nn]), (nb, ai g 60 nf), (ya, ob 2 [.ref yb, jv yn]), (yb, ai g 60 yf), (ca, ob 0 [.ref c1, .ref c2, .ref c3, .ref c4, .ref c5]), (c1, ai g 60 x), (c2, ai g 61 F), (c3, ai g 60 Ls), (c4, ai g 60 Nm), (c5, ai g 60 Dn), (a, ob 4 [.ref kb, .ref t1, .ref t2, .ref t3, .ref t4, .ref t5, .ref t6, jv h, jv sz]), (kb, ob 2 [.ref kc, jv bn]), (kc, ai g 60 bf), (t1, ai g 11 S), (t2, ai g 60 A0), (t3, ai g 60 A1), (t4, ai g 60 A2), (t5, ai g 60 A3), (t6, ai g 60 A4), (fa, ob 1 [.long b]), (la, ob 3 [jv m0, jv q0])]) [3, 4] [0, 1, 2, 5, 6, 7, 8, 9, 10, 11, 12, 13, 14, 15, 16, 17, 18, 19, 20, 21, 22, 23] (ctX2_size l g ra rb rn rf ⟨hr.1, hr.2.1⟩) gX5_count_X2_size rfl ⟨rfl, rfl⟩ (by decide +kernel) ⟨by decide, by decide⟩ rfl rfl rfl rfl rfl (by decide) (by decide) (by decide) rfl (Nat.le_of_ble_eq_true rfl) dX5_count_52 ⟨by decide, by decide⟩ (fun v_52 u_52 h_52 => ?_)
    rcases h_52 with ⟨rfl, rfl, f_52⟩
    refine x_world (ws' := [(o, ob 5 [.ref na, .ref ra, .ref ya, .ref ca, .ref a, .ref fa, .ref la, jv e, jv nc, jv oc, jv co]), (na, ob 2 [.ref nb, jv nn]), (nb, ai g 60 nf), (ra, ob 2 [.ref rb, jv rn]), (rb, ai g 60 rf), (ya, ob 2 [.ref yb, jv yn]), (yb, ai g 60 yf), (ca, ob 0 [.ref c1, .ref c2, .ref c3, .ref c4, .ref c5]), (c1, ai g 60 x), (c2, ai g 61 F), (c3, ai g 60 Ls), (c4, ai g 60 Nm), (c5, ai g 60 Dn), (a, ob 4 [.ref kb, .ref t1, .ref t2, .ref t3, .ref t4, .ref t5, .ref t6, jv h, jv sz]), (kb, ob 2 [.ref kc, jv bn]), (kc, ai g 60 bf), (t1, ai g 11 S), (t2, ai g 60 A0), (t3, ai g 60 A1), (t4, ai g 60 A2), (t5, ai g 60 A3), (t6, ai g 60 A4), (fa, ob 1 [.long b]), (la, ob 3 [jv m0, jv q0])]) [0, 1, 2, 22, 23, 3, 4, 5, 6, 7, 8, 9, 10, 11, 12, 13, 14, 15, 16, 17, 18, 19, 20, 21] (by decide) rfl ?_
    show X l g E ({ frames := 2, cells := 0, slots := 0, locals := 41 } : Room) 2 [(o, ob 5 [.ref na, .ref ra, .ref ya, .ref ca, .ref a, .ref fa, .ref la, jv e, jv nc, jv oc, jv co]), (na, ob 2 [.ref nb, jv nn]), (nb, ai g 60 nf), (ra, ob 2 [.ref rb, jv rn]), (rb, ai g 60 rf), (ya, ob 2 [.ref yb, jv yn]), (yb, ai g 60 yf), (ca, ob 0 [.ref c1, .ref c2, .ref c3, .ref c4, .ref c5]), (c1, ai g 60 x), (c2, ai g 61 F), (c3, ai g 60 Ls), (c4, ai g 60 Nm), (c5, ai g 60 Dn), (a, ob 4 [.ref kb, .ref t1, .ref t2, .ref t3, .ref t4, .ref t5, .ref t6, jv h, jv sz]), (kb, ob 2 [.ref kc, jv bn]), (kc, ai g 60 bf), (t1, ai g 11 S), (t2, ai g 60 A0), (t3, ai g 60 A1), (t4, ai g 60 A2), (t5, ai g 60 A3), (t6, ai g 60 A4), (fa, ob 1 [.long b]), (la, ob 3 [jv m0, jv q0])] 0 0 [(0, .ref o), (1, jv u)] 55 [jv rn]
    refine x_iret (pc := 55) C Rt0 dX5_count_55 rfl ?_
    refine Or.inr (Or.inr (Or.inl ⟨rfl, rfl, ?_⟩))
    omega
  · refine x_tableIn (pc := 1) C 56 dX5_count_1 ⟨by omega, by omega⟩ (by omega) (by omega) (by rw [sv_1]; rfl) rfl ?_
    refine x_aload_n (pc := 56) C 0 dX5_count_56 rfl ?_
    refine x_get (pc := 57) C 0 8 dX5_count_57 hiX5_count_5 hfX5_count_71 rfl rfl rfl (by decide) rfl ?_
    refine x_iret (pc := 60) C Rt0 dX5_count_60 rfl ?_
    refine Or.inr (Or.inr (Or.inr (Or.inl ⟨rfl, rfl, ?_⟩)))
    omega
  · refine x_tableIn (pc := 1) C 61 dX5_count_1 ⟨by omega, by omega⟩ (by omega) (by omega) (by rw [sv_1]; rfl) rfl ?_
    refine x_aload_n (pc := 61) C 0 dX5_count_61 rfl ?_
    refine x_get (pc := 62) C 0 9 dX5_count_62 hiX5_count_5 hfX5_count_65 rfl rfl rfl (by decide) rfl ?_
    refine x_iret (pc := 65) C Rt0 dX5_count_65 rfl ?_
    refine Or.inr (Or.inr (Or.inr (Or.inr (Or.inl ⟨rfl, rfl, ?_⟩))))
    omega
  · refine x_tableIn (pc := 1) C 66 dX5_count_1 ⟨by omega, by omega⟩ (by omega) (by omega) (by rw [sv_1]; rfl) rfl ?_
    refine x_aload_n (pc := 66) C 0 dX5_count_66 rfl ?_
    refine x_get (pc := 67) C 0 10 dX5_count_67 hiX5_count_5 hfX5_count_85 rfl rfl rfl (by decide) rfl ?_
    refine x_iret (pc := 70) C Rt0 dX5_count_70 rfl ?_
    refine Or.inr (Or.inr (Or.inr (Or.inr (Or.inr (Or.inl ⟨rfl, rfl, ?_⟩)))))
    omega
  · refine x_tableIn (pc := 1) C 71 dX5_count_1 ⟨by omega, by omega⟩ (by omega) (by omega) (by rw [sv_1]; rfl) rfl ?_
    refine x_aload_n (pc := 71) C 0 dX5_count_71 rfl ?_
    refine x_get (pc := 72) C 0 5 dX5_count_72 hiX5_count_5 hfX5_count_39 rfl rfl rfl (by decide) rfl ?_
    refine x_callV (pc := 75) C (n := 0) (q0 := 0) (rest := []) (wr := [(o, ob 5 [.ref na, .ref ra, .ref ya, .ref ca, .ref a, .ref fa, .ref la, jv e, jv nc, jv oc, jv co]), (na, ob 2 [.ref nb, jv nn]), (nb, ai g 60 nf), (ra, ob 2 [.ref rb, jv rn]), (rb, ai g 60 rf), (ya, ob 2 [.ref yb, jv yn]), (yb, ai g 60 yf), (ca, ob 0 [.ref c1, .ref c2, .ref c3, .ref c4, .ref c5]), (c1, ai g 60 x), (c2, ai g 61 F), (c3, ai g 60 Ls), (c4, ai g 60 Nm), (c5, ai g 60 Dn), (a, ob 4 [.ref kb, .ref t1, .ref t2, .ref t3, .ref t4, .ref t5, .ref t6, jv h, jv sz]), (kb, ob 2 [.ref kc, jv bn]), (kc, ai g 60 bf), (t1, ai g 11 S), (t2, ai g 60 A0), (t3, ai g 60 A1), (t4, ai g 60 A2), (t5, ai g 60 A3), (t6, ai g 60 A4), (la, ob 3 [jv m0, jv q0])]) [22] [0, 1, 2, 3, 4, 5, 6, 7, 8, 9, 10, 11, 12, 13, 14, 15, 16, 17, 18, 19, 20, 21, 23] (ctX1_bitsSet l g fa b ) gX5_count_X1_bitsSet rfl ⟨rfl, rfl⟩ (by decide +kernel) ⟨by decide, by decide⟩ rfl rfl rfl rfl rfl (by decide) (by decide) (by decide) rfl (Nat.le_of_ble_eq_true rfl) dX5_count_75 ⟨by decide, by decide⟩ (fun v_75 u_75 h_75 => ?_)
    rcases h_75 with ⟨rfl, rfl, f_75⟩
    refine x_world (ws' := [(o, ob 5 [.ref na, .ref ra, .ref ya, .ref ca, .ref a, .ref fa, .ref la, jv e, jv nc, jv oc, jv co]), (na, ob 2 [.ref nb, jv nn]), (nb, ai g 60 nf), (ra, ob 2 [.ref rb, jv rn]), (rb, ai g 60 rf), (ya, ob 2 [.ref yb, jv yn]), (yb, ai g 60 yf), (ca, ob 0 [.ref c1, .ref c2, .ref c3, .ref c4, .ref c5]), (c1, ai g 60 x), (c2, ai g 61 F), (c3, ai g 60 Ls), (c4, ai g 60 Nm), (c5, ai g 60 Dn), (a, ob 4 [.ref kb, .ref t1, .ref t2, .ref t3, .ref t4, .ref t5, .ref t6, jv h, jv sz]), (kb, ob 2 [.ref kc, jv bn]), (kc, ai g 60 bf), (t1, ai g 11 S), (t2, ai g 60 A0), (t3, ai g 60 A1), (t4, ai g 60 A2), (t5, ai g 60 A3), (t6, ai g 60 A4), (fa, ob 1 [.long b]), (la, ob 3 [jv m0, jv q0])]) [0, 1, 2, 3, 4, 5, 6, 7, 8, 9, 10, 11, 12, 13, 14, 15, 16, 17, 18, 19, 20, 21, 23, 22] (by decide) rfl ?_
    show X l g E ({ frames := 2, cells := 0, slots := 0, locals := 41 } : Room) 2 [(o, ob 5 [.ref na, .ref ra, .ref ya, .ref ca, .ref a, .ref fa, .ref la, jv e, jv nc, jv oc, jv co]), (na, ob 2 [.ref nb, jv nn]), (nb, ai g 60 nf), (ra, ob 2 [.ref rb, jv rn]), (rb, ai g 60 rf), (ya, ob 2 [.ref yb, jv yn]), (yb, ai g 60 yf), (ca, ob 0 [.ref c1, .ref c2, .ref c3, .ref c4, .ref c5]), (c1, ai g 60 x), (c2, ai g 61 F), (c3, ai g 60 Ls), (c4, ai g 60 Nm), (c5, ai g 60 Dn), (a, ob 4 [.ref kb, .ref t1, .ref t2, .ref t3, .ref t4, .ref t5, .ref t6, jv h, jv sz]), (kb, ob 2 [.ref kc, jv bn]), (kc, ai g 60 bf), (t1, ai g 11 S), (t2, ai g 60 A0), (t3, ai g 60 A1), (t4, ai g 60 A2), (t5, ai g 60 A3), (t6, ai g 60 A4), (fa, ob 1 [.long b]), (la, ob 3 [jv m0, jv q0])] 0 0 [(0, .ref o), (1, jv u)] 78 [jv (pcn b)]
    refine x_iret (pc := 78) C Rt0 dX5_count_78 rfl ?_
    refine Or.inr (Or.inr (Or.inr (Or.inr (Or.inr (Or.inr (⟨rfl, rfl, ?_⟩))))))
    omega
