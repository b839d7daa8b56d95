section
-- ===== PART A: goes FIRST, ahead of the names: the tables' words, and 'selects' of the private methods out of them =====
/-- a private method of a class that the tables say can be made, by its rows of tables_1 -/
def lw_okq (q : MethodName × Nat) : Prop := (q.1.cls ≠ "java/lang/invoke/MethodHandle" ∧ q.1.cls ≠ "java/lang/invoke/VarHandle") ∧ Cond.instantiable q.1.cls q.2 ∈ tables_1 ∧ Cond.privateMethod q.1 ∈ tables_1 ∧ Cond.instanceMethod q.1 ∈ tables_1
theorem lw_p0 : lw_okq (⟨"KeyGuess", "clearAsideIfFull", "()V"⟩, 11) := ⟨⟨by decide +kernel, by decide +kernel⟩, List.mem_of_getElem? (i := 11) (by decide +kernel), List.mem_of_getElem? (i := 168) (by decide +kernel), List.mem_of_getElem? (i := 169) (by decide +kernel)⟩
theorem lw_p1 : lw_okq (⟨"KeyGuess", "makeRow", "()V"⟩, 11) := ⟨⟨by decide +kernel, by decide +kernel⟩, List.mem_of_getElem? (i := 11) (by decide +kernel), List.mem_of_getElem? (i := 172) (by decide +kernel), List.mem_of_getElem? (i := 173) (by decide +kernel)⟩
theorem lw_p2 : lw_okq (⟨"KeyGuess$Cuts", "cutFrom", "(III)V"⟩, 5) := ⟨⟨by decide +kernel, by decide +kernel⟩, List.mem_of_getElem? (i := 33) (by decide +kernel), List.mem_of_getElem? (i := 216) (by decide +kernel), List.mem_of_getElem? (i := 217) (by decide +kernel)⟩
theorem lw_p3 : lw_okq (⟨"KeyGuess$Tower", "raise", "(ILKeyGuess$Cuts;)V"⟩, 9) := ⟨⟨by decide +kernel, by decide +kernel⟩, List.mem_of_getElem? (i := 55) (by decide +kernel), List.mem_of_getElem? (i := 220) (by decide +kernel), List.mem_of_getElem? (i := 221) (by decide +kernel)⟩
theorem lw_p4 : lw_okq (⟨"KeyGuess$Tower", "lay", "(ILKeyGuess$Cuts;)V"⟩, 9) := ⟨⟨by decide +kernel, by decide +kernel⟩, List.mem_of_getElem? (i := 55) (by decide +kernel), List.mem_of_getElem? (i := 224) (by decide +kernel), List.mem_of_getElem? (i := 225) (by decide +kernel)⟩
theorem lw_p5 : lw_okq (⟨"KeyGuess$Tower", "layBase", "(I)V"⟩, 9) := ⟨⟨by decide +kernel, by decide +kernel⟩, List.mem_of_getElem? (i := 55) (by decide +kernel), List.mem_of_getElem? (i := 251) (by decide +kernel), List.mem_of_getElem? (i := 252) (by decide +kernel)⟩
theorem lw_p6 : lw_okq (⟨"KeyGuess$Tower", "isPiece", "(I)Z"⟩, 9) := ⟨⟨by decide +kernel, by decide +kernel⟩, List.mem_of_getElem? (i := 55) (by decide +kernel), List.mem_of_getElem? (i := 263) (by decide +kernel), List.mem_of_getElem? (i := 264) (by decide +kernel)⟩
theorem lw_p7 : lw_okq (⟨"KeyGuess", "piecesWith", "(I)I"⟩, 11) := ⟨⟨by decide +kernel, by decide +kernel⟩, List.mem_of_getElem? (i := 11) (by decide +kernel), List.mem_of_getElem? (i := 406) (by decide +kernel), List.mem_of_getElem? (i := 407) (by decide +kernel)⟩
theorem lw_p8 : lw_okq (⟨"KeyGuessModel", "layLevels", "()V"⟩, 25) := ⟨⟨by decide +kernel, by decide +kernel⟩, List.mem_of_getElem? (i := 429) (by decide +kernel), List.mem_of_getElem? (i := 435) (by decide +kernel), List.mem_of_getElem? (i := 436) (by decide +kernel)⟩
theorem lw_p9 : lw_okq (⟨"KeyGuessModel", "layLevel", "(I)V"⟩, 25) := ⟨⟨by decide +kernel, by decide +kernel⟩, List.mem_of_getElem? (i := 429) (by decide +kernel), List.mem_of_getElem? (i := 439) (by decide +kernel), List.mem_of_getElem? (i := 440) (by decide +kernel)⟩
theorem lw_p10 : lw_okq (⟨"KeyGuessModel", "layPieces", "()V"⟩, 25) := ⟨⟨by decide +kernel, by decide +kernel⟩, List.mem_of_getElem? (i := 429) (by decide +kernel), List.mem_of_getElem? (i := 443) (by decide +kernel), List.mem_of_getElem? (i := 444) (by decide +kernel)⟩
theorem lw_p11 : lw_okq (⟨"KeyGuessModel", "keeps", "(II)Z"⟩, 25) := ⟨⟨by decide +kernel, by decide +kernel⟩, List.mem_of_getElem? (i := 429) (by decide +kernel), List.mem_of_getElem? (i := 447) (by decide +kernel), List.mem_of_getElem? (i := 448) (by decide +kernel)⟩
theorem lw_p12 : lw_okq (⟨"KeyGuessModel", "layLow", "(II)V"⟩, 25) := ⟨⟨by decide +kernel, by decide +kernel⟩, List.mem_of_getElem? (i := 429) (by decide +kernel), List.mem_of_getElem? (i := 451) (by decide +kernel), List.mem_of_getElem? (i := 452) (by decide +kernel)⟩
theorem lw_p13 : lw_okq (⟨"KeyGuessModel", "endOf", "(I)I"⟩, 25) := ⟨⟨by decide +kernel, by decide +kernel⟩, List.mem_of_getElem? (i := 429) (by decide +kernel), List.mem_of_getElem? (i := 455) (by decide +kernel), List.mem_of_getElem? (i := 456) (by decide +kernel)⟩
theorem lw_p14 : lw_okq (⟨"KeyGuessModel", "isThere", "(I)Z"⟩, 25) := ⟨⟨by decide +kernel, by decide +kernel⟩, List.mem_of_getElem? (i := 429) (by decide +kernel), List.mem_of_getElem? (i := 551) (by decide +kernel), List.mem_of_getElem? (i := 552) (by decide +kernel)⟩
theorem lw_p15 : lw_okq (⟨"KeyGuessModel", "layNow", "()V"⟩, 25) := ⟨⟨by decide +kernel, by decide +kernel⟩, List.mem_of_getElem? (i := 429) (by decide +kernel), List.mem_of_getElem? (i := 555) (by decide +kernel), List.mem_of_getElem? (i := 556) (by decide +kernel)⟩
def lw_privs_1 : List (MethodName × Nat) := [(⟨"KeyGuess", "clearAsideIfFull", "()V"⟩, 11), (⟨"KeyGuess", "makeRow", "()V"⟩, 11), (⟨"KeyGuess$Cuts", "cutFrom", "(III)V"⟩, 5), (⟨"KeyGuess$Tower", "raise", "(ILKeyGuess$Cuts;)V"⟩, 9), (⟨"KeyGuess$Tower", "lay", "(ILKeyGuess$Cuts;)V"⟩, 9), (⟨"KeyGuess$Tower", "layBase", "(I)V"⟩, 9), (⟨"KeyGuess$Tower", "isPiece", "(I)Z"⟩, 9), (⟨"KeyGuess", "piecesWith", "(I)I"⟩, 11), (⟨"KeyGuessModel", "layLevels", "()V"⟩, 25), (⟨"KeyGuessModel", "layLevel", "(I)V"⟩, 25), (⟨"KeyGuessModel", "layPieces", "()V"⟩, 25), (⟨"KeyGuessModel", "keeps", "(II)Z"⟩, 25), (⟨"KeyGuessModel", "layLow", "(II)V"⟩, 25), (⟨"KeyGuessModel", "endOf", "(I)I"⟩, 25), (⟨"KeyGuessModel", "isThere", "(I)Z"⟩, 25), (⟨"KeyGuessModel", "layNow", "()V"⟩, 25)]
theorem lw_r1 : ∀ q ∈ lw_privs_1, lw_okq q := List.forall_mem_cons.mpr ⟨lw_p0, List.forall_mem_cons.mpr ⟨lw_p1, List.forall_mem_cons.mpr ⟨lw_p2, List.forall_mem_cons.mpr ⟨lw_p3, List.forall_mem_cons.mpr ⟨lw_p4, List.forall_mem_cons.mpr ⟨lw_p5, List.forall_mem_cons.mpr ⟨lw_p6, List.forall_mem_cons.mpr ⟨lw_p7, List.forall_mem_cons.mpr ⟨lw_p8, List.forall_mem_cons.mpr ⟨lw_p9, List.forall_mem_cons.mpr ⟨lw_p10, List.forall_mem_cons.mpr ⟨lw_p11, List.forall_mem_cons.mpr ⟨lw_p12, List.forall_mem_cons.mpr ⟨lw_p13, List.forall_mem_cons.mpr ⟨lw_p14, List.forall_mem_cons.mpr ⟨lw_p15, fun _ h => absurd h List.not_mem_nil⟩⟩⟩⟩⟩⟩⟩⟩⟩⟩⟩⟩⟩⟩⟩⟩
theorem lw_p16 : lw_okq (⟨"KeyGuessModel", "insertNow", "(I)V"⟩, 25) := ⟨⟨by decide +kernel, by decide +kernel⟩, List.mem_of_getElem? (i := 429) (by decide +kernel), List.mem_of_getElem? (i := 562) (by decide +kernel), List.mem_of_getElem? (i := 563) (by decide +kernel)⟩
theorem lw_p17 : lw_okq (⟨"KeyGuessModel", "makeRow", "()V"⟩, 25) := ⟨⟨by decide +kernel, by decide +kernel⟩, List.mem_of_getElem? (i := 429) (by decide +kernel), List.mem_of_getElem? (i := 566) (by decide +kernel), List.mem_of_getElem? (i := 567) (by decide +kernel)⟩
theorem lw_p18 : lw_okq (⟨"KeyGuessModel", "setBits", "(I)V"⟩, 25) := ⟨⟨by decide +kernel, by decide +kernel⟩, List.mem_of_getElem? (i := 429) (by decide +kernel), List.mem_of_getElem? (i := 570) (by decide +kernel), List.mem_of_getElem? (i := 571) (by decide +kernel)⟩
theorem lw_p19 : lw_okq (⟨"KeyGuessModel", "piecesAt", "(I)I"⟩, 25) := ⟨⟨by decide +kernel, by decide +kernel⟩, List.mem_of_getElem? (i := 429) (by decide +kernel), List.mem_of_getElem? (i := 610) (by decide +kernel), List.mem_of_getElem? (i := 611) (by decide +kernel)⟩
theorem lw_p20 : lw_okq (⟨"KeyGuessModel", "pieceFor", "(I)I"⟩, 25) := ⟨⟨by decide +kernel, by decide +kernel⟩, List.mem_of_getElem? (i := 429) (by decide +kernel), List.mem_of_getElem? (i := 626) (by decide +kernel), List.mem_of_getElem? (i := 627) (by decide +kernel)⟩
theorem lw_p21 : lw_okq (⟨"KeyGuessModel", "guessBy", "(II)I"⟩, 25) := ⟨⟨by decide +kernel, by decide +kernel⟩, List.mem_of_getElem? (i := 429) (by decide +kernel), List.mem_of_getElem? (i := 630) (by decide +kernel), List.mem_of_getElem? (i := 631) (by decide +kernel)⟩
theorem lw_p22 : lw_okq (⟨"KeyGuessModel", "lookFor", "(I)I"⟩, 25) := ⟨⟨by decide +kernel, by decide +kernel⟩, List.mem_of_getElem? (i := 429) (by decide +kernel), List.mem_of_getElem? (i := 638) (by decide +kernel), List.mem_of_getElem? (i := 639) (by decide +kernel)⟩
theorem lw_p23 : lw_okq (⟨"KeyGuessModel", "isMaybe", "(I)Z"⟩, 25) := ⟨⟨by decide +kernel, by decide +kernel⟩, List.mem_of_getElem? (i := 429) (by decide +kernel), List.mem_of_getElem? (i := 650) (by decide +kernel), List.mem_of_getElem? (i := 651) (by decide +kernel)⟩
theorem lw_p24 : lw_okq (⟨"KeyGuessModel", "piecesWith", "(I)I"⟩, 25) := ⟨⟨by decide +kernel, by decide +kernel⟩, List.mem_of_getElem? (i := 429) (by decide +kernel), List.mem_of_getElem? (i := 662) (by decide +kernel), List.mem_of_getElem? (i := 663) (by decide +kernel)⟩
def lw_privs_2 : List (MethodName × Nat) := [(⟨"KeyGuessModel", "insertNow", "(I)V"⟩, 25), (⟨"KeyGuessModel", "makeRow", "()V"⟩, 25), (⟨"KeyGuessModel", "setBits", "(I)V"⟩, 25), (⟨"KeyGuessModel", "piecesAt", "(I)I"⟩, 25), (⟨"KeyGuessModel", "pieceFor", "(I)I"⟩, 25), (⟨"KeyGuessModel", "guessBy", "(II)I"⟩, 25), (⟨"KeyGuessModel", "lookFor", "(I)I"⟩, 25), (⟨"KeyGuessModel", "isMaybe", "(I)Z"⟩, 25), (⟨"KeyGuessModel", "piecesWith", "(I)I"⟩, 25)]
theorem lw_r2 : ∀ q ∈ lw_privs_2, lw_okq q := List.forall_mem_cons.mpr ⟨lw_p16, List.forall_mem_cons.mpr ⟨lw_p17, List.forall_mem_cons.mpr ⟨lw_p18, List.forall_mem_cons.mpr ⟨lw_p19, List.forall_mem_cons.mpr ⟨lw_p20, List.forall_mem_cons.mpr ⟨lw_p21, List.forall_mem_cons.mpr ⟨lw_p22, List.forall_mem_cons.mpr ⟨lw_p23, List.forall_mem_cons.mpr ⟨lw_p24, fun _ h => absurd h List.not_mem_nil⟩⟩⟩⟩⟩⟩⟩⟩⟩
def lw_privs : List (MethodName × Nat) := lw_privs_1 ++ (lw_privs_2)
def lw_tbl : List Cond := k2_sels lw_privs ++ tables_1
theorem lw_privs_ok : ∀ q ∈ lw_privs, lw_okq q := by
  show ∀ q ∈ lw_privs_1 ++ (lw_privs_2), lw_okq q
  exact List.forall_mem_append.mpr ⟨lw_r1, lw_r2⟩
-- ===== end of PART A; then your names; then what follows =====
end
section
/-! ===== BEGIN words of one list among another's, by their places ===== -/
theorem goodIn_r {big : List Cond} (ws : List Cond) (ps : List Nat) (hp : ws = ps.filterMap (fun i => big[i]?)) (h : ws.all goodWord = true) : GoodIn big ws := by
  intro w hw
  have h1 := List.all_eq_true.mp h w hw
  rw [hp] at hw
  obtain ⟨i, -, hi⟩ := List.mem_filterMap.mp hw
  have hm : w ∈ big := by first | exact List.mem_of_getElem? hi | exact List.getElem?_mem hi
  exact ⟨hm, good_of_word h1⟩
theorem goodIn_app {big a b : List Cond} (ha : GoodIn big a) (hb : GoodIn big b) : GoodIn big (a ++ b) := fun w h => (List.mem_append.mp h).elim (ha w) (hb w)
theorem goodIn_ca {big a b : List Cond} {c : Cond} (ha : GoodIn big (c :: a)) (hb : GoodIn big b) : GoodIn big (c :: (a ++ b)) := fun w h => (List.mem_cons.mp h).elim (fun e => ha w (List.mem_cons.mpr (Or.inl e))) (fun h => (List.mem_append.mp h).elim (fun h => ha w (List.mem_cons.mpr (Or.inr h))) (hb w))
theorem goodIn_sub {big ws : List Cond} (hm : ∀ w ∈ ws, w ∈ big) (h : ws.all goodWord = true) : GoodIn big ws := fun w hw => ⟨hm w hw, good_of_word (List.all_eq_true.mp h w hw)⟩
/-! ===== END ===== -/

/-! ===== BEGIN printed: names, fields, word lists, decode rows ===== -/
def RX0 : String := "KeyGuess$Cuts"
def TX0 : u_T := fun k => match k with
  | 0 => ("KeyGuess$Cuts", "cells", "[I", true)
  | 1 => ("KeyGuess$Cuts", "fewest", "[I", true)
  | 2 => ("KeyGuess$Cuts", "lasts", "[I", true)
  | 3 => ("KeyGuess$Cuts", "slopeNums", "[I", true)
  | _ => ("KeyGuess$Cuts", "slopeDens", "[I", true)
def tyX0 : Nat → FieldType := fun k => match k with
  | 0 => .array .int
  | 1 => .array .int
  | 2 => .array .int
  | 3 => .array .int
  | _ => .array .int
abbrev wsX00 : List Cond := u_ws RX0 TX0 5
theorem nmX0 : ∀ a, a < 5 → ∀ b, b < 5 → a ≠ b → (TX0 a).2.1 ≠ (TX0 b).2.1 := by decide +kernel
theorem tyX0_ok : ∀ k, k < 5 → parseFieldDescriptor (TX0 k).2.2.1 = some (tyX0 k) := by decide +kernel
abbrev cX0_init : ByteArray := prog_2_method_1_code
def yX0_init : MethodName := ⟨RX0, "<init>", "()V"⟩
abbrev cX0_cut : ByteArray := prog_2_method_2_code
def yX0_cut : MethodName := ⟨RX0, "cut", "(LKeyGuess$Keys;I)V"⟩
abbrev cX0_fewestFrom : ByteArray := prog_2_method_3_code
def yX0_fewestFrom : MethodName := ⟨RX0, "fewestFrom", "(I)I"⟩
abbrev cX0_lastOf : ByteArray := prog_2_method_4_code
def yX0_lastOf : MethodName := ⟨RX0, "lastOf", "(I)I"⟩
abbrev cX0_slopeNum : ByteArray := prog_2_method_5_code
def yX0_slopeNum : MethodName := ⟨RX0, "slopeNum", "(I)I"⟩
abbrev cX0_slopeDen : ByteArray := prog_2_method_6_code
def yX0_slopeDen : MethodName := ⟨RX0, "slopeDen", "(I)I"⟩
abbrev cX0_isRank : ByteArray := prog_2_method_7_code
def yX0_isRank : MethodName := ⟨RX0, "isRank", "(I)Z"⟩
abbrev cX0_cutFrom : ByteArray := prog_2_method_8_code
def yX0_cutFrom : MethodName := ⟨RX0, "cutFrom", "(III)V"⟩
def RX1 : String := "KeyGuess$Filter"
def TX1 : u_T := fun k => match k with
  | _ => ("KeyGuess$Filter", "bits", "J", false)
def tyX1 : Nat → FieldType := fun k => match k with
  | _ => .long
abbrev wsX10 : List Cond := u_ws RX1 TX1 1
theorem nmX1 : ∀ a, a < 1 → ∀ b, b < 1 → a ≠ b → (TX1 a).2.1 ≠ (TX1 b).2.1 := by decide +kernel
theorem tyX1_ok : ∀ k, k < 1 → parseFieldDescriptor (TX1 k).2.2.1 = some (tyX1 k) := by decide +kernel
abbrev cX1_init : ByteArray := prog_3_method_1_code
def yX1_init : MethodName := ⟨RX1, "<init>", "()V"⟩
abbrev cX1_clear : ByteArray := prog_3_method_2_code
def yX1_clear : MethodName := ⟨RX1, "clear", "()V"⟩
abbrev cX1_add : ByteArray := prog_3_method_3_code
def yX1_add : MethodName := ⟨RX1, "add", "(I)V"⟩
abbrev cX1_passes : ByteArray := prog_3_method_4_code
def yX1_passes : MethodName := ⟨RX1, "passes", "(I)Z"⟩
abbrev cX1_bitsSet : ByteArray := prog_3_method_5_code
def yX1_bitsSet : MethodName := ⟨RX1, "bitsSet", "()I"⟩
abbrev cX1_bitsOf : ByteArray := prog_3_method_6_code
def yX1_bitsOf : MethodName := ⟨RX1, "bitsOf", "(I)J"⟩
def RX2 : String := "KeyGuess$Keys"
def TX2 : u_T := fun k => match k with
  | 0 => ("KeyGuess$Keys", "cells", "[I", true)
  | _ => ("KeyGuess$Keys", "size", "I", false)
def tyX2 : Nat → FieldType := fun k => match k with
  | 0 => .array .int
  | _ => .int
abbrev wsX20 : List Cond := u_ws RX2 TX2 2
theorem nmX2 : ∀ a, a < 2 → ∀ b, b < 2 → a ≠ b → (TX2 a).2.1 ≠ (TX2 b).2.1 := by decide +kernel
theorem tyX2_ok : ∀ k, k < 2 → parseFieldDescriptor (TX2 k).2.2.1 = some (tyX2 k) := by decide +kernel
abbrev cX2_init : ByteArray := prog_4_method_1_code
def yX2_init : MethodName := ⟨RX2, "<init>", "()V"⟩
abbrev cX2_size : ByteArray := prog_4_method_2_code
def yX2_size : MethodName := ⟨RX2, "size", "()I"⟩
abbrev cX2_key : ByteArray := prog_4_method_3_code
def yX2_key : MethodName := ⟨RX2, "key", "(I)I"⟩
abbrev cX2_below : ByteArray := prog_4_method_4_code
def yX2_below : MethodName := ⟨RX2, "below", "(I)I"⟩
abbrev cX2_has : ByteArray := prog_4_method_5_code
def yX2_has : MethodName := ⟨RX2, "has", "(I)Z"⟩
abbrev cX2_within : ByteArray := prog_4_method_6_code
def yX2_within : MethodName := ⟨RX2, "within", "(II)I"⟩
abbrev cX2_total : ByteArray := prog_4_method_7_code
def yX2_total : MethodName := ⟨RX2, "total", "(II)J"⟩
abbrev cX2_clear : ByteArray := prog_4_method_8_code
def yX2_clear : MethodName := ⟨RX2, "clear", "()V"⟩
abbrev cX2_copy : ByteArray := prog_4_method_9_code
def yX2_copy : MethodName := ⟨RX2, "copy", "(LKeyGuess$Keys;)V"⟩
abbrev cX2_append : ByteArray := prog_4_method_10_code
def yX2_append : MethodName := ⟨RX2, "append", "(I)V"⟩
abbrev cX2_add : ByteArray := prog_4_method_11_code
def yX2_add : MethodName := ⟨RX2, "add", "(I)V"⟩
abbrev cX2_drop : ByteArray := prog_4_method_12_code
def yX2_drop : MethodName := ⟨RX2, "drop", "(I)V"⟩
def RX3 : String := "KeyGuess$Look"
def TX3 : u_T := fun k => match k with
  | 0 => ("KeyGuess$Look", "met", "I", false)
  | _ => ("KeyGuess$Look", "seen", "I", false)
def tyX3 : Nat → FieldType := fun k => match k with
  | 0 => .int
  | _ => .int
abbrev wsX30 : List Cond := u_ws RX3 TX3 2
theorem nmX3 : ∀ a, a < 2 → ∀ b, b < 2 → a ≠ b → (TX3 a).2.1 ≠ (TX3 b).2.1 := by decide +kernel
theorem tyX3_ok : ∀ k, k < 2 → parseFieldDescriptor (TX3 k).2.2.1 = some (tyX3 k) := by decide +kernel
abbrev cX3_init : ByteArray := prog_5_method_1_code
def yX3_init : MethodName := ⟨RX3, "<init>", "()V"⟩
abbrev cX3_met : ByteArray := prog_5_method_2_code
def yX3_met : MethodName := ⟨RX3, "met", "()I"⟩
abbrev cX3_ranksSeen : ByteArray := prog_5_method_3_code
def yX3_ranksSeen : MethodName := ⟨RX3, "ranksSeen", "()I"⟩
abbrev cX3_run : ByteArray := prog_5_method_4_code
def yX3_run : MethodName := ⟨RX3, "run", "(LKeyGuess$Keys;LKeyGuess$Tower;II)V"⟩
abbrev cX3_away : ByteArray := prog_5_method_5_code
def yX3_away : MethodName := ⟨RX3, "away", "(I)I"⟩
def RX4 : String := "KeyGuess$Tower"
def TX4 : u_T := fun k => match k with
  | 0 => ("KeyGuess$Tower", "base", "LKeyGuess$Keys;", true)
  | 1 => ("KeyGuess$Tower", "starts", "[I", true)
  | 2 => ("KeyGuess$Tower", "froms", "[I", true)
  | 3 => ("KeyGuess$Tower", "lasts", "[I", true)
  | 4 => ("KeyGuess$Tower", "firsts", "[I", true)
  | 5 => ("KeyGuess$Tower", "slopeNums", "[I", true)
  | 6 => ("KeyGuess$Tower", "slopeDens", "[I", true)
  | 7 => ("KeyGuess$Tower", "height", "I", false)
  | _ => ("KeyGuess$Tower", "size", "I", false)
def tyX4 : Nat → FieldType := fun k => match k with
  | 0 => .object "KeyGuess$Keys"
  | 1 => .array .int
  | 2 => .array .int
  | 3 => .array .int
  | 4 => .array .int
  | 5 => .array .int
  | 6 => .array .int
  | 7 => .int
  | _ => .int
abbrev wsX40 : List Cond := u_ws RX4 TX4 9
theorem nmX4 : ∀ a, a < 9 → ∀ b, b < 9 → a ≠ b → (TX4 a).2.1 ≠ (TX4 b).2.1 := by decide +kernel
theorem tyX4_ok : ∀ k, k < 9 → parseFieldDescriptor (TX4 k).2.2.1 = some (tyX4 k) := by decide +kernel
abbrev cX4_init : ByteArray := prog_6_method_1_code
def yX4_init : MethodName := ⟨RX4, "<init>", "()V"⟩
abbrev cX4_height : ByteArray := prog_6_method_2_code
def yX4_height : MethodName := ⟨RX4, "height", "()I"⟩
abbrev cX4_width : ByteArray := prog_6_method_3_code
def yX4_width : MethodName := ⟨RX4, "width", "(I)I"⟩
abbrev cX4_tell : ByteArray := prog_6_method_4_code
def yX4_tell : MethodName := ⟨RX4, "tell", "(III)I"⟩
abbrev cX4_build : ByteArray := prog_6_method_5_code
def yX4_build : MethodName := ⟨RX4, "build", "(LKeyGuess$Keys;LKeyGuess$Cuts;I)V"⟩
abbrev cX4_pieceFor : ByteArray := prog_6_method_6_code
def yX4_pieceFor : MethodName := ⟨RX4, "pieceFor", "(I)I"⟩
abbrev cX4_rankBy : ByteArray := prog_6_method_7_code
def yX4_rankBy : MethodName := ⟨RX4, "rankBy", "(II)I"⟩
abbrev cX4_fromOf : ByteArray := prog_6_method_8_code
def yX4_fromOf : MethodName := ⟨RX4, "fromOf", "(I)I"⟩
abbrev cX4_lastOf : ByteArray := prog_6_method_9_code
def yX4_lastOf : MethodName := ⟨RX4, "lastOf", "(I)I"⟩
abbrev cX4_isPiece : ByteArray := prog_6_method_10_code
def yX4_isPiece : MethodName := ⟨RX4, "isPiece", "(I)Z"⟩
abbrev cX4_raise : ByteArray := prog_6_method_11_code
def yX4_raise : MethodName := ⟨RX4, "raise", "(ILKeyGuess$Cuts;)V"⟩
abbrev cX4_lay : ByteArray := prog_6_method_12_code
def yX4_lay : MethodName := ⟨RX4, "lay", "(ILKeyGuess$Cuts;)V"⟩
abbrev cX4_layBase : ByteArray := prog_6_method_13_code
def yX4_layBase : MethodName := ⟨RX4, "layBase", "(I)V"⟩
abbrev cX4_commonDivisor : ByteArray := prog_6_method_14_code
def yX4_commonDivisor : MethodName := ⟨RX4, "commonDivisor", "(II)I"⟩
def RX5 : String := "KeyGuess"
def TX5 : u_T := fun k => match k with
  | 0 => ("KeyGuess", "now", "LKeyGuess$Keys;", true)
  | 1 => ("KeyGuess", "row", "LKeyGuess$Keys;", true)
  | 2 => ("KeyGuess", "tried", "LKeyGuess$Keys;", true)
  | 3 => ("KeyGuess", "cuts", "LKeyGuess$Cuts;", true)
  | 4 => ("KeyGuess", "tower", "LKeyGuess$Tower;", true)
  | 5 => ("KeyGuess", "filter", "LKeyGuess$Filter;", true)
  | 6 => ("KeyGuess", "look", "LKeyGuess$Look;", true)
  | 7 => ("KeyGuess", "leeway", "I", false)
  | 8 => ("KeyGuess", "newKeys", "I", false)
  | 9 => ("KeyGuess", "oldKeys", "I", false)
  | _ => ("KeyGuess", "cost", "I", false)
def tyX5 : Nat → FieldType := fun k => match k with
  | 0 => .object "KeyGuess$Keys"
  | 1 => .object "KeyGuess$Keys"
  | 2 => .object "KeyGuess$Keys"
  | 3 => .object "KeyGuess$Cuts"
  | 4 => .object "KeyGuess$Tower"
  | 5 => .object "KeyGuess$Filter"
  | 6 => .object "KeyGuess$Look"
  | 7 => .int
  | 8 => .int
  | 9 => .int
  | _ => .int
abbrev wsX50 : List Cond := u_ws RX5 TX5 11
theorem nmX5 : ∀ a, a < 11 → ∀ b, b < 11 → a ≠ b → (TX5 a).2.1 ≠ (TX5 b).2.1 := by decide +kernel
theorem tyX5_ok : ∀ k, k < 11 → parseFieldDescriptor (TX5 k).2.2.1 = some (tyX5 k) := by decide +kernel
abbrev cX5_init : ByteArray := prog_1_method_1_code
def yX5_init : MethodName := ⟨RX5, "<init>", "()V"⟩
abbrev cX5_put : ByteArray := prog_1_method_2_code
def yX5_put : MethodName := ⟨RX5, "put", "(I)I"⟩
abbrev cX5_take : ByteArray := prog_1_method_3_code
def yX5_take : MethodName := ⟨RX5, "take", "(I)I"⟩
abbrev cX5_make : ByteArray := prog_1_method_4_code
def yX5_make : MethodName := ⟨RX5, "make", "()I"⟩
abbrev cX5_slack : ByteArray := prog_1_method_5_code
def yX5_slack : MethodName := ⟨RX5, "slack", "(I)I"⟩
abbrev cX5_place : ByteArray := prog_1_method_6_code
def yX5_place : MethodName := ⟨RX5, "place", "(I)I"⟩
abbrev cX5_at : ByteArray := prog_1_method_7_code
def yX5_at : MethodName := ⟨RX5, "at", "(I)I"⟩
abbrev cX5_range : ByteArray := prog_1_method_8_code
def yX5_range : MethodName := ⟨RX5, "range", "(II)I"⟩
abbrev cX5_sum : ByteArray := prog_1_method_9_code
def yX5_sum : MethodName := ⟨RX5, "sum", "(II)J"⟩
abbrev cX5_pieces : ByteArray := prog_1_method_10_code
def yX5_pieces : MethodName := ⟨RX5, "pieces", "(I)I"⟩
abbrev cX5_piece : ByteArray := prog_1_method_11_code
def yX5_piece : MethodName := ⟨RX5, "piece", "(III)I"⟩
abbrev cX5_levels : ByteArray := prog_1_method_12_code
def yX5_levels : MethodName := ⟨RX5, "levels", "()I"⟩
abbrev cX5_guess : ByteArray := prog_1_method_13_code
def yX5_guess : MethodName := ⟨RX5, "guess", "(I)I"⟩
abbrev cX5_find : ByteArray := prog_1_method_14_code
def yX5_find : MethodName := ⟨RX5, "find", "(I)I"⟩
abbrev cX5_looks : ByteArray := prog_1_method_15_code
def yX5_looks : MethodName := ⟨RX5, "looks", "(I)I"⟩
abbrev cX5_maybe : ByteArray := prog_1_method_16_code
def yX5_maybe : MethodName := ⟨RX5, "maybe", "(I)I"⟩
abbrev cX5_wrong : ByteArray := prog_1_method_17_code
def yX5_wrong : MethodName := ⟨RX5, "wrong", "(II)I"⟩
abbrev cX5_poison : ByteArray := prog_1_method_18_code
def yX5_poison : MethodName := ⟨RX5, "poison", "(III)I"⟩
abbrev cX5_count : ByteArray := prog_1_method_19_code
def yX5_count : MethodName := ⟨RX5, "count", "(I)I"⟩
abbrev cX5_isNumber : ByteArray := prog_1_method_20_code
def yX5_isNumber : MethodName := ⟨RX5, "isNumber", "(I)Z"⟩
abbrev cX5_isSpan : ByteArray := prog_1_method_21_code
def yX5_isSpan : MethodName := ⟨RX5, "isSpan", "(III)Z"⟩
abbrev cX5_clearAsideIfFull : ByteArray := prog_1_method_22_code
def yX5_clearAsideIfFull : MethodName := ⟨RX5, "clearAsideIfFull", "()V"⟩
abbrev cX5_makeRow : ByteArray := prog_1_method_23_code
def yX5_makeRow : MethodName := ⟨RX5, "makeRow", "()V"⟩
abbrev cX5_piecesWith : ByteArray := prog_1_method_24_code
def yX5_piecesWith : MethodName := ⟨RX5, "piecesWith", "(I)I"⟩
def RX6 : String := "KeyGuessModel"
def TX6 : u_T := fun k => match k with
  | 0 => ("KeyGuessModel", "rowMany", "I", false)
  | 1 => ("KeyGuessModel", "row", "[I", true)
  | 2 => ("KeyGuessModel", "e", "I", false)
  | 3 => ("KeyGuessModel", "newMany", "I", false)
  | 4 => ("KeyGuessModel", "news", "[I", true)
  | 5 => ("KeyGuessModel", "oldMany", "I", false)
  | 6 => ("KeyGuessModel", "olds", "[I", true)
  | 7 => ("KeyGuessModel", "cost", "I", false)
  | 8 => ("KeyGuessModel", "bits", "[Z", true)
  | 9 => ("KeyGuessModel", "nowMany", "I", false)
  | 10 => ("KeyGuessModel", "now", "[I", true)
  | 11 => ("KeyGuessModel", "keyMany", "I", false)
  | 12 => ("KeyGuessModel", "keys", "[I", true)
  | 13 => ("KeyGuessModel", "reach", "[I", true)
  | 14 => ("KeyGuessModel", "fewest", "[I", true)
  | 15 => ("KeyGuessModel", "lowUp", "J", false)
  | 16 => ("KeyGuessModel", "lowBelow", "J", false)
  | 17 => ("KeyGuessModel", "levelMany", "I", false)
  | 18 => ("KeyGuessModel", "pieceMany", "[I", true)
  | 19 => ("KeyGuessModel", "firsts", "[I", true)
  | 20 => ("KeyGuessModel", "lasts", "[I", true)
  | 21 => ("KeyGuessModel", "firstKeys", "[I", true)
  | 22 => ("KeyGuessModel", "ups", "[J", true)
  | 23 => ("KeyGuessModel", "belows", "[J", true)
  | _ => ("KeyGuessModel", "looked", "I", false)
def tyX6 : Nat → FieldType := fun k => match k with
  | 0 => .int
  | 1 => .array .int
  | 2 => .int
  | 3 => .int
  | 4 => .array .int
  | 5 => .int
  | 6 => .array .int
  | 7 => .int
  | 8 => .array .boolean
  | 9 => .int
  | 10 => .array .int
  | 11 => .int
  | 12 => .array .int
  | 13 => .array .int
  | 14 => .array .int
  | 15 => .long
  | 16 => .long
  | 17 => .int
  | 18 => .array .int
  | 19 => .array .int
  | 20 => .array .int
  | 21 => .array .int
  | 22 => .array .long
  | 23 => .array .long
  | _ => .int
abbrev wsX60 : List Cond := u_ws RX6 TX6 25
theorem nmX6 : ∀ a, a < 25 → ∀ b, b < 25 → a ≠ b → (TX6 a).2.1 ≠ (TX6 b).2.1 := by decide +kernel
theorem tyX6_ok : ∀ k, k < 25 → parseFieldDescriptor (TX6 k).2.2.1 = some (tyX6 k) := by decide +kernel
abbrev cX6_init : ByteArray := prog_8_method_1_code
def yX6_init : MethodName := ⟨RX6, "<init>", "()V"⟩
abbrev cX6_in : ByteArray := prog_8_method_2_code
def yX6_in : MethodName := ⟨RX6, "in", "(III)Z"⟩
abbrev cX6_isNumber : ByteArray := prog_8_method_3_code
def yX6_isNumber : MethodName := ⟨RX6, "isNumber", "(I)Z"⟩
abbrev cX6_placeIn : ByteArray := prog_8_method_4_code
def yX6_placeIn : MethodName := ⟨RX6, "placeIn", "([III)I"⟩
abbrev cX6_insertNow : ByteArray := prog_8_method_5_code
def yX6_insertNow : MethodName := ⟨RX6, "insertNow", "(I)V"⟩
abbrev cX6_layNow : ByteArray := prog_8_method_6_code
def yX6_layNow : MethodName := ⟨RX6, "layNow", "()V"⟩
abbrev cX6_isThere : ByteArray := prog_8_method_7_code
def yX6_isThere : MethodName := ⟨RX6, "isThere", "(I)Z"⟩
abbrev cX6_setBits : ByteArray := prog_8_method_8_code
def yX6_setBits : MethodName := ⟨RX6, "setBits", "(I)V"⟩
abbrev cX6_makeRow : ByteArray := prog_8_method_9_code
def yX6_makeRow : MethodName := ⟨RX6, "makeRow", "()V"⟩
abbrev cX6_put : ByteArray := prog_8_method_10_code
def yX6_put : MethodName := ⟨RX6, "put", "(I)I"⟩
abbrev cX6_take : ByteArray := prog_8_method_11_code
def yX6_take : MethodName := ⟨RX6, "take", "(I)I"⟩
abbrev cX6_make : ByteArray := prog_8_method_12_code
def yX6_make : MethodName := ⟨RX6, "make", "()I"⟩
abbrev cX6_slack : ByteArray := prog_8_method_13_code
def yX6_slack : MethodName := ⟨RX6, "slack", "(I)I"⟩
abbrev cX6_place : ByteArray := prog_8_method_14_code
def yX6_place : MethodName := ⟨RX6, "place", "(I)I"⟩
abbrev cX6_at : ByteArray := prog_8_method_15_code
def yX6_at : MethodName := ⟨RX6, "at", "(I)I"⟩
abbrev cX6_isSpan : ByteArray := prog_8_method_16_code
def yX6_isSpan : MethodName := ⟨RX6, "isSpan", "(II)Z"⟩
abbrev cX6_range : ByteArray := prog_8_method_17_code
def yX6_range : MethodName := ⟨RX6, "range", "(II)I"⟩
abbrev cX6_sum : ByteArray := prog_8_method_18_code
def yX6_sum : MethodName := ⟨RX6, "sum", "(II)J"⟩
abbrev cX6_layLow : ByteArray := prog_8_method_19_code
def yX6_layLow : MethodName := ⟨RX6, "layLow", "(II)V"⟩
abbrev cX6_keeps : ByteArray := prog_8_method_20_code
def yX6_keeps : MethodName := ⟨RX6, "keeps", "(II)Z"⟩
abbrev cX6_layPieces : ByteArray := prog_8_method_21_code
def yX6_layPieces : MethodName := ⟨RX6, "layPieces", "()V"⟩
abbrev cX6_endOf : ByteArray := prog_8_method_22_code
def yX6_endOf : MethodName := ⟨RX6, "endOf", "(I)I"⟩
abbrev cX6_divisor : ByteArray := prog_8_method_23_code
def yX6_divisor : MethodName := ⟨RX6, "divisor", "(JJ)J"⟩
abbrev cX6_layLevel : ByteArray := prog_8_method_24_code
def yX6_layLevel : MethodName := ⟨RX6, "layLevel", "(I)V"⟩
abbrev cX6_layLevels : ByteArray := prog_8_method_25_code
def yX6_layLevels : MethodName := ⟨RX6, "layLevels", "()V"⟩
abbrev cX6_piecesAt : ByteArray := prog_8_method_26_code
def yX6_piecesAt : MethodName := ⟨RX6, "piecesAt", "(I)I"⟩
abbrev cX6_pieces : ByteArray := prog_8_method_27_code
def yX6_pieces : MethodName := ⟨RX6, "pieces", "(I)I"⟩
abbrev cX6_piece : ByteArray := prog_8_method_28_code
def yX6_piece : MethodName := ⟨RX6, "piece", "(III)I"⟩
abbrev cX6_levels : ByteArray := prog_8_method_29_code
def yX6_levels : MethodName := ⟨RX6, "levels", "()I"⟩
abbrev cX6_pieceFor : ByteArray := prog_8_method_30_code
def yX6_pieceFor : MethodName := ⟨RX6, "pieceFor", "(I)I"⟩
abbrev cX6_guessBy : ByteArray := prog_8_method_31_code
def yX6_guessBy : MethodName := ⟨RX6, "guessBy", "(II)I"⟩
abbrev cX6_guess : ByteArray := prog_8_method_32_code
def yX6_guess : MethodName := ⟨RX6, "guess", "(I)I"⟩
abbrev cX6_lookFor : ByteArray := prog_8_method_33_code
def yX6_lookFor : MethodName := ⟨RX6, "lookFor", "(I)I"⟩
abbrev cX6_find : ByteArray := prog_8_method_34_code
def yX6_find : MethodName := ⟨RX6, "find", "(I)I"⟩
abbrev cX6_looks : ByteArray := prog_8_method_35_code
def yX6_looks : MethodName := ⟨RX6, "looks", "(I)I"⟩
abbrev cX6_isMaybe : ByteArray := prog_8_method_36_code
def yX6_isMaybe : MethodName := ⟨RX6, "isMaybe", "(I)Z"⟩
abbrev cX6_maybe : ByteArray := prog_8_method_37_code
def yX6_maybe : MethodName := ⟨RX6, "maybe", "(I)I"⟩
abbrev cX6_wrong : ByteArray := prog_8_method_38_code
def yX6_wrong : MethodName := ⟨RX6, "wrong", "(II)I"⟩
abbrev cX6_piecesWith : ByteArray := prog_8_method_39_code
def yX6_piecesWith : MethodName := ⟨RX6, "piecesWith", "(I)I"⟩
abbrev cX6_poison : ByteArray := prog_8_method_40_code
def yX6_poison : MethodName := ⟨RX6, "poison", "(III)I"⟩
abbrev cX6_count : ByteArray := prog_8_method_41_code
def yX6_count : MethodName := ⟨RX6, "count", "(I)I"⟩
def RJ13 : String := "java/lang/Long"
def TJ13 : u_T := fun k => match k with
  | _ => ("", "", "", false)
def tyJ13 : Nat → FieldType := fun k => match k with
  | _ => .int
abbrev wsJ130 : List Cond := u_ws RJ13 TJ13 0
theorem nmJ13 : ∀ a, a < 0 → ∀ b, b < 0 → a ≠ b → (TJ13 a).2.1 ≠ (TJ13 b).2.1 := by decide +kernel
theorem tyJ13_ok : ∀ k, k < 0 → parseFieldDescriptor (TJ13 k).2.2.1 = some (tyJ13 k) := by decide +kernel
abbrev cJ13_bitCount_95d88 : ByteArray := prog_9_method_50_code
def yJ13_bitCount_95d88 : MethodName := ⟨RJ13, "bitCount", "(J)I"⟩
def RJ9 : String := "java/lang/Math"
def TJ9 : u_T := fun k => match k with
  | _ => ("", "", "", false)
def tyJ9 : Nat → FieldType := fun k => match k with
  | _ => .int
abbrev wsJ90 : List Cond := u_ws RJ9 TJ9 0
theorem nmJ9 : ∀ a, a < 0 → ∀ b, b < 0 → a ≠ b → (TJ9 a).2.1 ≠ (TJ9 b).2.1 := by decide +kernel
theorem tyJ9_ok : ∀ k, k < 0 → parseFieldDescriptor (TJ9 k).2.2.1 = some (tyJ9 k) := by decide +kernel
abbrev cJ9_floorDiv_7cf53 : ByteArray := prog_10_method_47_code
def yJ9_floorDiv_7cf53 : MethodName := ⟨RJ9, "floorDiv", "(II)I"⟩
abbrev cJ9_max_7cf53 : ByteArray := prog_10_method_65_code
def yJ9_max_7cf53 : MethodName := ⟨RJ9, "max", "(II)I"⟩
abbrev cJ9_min_7cf53 : ByteArray := prog_10_method_69_code
def yJ9_min_7cf53 : MethodName := ⟨RJ9, "min", "(II)I"⟩
def RL : String := "KeyGuessLaw"
abbrev cL_law : ByteArray := code
def yL_law : MethodName := ⟨RL, "law", "([I)Z"⟩
def wsX0_init : List Cond := .code yX0_init cX0_init 1 none :: ([.methodLink RX0 3 objectInit, .instanceMethod objectInit, .code objectInit ⟨#[0xb1]⟩ 1 none, .arrayClass .int, .fieldLink RX0 9 "KeyGuess$Cuts" "cells" "[I", .fieldLink RX0 15 "KeyGuess$Cuts" "fewest" "[I", .fieldLink RX0 18 "KeyGuess$Cuts" "lasts" "[I", .fieldLink RX0 21 "KeyGuess$Cuts" "slopeNums" "[I", .fieldLink RX0 24 "KeyGuess$Cuts" "slopeDens" "[I"] ++ wsX00)
def wsX2_size : List Cond := .code yX2_size cX2_size 1 (some .int) :: ([.fieldLink RX2 15 "KeyGuess$Keys" "size" "I"] ++ wsX20)
def wsX2_key : List Cond := .code yX2_key cX2_key 2 (some .int) :: ([.fieldLink RX2 15 "KeyGuess$Keys" "size" "I", .fieldLink RX2 9 "KeyGuess$Keys" "cells" "[I"] ++ wsX20)
def wsX0_cutFrom : List Cond := .code yX0_cutFrom cX0_cutFrom 12 none :: ([.fieldLink RX0 15 "KeyGuess$Cuts" "fewest" "[I", .fieldLink RX0 18 "KeyGuess$Cuts" "lasts" "[I", .fieldLink RX0 21 "KeyGuess$Cuts" "slopeNums" "[I", .fieldLink RX0 24 "KeyGuess$Cuts" "slopeDens" "[I", .fieldLink RX0 9 "KeyGuess$Cuts" "cells" "[I"] ++ wsX00)
def wsX0_cut_r1 : List Cond := [Cond.methodLink RX0 33 Lib.Math.min.name, Cond.static Lib.Math.min.name, Cond.initialized "java/lang/Math", Cond.code Lib.Math.min.name Lib.Math.min.code 2 (some .int), Cond.fieldLink RX0 9 "KeyGuess$Cuts" "cells" "[I", Cond.fieldLink RX0 15 "KeyGuess$Cuts" "fewest" "[I", Cond.methodLink RX0 27 yX2_size, Cond.instanceMethod yX2_size, Cond.selects RX2 yX2_size yX2_size, Cond.initialized RX2, Cond.code yX2_size cX2_size 1 (some .int), Cond.fieldLink RX2 15 "KeyGuess$Keys" "size" "I", Cond.methodLink RX0 39 yX2_key, Cond.instanceMethod yX2_key, Cond.selects RX2 yX2_key yX2_key, Cond.code yX2_key cX2_key 2 (some .int), Cond.fieldLink RX2 9 "KeyGuess$Keys" "cells" "[I", Cond.methodLink RX0 43 yX0_cutFrom, Cond.instanceMethod yX0_cutFrom, Cond.selects RX0 yX0_cutFrom yX0_cutFrom, Cond.initialized RX0, Cond.code yX0_cutFrom cX0_cutFrom 12 none, Cond.fieldLink RX0 18 "KeyGuess$Cuts" "lasts" "[I", Cond.fieldLink RX0 21 "KeyGuess$Cuts" "slopeNums" "[I"]
def wsX0_cut_r2 : List Cond := [Cond.fieldLink RX0 24 "KeyGuess$Cuts" "slopeDens" "[I"]
def wsX0_cut : List Cond := .code yX0_cut cX0_cut 5 none :: ((wsX0_cut_r1 ++ wsX0_cut_r2) ++ wsX00 ++ wsX20)
def wsX0_isRank : List Cond := .code yX0_isRank cX0_isRank 1 (some .boolean) :: ([])
def wsX0_fewestFrom : List Cond := .code yX0_fewestFrom cX0_fewestFrom 2 (some .int) :: ([.fieldLink RX0 15 "KeyGuess$Cuts" "fewest" "[I", .methodLink RX0 47 yX0_isRank, .static yX0_isRank, .initialized RX0, .code yX0_isRank cX0_isRank 1 (some .boolean)] ++ wsX00)
def wsX0_lastOf : List Cond := .code yX0_lastOf cX0_lastOf 2 (some .int) :: ([.fieldLink RX0 18 "KeyGuess$Cuts" "lasts" "[I", .methodLink RX0 47 yX0_isRank, .static yX0_isRank, .initialized RX0, .code yX0_isRank cX0_isRank 1 (some .boolean)] ++ wsX00)
def wsX0_slopeNum : List Cond := .code yX0_slopeNum cX0_slopeNum 2 (some .int) :: ([.fieldLink RX0 21 "KeyGuess$Cuts" "slopeNums" "[I", .methodLink RX0 47 yX0_isRank, .static yX0_isRank, .initialized RX0, .code yX0_isRank cX0_isRank 1 (some .boolean)] ++ wsX00)
def wsX0_slopeDen : List Cond := .code yX0_slopeDen cX0_slopeDen 2 (some .int) :: ([.fieldLink RX0 24 "KeyGuess$Cuts" "slopeDens" "[I", .methodLink RX0 47 yX0_isRank, .static yX0_isRank, .initialized RX0, .code yX0_isRank cX0_isRank 1 (some .boolean)] ++ wsX00)
def wsX1_init : List Cond := .code yX1_init cX1_init 1 none :: ([.methodLink RX1 1 objectInit, .instanceMethod objectInit, .code objectInit ⟨#[0xb1]⟩ 1 none])
def wsX1_clear : List Cond := .code yX1_clear cX1_clear 1 none :: ([.fieldLink RX1 7 "KeyGuess$Filter" "bits" "J"] ++ wsX10)
def wsX1_bitsOf : List Cond := .code yX1_bitsOf cX1_bitsOf 1 (some .long) :: ([])
def wsX1_add : List Cond := .code yX1_add cX1_add 2 none :: ([.fieldLink RX1 7 "KeyGuess$Filter" "bits" "J", .methodLink RX1 13 yX1_bitsOf, .static yX1_bitsOf, .initialized RX1, .code yX1_bitsOf cX1_bitsOf 1 (some .long)] ++ wsX10)
def wsX1_passes : List Cond := .code yX1_passes cX1_passes 4 (some .boolean) :: ([.fieldLink RX1 7 "KeyGuess$Filter" "bits" "J", .methodLink RX1 13 yX1_bitsOf, .static yX1_bitsOf, .initialized RX1, .code yX1_bitsOf cX1_bitsOf 1 (some .long)] ++ wsX10)
def wsJ13_bitCount_95d88 : List Cond := .code yJ13_bitCount_95d88 cJ13_bitCount_95d88 2 (some .int) :: ([.constantLong RJ13 314 (6148914691236517205), .constantLong RJ13 316 (3689348814741910323), .constantLong RJ13 318 (1085102592571150095)])
def wsX1_bitsSet : List Cond := .code yX1_bitsSet cX1_bitsSet 1 (some .int) :: ([.fieldLink RX1 7 "KeyGuess$Filter" "bits" "J", .methodLink RX1 17 yJ13_bitCount_95d88, .static yJ13_bitCount_95d88, .initialized RJ13, .code yJ13_bitCount_95d88 cJ13_bitCount_95d88 2 (some .int), .constantLong RJ13 314 (6148914691236517205), .constantLong RJ13 316 (3689348814741910323), .constantLong RJ13 318 (1085102592571150095)] ++ wsX10)
def wsX2_init : List Cond := .code yX2_init cX2_init 1 none :: ([.methodLink RX2 3 objectInit, .instanceMethod objectInit, .code objectInit ⟨#[0xb1]⟩ 1 none, .arrayClass .int, .fieldLink RX2 9 "KeyGuess$Keys" "cells" "[I"] ++ wsX20)
def wsX2_below : List Cond := .code yX2_below cX2_below 3 (some .int) :: ([.fieldLink RX2 15 "KeyGuess$Keys" "size" "I", .fieldLink RX2 9 "KeyGuess$Keys" "cells" "[I"] ++ wsX20)
def wsX2_has : List Cond := .code yX2_has cX2_has 3 (some .boolean) :: ([.fieldLink RX2 15 "KeyGuess$Keys" "size" "I", .fieldLink RX2 9 "KeyGuess$Keys" "cells" "[I", .methodLink RX2 19 yX2_below, .instanceMethod yX2_below, .selects RX2 yX2_below yX2_below, .initialized RX2, .code yX2_below cX2_below 3 (some .int)] ++ wsX20)
def wsX2_within : List Cond := .code yX2_within cX2_within 3 (some .int) :: ([.methodLink RX2 19 yX2_below, .instanceMethod yX2_below, .selects RX2 yX2_below yX2_below, .initialized RX2, .code yX2_below cX2_below 3 (some .int), .fieldLink RX2 15 "KeyGuess$Keys" "size" "I", .fieldLink RX2 9 "KeyGuess$Keys" "cells" "[I"] ++ wsX20)
def wsX2_total : List Cond := .code yX2_total cX2_total 7 (some .long) :: ([.methodLink RX2 19 yX2_below, .instanceMethod yX2_below, .selects RX2 yX2_below yX2_below, .initialized RX2, .code yX2_below cX2_below 3 (some .int), .fieldLink RX2 15 "KeyGuess$Keys" "size" "I", .fieldLink RX2 9 "KeyGuess$Keys" "cells" "[I", .methodLink RX2 23 yX2_key, .instanceMethod yX2_key, .selects RX2 yX2_key yX2_key, .code yX2_key cX2_key 2 (some .int)] ++ wsX20)
def wsX2_clear : List Cond := .code yX2_clear cX2_clear 1 none :: ([.fieldLink RX2 15 "KeyGuess$Keys" "size" "I"] ++ wsX20)
def wsX2_append : List Cond := .code yX2_append cX2_append 2 none :: ([.fieldLink RX2 15 "KeyGuess$Keys" "size" "I", .fieldLink RX2 9 "KeyGuess$Keys" "cells" "[I"] ++ wsX20)
def wsX2_copy : List Cond := .code yX2_copy cX2_copy 3 none :: ([.fieldLink RX2 15 "KeyGuess$Keys" "size" "I", .methodLink RX2 26 yX2_size, .instanceMethod yX2_size, .selects RX2 yX2_size yX2_size, .initialized RX2, .code yX2_size cX2_size 1 (some .int), .methodLink RX2 23 yX2_key, .instanceMethod yX2_key, .selects RX2 yX2_key yX2_key, .code yX2_key cX2_key 2 (some .int), .fieldLink RX2 9 "KeyGuess$Keys" "cells" "[I", .methodLink RX2 29 yX2_append, .instanceMethod yX2_append, .selects RX2 yX2_append yX2_append, .code yX2_append cX2_append 2 none] ++ wsX20)
def wsX2_add : List Cond := .code yX2_add cX2_add 4 none :: ([.fieldLink RX2 15 "KeyGuess$Keys" "size" "I", .fieldLink RX2 9 "KeyGuess$Keys" "cells" "[I", .methodLink RX2 33 yX2_has, .instanceMethod yX2_has, .selects RX2 yX2_has yX2_has, .initialized RX2, .code yX2_has cX2_has 3 (some .boolean), .methodLink RX2 19 yX2_below, .instanceMethod yX2_below, .selects RX2 yX2_below yX2_below, .code yX2_below cX2_below 3 (some .int)] ++ wsX20)
def wsX2_drop : List Cond := .code yX2_drop cX2_drop 3 none :: ([.fieldLink RX2 15 "KeyGuess$Keys" "size" "I", .fieldLink RX2 9 "KeyGuess$Keys" "cells" "[I", .methodLink RX2 33 yX2_has, .instanceMethod yX2_has, .selects RX2 yX2_has yX2_has, .initialized RX2, .code yX2_has cX2_has 3 (some .boolean), .methodLink RX2 19 yX2_below, .instanceMethod yX2_below, .selects RX2 yX2_below yX2_below, .code yX2_below cX2_below 3 (some .int)] ++ wsX20)
def wsX3_init : List Cond := .code yX3_init cX3_init 1 none :: ([.methodLink RX3 3 objectInit, .instanceMethod objectInit, .code objectInit ⟨#[0xb1]⟩ 1 none])
def wsX3_met : List Cond := .code yX3_met cX3_met 1 (some .int) :: ([.fieldLink RX3 9 "KeyGuess$Look" "met" "I"] ++ wsX30)
def wsX3_ranksSeen : List Cond := .code yX3_ranksSeen cX3_ranksSeen 1 (some .int) :: ([.fieldLink RX3 15 "KeyGuess$Look" "seen" "I"] ++ wsX30)
def wsX4_height : List Cond := .code yX4_height cX4_height 1 (some .int) :: ([.fieldLink RX4 37 "KeyGuess$Tower" "height" "I"] ++ wsX40)
def wsX4_width : List Cond := .code yX4_width cX4_width 2 (some .int) :: ([.fieldLink RX4 37 "KeyGuess$Tower" "height" "I", .fieldLink RX4 18 "KeyGuess$Tower" "starts" "[I"] ++ wsX40)
def wsX4_isPiece : List Cond := .code yX4_isPiece cX4_isPiece 2 (some .boolean) :: ([.fieldLink RX4 49 "KeyGuess$Tower" "size" "I"] ++ wsX40)
def wsX4_pieceFor : List Cond := .code yX4_pieceFor cX4_pieceFor 4 (some .int) :: ([.fieldLink RX4 28 "KeyGuess$Tower" "firsts" "[I", .methodLink RX4 41 yX4_width, .instanceMethod yX4_width, .selects RX4 yX4_width yX4_width, .initialized RX4, .code yX4_width cX4_width 2 (some .int), .fieldLink RX4 37 "KeyGuess$Tower" "height" "I", .fieldLink RX4 18 "KeyGuess$Tower" "starts" "[I", .methodLink RX4 45 yX4_isPiece, .instanceMethod yX4_isPiece, .selects RX4 yX4_isPiece yX4_isPiece, .code yX4_isPiece cX4_isPiece 2 (some .boolean), .fieldLink RX4 49 "KeyGuess$Tower" "size" "I"] ++ wsX40)
def wsJ9_floorDiv_7cf53 : List Cond := .code yJ9_floorDiv_7cf53 cJ9_floorDiv_7cf53 3 (some .int) :: ([])
def wsX4_rankBy : List Cond := .code yX4_rankBy cX4_rankBy 4 (some .int) :: ([.fieldLink RX4 34 "KeyGuess$Tower" "slopeDens" "[I", .fieldLink RX4 31 "KeyGuess$Tower" "slopeNums" "[I", .fieldLink RX4 28 "KeyGuess$Tower" "firsts" "[I", .fieldLink RX4 22 "KeyGuess$Tower" "froms" "[I", .fieldLink RX4 25 "KeyGuess$Tower" "lasts" "[I", .methodLink RX4 79 Lib.Math.min.name, .static Lib.Math.min.name, .initialized "java/lang/Math", .code Lib.Math.min.name Lib.Math.min.code 2 (some .int), .methodLink RX4 82 Lib.Math.max.name, .static Lib.Math.max.name, .code Lib.Math.max.name Lib.Math.max.code 2 (some .int), .methodLink RX4 45 yX4_isPiece, .instanceMethod yX4_isPiece, .selects RX4 yX4_isPiece yX4_isPiece, .initialized RX4, .code yX4_isPiece cX4_isPiece 2 (some .boolean), .fieldLink RX4 49 "KeyGuess$Tower" "size" "I", .methodLink RX4 73 yJ9_floorDiv_7cf53, .static yJ9_floorDiv_7cf53, .initialized RJ9, .code yJ9_floorDiv_7cf53 cJ9_floorDiv_7cf53 3 (some .int)] ++ wsX40)
def wsX3_away : List Cond := .code yX3_away cX3_away 1 (some .int) :: ([])
def wsX4_fromOf : List Cond := .code yX4_fromOf cX4_fromOf 2 (some .int) :: ([.fieldLink RX4 22 "KeyGuess$Tower" "froms" "[I", .methodLink RX4 45 yX4_isPiece, .instanceMethod yX4_isPiece, .selects RX4 yX4_isPiece yX4_isPiece, .initialized RX4, .code yX4_isPiece cX4_isPiece 2 (some .boolean), .fieldLink RX4 49 "KeyGuess$Tower" "size" "I"] ++ wsX40)
def wsX4_lastOf : List Cond := .code yX4_lastOf cX4_lastOf 2 (some .int) :: ([.fieldLink RX4 25 "KeyGuess$Tower" "lasts" "[I", .methodLink RX4 45 yX4_isPiece, .instanceMethod yX4_isPiece, .selects RX4 yX4_isPiece yX4_isPiece, .initialized RX4, .code yX4_isPiece cX4_isPiece 2 (some .boolean), .fieldLink RX4 49 "KeyGuess$Tower" "size" "I"] ++ wsX40)
def wsX3_run_r1 : List Cond := [Cond.fieldLink RX3 9 "KeyGuess$Look" "met" "I", Cond.fieldLink RX3 15 "KeyGuess$Look" "seen" "I", Cond.methodLink RX3 18 yX4_height, Cond.instanceMethod yX4_height, Cond.selects RX4 yX4_height yX4_height, Cond.initialized RX4, Cond.code yX4_height cX4_height 1 (some .int), Cond.fieldLink RX4 37 "KeyGuess$Tower" "height" "I", Cond.methodLink RX3 24 yX4_pieceFor, Cond.instanceMethod yX4_pieceFor, Cond.selects RX4 yX4_pieceFor yX4_pieceFor, Cond.code yX4_pieceFor cX4_pieceFor 4 (some .int), Cond.fieldLink RX4 28 "KeyGuess$Tower" "firsts" "[I", Cond.methodLink RX4 41 yX4_width, Cond.instanceMethod yX4_width, Cond.selects RX4 yX4_width yX4_width, Cond.code yX4_width cX4_width 2 (some .int), Cond.fieldLink RX4 18 "KeyGuess$Tower" "starts" "[I", Cond.methodLink RX4 45 yX4_isPiece, Cond.instanceMethod yX4_isPiece, Cond.selects RX4 yX4_isPiece yX4_isPiece, Cond.code yX4_isPiece cX4_isPiece 2 (some .boolean), Cond.fieldLink RX4 49 "KeyGuess$Tower" "size" "I", Cond.methodLink RX3 28 yX4_rankBy]
def wsX3_run_r2 : List Cond := [Cond.instanceMethod yX4_rankBy, Cond.selects RX4 yX4_rankBy yX4_rankBy, Cond.code yX4_rankBy cX4_rankBy 4 (some .int), Cond.fieldLink RX4 34 "KeyGuess$Tower" "slopeDens" "[I", Cond.fieldLink RX4 31 "KeyGuess$Tower" "slopeNums" "[I", Cond.fieldLink RX4 22 "KeyGuess$Tower" "froms" "[I", Cond.fieldLink RX4 25 "KeyGuess$Tower" "lasts" "[I", Cond.methodLink RX4 79 Lib.Math.min.name, Cond.static Lib.Math.min.name, Cond.initialized "java/lang/Math", Cond.code Lib.Math.min.name Lib.Math.min.code 2 (some .int), Cond.methodLink RX4 82 Lib.Math.max.name, Cond.static Lib.Math.max.name, Cond.code Lib.Math.max.name Lib.Math.max.code 2 (some .int), Cond.methodLink RX4 73 yJ9_floorDiv_7cf53, Cond.static yJ9_floorDiv_7cf53, Cond.initialized RJ9, Cond.code yJ9_floorDiv_7cf53 cJ9_floorDiv_7cf53 3 (some .int), Cond.methodLink RX3 32 yX3_away, Cond.static yX3_away, Cond.initialized RX3, Cond.code yX3_away cX3_away 1 (some .int), Cond.methodLink RX3 35 yX4_fromOf, Cond.instanceMethod yX4_fromOf]
def wsX3_run_r3 : List Cond := [Cond.selects RX4 yX4_fromOf yX4_fromOf, Cond.code yX4_fromOf cX4_fromOf 2 (some .int), Cond.methodLink RX3 38 yX4_lastOf, Cond.instanceMethod yX4_lastOf, Cond.selects RX4 yX4_lastOf yX4_lastOf, Cond.code yX4_lastOf cX4_lastOf 2 (some .int), Cond.methodLink RX3 41 yX2_key, Cond.instanceMethod yX2_key, Cond.selects RX2 yX2_key yX2_key, Cond.initialized RX2, Cond.code yX2_key cX2_key 2 (some .int), Cond.fieldLink RX2 15 "KeyGuess$Keys" "size" "I", Cond.fieldLink RX2 9 "KeyGuess$Keys" "cells" "[I"]
def wsX3_run : List Cond := .code yX3_run cX3_run 9 none :: ((wsX3_run_r1 ++ (wsX3_run_r2 ++ wsX3_run_r3)) ++ wsX30 ++ wsX40 ++ wsX20)
def wsX4_init : List Cond := .code yX4_init cX4_init 1 none :: ([.methodLink RX4 3 objectInit, .instanceMethod objectInit, .code objectInit ⟨#[0xb1]⟩ 1 none, .classLink RX4 9 RX2, .instantiable RX2 2, .initialized RX2, .fieldLink RX4 12 "KeyGuess$Tower" "base" "LKeyGuess$Keys;", .arrayClass .int, .fieldLink RX4 18 "KeyGuess$Tower" "starts" "[I", .fieldLink RX4 22 "KeyGuess$Tower" "froms" "[I", .fieldLink RX4 25 "KeyGuess$Tower" "lasts" "[I", .fieldLink RX4 28 "KeyGuess$Tower" "firsts" "[I", .fieldLink RX4 31 "KeyGuess$Tower" "slopeNums" "[I", .fieldLink RX4 34 "KeyGuess$Tower" "slopeDens" "[I", .methodLink RX4 11 yX2_init, .instanceMethod yX2_init, .code yX2_init cX2_init 1 none, .methodLink RX2 3 objectInit, .fieldLink RX2 9 "KeyGuess$Keys" "cells" "[I"] ++ wsX20 ++ wsX40)
def wsX4_tell : List Cond := .code yX4_tell cX4_tell 5 (some .int) :: ([.fieldLink RX4 18 "KeyGuess$Tower" "starts" "[I", .fieldLink RX4 22 "KeyGuess$Tower" "froms" "[I", .fieldLink RX4 25 "KeyGuess$Tower" "lasts" "[I", .fieldLink RX4 28 "KeyGuess$Tower" "firsts" "[I", .fieldLink RX4 31 "KeyGuess$Tower" "slopeNums" "[I", .fieldLink RX4 34 "KeyGuess$Tower" "slopeDens" "[I", .methodLink RX4 41 yX4_width, .instanceMethod yX4_width, .selects RX4 yX4_width yX4_width, .initialized RX4, .code yX4_width cX4_width 2 (some .int), .fieldLink RX4 37 "KeyGuess$Tower" "height" "I", .methodLink RX4 45 yX4_isPiece, .instanceMethod yX4_isPiece, .selects RX4 yX4_isPiece yX4_isPiece, .code yX4_isPiece cX4_isPiece 2 (some .boolean), .fieldLink RX4 49 "KeyGuess$Tower" "size" "I"] ++ wsX40)
def wsX4_commonDivisor : List Cond := .code yX4_commonDivisor cX4_commonDivisor 4 (some .int) :: ([])
def wsX4_lay_r1 : List Cond := [Cond.fieldLink RX4 49 "KeyGuess$Tower" "size" "I", Cond.fieldLink RX4 22 "KeyGuess$Tower" "froms" "[I", Cond.fieldLink RX4 25 "KeyGuess$Tower" "lasts" "[I", Cond.fieldLink RX4 28 "KeyGuess$Tower" "firsts" "[I", Cond.fieldLink RX4 12 "KeyGuess$Tower" "base" "LKeyGuess$Keys;", Cond.fieldLink RX4 31 "KeyGuess$Tower" "slopeNums" "[I", Cond.fieldLink RX4 34 "KeyGuess$Tower" "slopeDens" "[I", Cond.methodLink RX4 91 yX0_slopeNum, Cond.instanceMethod yX0_slopeNum, Cond.selects RX0 yX0_slopeNum yX0_slopeNum, Cond.initialized RX0, Cond.code yX0_slopeNum cX0_slopeNum 2 (some .int), Cond.fieldLink RX0 21 "KeyGuess$Cuts" "slopeNums" "[I", Cond.methodLink RX0 47 yX0_isRank, Cond.static yX0_isRank, Cond.code yX0_isRank cX0_isRank 1 (some .boolean), Cond.methodLink RX4 94 yX0_slopeDen, Cond.instanceMethod yX0_slopeDen, Cond.selects RX0 yX0_slopeDen yX0_slopeDen, Cond.code yX0_slopeDen cX0_slopeDen 2 (some .int), Cond.fieldLink RX0 24 "KeyGuess$Cuts" "slopeDens" "[I", Cond.methodLink RX4 97 yX4_commonDivisor, Cond.static yX4_commonDivisor, Cond.initialized RX4]
def wsX4_lay_r2 : List Cond := [Cond.code yX4_commonDivisor cX4_commonDivisor 4 (some .int), Cond.methodLink RX4 88 yX0_lastOf, Cond.instanceMethod yX0_lastOf, Cond.selects RX0 yX0_lastOf yX0_lastOf, Cond.code yX0_lastOf cX0_lastOf 2 (some .int), Cond.fieldLink RX0 18 "KeyGuess$Cuts" "lasts" "[I", Cond.methodLink RX4 100 yX2_key, Cond.instanceMethod yX2_key, Cond.selects RX2 yX2_key yX2_key, Cond.initialized RX2, Cond.code yX2_key cX2_key 2 (some .int), Cond.fieldLink RX2 15 "KeyGuess$Keys" "size" "I", Cond.fieldLink RX2 9 "KeyGuess$Keys" "cells" "[I"]
def wsX4_lay : List Cond := .code yX4_lay cX4_lay 6 none :: ((wsX4_lay_r1 ++ wsX4_lay_r2) ++ wsX40 ++ wsX00 ++ wsX20)
def wsX4_raise_r1 : List Cond := [Cond.fieldLink RX4 18 "KeyGuess$Tower" "starts" "[I", Cond.fieldLink RX4 49 "KeyGuess$Tower" "size" "I", Cond.fieldLink RX4 12 "KeyGuess$Tower" "base" "LKeyGuess$Keys;", Cond.fieldLink RX4 37 "KeyGuess$Tower" "height" "I", Cond.methodLink RX4 56 yX2_size, Cond.instanceMethod yX2_size, Cond.selects RX2 yX2_size yX2_size, Cond.initialized RX2, Cond.code yX2_size cX2_size 1 (some .int), Cond.fieldLink RX2 15 "KeyGuess$Keys" "size" "I", Cond.methodLink RX4 85 yX4_lay, Cond.instanceMethod yX4_lay, Cond.selects RX4 yX4_lay yX4_lay, Cond.initialized RX4, Cond.code yX4_lay cX4_lay 6 none, Cond.fieldLink RX4 22 "KeyGuess$Tower" "froms" "[I", Cond.fieldLink RX4 25 "KeyGuess$Tower" "lasts" "[I", Cond.fieldLink RX4 28 "KeyGuess$Tower" "firsts" "[I", Cond.fieldLink RX4 31 "KeyGuess$Tower" "slopeNums" "[I", Cond.fieldLink RX4 34 "KeyGuess$Tower" "slopeDens" "[I", Cond.methodLink RX4 91 yX0_slopeNum, Cond.instanceMethod yX0_slopeNum, Cond.selects RX0 yX0_slopeNum yX0_slopeNum, Cond.initialized RX0]
def wsX4_raise_r2 : List Cond := [Cond.code yX0_slopeNum cX0_slopeNum 2 (some .int), Cond.fieldLink RX0 21 "KeyGuess$Cuts" "slopeNums" "[I", Cond.methodLink RX0 47 yX0_isRank, Cond.static yX0_isRank, Cond.code yX0_isRank cX0_isRank 1 (some .boolean), Cond.methodLink RX4 94 yX0_slopeDen, Cond.instanceMethod yX0_slopeDen, Cond.selects RX0 yX0_slopeDen yX0_slopeDen, Cond.code yX0_slopeDen cX0_slopeDen 2 (some .int), Cond.fieldLink RX0 24 "KeyGuess$Cuts" "slopeDens" "[I", Cond.methodLink RX4 97 yX4_commonDivisor, Cond.static yX4_commonDivisor, Cond.code yX4_commonDivisor cX4_commonDivisor 4 (some .int), Cond.methodLink RX4 88 yX0_lastOf, Cond.instanceMethod yX0_lastOf, Cond.selects RX0 yX0_lastOf yX0_lastOf, Cond.code yX0_lastOf cX0_lastOf 2 (some .int), Cond.fieldLink RX0 18 "KeyGuess$Cuts" "lasts" "[I", Cond.methodLink RX4 100 yX2_key, Cond.instanceMethod yX2_key, Cond.selects RX2 yX2_key yX2_key, Cond.code yX2_key cX2_key 2 (some .int), Cond.fieldLink RX2 9 "KeyGuess$Keys" "cells" "[I"]
def wsX4_raise : List Cond := .code yX4_raise cX4_raise 5 none :: ((wsX4_raise_r1 ++ wsX4_raise_r2) ++ wsX40 ++ wsX20 ++ wsX00)
def wsX4_layBase_r1 : List Cond := [Cond.fieldLink RX4 12 "KeyGuess$Tower" "base" "LKeyGuess$Keys;", Cond.methodLink RX4 103 yX2_clear, Cond.instanceMethod yX2_clear, Cond.selects RX2 yX2_clear yX2_clear, Cond.initialized RX2, Cond.code yX2_clear cX2_clear 1 none, Cond.fieldLink RX2 15 "KeyGuess$Keys" "size" "I", Cond.methodLink RX4 41 yX4_width, Cond.instanceMethod yX4_width, Cond.selects RX4 yX4_width yX4_width, Cond.initialized RX4, Cond.code yX4_width cX4_width 2 (some .int), Cond.fieldLink RX4 37 "KeyGuess$Tower" "height" "I", Cond.fieldLink RX4 18 "KeyGuess$Tower" "starts" "[I", Cond.methodLink RX4 106 yX4_tell, Cond.instanceMethod yX4_tell, Cond.selects RX4 yX4_tell yX4_tell, Cond.code yX4_tell cX4_tell 5 (some .int), Cond.fieldLink RX4 22 "KeyGuess$Tower" "froms" "[I", Cond.fieldLink RX4 25 "KeyGuess$Tower" "lasts" "[I", Cond.fieldLink RX4 28 "KeyGuess$Tower" "firsts" "[I", Cond.fieldLink RX4 31 "KeyGuess$Tower" "slopeNums" "[I", Cond.fieldLink RX4 34 "KeyGuess$Tower" "slopeDens" "[I", Cond.methodLink RX4 45 yX4_isPiece]
def wsX4_layBase_r2 : List Cond := [Cond.instanceMethod yX4_isPiece, Cond.selects RX4 yX4_isPiece yX4_isPiece, Cond.code yX4_isPiece cX4_isPiece 2 (some .boolean), Cond.fieldLink RX4 49 "KeyGuess$Tower" "size" "I", Cond.methodLink RX4 110 yX2_append, Cond.instanceMethod yX2_append, Cond.selects RX2 yX2_append yX2_append, Cond.code yX2_append cX2_append 2 none, Cond.fieldLink RX2 9 "KeyGuess$Keys" "cells" "[I"]
def wsX4_layBase : List Cond := .code yX4_layBase cX4_layBase 3 none :: ((wsX4_layBase_r1 ++ wsX4_layBase_r2) ++ wsX40 ++ wsX20)
def wsX4_build_r1 : List Cond := [Cond.fieldLink RX4 37 "KeyGuess$Tower" "height" "I", Cond.fieldLink RX4 49 "KeyGuess$Tower" "size" "I", Cond.fieldLink RX4 12 "KeyGuess$Tower" "base" "LKeyGuess$Keys;", Cond.methodLink RX4 52 yX2_copy, Cond.instanceMethod yX2_copy, Cond.selects RX2 yX2_copy yX2_copy, Cond.initialized RX2, Cond.code yX2_copy cX2_copy 3 none, Cond.fieldLink RX2 15 "KeyGuess$Keys" "size" "I", Cond.methodLink RX2 26 yX2_size, Cond.instanceMethod yX2_size, Cond.selects RX2 yX2_size yX2_size, Cond.code yX2_size cX2_size 1 (some .int), Cond.methodLink RX2 23 yX2_key, Cond.instanceMethod yX2_key, Cond.selects RX2 yX2_key yX2_key, Cond.code yX2_key cX2_key 2 (some .int), Cond.fieldLink RX2 9 "KeyGuess$Keys" "cells" "[I", Cond.methodLink RX2 29 yX2_append, Cond.instanceMethod yX2_append, Cond.selects RX2 yX2_append yX2_append, Cond.code yX2_append cX2_append 2 none, Cond.methodLink RX4 56 yX2_size, Cond.methodLink RX4 59 yX0_cut]
def wsX4_build_r2 : List Cond := [Cond.instanceMethod yX0_cut, Cond.selects RX0 yX0_cut yX0_cut, Cond.initialized RX0, Cond.code yX0_cut cX0_cut 5 none, Cond.methodLink RX0 33 Lib.Math.min.name, Cond.static Lib.Math.min.name, Cond.initialized "java/lang/Math", Cond.code Lib.Math.min.name Lib.Math.min.code 2 (some .int), Cond.fieldLink RX0 9 "KeyGuess$Cuts" "cells" "[I", Cond.fieldLink RX0 15 "KeyGuess$Cuts" "fewest" "[I", Cond.methodLink RX0 27 yX2_size, Cond.methodLink RX0 39 yX2_key, Cond.methodLink RX0 43 yX0_cutFrom, Cond.instanceMethod yX0_cutFrom, Cond.selects RX0 yX0_cutFrom yX0_cutFrom, Cond.code yX0_cutFrom cX0_cutFrom 12 none, Cond.fieldLink RX0 18 "KeyGuess$Cuts" "lasts" "[I", Cond.fieldLink RX0 21 "KeyGuess$Cuts" "slopeNums" "[I", Cond.fieldLink RX0 24 "KeyGuess$Cuts" "slopeDens" "[I", Cond.methodLink RX4 65 yX4_raise, Cond.instanceMethod yX4_raise, Cond.selects RX4 yX4_raise yX4_raise, Cond.initialized RX4, Cond.code yX4_raise cX4_raise 5 none]
def wsX4_build_r3 : List Cond := [Cond.fieldLink RX4 18 "KeyGuess$Tower" "starts" "[I", Cond.methodLink RX4 85 yX4_lay, Cond.instanceMethod yX4_lay, Cond.selects RX4 yX4_lay yX4_lay, Cond.code yX4_lay cX4_lay 6 none, Cond.fieldLink RX4 22 "KeyGuess$Tower" "froms" "[I", Cond.fieldLink RX4 25 "KeyGuess$Tower" "lasts" "[I", Cond.fieldLink RX4 28 "KeyGuess$Tower" "firsts" "[I", Cond.fieldLink RX4 31 "KeyGuess$Tower" "slopeNums" "[I", Cond.fieldLink RX4 34 "KeyGuess$Tower" "slopeDens" "[I", Cond.methodLink RX4 91 yX0_slopeNum, Cond.instanceMethod yX0_slopeNum, Cond.selects RX0 yX0_slopeNum yX0_slopeNum, Cond.code yX0_slopeNum cX0_slopeNum 2 (some .int), Cond.methodLink RX0 47 yX0_isRank, Cond.static yX0_isRank, Cond.code yX0_isRank cX0_isRank 1 (some .boolean), Cond.methodLink RX4 94 yX0_slopeDen, Cond.instanceMethod yX0_slopeDen, Cond.selects RX0 yX0_slopeDen yX0_slopeDen, Cond.code yX0_slopeDen cX0_slopeDen 2 (some .int), Cond.methodLink RX4 97 yX4_commonDivisor, Cond.static yX4_commonDivisor, Cond.code yX4_commonDivisor cX4_commonDivisor 4 (some .int)]
def wsX4_build_r4 : List Cond := [Cond.methodLink RX4 88 yX0_lastOf, Cond.instanceMethod yX0_lastOf, Cond.selects RX0 yX0_lastOf yX0_lastOf, Cond.code yX0_lastOf cX0_lastOf 2 (some .int), Cond.methodLink RX4 100 yX2_key, Cond.methodLink RX4 41 yX4_width, Cond.instanceMethod yX4_width, Cond.selects RX4 yX4_width yX4_width, Cond.code yX4_width cX4_width 2 (some .int), Cond.methodLink RX4 69 yX4_layBase, Cond.instanceMethod yX4_layBase, Cond.selects RX4 yX4_layBase yX4_layBase, Cond.code yX4_layBase cX4_layBase 3 none, Cond.methodLink RX4 103 yX2_clear, Cond.instanceMethod yX2_clear, Cond.selects RX2 yX2_clear yX2_clear, Cond.code yX2_clear cX2_clear 1 none, Cond.methodLink RX4 106 yX4_tell, Cond.instanceMethod yX4_tell, Cond.selects RX4 yX4_tell yX4_tell, Cond.code yX4_tell cX4_tell 5 (some .int), Cond.methodLink RX4 45 yX4_isPiece, Cond.instanceMethod yX4_isPiece, Cond.selects RX4 yX4_isPiece yX4_isPiece]
def wsX4_build_r5 : List Cond := [Cond.code yX4_isPiece cX4_isPiece 2 (some .boolean), Cond.methodLink RX4 110 yX2_append]
def wsX4_build : List Cond := .code yX4_build cX4_build 6 none :: ((wsX4_build_r1 ++ (wsX4_build_r2 ++ (wsX4_build_r3 ++ (wsX4_build_r4 ++ wsX4_build_r5)))) ++ wsX40 ++ wsX20 ++ wsX00)
def wsX5_init_r1 : List Cond := [Cond.methodLink RX5 1 objectInit, Cond.instanceMethod objectInit, Cond.code objectInit ⟨#[0xb1]⟩ 1 none, Cond.classLink RX5 7 RX2, Cond.instantiable RX2 2, Cond.initialized RX2, Cond.fieldLink RX5 10 "KeyGuess" "now" "LKeyGuess$Keys;", Cond.fieldLink RX5 16 "KeyGuess" "row" "LKeyGuess$Keys;", Cond.fieldLink RX5 19 "KeyGuess" "tried" "LKeyGuess$Keys;", Cond.classLink RX5 22 RX0, Cond.instantiable RX0 5, Cond.initialized RX0, Cond.fieldLink RX5 25 "KeyGuess" "cuts" "LKeyGuess$Cuts;", Cond.classLink RX5 29 RX4, Cond.instantiable RX4 9, Cond.initialized RX4, Cond.fieldLink RX5 32 "KeyGuess" "tower" "LKeyGuess$Tower;", Cond.classLink RX5 36 RX1, Cond.instantiable RX1 1, Cond.initialized RX1, Cond.fieldLink RX5 39 "KeyGuess" "filter" "LKeyGuess$Filter;", Cond.classLink RX5 43 RX3, Cond.instantiable RX3 2, Cond.initialized RX3]
def wsX5_init_r2 : List Cond := [Cond.fieldLink RX5 46 "KeyGuess" "look" "LKeyGuess$Look;", Cond.fieldLink RX5 50 "KeyGuess" "leeway" "I", Cond.methodLink RX5 9 yX2_init, Cond.instanceMethod yX2_init, Cond.code yX2_init cX2_init 1 none, Cond.methodLink RX2 3 objectInit, Cond.arrayClass .int, Cond.fieldLink RX2 9 "KeyGuess$Keys" "cells" "[I", Cond.methodLink RX5 24 yX0_init, Cond.instanceMethod yX0_init, Cond.code yX0_init cX0_init 1 none, Cond.methodLink RX0 3 objectInit, Cond.fieldLink RX0 9 "KeyGuess$Cuts" "cells" "[I", Cond.fieldLink RX0 15 "KeyGuess$Cuts" "fewest" "[I", Cond.fieldLink RX0 18 "KeyGuess$Cuts" "lasts" "[I", Cond.fieldLink RX0 21 "KeyGuess$Cuts" "slopeNums" "[I", Cond.fieldLink RX0 24 "KeyGuess$Cuts" "slopeDens" "[I", Cond.methodLink RX5 31 yX4_init, Cond.instanceMethod yX4_init, Cond.code yX4_init cX4_init 1 none, Cond.methodLink RX4 3 objectInit, Cond.classLink RX4 9 RX2, Cond.fieldLink RX4 12 "KeyGuess$Tower" "base" "LKeyGuess$Keys;", Cond.fieldLink RX4 18 "KeyGuess$Tower" "starts" "[I"]
def wsX5_init_r3 : List Cond := [Cond.fieldLink RX4 22 "KeyGuess$Tower" "froms" "[I", Cond.fieldLink RX4 25 "KeyGuess$Tower" "lasts" "[I", Cond.fieldLink RX4 28 "KeyGuess$Tower" "firsts" "[I", Cond.fieldLink RX4 31 "KeyGuess$Tower" "slopeNums" "[I", Cond.fieldLink RX4 34 "KeyGuess$Tower" "slopeDens" "[I", Cond.methodLink RX4 11 yX2_init, Cond.instanceMethod yX1_init, Cond.code yX1_init cX1_init 1 none, Cond.methodLink RX1 1 objectInit, Cond.instanceMethod yX3_init, Cond.code yX3_init cX3_init 1 none, Cond.methodLink RX3 3 objectInit]
def wsX5_init : List Cond := .code yX5_init cX5_init 1 none :: ((wsX5_init_r1 ++ (wsX5_init_r2 ++ wsX5_init_r3)) ++ wsX20 ++ wsX50 ++ wsX00 ++ wsX40 ++ wsX10 ++ wsX30)
def wsX5_isNumber : List Cond := .code yX5_isNumber cX5_isNumber 1 (some .boolean) :: ([.constant RX5 95 (1000000)])
def wsX5_makeRow_r1 : List Cond := [Cond.fieldLink RX5 16 "KeyGuess" "row" "LKeyGuess$Keys;", Cond.fieldLink RX5 10 "KeyGuess" "now" "LKeyGuess$Keys;", Cond.fieldLink RX5 71 "KeyGuess" "newKeys" "I", Cond.fieldLink RX5 65 "KeyGuess" "oldKeys" "I", Cond.fieldLink RX5 85 "KeyGuess" "cost" "I", Cond.fieldLink RX5 39 "KeyGuess" "filter" "LKeyGuess$Filter;", Cond.fieldLink RX5 32 "KeyGuess" "tower" "LKeyGuess$Tower;", Cond.fieldLink RX5 25 "KeyGuess" "cuts" "LKeyGuess$Cuts;", Cond.fieldLink RX5 50 "KeyGuess" "leeway" "I", Cond.methodLink RX5 145 yX2_copy, Cond.instanceMethod yX2_copy, Cond.selects RX2 yX2_copy yX2_copy, Cond.initialized RX2, Cond.code yX2_copy cX2_copy 3 none, Cond.fieldLink RX2 15 "KeyGuess$Keys" "size" "I", Cond.methodLink RX2 26 yX2_size, Cond.instanceMethod yX2_size, Cond.selects RX2 yX2_size yX2_size, Cond.code yX2_size cX2_size 1 (some .int), Cond.methodLink RX2 23 yX2_key, Cond.instanceMethod yX2_key, Cond.selects RX2 yX2_key yX2_key, Cond.code yX2_key cX2_key 2 (some .int), Cond.fieldLink RX2 9 "KeyGuess$Keys" "cells" "[I"]
def wsX5_makeRow_r2 : List Cond := [Cond.methodLink RX2 29 yX2_append, Cond.instanceMethod yX2_append, Cond.selects RX2 yX2_append yX2_append, Cond.code yX2_append cX2_append 2 none, Cond.methodLink RX5 61 yX2_size, Cond.methodLink RX5 149 yX1_clear, Cond.instanceMethod yX1_clear, Cond.selects RX1 yX1_clear yX1_clear, Cond.initialized RX1, Cond.code yX1_clear cX1_clear 1 none, Cond.fieldLink RX1 7 "KeyGuess$Filter" "bits" "J", Cond.methodLink RX5 92 yX2_key, Cond.methodLink RX5 78 yX1_add, Cond.instanceMethod yX1_add, Cond.selects RX1 yX1_add yX1_add, Cond.code yX1_add cX1_add 2 none, Cond.methodLink RX1 13 yX1_bitsOf, Cond.static yX1_bitsOf, Cond.code yX1_bitsOf cX1_bitsOf 1 (some .long), Cond.methodLink RX5 152 yX4_build, Cond.instanceMethod yX4_build, Cond.selects RX4 yX4_build yX4_build, Cond.initialized RX4, Cond.code yX4_build cX4_build 6 none]
def wsX5_makeRow_r3 : List Cond := [Cond.fieldLink RX4 37 "KeyGuess$Tower" "height" "I", Cond.fieldLink RX4 49 "KeyGuess$Tower" "size" "I", Cond.fieldLink RX4 12 "KeyGuess$Tower" "base" "LKeyGuess$Keys;", Cond.methodLink RX4 52 yX2_copy, Cond.methodLink RX4 56 yX2_size, Cond.methodLink RX4 59 yX0_cut, Cond.instanceMethod yX0_cut, Cond.selects RX0 yX0_cut yX0_cut, Cond.initialized RX0, Cond.code yX0_cut cX0_cut 5 none, Cond.methodLink RX0 33 Lib.Math.min.name, Cond.static Lib.Math.min.name, Cond.initialized "java/lang/Math", Cond.code Lib.Math.min.name Lib.Math.min.code 2 (some .int), Cond.fieldLink RX0 9 "KeyGuess$Cuts" "cells" "[I", Cond.fieldLink RX0 15 "KeyGuess$Cuts" "fewest" "[I", Cond.methodLink RX0 27 yX2_size, Cond.methodLink RX0 39 yX2_key, Cond.methodLink RX0 43 yX0_cutFrom, Cond.instanceMethod yX0_cutFrom, Cond.selects RX0 yX0_cutFrom yX0_cutFrom, Cond.code yX0_cutFrom cX0_cutFrom 12 none, Cond.fieldLink RX0 18 "KeyGuess$Cuts" "lasts" "[I", Cond.fieldLink RX0 21 "KeyGuess$Cuts" "slopeNums" "[I"]
def wsX5_makeRow_r4 : List Cond := [Cond.fieldLink RX0 24 "KeyGuess$Cuts" "slopeDens" "[I", Cond.methodLink RX4 65 yX4_raise, Cond.instanceMethod yX4_raise, Cond.selects RX4 yX4_raise yX4_raise, Cond.code yX4_raise cX4_raise 5 none, Cond.fieldLink RX4 18 "KeyGuess$Tower" "starts" "[I", Cond.methodLink RX4 85 yX4_lay, Cond.instanceMethod yX4_lay, Cond.selects RX4 yX4_lay yX4_lay, Cond.code yX4_lay cX4_lay 6 none, Cond.fieldLink RX4 22 "KeyGuess$Tower" "froms" "[I", Cond.fieldLink RX4 25 "KeyGuess$Tower" "lasts" "[I", Cond.fieldLink RX4 28 "KeyGuess$Tower" "firsts" "[I", Cond.fieldLink RX4 31 "KeyGuess$Tower" "slopeNums" "[I", Cond.fieldLink RX4 34 "KeyGuess$Tower" "slopeDens" "[I", Cond.methodLink RX4 91 yX0_slopeNum, Cond.instanceMethod yX0_slopeNum, Cond.selects RX0 yX0_slopeNum yX0_slopeNum, Cond.code yX0_slopeNum cX0_slopeNum 2 (some .int), Cond.methodLink RX0 47 yX0_isRank, Cond.static yX0_isRank, Cond.code yX0_isRank cX0_isRank 1 (some .boolean), Cond.methodLink RX4 94 yX0_slopeDen, Cond.instanceMethod yX0_slopeDen]
def wsX5_makeRow_r5 : List Cond := [Cond.selects RX0 yX0_slopeDen yX0_slopeDen, Cond.code yX0_slopeDen cX0_slopeDen 2 (some .int), Cond.methodLink RX4 97 yX4_commonDivisor, Cond.static yX4_commonDivisor, Cond.code yX4_commonDivisor cX4_commonDivisor 4 (some .int), Cond.methodLink RX4 88 yX0_lastOf, Cond.instanceMethod yX0_lastOf, Cond.selects RX0 yX0_lastOf yX0_lastOf, Cond.code yX0_lastOf cX0_lastOf 2 (some .int), Cond.methodLink RX4 100 yX2_key, Cond.methodLink RX4 41 yX4_width, Cond.instanceMethod yX4_width, Cond.selects RX4 yX4_width yX4_width, Cond.code yX4_width cX4_width 2 (some .int), Cond.methodLink RX4 69 yX4_layBase, Cond.instanceMethod yX4_layBase, Cond.selects RX4 yX4_layBase yX4_layBase, Cond.code yX4_layBase cX4_layBase 3 none, Cond.methodLink RX4 103 yX2_clear, Cond.instanceMethod yX2_clear, Cond.selects RX2 yX2_clear yX2_clear, Cond.code yX2_clear cX2_clear 1 none, Cond.methodLink RX4 106 yX4_tell, Cond.instanceMethod yX4_tell]
def wsX5_makeRow_r6 : List Cond := [Cond.selects RX4 yX4_tell yX4_tell, Cond.code yX4_tell cX4_tell 5 (some .int), Cond.methodLink RX4 45 yX4_isPiece, Cond.instanceMethod yX4_isPiece, Cond.selects RX4 yX4_isPiece yX4_isPiece, Cond.code yX4_isPiece cX4_isPiece 2 (some .boolean), Cond.methodLink RX4 110 yX2_append]
def wsX5_makeRow : List Cond := .code yX5_makeRow cX5_makeRow 2 none :: ((wsX5_makeRow_r1 ++ (wsX5_makeRow_r2 ++ (wsX5_makeRow_r3 ++ (wsX5_makeRow_r4 ++ (wsX5_makeRow_r5 ++ wsX5_makeRow_r6))))) ++ wsX50 ++ wsX20 ++ wsX10 ++ wsX40 ++ wsX00)
def wsX5_clearAsideIfFull_r1 : List Cond := [Cond.fieldLink RX5 71 "KeyGuess" "newKeys" "I", Cond.fieldLink RX5 65 "KeyGuess" "oldKeys" "I", Cond.methodLink RX5 82 yX5_makeRow, Cond.instanceMethod yX5_makeRow, Cond.selects RX5 yX5_makeRow yX5_makeRow, Cond.initialized RX5, Cond.code yX5_makeRow cX5_makeRow 2 none, Cond.fieldLink RX5 16 "KeyGuess" "row" "LKeyGuess$Keys;", Cond.fieldLink RX5 10 "KeyGuess" "now" "LKeyGuess$Keys;", Cond.fieldLink RX5 85 "KeyGuess" "cost" "I", Cond.fieldLink RX5 39 "KeyGuess" "filter" "LKeyGuess$Filter;", Cond.fieldLink RX5 32 "KeyGuess" "tower" "LKeyGuess$Tower;", Cond.fieldLink RX5 25 "KeyGuess" "cuts" "LKeyGuess$Cuts;", Cond.fieldLink RX5 50 "KeyGuess" "leeway" "I", Cond.methodLink RX5 145 yX2_copy, Cond.instanceMethod yX2_copy, Cond.selects RX2 yX2_copy yX2_copy, Cond.initialized RX2, Cond.code yX2_copy cX2_copy 3 none, Cond.fieldLink RX2 15 "KeyGuess$Keys" "size" "I", Cond.methodLink RX2 26 yX2_size, Cond.instanceMethod yX2_size, Cond.selects RX2 yX2_size yX2_size, Cond.code yX2_size cX2_size 1 (some .int)]
def wsX5_clearAsideIfFull_r2 : List Cond := [Cond.methodLink RX2 23 yX2_key, Cond.instanceMethod yX2_key, Cond.selects RX2 yX2_key yX2_key, Cond.code yX2_key cX2_key 2 (some .int), Cond.fieldLink RX2 9 "KeyGuess$Keys" "cells" "[I", Cond.methodLink RX2 29 yX2_append, Cond.instanceMethod yX2_append, Cond.selects RX2 yX2_append yX2_append, Cond.code yX2_append cX2_append 2 none, Cond.methodLink RX5 61 yX2_size, Cond.methodLink RX5 149 yX1_clear, Cond.instanceMethod yX1_clear, Cond.selects RX1 yX1_clear yX1_clear, Cond.initialized RX1, Cond.code yX1_clear cX1_clear 1 none, Cond.fieldLink RX1 7 "KeyGuess$Filter" "bits" "J", Cond.methodLink RX5 92 yX2_key, Cond.methodLink RX5 78 yX1_add, Cond.instanceMethod yX1_add, Cond.selects RX1 yX1_add yX1_add, Cond.code yX1_add cX1_add 2 none, Cond.methodLink RX1 13 yX1_bitsOf, Cond.static yX1_bitsOf, Cond.code yX1_bitsOf cX1_bitsOf 1 (some .long)]
def wsX5_clearAsideIfFull_r3 : List Cond := [Cond.methodLink RX5 152 yX4_build, Cond.instanceMethod yX4_build, Cond.selects RX4 yX4_build yX4_build, Cond.initialized RX4, Cond.code yX4_build cX4_build 6 none, Cond.fieldLink RX4 37 "KeyGuess$Tower" "height" "I", Cond.fieldLink RX4 49 "KeyGuess$Tower" "size" "I", Cond.fieldLink RX4 12 "KeyGuess$Tower" "base" "LKeyGuess$Keys;", Cond.methodLink RX4 52 yX2_copy, Cond.methodLink RX4 56 yX2_size, Cond.methodLink RX4 59 yX0_cut, Cond.instanceMethod yX0_cut, Cond.selects RX0 yX0_cut yX0_cut, Cond.initialized RX0, Cond.code yX0_cut cX0_cut 5 none, Cond.methodLink RX0 33 Lib.Math.min.name, Cond.static Lib.Math.min.name, Cond.initialized "java/lang/Math", Cond.code Lib.Math.min.name Lib.Math.min.code 2 (some .int), Cond.fieldLink RX0 9 "KeyGuess$Cuts" "cells" "[I", Cond.fieldLink RX0 15 "KeyGuess$Cuts" "fewest" "[I", Cond.methodLink RX0 27 yX2_size, Cond.methodLink RX0 39 yX2_key, Cond.methodLink RX0 43 yX0_cutFrom]
def wsX5_clearAsideIfFull_r4 : List Cond := [Cond.instanceMethod yX0_cutFrom, Cond.selects RX0 yX0_cutFrom yX0_cutFrom, Cond.code yX0_cutFrom cX0_cutFrom 12 none, Cond.fieldLink RX0 18 "KeyGuess$Cuts" "lasts" "[I", Cond.fieldLink RX0 21 "KeyGuess$Cuts" "slopeNums" "[I", Cond.fieldLink RX0 24 "KeyGuess$Cuts" "slopeDens" "[I", Cond.methodLink RX4 65 yX4_raise, Cond.instanceMethod yX4_raise, Cond.selects RX4 yX4_raise yX4_raise, Cond.code yX4_raise cX4_raise 5 none, Cond.fieldLink RX4 18 "KeyGuess$Tower" "starts" "[I", Cond.methodLink RX4 85 yX4_lay, Cond.instanceMethod yX4_lay, Cond.selects RX4 yX4_lay yX4_lay, Cond.code yX4_lay cX4_lay 6 none, Cond.fieldLink RX4 22 "KeyGuess$Tower" "froms" "[I", Cond.fieldLink RX4 25 "KeyGuess$Tower" "lasts" "[I", Cond.fieldLink RX4 28 "KeyGuess$Tower" "firsts" "[I", Cond.fieldLink RX4 31 "KeyGuess$Tower" "slopeNums" "[I", Cond.fieldLink RX4 34 "KeyGuess$Tower" "slopeDens" "[I", Cond.methodLink RX4 91 yX0_slopeNum, Cond.instanceMethod yX0_slopeNum, Cond.selects RX0 yX0_slopeNum yX0_slopeNum, Cond.code yX0_slopeNum cX0_slopeNum 2 (some .int)]
def wsX5_clearAsideIfFull_r5 : List Cond := [Cond.methodLink RX0 47 yX0_isRank, Cond.static yX0_isRank, Cond.code yX0_isRank cX0_isRank 1 (some .boolean), Cond.methodLink RX4 94 yX0_slopeDen, Cond.instanceMethod yX0_slopeDen, Cond.selects RX0 yX0_slopeDen yX0_slopeDen, Cond.code yX0_slopeDen cX0_slopeDen 2 (some .int), Cond.methodLink RX4 97 yX4_commonDivisor, Cond.static yX4_commonDivisor, Cond.code yX4_commonDivisor cX4_commonDivisor 4 (some .int), Cond.methodLink RX4 88 yX0_lastOf, Cond.instanceMethod yX0_lastOf, Cond.selects RX0 yX0_lastOf yX0_lastOf, Cond.code yX0_lastOf cX0_lastOf 2 (some .int), Cond.methodLink RX4 100 yX2_key, Cond.methodLink RX4 41 yX4_width, Cond.instanceMethod yX4_width, Cond.selects RX4 yX4_width yX4_width, Cond.code yX4_width cX4_width 2 (some .int), Cond.methodLink RX4 69 yX4_layBase, Cond.instanceMethod yX4_layBase, Cond.selects RX4 yX4_layBase yX4_layBase, Cond.code yX4_layBase cX4_layBase 3 none, Cond.methodLink RX4 103 yX2_clear]
def wsX5_clearAsideIfFull_r6 : List Cond := [Cond.instanceMethod yX2_clear, Cond.selects RX2 yX2_clear yX2_clear, Cond.code yX2_clear cX2_clear 1 none, Cond.methodLink RX4 106 yX4_tell, Cond.instanceMethod yX4_tell, Cond.selects RX4 yX4_tell yX4_tell, Cond.code yX4_tell cX4_tell 5 (some .int), Cond.methodLink RX4 45 yX4_isPiece, Cond.instanceMethod yX4_isPiece, Cond.selects RX4 yX4_isPiece yX4_isPiece, Cond.code yX4_isPiece cX4_isPiece 2 (some .boolean), Cond.methodLink RX4 110 yX2_append]
def wsX5_clearAsideIfFull : List Cond := .code yX5_clearAsideIfFull cX5_clearAsideIfFull 1 none :: ((wsX5_clearAsideIfFull_r1 ++ (wsX5_clearAsideIfFull_r2 ++ (wsX5_clearAsideIfFull_r3 ++ (wsX5_clearAsideIfFull_r4 ++ (wsX5_clearAsideIfFull_r5 ++ wsX5_clearAsideIfFull_r6))))) ++ wsX50 ++ wsX20 ++ wsX10 ++ wsX40 ++ wsX00)
def wsX5_put_r1 : List Cond := [Cond.fieldLink RX5 10 "KeyGuess" "now" "LKeyGuess$Keys;", Cond.fieldLink RX5 16 "KeyGuess" "row" "LKeyGuess$Keys;", Cond.fieldLink RX5 65 "KeyGuess" "oldKeys" "I", Cond.fieldLink RX5 71 "KeyGuess" "newKeys" "I", Cond.fieldLink RX5 39 "KeyGuess" "filter" "LKeyGuess$Filter;", Cond.methodLink RX5 54 yX5_isNumber, Cond.static yX5_isNumber, Cond.initialized RX5, Cond.code yX5_isNumber cX5_isNumber 1 (some .boolean), Cond.constant RX5 95 (1000000), Cond.methodLink RX5 58 yX2_has, Cond.instanceMethod yX2_has, Cond.selects RX2 yX2_has yX2_has, Cond.initialized RX2, Cond.code yX2_has cX2_has 3 (some .boolean), Cond.fieldLink RX2 15 "KeyGuess$Keys" "size" "I", Cond.fieldLink RX2 9 "KeyGuess$Keys" "cells" "[I", Cond.methodLink RX2 19 yX2_below, Cond.instanceMethod yX2_below, Cond.selects RX2 yX2_below yX2_below, Cond.code yX2_below cX2_below 3 (some .int), Cond.methodLink RX5 61 yX2_size, Cond.instanceMethod yX2_size, Cond.selects RX2 yX2_size yX2_size]
def wsX5_put_r2 : List Cond := [Cond.code yX2_size cX2_size 1 (some .int), Cond.methodLink RX5 68 yX5_clearAsideIfFull, Cond.instanceMethod yX5_clearAsideIfFull, Cond.selects RX5 yX5_clearAsideIfFull yX5_clearAsideIfFull, Cond.code yX5_clearAsideIfFull cX5_clearAsideIfFull 1 none, Cond.methodLink RX5 82 yX5_makeRow, Cond.instanceMethod yX5_makeRow, Cond.selects RX5 yX5_makeRow yX5_makeRow, Cond.code yX5_makeRow cX5_makeRow 2 none, Cond.fieldLink RX5 85 "KeyGuess" "cost" "I", Cond.fieldLink RX5 32 "KeyGuess" "tower" "LKeyGuess$Tower;", Cond.fieldLink RX5 25 "KeyGuess" "cuts" "LKeyGuess$Cuts;", Cond.fieldLink RX5 50 "KeyGuess" "leeway" "I", Cond.methodLink RX5 145 yX2_copy, Cond.instanceMethod yX2_copy, Cond.selects RX2 yX2_copy yX2_copy, Cond.code yX2_copy cX2_copy 3 none, Cond.methodLink RX2 26 yX2_size, Cond.methodLink RX2 23 yX2_key, Cond.instanceMethod yX2_key, Cond.selects RX2 yX2_key yX2_key, Cond.code yX2_key cX2_key 2 (some .int), Cond.methodLink RX2 29 yX2_append, Cond.instanceMethod yX2_append]
def wsX5_put_r3 : List Cond := [Cond.selects RX2 yX2_append yX2_append, Cond.code yX2_append cX2_append 2 none, Cond.methodLink RX5 149 yX1_clear, Cond.instanceMethod yX1_clear, Cond.selects RX1 yX1_clear yX1_clear, Cond.initialized RX1, Cond.code yX1_clear cX1_clear 1 none, Cond.fieldLink RX1 7 "KeyGuess$Filter" "bits" "J", Cond.methodLink RX5 92 yX2_key, Cond.methodLink RX5 78 yX1_add, Cond.instanceMethod yX1_add, Cond.selects RX1 yX1_add yX1_add, Cond.code yX1_add cX1_add 2 none, Cond.methodLink RX1 13 yX1_bitsOf, Cond.static yX1_bitsOf, Cond.code yX1_bitsOf cX1_bitsOf 1 (some .long), Cond.methodLink RX5 152 yX4_build, Cond.instanceMethod yX4_build, Cond.selects RX4 yX4_build yX4_build, Cond.initialized RX4, Cond.code yX4_build cX4_build 6 none, Cond.fieldLink RX4 37 "KeyGuess$Tower" "height" "I", Cond.fieldLink RX4 49 "KeyGuess$Tower" "size" "I", Cond.fieldLink RX4 12 "KeyGuess$Tower" "base" "LKeyGuess$Keys;"]
def wsX5_put_r4 : List Cond := [Cond.methodLink RX4 52 yX2_copy, Cond.methodLink RX4 56 yX2_size, Cond.methodLink RX4 59 yX0_cut, Cond.instanceMethod yX0_cut, Cond.selects RX0 yX0_cut yX0_cut, Cond.initialized RX0, Cond.code yX0_cut cX0_cut 5 none, Cond.methodLink RX0 33 Lib.Math.min.name, Cond.static Lib.Math.min.name, Cond.initialized "java/lang/Math", Cond.code Lib.Math.min.name Lib.Math.min.code 2 (some .int), Cond.fieldLink RX0 9 "KeyGuess$Cuts" "cells" "[I", Cond.fieldLink RX0 15 "KeyGuess$Cuts" "fewest" "[I", Cond.methodLink RX0 27 yX2_size, Cond.methodLink RX0 39 yX2_key, Cond.methodLink RX0 43 yX0_cutFrom, Cond.instanceMethod yX0_cutFrom, Cond.selects RX0 yX0_cutFrom yX0_cutFrom, Cond.code yX0_cutFrom cX0_cutFrom 12 none, Cond.fieldLink RX0 18 "KeyGuess$Cuts" "lasts" "[I", Cond.fieldLink RX0 21 "KeyGuess$Cuts" "slopeNums" "[I", Cond.fieldLink RX0 24 "KeyGuess$Cuts" "slopeDens" "[I", Cond.methodLink RX4 65 yX4_raise, Cond.instanceMethod yX4_raise]
def wsX5_put_r5 : List Cond := [Cond.selects RX4 yX4_raise yX4_raise, Cond.code yX4_raise cX4_raise 5 none, Cond.fieldLink RX4 18 "KeyGuess$Tower" "starts" "[I", Cond.methodLink RX4 85 yX4_lay, Cond.instanceMethod yX4_lay, Cond.selects RX4 yX4_lay yX4_lay, Cond.code yX4_lay cX4_lay 6 none, Cond.fieldLink RX4 22 "KeyGuess$Tower" "froms" "[I", Cond.fieldLink RX4 25 "KeyGuess$Tower" "lasts" "[I", Cond.fieldLink RX4 28 "KeyGuess$Tower" "firsts" "[I", Cond.fieldLink RX4 31 "KeyGuess$Tower" "slopeNums" "[I", Cond.fieldLink RX4 34 "KeyGuess$Tower" "slopeDens" "[I", Cond.methodLink RX4 91 yX0_slopeNum, Cond.instanceMethod yX0_slopeNum, Cond.selects RX0 yX0_slopeNum yX0_slopeNum, Cond.code yX0_slopeNum cX0_slopeNum 2 (some .int), Cond.methodLink RX0 47 yX0_isRank, Cond.static yX0_isRank, Cond.code yX0_isRank cX0_isRank 1 (some .boolean), Cond.methodLink RX4 94 yX0_slopeDen, Cond.instanceMethod yX0_slopeDen, Cond.selects RX0 yX0_slopeDen yX0_slopeDen, Cond.code yX0_slopeDen cX0_slopeDen 2 (some .int), Cond.methodLink RX4 97 yX4_commonDivisor]
def wsX5_put_r6 : List Cond := [Cond.static yX4_commonDivisor, Cond.code yX4_commonDivisor cX4_commonDivisor 4 (some .int), Cond.methodLink RX4 88 yX0_lastOf, Cond.instanceMethod yX0_lastOf, Cond.selects RX0 yX0_lastOf yX0_lastOf, Cond.code yX0_lastOf cX0_lastOf 2 (some .int), Cond.methodLink RX4 100 yX2_key, Cond.methodLink RX4 41 yX4_width, Cond.instanceMethod yX4_width, Cond.selects RX4 yX4_width yX4_width, Cond.code yX4_width cX4_width 2 (some .int), Cond.methodLink RX4 69 yX4_layBase, Cond.instanceMethod yX4_layBase, Cond.selects RX4 yX4_layBase yX4_layBase, Cond.code yX4_layBase cX4_layBase 3 none, Cond.methodLink RX4 103 yX2_clear, Cond.instanceMethod yX2_clear, Cond.selects RX2 yX2_clear yX2_clear, Cond.code yX2_clear cX2_clear 1 none, Cond.methodLink RX4 106 yX4_tell, Cond.instanceMethod yX4_tell, Cond.selects RX4 yX4_tell yX4_tell, Cond.code yX4_tell cX4_tell 5 (some .int), Cond.methodLink RX4 45 yX4_isPiece]
def wsX5_put_r7 : List Cond := [Cond.instanceMethod yX4_isPiece, Cond.selects RX4 yX4_isPiece yX4_isPiece, Cond.code yX4_isPiece cX4_isPiece 2 (some .boolean), Cond.methodLink RX4 110 yX2_append, Cond.methodLink RX5 74 yX2_add, Cond.instanceMethod yX2_add, Cond.selects RX2 yX2_add yX2_add, Cond.code yX2_add cX2_add 4 none, Cond.methodLink RX2 33 yX2_has]
def wsX5_put : List Cond := .code yX5_put cX5_put 2 (some .int) :: ((wsX5_put_r1 ++ (wsX5_put_r2 ++ (wsX5_put_r3 ++ (wsX5_put_r4 ++ (wsX5_put_r5 ++ (wsX5_put_r6 ++ wsX5_put_r7)))))) ++ wsX50 ++ wsX20 ++ wsX10 ++ wsX40 ++ wsX00)
def wsX5_take_r1 : List Cond := [Cond.fieldLink RX5 10 "KeyGuess" "now" "LKeyGuess$Keys;", Cond.fieldLink RX5 16 "KeyGuess" "row" "LKeyGuess$Keys;", Cond.fieldLink RX5 65 "KeyGuess" "oldKeys" "I", Cond.fieldLink RX5 71 "KeyGuess" "newKeys" "I", Cond.methodLink RX5 54 yX5_isNumber, Cond.static yX5_isNumber, Cond.initialized RX5, Cond.code yX5_isNumber cX5_isNumber 1 (some .boolean), Cond.constant RX5 95 (1000000), Cond.methodLink RX5 58 yX2_has, Cond.instanceMethod yX2_has, Cond.selects RX2 yX2_has yX2_has, Cond.initialized RX2, Cond.code yX2_has cX2_has 3 (some .boolean), Cond.fieldLink RX2 15 "KeyGuess$Keys" "size" "I", Cond.fieldLink RX2 9 "KeyGuess$Keys" "cells" "[I", Cond.methodLink RX2 19 yX2_below, Cond.instanceMethod yX2_below, Cond.selects RX2 yX2_below yX2_below, Cond.code yX2_below cX2_below 3 (some .int), Cond.methodLink RX5 68 yX5_clearAsideIfFull, Cond.instanceMethod yX5_clearAsideIfFull, Cond.selects RX5 yX5_clearAsideIfFull yX5_clearAsideIfFull, Cond.code yX5_clearAsideIfFull cX5_clearAsideIfFull 1 none]
def wsX5_take_r2 : List Cond := [Cond.methodLink RX5 82 yX5_makeRow, Cond.instanceMethod yX5_makeRow, Cond.selects RX5 yX5_makeRow yX5_makeRow, Cond.code yX5_makeRow cX5_makeRow 2 none, Cond.fieldLink RX5 85 "KeyGuess" "cost" "I", Cond.fieldLink RX5 39 "KeyGuess" "filter" "LKeyGuess$Filter;", Cond.fieldLink RX5 32 "KeyGuess" "tower" "LKeyGuess$Tower;", Cond.fieldLink RX5 25 "KeyGuess" "cuts" "LKeyGuess$Cuts;", Cond.fieldLink RX5 50 "KeyGuess" "leeway" "I", Cond.methodLink RX5 145 yX2_copy, Cond.instanceMethod yX2_copy, Cond.selects RX2 yX2_copy yX2_copy, Cond.code yX2_copy cX2_copy 3 none, Cond.methodLink RX2 26 yX2_size, Cond.instanceMethod yX2_size, Cond.selects RX2 yX2_size yX2_size, Cond.code yX2_size cX2_size 1 (some .int), Cond.methodLink RX2 23 yX2_key, Cond.instanceMethod yX2_key, Cond.selects RX2 yX2_key yX2_key, Cond.code yX2_key cX2_key 2 (some .int), Cond.methodLink RX2 29 yX2_append, Cond.instanceMethod yX2_append, Cond.selects RX2 yX2_append yX2_append]
def wsX5_take_r3 : List Cond := [Cond.code yX2_append cX2_append 2 none, Cond.methodLink RX5 61 yX2_size, Cond.methodLink RX5 149 yX1_clear, Cond.instanceMethod yX1_clear, Cond.selects RX1 yX1_clear yX1_clear, Cond.initialized RX1, Cond.code yX1_clear cX1_clear 1 none, Cond.fieldLink RX1 7 "KeyGuess$Filter" "bits" "J", Cond.methodLink RX5 92 yX2_key, Cond.methodLink RX5 78 yX1_add, Cond.instanceMethod yX1_add, Cond.selects RX1 yX1_add yX1_add, Cond.code yX1_add cX1_add 2 none, Cond.methodLink RX1 13 yX1_bitsOf, Cond.static yX1_bitsOf, Cond.code yX1_bitsOf cX1_bitsOf 1 (some .long), Cond.methodLink RX5 152 yX4_build, Cond.instanceMethod yX4_build, Cond.selects RX4 yX4_build yX4_build, Cond.initialized RX4, Cond.code yX4_build cX4_build 6 none, Cond.fieldLink RX4 37 "KeyGuess$Tower" "height" "I", Cond.fieldLink RX4 49 "KeyGuess$Tower" "size" "I", Cond.fieldLink RX4 12 "KeyGuess$Tower" "base" "LKeyGuess$Keys;"]
def wsX5_take_r4 : List Cond := [Cond.methodLink RX4 52 yX2_copy, Cond.methodLink RX4 56 yX2_size, Cond.methodLink RX4 59 yX0_cut, Cond.instanceMethod yX0_cut, Cond.selects RX0 yX0_cut yX0_cut, Cond.initialized RX0, Cond.code yX0_cut cX0_cut 5 none, Cond.methodLink RX0 33 Lib.Math.min.name, Cond.static Lib.Math.min.name, Cond.initialized "java/lang/Math", Cond.code Lib.Math.min.name Lib.Math.min.code 2 (some .int), Cond.fieldLink RX0 9 "KeyGuess$Cuts" "cells" "[I", Cond.fieldLink RX0 15 "KeyGuess$Cuts" "fewest" "[I", Cond.methodLink RX0 27 yX2_size, Cond.methodLink RX0 39 yX2_key, Cond.methodLink RX0 43 yX0_cutFrom, Cond.instanceMethod yX0_cutFrom, Cond.selects RX0 yX0_cutFrom yX0_cutFrom, Cond.code yX0_cutFrom cX0_cutFrom 12 none, Cond.fieldLink RX0 18 "KeyGuess$Cuts" "lasts" "[I", Cond.fieldLink RX0 21 "KeyGuess$Cuts" "slopeNums" "[I", Cond.fieldLink RX0 24 "KeyGuess$Cuts" "slopeDens" "[I", Cond.methodLink RX4 65 yX4_raise, Cond.instanceMethod yX4_raise]
def wsX5_take_r5 : List Cond := [Cond.selects RX4 yX4_raise yX4_raise, Cond.code yX4_raise cX4_raise 5 none, Cond.fieldLink RX4 18 "KeyGuess$Tower" "starts" "[I", Cond.methodLink RX4 85 yX4_lay, Cond.instanceMethod yX4_lay, Cond.selects RX4 yX4_lay yX4_lay, Cond.code yX4_lay cX4_lay 6 none, Cond.fieldLink RX4 22 "KeyGuess$Tower" "froms" "[I", Cond.fieldLink RX4 25 "KeyGuess$Tower" "lasts" "[I", Cond.fieldLink RX4 28 "KeyGuess$Tower" "firsts" "[I", Cond.fieldLink RX4 31 "KeyGuess$Tower" "slopeNums" "[I", Cond.fieldLink RX4 34 "KeyGuess$Tower" "slopeDens" "[I", Cond.methodLink RX4 91 yX0_slopeNum, Cond.instanceMethod yX0_slopeNum, Cond.selects RX0 yX0_slopeNum yX0_slopeNum, Cond.code yX0_slopeNum cX0_slopeNum 2 (some .int), Cond.methodLink RX0 47 yX0_isRank, Cond.static yX0_isRank, Cond.code yX0_isRank cX0_isRank 1 (some .boolean), Cond.methodLink RX4 94 yX0_slopeDen, Cond.instanceMethod yX0_slopeDen, Cond.selects RX0 yX0_slopeDen yX0_slopeDen, Cond.code yX0_slopeDen cX0_slopeDen 2 (some .int), Cond.methodLink RX4 97 yX4_commonDivisor]
def wsX5_take_r6 : List Cond := [Cond.static yX4_commonDivisor, Cond.code yX4_commonDivisor cX4_commonDivisor 4 (some .int), Cond.methodLink RX4 88 yX0_lastOf, Cond.instanceMethod yX0_lastOf, Cond.selects RX0 yX0_lastOf yX0_lastOf, Cond.code yX0_lastOf cX0_lastOf 2 (some .int), Cond.methodLink RX4 100 yX2_key, Cond.methodLink RX4 41 yX4_width, Cond.instanceMethod yX4_width, Cond.selects RX4 yX4_width yX4_width, Cond.code yX4_width cX4_width 2 (some .int), Cond.methodLink RX4 69 yX4_layBase, Cond.instanceMethod yX4_layBase, Cond.selects RX4 yX4_layBase yX4_layBase, Cond.code yX4_layBase cX4_layBase 3 none, Cond.methodLink RX4 103 yX2_clear, Cond.instanceMethod yX2_clear, Cond.selects RX2 yX2_clear yX2_clear, Cond.code yX2_clear cX2_clear 1 none, Cond.methodLink RX4 106 yX4_tell, Cond.instanceMethod yX4_tell, Cond.selects RX4 yX4_tell yX4_tell, Cond.code yX4_tell cX4_tell 5 (some .int), Cond.methodLink RX4 45 yX4_isPiece]
def wsX5_take_r7 : List Cond := [Cond.instanceMethod yX4_isPiece, Cond.selects RX4 yX4_isPiece yX4_isPiece, Cond.code yX4_isPiece cX4_isPiece 2 (some .boolean), Cond.methodLink RX4 110 yX2_append, Cond.methodLink RX5 79 yX2_drop, Cond.instanceMethod yX2_drop, Cond.selects RX2 yX2_drop yX2_drop, Cond.code yX2_drop cX2_drop 3 none, Cond.methodLink RX2 33 yX2_has]
def wsX5_take : List Cond := .code yX5_take cX5_take 2 (some .int) :: ((wsX5_take_r1 ++ (wsX5_take_r2 ++ (wsX5_take_r3 ++ (wsX5_take_r4 ++ (wsX5_take_r5 ++ (wsX5_take_r6 ++ wsX5_take_r7)))))) ++ wsX50 ++ wsX20 ++ wsX10 ++ wsX40 ++ wsX00)
def wsX5_make_r1 : List Cond := [Cond.fieldLink RX5 85 "KeyGuess" "cost" "I", Cond.methodLink RX5 82 yX5_makeRow, Cond.instanceMethod yX5_makeRow, Cond.selects RX5 yX5_makeRow yX5_makeRow, Cond.initialized RX5, Cond.code yX5_makeRow cX5_makeRow 2 none, Cond.fieldLink RX5 16 "KeyGuess" "row" "LKeyGuess$Keys;", Cond.fieldLink RX5 10 "KeyGuess" "now" "LKeyGuess$Keys;", Cond.fieldLink RX5 71 "KeyGuess" "newKeys" "I", Cond.fieldLink RX5 65 "KeyGuess" "oldKeys" "I", Cond.fieldLink RX5 39 "KeyGuess" "filter" "LKeyGuess$Filter;", Cond.fieldLink RX5 32 "KeyGuess" "tower" "LKeyGuess$Tower;", Cond.fieldLink RX5 25 "KeyGuess" "cuts" "LKeyGuess$Cuts;", Cond.fieldLink RX5 50 "KeyGuess" "leeway" "I", Cond.methodLink RX5 145 yX2_copy, Cond.instanceMethod yX2_copy, Cond.selects RX2 yX2_copy yX2_copy, Cond.initialized RX2, Cond.code yX2_copy cX2_copy 3 none, Cond.fieldLink RX2 15 "KeyGuess$Keys" "size" "I", Cond.methodLink RX2 26 yX2_size, Cond.instanceMethod yX2_size, Cond.selects RX2 yX2_size yX2_size, Cond.code yX2_size cX2_size 1 (some .int)]
def wsX5_make_r2 : List Cond := [Cond.methodLink RX2 23 yX2_key, Cond.instanceMethod yX2_key, Cond.selects RX2 yX2_key yX2_key, Cond.code yX2_key cX2_key 2 (some .int), Cond.fieldLink RX2 9 "KeyGuess$Keys" "cells" "[I", Cond.methodLink RX2 29 yX2_append, Cond.instanceMethod yX2_append, Cond.selects RX2 yX2_append yX2_append, Cond.code yX2_append cX2_append 2 none, Cond.methodLink RX5 61 yX2_size, Cond.methodLink RX5 149 yX1_clear, Cond.instanceMethod yX1_clear, Cond.selects RX1 yX1_clear yX1_clear, Cond.initialized RX1, Cond.code yX1_clear cX1_clear 1 none, Cond.fieldLink RX1 7 "KeyGuess$Filter" "bits" "J", Cond.methodLink RX5 92 yX2_key, Cond.methodLink RX5 78 yX1_add, Cond.instanceMethod yX1_add, Cond.selects RX1 yX1_add yX1_add, Cond.code yX1_add cX1_add 2 none, Cond.methodLink RX1 13 yX1_bitsOf, Cond.static yX1_bitsOf, Cond.code yX1_bitsOf cX1_bitsOf 1 (some .long)]
def wsX5_make_r3 : List Cond := [Cond.methodLink RX5 152 yX4_build, Cond.instanceMethod yX4_build, Cond.selects RX4 yX4_build yX4_build, Cond.initialized RX4, Cond.code yX4_build cX4_build 6 none, Cond.fieldLink RX4 37 "KeyGuess$Tower" "height" "I", Cond.fieldLink RX4 49 "KeyGuess$Tower" "size" "I", Cond.fieldLink RX4 12 "KeyGuess$Tower" "base" "LKeyGuess$Keys;", Cond.methodLink RX4 52 yX2_copy, Cond.methodLink RX4 56 yX2_size, Cond.methodLink RX4 59 yX0_cut, Cond.instanceMethod yX0_cut, Cond.selects RX0 yX0_cut yX0_cut, Cond.initialized RX0, Cond.code yX0_cut cX0_cut 5 none, Cond.methodLink RX0 33 Lib.Math.min.name, Cond.static Lib.Math.min.name, Cond.initialized "java/lang/Math", Cond.code Lib.Math.min.name Lib.Math.min.code 2 (some .int), Cond.fieldLink RX0 9 "KeyGuess$Cuts" "cells" "[I", Cond.fieldLink RX0 15 "KeyGuess$Cuts" "fewest" "[I", Cond.methodLink RX0 27 yX2_size, Cond.methodLink RX0 39 yX2_key, Cond.methodLink RX0 43 yX0_cutFrom]
def wsX5_make_r4 : List Cond := [Cond.instanceMethod yX0_cutFrom, Cond.selects RX0 yX0_cutFrom yX0_cutFrom, Cond.code yX0_cutFrom cX0_cutFrom 12 none, Cond.fieldLink RX0 18 "KeyGuess$Cuts" "lasts" "[I", Cond.fieldLink RX0 21 "KeyGuess$Cuts" "slopeNums" "[I", Cond.fieldLink RX0 24 "KeyGuess$Cuts" "slopeDens" "[I", Cond.methodLink RX4 65 yX4_raise, Cond.instanceMethod yX4_raise, Cond.selects RX4 yX4_raise yX4_raise, Cond.code yX4_raise cX4_raise 5 none, Cond.fieldLink RX4 18 "KeyGuess$Tower" "starts" "[I", Cond.methodLink RX4 85 yX4_lay, Cond.instanceMethod yX4_lay, Cond.selects RX4 yX4_lay yX4_lay, Cond.code yX4_lay cX4_lay 6 none, Cond.fieldLink RX4 22 "KeyGuess$Tower" "froms" "[I", Cond.fieldLink RX4 25 "KeyGuess$Tower" "lasts" "[I", Cond.fieldLink RX4 28 "KeyGuess$Tower" "firsts" "[I", Cond.fieldLink RX4 31 "KeyGuess$Tower" "slopeNums" "[I", Cond.fieldLink RX4 34 "KeyGuess$Tower" "slopeDens" "[I", Cond.methodLink RX4 91 yX0_slopeNum, Cond.instanceMethod yX0_slopeNum, Cond.selects RX0 yX0_slopeNum yX0_slopeNum, Cond.code yX0_slopeNum cX0_slopeNum 2 (some .int)]
def wsX5_make_r5 : List Cond := [Cond.methodLink RX0 47 yX0_isRank, Cond.static yX0_isRank, Cond.code yX0_isRank cX0_isRank 1 (some .boolean), Cond.methodLink RX4 94 yX0_slopeDen, Cond.instanceMethod yX0_slopeDen, Cond.selects RX0 yX0_slopeDen yX0_slopeDen, Cond.code yX0_slopeDen cX0_slopeDen 2 (some .int), Cond.methodLink RX4 97 yX4_commonDivisor, Cond.static yX4_commonDivisor, Cond.code yX4_commonDivisor cX4_commonDivisor 4 (some .int), Cond.methodLink RX4 88 yX0_lastOf, Cond.instanceMethod yX0_lastOf, Cond.selects RX0 yX0_lastOf yX0_lastOf, Cond.code yX0_lastOf cX0_lastOf 2 (some .int), Cond.methodLink RX4 100 yX2_key, Cond.methodLink RX4 41 yX4_width, Cond.instanceMethod yX4_width, Cond.selects RX4 yX4_width yX4_width, Cond.code yX4_width cX4_width 2 (some .int), Cond.methodLink RX4 69 yX4_layBase, Cond.instanceMethod yX4_layBase, Cond.selects RX4 yX4_layBase yX4_layBase, Cond.code yX4_layBase cX4_layBase 3 none, Cond.methodLink RX4 103 yX2_clear]
def wsX5_make_r6 : List Cond := [Cond.instanceMethod yX2_clear, Cond.selects RX2 yX2_clear yX2_clear, Cond.code yX2_clear cX2_clear 1 none, Cond.methodLink RX4 106 yX4_tell, Cond.instanceMethod yX4_tell, Cond.selects RX4 yX4_tell yX4_tell, Cond.code yX4_tell cX4_tell 5 (some .int), Cond.methodLink RX4 45 yX4_isPiece, Cond.instanceMethod yX4_isPiece, Cond.selects RX4 yX4_isPiece yX4_isPiece, Cond.code yX4_isPiece cX4_isPiece 2 (some .boolean), Cond.methodLink RX4 110 yX2_append]
def wsX5_make : List Cond := .code yX5_make cX5_make 1 (some .int) :: ((wsX5_make_r1 ++ (wsX5_make_r2 ++ (wsX5_make_r3 ++ (wsX5_make_r4 ++ (wsX5_make_r5 ++ wsX5_make_r6))))) ++ wsX50 ++ wsX20 ++ wsX10 ++ wsX40 ++ wsX00)
def wsX5_slack_r1 : List Cond := [Cond.fieldLink RX5 50 "KeyGuess" "leeway" "I", Cond.methodLink RX5 82 yX5_makeRow, Cond.instanceMethod yX5_makeRow, Cond.selects RX5 yX5_makeRow yX5_makeRow, Cond.initialized RX5, Cond.code yX5_makeRow cX5_makeRow 2 none, Cond.fieldLink RX5 16 "KeyGuess" "row" "LKeyGuess$Keys;", Cond.fieldLink RX5 10 "KeyGuess" "now" "LKeyGuess$Keys;", Cond.fieldLink RX5 71 "KeyGuess" "newKeys" "I", Cond.fieldLink RX5 65 "KeyGuess" "oldKeys" "I", Cond.fieldLink RX5 85 "KeyGuess" "cost" "I", Cond.fieldLink RX5 39 "KeyGuess" "filter" "LKeyGuess$Filter;", Cond.fieldLink RX5 32 "KeyGuess" "tower" "LKeyGuess$Tower;", Cond.fieldLink RX5 25 "KeyGuess" "cuts" "LKeyGuess$Cuts;", Cond.methodLink RX5 145 yX2_copy, Cond.instanceMethod yX2_copy, Cond.selects RX2 yX2_copy yX2_copy, Cond.initialized RX2, Cond.code yX2_copy cX2_copy 3 none, Cond.fieldLink RX2 15 "KeyGuess$Keys" "size" "I", Cond.methodLink RX2 26 yX2_size, Cond.instanceMethod yX2_size, Cond.selects RX2 yX2_size yX2_size, Cond.code yX2_size cX2_size 1 (some .int)]
def wsX5_slack_r2 : List Cond := [Cond.methodLink RX2 23 yX2_key, Cond.instanceMethod yX2_key, Cond.selects RX2 yX2_key yX2_key, Cond.code yX2_key cX2_key 2 (some .int), Cond.fieldLink RX2 9 "KeyGuess$Keys" "cells" "[I", Cond.methodLink RX2 29 yX2_append, Cond.instanceMethod yX2_append, Cond.selects RX2 yX2_append yX2_append, Cond.code yX2_append cX2_append 2 none, Cond.methodLink RX5 61 yX2_size, Cond.methodLink RX5 149 yX1_clear, Cond.instanceMethod yX1_clear, Cond.selects RX1 yX1_clear yX1_clear, Cond.initialized RX1, Cond.code yX1_clear cX1_clear 1 none, Cond.fieldLink RX1 7 "KeyGuess$Filter" "bits" "J", Cond.methodLink RX5 92 yX2_key, Cond.methodLink RX5 78 yX1_add, Cond.instanceMethod yX1_add, Cond.selects RX1 yX1_add yX1_add, Cond.code yX1_add cX1_add 2 none, Cond.methodLink RX1 13 yX1_bitsOf, Cond.static yX1_bitsOf, Cond.code yX1_bitsOf cX1_bitsOf 1 (some .long)]
def wsX5_slack_r3 : List Cond := [Cond.methodLink RX5 152 yX4_build, Cond.instanceMethod yX4_build, Cond.selects RX4 yX4_build yX4_build, Cond.initialized RX4, Cond.code yX4_build cX4_build 6 none, Cond.fieldLink RX4 37 "KeyGuess$Tower" "height" "I", Cond.fieldLink RX4 49 "KeyGuess$Tower" "size" "I", Cond.fieldLink RX4 12 "KeyGuess$Tower" "base" "LKeyGuess$Keys;", Cond.methodLink RX4 52 yX2_copy, Cond.methodLink RX4 56 yX2_size, Cond.methodLink RX4 59 yX0_cut, Cond.instanceMethod yX0_cut, Cond.selects RX0 yX0_cut yX0_cut, Cond.initialized RX0, Cond.code yX0_cut cX0_cut 5 none, Cond.methodLink RX0 33 Lib.Math.min.name, Cond.static Lib.Math.min.name, Cond.initialized "java/lang/Math", Cond.code Lib.Math.min.name Lib.Math.min.code 2 (some .int), Cond.fieldLink RX0 9 "KeyGuess$Cuts" "cells" "[I", Cond.fieldLink RX0 15 "KeyGuess$Cuts" "fewest" "[I", Cond.methodLink RX0 27 yX2_size, Cond.methodLink RX0 39 yX2_key, Cond.methodLink RX0 43 yX0_cutFrom]
def wsX5_slack_r4 : List Cond := [Cond.instanceMethod yX0_cutFrom, Cond.selects RX0 yX0_cutFrom yX0_cutFrom, Cond.code yX0_cutFrom cX0_cutFrom 12 none, Cond.fieldLink RX0 18 "KeyGuess$Cuts" "lasts" "[I", Cond.fieldLink RX0 21 "KeyGuess$Cuts" "slopeNums" "[I", Cond.fieldLink RX0 24 "KeyGuess$Cuts" "slopeDens" "[I", Cond.methodLink RX4 65 yX4_raise, Cond.instanceMethod yX4_raise, Cond.selects RX4 yX4_raise yX4_raise, Cond.code yX4_raise cX4_raise 5 none, Cond.fieldLink RX4 18 "KeyGuess$Tower" "starts" "[I", Cond.methodLink RX4 85 yX4_lay, Cond.instanceMethod yX4_lay, Cond.selects RX4 yX4_lay yX4_lay, Cond.code yX4_lay cX4_lay 6 none, Cond.fieldLink RX4 22 "KeyGuess$Tower" "froms" "[I", Cond.fieldLink RX4 25 "KeyGuess$Tower" "lasts" "[I", Cond.fieldLink RX4 28 "KeyGuess$Tower" "firsts" "[I", Cond.fieldLink RX4 31 "KeyGuess$Tower" "slopeNums" "[I", Cond.fieldLink RX4 34 "KeyGuess$Tower" "slopeDens" "[I", Cond.methodLink RX4 91 yX0_slopeNum, Cond.instanceMethod yX0_slopeNum, Cond.selects RX0 yX0_slopeNum yX0_slopeNum, Cond.code yX0_slopeNum cX0_slopeNum 2 (some .int)]
def wsX5_slack_r5 : List Cond := [Cond.methodLink RX0 47 yX0_isRank, Cond.static yX0_isRank, Cond.code yX0_isRank cX0_isRank 1 (some .boolean), Cond.methodLink RX4 94 yX0_slopeDen, Cond.instanceMethod yX0_slopeDen, Cond.selects RX0 yX0_slopeDen yX0_slopeDen, Cond.code yX0_slopeDen cX0_slopeDen 2 (some .int), Cond.methodLink RX4 97 yX4_commonDivisor, Cond.static yX4_commonDivisor, Cond.code yX4_commonDivisor cX4_commonDivisor 4 (some .int), Cond.methodLink RX4 88 yX0_lastOf, Cond.instanceMethod yX0_lastOf, Cond.selects RX0 yX0_lastOf yX0_lastOf, Cond.code yX0_lastOf cX0_lastOf 2 (some .int), Cond.methodLink RX4 100 yX2_key, Cond.methodLink RX4 41 yX4_width, Cond.instanceMethod yX4_width, Cond.selects RX4 yX4_width yX4_width, Cond.code yX4_width cX4_width 2 (some .int), Cond.methodLink RX4 69 yX4_layBase, Cond.instanceMethod yX4_layBase, Cond.selects RX4 yX4_layBase yX4_layBase, Cond.code yX4_layBase cX4_layBase 3 none, Cond.methodLink RX4 103 yX2_clear]
def wsX5_slack_r6 : List Cond := [Cond.instanceMethod yX2_clear, Cond.selects RX2 yX2_clear yX2_clear, Cond.code yX2_clear cX2_clear 1 none, Cond.methodLink RX4 106 yX4_tell, Cond.instanceMethod yX4_tell, Cond.selects RX4 yX4_tell yX4_tell, Cond.code yX4_tell cX4_tell 5 (some .int), Cond.methodLink RX4 45 yX4_isPiece, Cond.instanceMethod yX4_isPiece, Cond.selects RX4 yX4_isPiece yX4_isPiece, Cond.code yX4_isPiece cX4_isPiece 2 (some .boolean), Cond.methodLink RX4 110 yX2_append]
def wsX5_slack : List Cond := .code yX5_slack cX5_slack 3 (some .int) :: ((wsX5_slack_r1 ++ (wsX5_slack_r2 ++ (wsX5_slack_r3 ++ (wsX5_slack_r4 ++ (wsX5_slack_r5 ++ wsX5_slack_r6))))) ++ wsX50 ++ wsX20 ++ wsX10 ++ wsX40 ++ wsX00)
def wsX5_place : List Cond := .code yX5_place cX5_place 2 (some .int) :: ([.fieldLink RX5 10 "KeyGuess" "now" "LKeyGuess$Keys;", .methodLink RX5 54 yX5_isNumber, .static yX5_isNumber, .initialized RX5, .code yX5_isNumber cX5_isNumber 1 (some .boolean), .constant RX5 95 (1000000), .methodLink RX5 58 yX2_has, .instanceMethod yX2_has, .selects RX2 yX2_has yX2_has, .initialized RX2, .code yX2_has cX2_has 3 (some .boolean), .fieldLink RX2 15 "KeyGuess$Keys" "size" "I", .fieldLink RX2 9 "KeyGuess$Keys" "cells" "[I", .methodLink RX2 19 yX2_below, .instanceMethod yX2_below, .selects RX2 yX2_below yX2_below, .code yX2_below cX2_below 3 (some .int), .methodLink RX5 88 yX2_below] ++ wsX50 ++ wsX20)
def wsX5_at : List Cond := .code yX5_at cX5_at 2 (some .int) :: ([.fieldLink RX5 10 "KeyGuess" "now" "LKeyGuess$Keys;", .methodLink RX5 61 yX2_size, .instanceMethod yX2_size, .selects RX2 yX2_size yX2_size, .initialized RX2, .code yX2_size cX2_size 1 (some .int), .fieldLink RX2 15 "KeyGuess$Keys" "size" "I", .methodLink RX5 92 yX2_key, .instanceMethod yX2_key, .selects RX2 yX2_key yX2_key, .code yX2_key cX2_key 2 (some .int), .fieldLink RX2 9 "KeyGuess$Keys" "cells" "[I"] ++ wsX50 ++ wsX20)
def wsX5_isSpan : List Cond := .code yX5_isSpan cX5_isSpan 3 (some .boolean) :: ([.methodLink RX5 54 yX5_isNumber, .static yX5_isNumber, .initialized RX5, .code yX5_isNumber cX5_isNumber 1 (some .boolean), .constant RX5 95 (1000000)])
def wsX5_range : List Cond := .code yX5_range cX5_range 3 (some .int) :: ([.constant RX5 95 (1000000), .fieldLink RX5 10 "KeyGuess" "now" "LKeyGuess$Keys;", .methodLink RX5 96 yX5_isSpan, .static yX5_isSpan, .initialized RX5, .code yX5_isSpan cX5_isSpan 3 (some .boolean), .methodLink RX5 54 yX5_isNumber, .static yX5_isNumber, .code yX5_isNumber cX5_isNumber 1 (some .boolean), .methodLink RX5 100 yX2_within, .instanceMethod yX2_within, .selects RX2 yX2_within yX2_within, .initialized RX2, .code yX2_within cX2_within 3 (some .int), .methodLink RX2 19 yX2_below, .instanceMethod yX2_below, .selects RX2 yX2_below yX2_below, .code yX2_below cX2_below 3 (some .int), .fieldLink RX2 15 "KeyGuess$Keys" "size" "I", .fieldLink RX2 9 "KeyGuess$Keys" "cells" "[I"] ++ wsX50 ++ wsX20)
def wsX5_sum_r1 : List Cond := [Cond.constant RX5 95 (1000000), Cond.constantLong RX5 104 (-2), Cond.fieldLink RX5 10 "KeyGuess" "now" "LKeyGuess$Keys;", Cond.methodLink RX5 96 yX5_isSpan, Cond.static yX5_isSpan, Cond.initialized RX5, Cond.code yX5_isSpan cX5_isSpan 3 (some .boolean), Cond.methodLink RX5 54 yX5_isNumber, Cond.static yX5_isNumber, Cond.code yX5_isNumber cX5_isNumber 1 (some .boolean), Cond.methodLink RX5 106 yX2_total, Cond.instanceMethod yX2_total, Cond.selects RX2 yX2_total yX2_total, Cond.initialized RX2, Cond.code yX2_total cX2_total 7 (some .long), Cond.methodLink RX2 19 yX2_below, Cond.instanceMethod yX2_below, Cond.selects RX2 yX2_below yX2_below, Cond.code yX2_below cX2_below 3 (some .int), Cond.fieldLink RX2 15 "KeyGuess$Keys" "size" "I", Cond.fieldLink RX2 9 "KeyGuess$Keys" "cells" "[I", Cond.methodLink RX2 23 yX2_key, Cond.instanceMethod yX2_key, Cond.selects RX2 yX2_key yX2_key]
def wsX5_sum_r2 : List Cond := [Cond.code yX2_key cX2_key 2 (some .int)]
def wsX5_sum : List Cond := .code yX5_sum cX5_sum 3 (some .long) :: ((wsX5_sum_r1 ++ wsX5_sum_r2) ++ wsX50 ++ wsX20)
def wsX5_pieces : List Cond := .code yX5_pieces cX5_pieces 2 (some .int) :: ([.fieldLink RX5 32 "KeyGuess" "tower" "LKeyGuess$Tower;", .methodLink RX5 110 yX4_width, .instanceMethod yX4_width, .selects RX4 yX4_width yX4_width, .initialized RX4, .code yX4_width cX4_width 2 (some .int), .fieldLink RX4 37 "KeyGuess$Tower" "height" "I", .fieldLink RX4 18 "KeyGuess$Tower" "starts" "[I"] ++ wsX50 ++ wsX40)
def wsX5_piece : List Cond := .code yX5_piece cX5_piece 4 (some .int) :: ([.fieldLink RX5 32 "KeyGuess" "tower" "LKeyGuess$Tower;", .methodLink RX5 113 yX4_tell, .instanceMethod yX4_tell, .selects RX4 yX4_tell yX4_tell, .initialized RX4, .code yX4_tell cX4_tell 5 (some .int), .fieldLink RX4 18 "KeyGuess$Tower" "starts" "[I", .fieldLink RX4 22 "KeyGuess$Tower" "froms" "[I", .fieldLink RX4 25 "KeyGuess$Tower" "lasts" "[I", .fieldLink RX4 28 "KeyGuess$Tower" "firsts" "[I", .fieldLink RX4 31 "KeyGuess$Tower" "slopeNums" "[I", .fieldLink RX4 34 "KeyGuess$Tower" "slopeDens" "[I", .methodLink RX4 41 yX4_width, .instanceMethod yX4_width, .selects RX4 yX4_width yX4_width, .code yX4_width cX4_width 2 (some .int), .fieldLink RX4 37 "KeyGuess$Tower" "height" "I", .methodLink RX4 45 yX4_isPiece, .instanceMethod yX4_isPiece, .selects RX4 yX4_isPiece yX4_isPiece, .code yX4_isPiece cX4_isPiece 2 (some .boolean), .fieldLink RX4 49 "KeyGuess$Tower" "size" "I"] ++ wsX50 ++ wsX40)
def wsX5_levels : List Cond := .code yX5_levels cX5_levels 1 (some .int) :: ([.fieldLink RX5 32 "KeyGuess" "tower" "LKeyGuess$Tower;", .methodLink RX5 117 yX4_height, .instanceMethod yX4_height, .selects RX4 yX4_height yX4_height, .initialized RX4, .code yX4_height cX4_height 1 (some .int), .fieldLink RX4 37 "KeyGuess$Tower" "height" "I"] ++ wsX50 ++ wsX40)
def wsX5_guess_r1 : List Cond := [Cond.fieldLink RX5 32 "KeyGuess" "tower" "LKeyGuess$Tower;", Cond.methodLink RX5 54 yX5_isNumber, Cond.static yX5_isNumber, Cond.initialized RX5, Cond.code yX5_isNumber cX5_isNumber 1 (some .boolean), Cond.constant RX5 95 (1000000), Cond.methodLink RX5 117 yX4_height, Cond.instanceMethod yX4_height, Cond.selects RX4 yX4_height yX4_height, Cond.initialized RX4, Cond.code yX4_height cX4_height 1 (some .int), Cond.fieldLink RX4 37 "KeyGuess$Tower" "height" "I", Cond.methodLink RX5 120 yX4_pieceFor, Cond.instanceMethod yX4_pieceFor, Cond.selects RX4 yX4_pieceFor yX4_pieceFor, Cond.code yX4_pieceFor cX4_pieceFor 4 (some .int), Cond.fieldLink RX4 28 "KeyGuess$Tower" "firsts" "[I", Cond.methodLink RX4 41 yX4_width, Cond.instanceMethod yX4_width, Cond.selects RX4 yX4_width yX4_width, Cond.code yX4_width cX4_width 2 (some .int), Cond.fieldLink RX4 18 "KeyGuess$Tower" "starts" "[I", Cond.methodLink RX4 45 yX4_isPiece, Cond.instanceMethod yX4_isPiece]
def wsX5_guess_r2 : List Cond := [Cond.selects RX4 yX4_isPiece yX4_isPiece, Cond.code yX4_isPiece cX4_isPiece 2 (some .boolean), Cond.fieldLink RX4 49 "KeyGuess$Tower" "size" "I", Cond.methodLink RX5 123 yX4_rankBy, Cond.instanceMethod yX4_rankBy, Cond.selects RX4 yX4_rankBy yX4_rankBy, Cond.code yX4_rankBy cX4_rankBy 4 (some .int), Cond.fieldLink RX4 34 "KeyGuess$Tower" "slopeDens" "[I", Cond.fieldLink RX4 31 "KeyGuess$Tower" "slopeNums" "[I", Cond.fieldLink RX4 22 "KeyGuess$Tower" "froms" "[I", Cond.fieldLink RX4 25 "KeyGuess$Tower" "lasts" "[I", Cond.methodLink RX4 79 Lib.Math.min.name, Cond.static Lib.Math.min.name, Cond.initialized "java/lang/Math", Cond.code Lib.Math.min.name Lib.Math.min.code 2 (some .int), Cond.methodLink RX4 82 Lib.Math.max.name, Cond.static Lib.Math.max.name, Cond.code Lib.Math.max.name Lib.Math.max.code 2 (some .int), Cond.methodLink RX4 73 yJ9_floorDiv_7cf53, Cond.static yJ9_floorDiv_7cf53, Cond.initialized RJ9, Cond.code yJ9_floorDiv_7cf53 cJ9_floorDiv_7cf53 3 (some .int)]
def wsX5_guess : List Cond := .code yX5_guess cX5_guess 2 (some .int) :: ((wsX5_guess_r1 ++ wsX5_guess_r2) ++ wsX50 ++ wsX40)
def wsX5_find_r1 : List Cond := [Cond.fieldLink RX5 46 "KeyGuess" "look" "LKeyGuess$Look;", Cond.fieldLink RX5 16 "KeyGuess" "row" "LKeyGuess$Keys;", Cond.fieldLink RX5 32 "KeyGuess" "tower" "LKeyGuess$Tower;", Cond.fieldLink RX5 50 "KeyGuess" "leeway" "I", Cond.methodLink RX5 54 yX5_isNumber, Cond.static yX5_isNumber, Cond.initialized RX5, Cond.code yX5_isNumber cX5_isNumber 1 (some .boolean), Cond.constant RX5 95 (1000000), Cond.methodLink RX5 126 yX3_run, Cond.instanceMethod yX3_run, Cond.selects RX3 yX3_run yX3_run, Cond.initialized RX3, Cond.code yX3_run cX3_run 9 none, Cond.fieldLink RX3 9 "KeyGuess$Look" "met" "I", Cond.fieldLink RX3 15 "KeyGuess$Look" "seen" "I", Cond.methodLink RX3 18 yX4_height, Cond.instanceMethod yX4_height, Cond.selects RX4 yX4_height yX4_height, Cond.initialized RX4, Cond.code yX4_height cX4_height 1 (some .int), Cond.fieldLink RX4 37 "KeyGuess$Tower" "height" "I", Cond.methodLink RX3 24 yX4_pieceFor, Cond.instanceMethod yX4_pieceFor]
def wsX5_find_r2 : List Cond := [Cond.selects RX4 yX4_pieceFor yX4_pieceFor, Cond.code yX4_pieceFor cX4_pieceFor 4 (some .int), Cond.fieldLink RX4 28 "KeyGuess$Tower" "firsts" "[I", Cond.methodLink RX4 41 yX4_width, Cond.instanceMethod yX4_width, Cond.selects RX4 yX4_width yX4_width, Cond.code yX4_width cX4_width 2 (some .int), Cond.fieldLink RX4 18 "KeyGuess$Tower" "starts" "[I", Cond.methodLink RX4 45 yX4_isPiece, Cond.instanceMethod yX4_isPiece, Cond.selects RX4 yX4_isPiece yX4_isPiece, Cond.code yX4_isPiece cX4_isPiece 2 (some .boolean), Cond.fieldLink RX4 49 "KeyGuess$Tower" "size" "I", Cond.methodLink RX3 28 yX4_rankBy, Cond.instanceMethod yX4_rankBy, Cond.selects RX4 yX4_rankBy yX4_rankBy, Cond.code yX4_rankBy cX4_rankBy 4 (some .int), Cond.fieldLink RX4 34 "KeyGuess$Tower" "slopeDens" "[I", Cond.fieldLink RX4 31 "KeyGuess$Tower" "slopeNums" "[I", Cond.fieldLink RX4 22 "KeyGuess$Tower" "froms" "[I", Cond.fieldLink RX4 25 "KeyGuess$Tower" "lasts" "[I", Cond.methodLink RX4 79 Lib.Math.min.name, Cond.static Lib.Math.min.name, Cond.initialized "java/lang/Math"]
def wsX5_find_r3 : List Cond := [Cond.code Lib.Math.min.name Lib.Math.min.code 2 (some .int), Cond.methodLink RX4 82 Lib.Math.max.name, Cond.static Lib.Math.max.name, Cond.code Lib.Math.max.name Lib.Math.max.code 2 (some .int), Cond.methodLink RX4 73 yJ9_floorDiv_7cf53, Cond.static yJ9_floorDiv_7cf53, Cond.initialized RJ9, Cond.code yJ9_floorDiv_7cf53 cJ9_floorDiv_7cf53 3 (some .int), Cond.methodLink RX3 32 yX3_away, Cond.static yX3_away, Cond.code yX3_away cX3_away 1 (some .int), Cond.methodLink RX3 35 yX4_fromOf, Cond.instanceMethod yX4_fromOf, Cond.selects RX4 yX4_fromOf yX4_fromOf, Cond.code yX4_fromOf cX4_fromOf 2 (some .int), Cond.methodLink RX3 38 yX4_lastOf, Cond.instanceMethod yX4_lastOf, Cond.selects RX4 yX4_lastOf yX4_lastOf, Cond.code yX4_lastOf cX4_lastOf 2 (some .int), Cond.methodLink RX3 41 yX2_key, Cond.instanceMethod yX2_key, Cond.selects RX2 yX2_key yX2_key, Cond.initialized RX2, Cond.code yX2_key cX2_key 2 (some .int)]
def wsX5_find_r4 : List Cond := [Cond.fieldLink RX2 15 "KeyGuess$Keys" "size" "I", Cond.fieldLink RX2 9 "KeyGuess$Keys" "cells" "[I", Cond.methodLink RX5 130 yX3_met, Cond.instanceMethod yX3_met, Cond.selects RX3 yX3_met yX3_met, Cond.code yX3_met cX3_met 1 (some .int)]
def wsX5_find : List Cond := .code yX5_find cX5_find 2 (some .int) :: ((wsX5_find_r1 ++ (wsX5_find_r2 ++ (wsX5_find_r3 ++ wsX5_find_r4))) ++ wsX50 ++ wsX30 ++ wsX40 ++ wsX20)
def wsX5_looks_r1 : List Cond := [Cond.fieldLink RX5 46 "KeyGuess" "look" "LKeyGuess$Look;", Cond.fieldLink RX5 16 "KeyGuess" "row" "LKeyGuess$Keys;", Cond.fieldLink RX5 32 "KeyGuess" "tower" "LKeyGuess$Tower;", Cond.fieldLink RX5 50 "KeyGuess" "leeway" "I", Cond.methodLink RX5 54 yX5_isNumber, Cond.static yX5_isNumber, Cond.initialized RX5, Cond.code yX5_isNumber cX5_isNumber 1 (some .boolean), Cond.constant RX5 95 (1000000), Cond.methodLink RX5 126 yX3_run, Cond.instanceMethod yX3_run, Cond.selects RX3 yX3_run yX3_run, Cond.initialized RX3, Cond.code yX3_run cX3_run 9 none, Cond.fieldLink RX3 9 "KeyGuess$Look" "met" "I", Cond.fieldLink RX3 15 "KeyGuess$Look" "seen" "I", Cond.methodLink RX3 18 yX4_height, Cond.instanceMethod yX4_height, Cond.selects RX4 yX4_height yX4_height, Cond.initialized RX4, Cond.code yX4_height cX4_height 1 (some .int), Cond.fieldLink RX4 37 "KeyGuess$Tower" "height" "I", Cond.methodLink RX3 24 yX4_pieceFor, Cond.instanceMethod yX4_pieceFor]
def wsX5_looks_r2 : List Cond := [Cond.selects RX4 yX4_pieceFor yX4_pieceFor, Cond.code yX4_pieceFor cX4_pieceFor 4 (some .int), Cond.fieldLink RX4 28 "KeyGuess$Tower" "firsts" "[I", Cond.methodLink RX4 41 yX4_width, Cond.instanceMethod yX4_width, Cond.selects RX4 yX4_width yX4_width, Cond.code yX4_width cX4_width 2 (some .int), Cond.fieldLink RX4 18 "KeyGuess$Tower" "starts" "[I", Cond.methodLink RX4 45 yX4_isPiece, Cond.instanceMethod yX4_isPiece, Cond.selects RX4 yX4_isPiece yX4_isPiece, Cond.code yX4_isPiece cX4_isPiece 2 (some .boolean), Cond.fieldLink RX4 49 "KeyGuess$Tower" "size" "I", Cond.methodLink RX3 28 yX4_rankBy, Cond.instanceMethod yX4_rankBy, Cond.selects RX4 yX4_rankBy yX4_rankBy, Cond.code yX4_rankBy cX4_rankBy 4 (some .int), Cond.fieldLink RX4 34 "KeyGuess$Tower" "slopeDens" "[I", Cond.fieldLink RX4 31 "KeyGuess$Tower" "slopeNums" "[I", Cond.fieldLink RX4 22 "KeyGuess$Tower" "froms" "[I", Cond.fieldLink RX4 25 "KeyGuess$Tower" "lasts" "[I", Cond.methodLink RX4 79 Lib.Math.min.name, Cond.static Lib.Math.min.name, Cond.initialized "java/lang/Math"]
def wsX5_looks_r3 : List Cond := [Cond.code Lib.Math.min.name Lib.Math.min.code 2 (some .int), Cond.methodLink RX4 82 Lib.Math.max.name, Cond.static Lib.Math.max.name, Cond.code Lib.Math.max.name Lib.Math.max.code 2 (some .int), Cond.methodLink RX4 73 yJ9_floorDiv_7cf53, Cond.static yJ9_floorDiv_7cf53, Cond.initialized RJ9, Cond.code yJ9_floorDiv_7cf53 cJ9_floorDiv_7cf53 3 (some .int), Cond.methodLink RX3 32 yX3_away, Cond.static yX3_away, Cond.code yX3_away cX3_away 1 (some .int), Cond.methodLink RX3 35 yX4_fromOf, Cond.instanceMethod yX4_fromOf, Cond.selects RX4 yX4_fromOf yX4_fromOf, Cond.code yX4_fromOf cX4_fromOf 2 (some .int), Cond.methodLink RX3 38 yX4_lastOf, Cond.instanceMethod yX4_lastOf, Cond.selects RX4 yX4_lastOf yX4_lastOf, Cond.code yX4_lastOf cX4_lastOf 2 (some .int), Cond.methodLink RX3 41 yX2_key, Cond.instanceMethod yX2_key, Cond.selects RX2 yX2_key yX2_key, Cond.initialized RX2, Cond.code yX2_key cX2_key 2 (some .int)]
def wsX5_looks_r4 : List Cond := [Cond.fieldLink RX2 15 "KeyGuess$Keys" "size" "I", Cond.fieldLink RX2 9 "KeyGuess$Keys" "cells" "[I", Cond.methodLink RX5 133 yX3_ranksSeen, Cond.instanceMethod yX3_ranksSeen, Cond.selects RX3 yX3_ranksSeen yX3_ranksSeen, Cond.code yX3_ranksSeen cX3_ranksSeen 1 (some .int)]
def wsX5_looks : List Cond := .code yX5_looks cX5_looks 2 (some .int) :: ((wsX5_looks_r1 ++ (wsX5_looks_r2 ++ (wsX5_looks_r3 ++ wsX5_looks_r4))) ++ wsX50 ++ wsX30 ++ wsX40 ++ wsX20)
def wsX5_maybe : List Cond := .code yX5_maybe cX5_maybe 2 (some .int) :: ([.fieldLink RX5 39 "KeyGuess" "filter" "LKeyGuess$Filter;", .methodLink RX5 54 yX5_isNumber, .static yX5_isNumber, .initialized RX5, .code yX5_isNumber cX5_isNumber 1 (some .boolean), .constant RX5 95 (1000000), .methodLink RX5 136 yX1_passes, .instanceMethod yX1_passes, .selects RX1 yX1_passes yX1_passes, .initialized RX1, .code yX1_passes cX1_passes 4 (some .boolean), .fieldLink RX1 7 "KeyGuess$Filter" "bits" "J", .methodLink RX1 13 yX1_bitsOf, .static yX1_bitsOf, .code yX1_bitsOf cX1_bitsOf 1 (some .long)] ++ wsX50 ++ wsX10)
def wsX5_wrong_r1 : List Cond := [Cond.fieldLink RX5 39 "KeyGuess" "filter" "LKeyGuess$Filter;", Cond.fieldLink RX5 10 "KeyGuess" "now" "LKeyGuess$Keys;", Cond.methodLink RX5 96 yX5_isSpan, Cond.static yX5_isSpan, Cond.initialized RX5, Cond.code yX5_isSpan cX5_isSpan 3 (some .boolean), Cond.methodLink RX5 54 yX5_isNumber, Cond.static yX5_isNumber, Cond.code yX5_isNumber cX5_isNumber 1 (some .boolean), Cond.constant RX5 95 (1000000), Cond.methodLink RX5 136 yX1_passes, Cond.instanceMethod yX1_passes, Cond.selects RX1 yX1_passes yX1_passes, Cond.initialized RX1, Cond.code yX1_passes cX1_passes 4 (some .boolean), Cond.fieldLink RX1 7 "KeyGuess$Filter" "bits" "J", Cond.methodLink RX1 13 yX1_bitsOf, Cond.static yX1_bitsOf, Cond.code yX1_bitsOf cX1_bitsOf 1 (some .long), Cond.methodLink RX5 100 yX2_within, Cond.instanceMethod yX2_within, Cond.selects RX2 yX2_within yX2_within, Cond.initialized RX2, Cond.code yX2_within cX2_within 3 (some .int)]
def wsX5_wrong_r2 : List Cond := [Cond.methodLink RX2 19 yX2_below, Cond.instanceMethod yX2_below, Cond.selects RX2 yX2_below yX2_below, Cond.code yX2_below cX2_below 3 (some .int), Cond.fieldLink RX2 15 "KeyGuess$Keys" "size" "I", Cond.fieldLink RX2 9 "KeyGuess$Keys" "cells" "[I"]
def wsX5_wrong : List Cond := .code yX5_wrong cX5_wrong 5 (some .int) :: ((wsX5_wrong_r1 ++ wsX5_wrong_r2) ++ wsX50 ++ wsX10 ++ wsX20)
def wsX5_piecesWith_r1 : List Cond := [Cond.fieldLink RX5 19 "KeyGuess" "tried" "LKeyGuess$Keys;", Cond.fieldLink RX5 10 "KeyGuess" "now" "LKeyGuess$Keys;", Cond.fieldLink RX5 25 "KeyGuess" "cuts" "LKeyGuess$Cuts;", Cond.fieldLink RX5 50 "KeyGuess" "leeway" "I", Cond.methodLink RX5 145 yX2_copy, Cond.instanceMethod yX2_copy, Cond.selects RX2 yX2_copy yX2_copy, Cond.initialized RX2, Cond.code yX2_copy cX2_copy 3 none, Cond.fieldLink RX2 15 "KeyGuess$Keys" "size" "I", Cond.methodLink RX2 26 yX2_size, Cond.instanceMethod yX2_size, Cond.selects RX2 yX2_size yX2_size, Cond.code yX2_size cX2_size 1 (some .int), Cond.methodLink RX2 23 yX2_key, Cond.instanceMethod yX2_key, Cond.selects RX2 yX2_key yX2_key, Cond.code yX2_key cX2_key 2 (some .int), Cond.fieldLink RX2 9 "KeyGuess$Keys" "cells" "[I", Cond.methodLink RX2 29 yX2_append, Cond.instanceMethod yX2_append, Cond.selects RX2 yX2_append yX2_append, Cond.code yX2_append cX2_append 2 none, Cond.methodLink RX5 74 yX2_add]
def wsX5_piecesWith_r2 : List Cond := [Cond.instanceMethod yX2_add, Cond.selects RX2 yX2_add yX2_add, Cond.code yX2_add cX2_add 4 none, Cond.methodLink RX2 33 yX2_has, Cond.instanceMethod yX2_has, Cond.selects RX2 yX2_has yX2_has, Cond.code yX2_has cX2_has 3 (some .boolean), Cond.methodLink RX2 19 yX2_below, Cond.instanceMethod yX2_below, Cond.selects RX2 yX2_below yX2_below, Cond.code yX2_below cX2_below 3 (some .int), Cond.methodLink RX5 156 yX0_cut, Cond.instanceMethod yX0_cut, Cond.selects RX0 yX0_cut yX0_cut, Cond.initialized RX0, Cond.code yX0_cut cX0_cut 5 none, Cond.methodLink RX0 33 Lib.Math.min.name, Cond.static Lib.Math.min.name, Cond.initialized "java/lang/Math", Cond.code Lib.Math.min.name Lib.Math.min.code 2 (some .int), Cond.fieldLink RX0 9 "KeyGuess$Cuts" "cells" "[I", Cond.fieldLink RX0 15 "KeyGuess$Cuts" "fewest" "[I", Cond.methodLink RX0 27 yX2_size, Cond.methodLink RX0 39 yX2_key]
def wsX5_piecesWith_r3 : List Cond := [Cond.methodLink RX0 43 yX0_cutFrom, Cond.instanceMethod yX0_cutFrom, Cond.selects RX0 yX0_cutFrom yX0_cutFrom, Cond.code yX0_cutFrom cX0_cutFrom 12 none, Cond.fieldLink RX0 18 "KeyGuess$Cuts" "lasts" "[I", Cond.fieldLink RX0 21 "KeyGuess$Cuts" "slopeNums" "[I", Cond.fieldLink RX0 24 "KeyGuess$Cuts" "slopeDens" "[I", Cond.methodLink RX5 160 yX0_fewestFrom, Cond.instanceMethod yX0_fewestFrom, Cond.selects RX0 yX0_fewestFrom yX0_fewestFrom, Cond.code yX0_fewestFrom cX0_fewestFrom 2 (some .int), Cond.methodLink RX0 47 yX0_isRank, Cond.static yX0_isRank, Cond.code yX0_isRank cX0_isRank 1 (some .boolean)]
def wsX5_piecesWith : List Cond := .code yX5_piecesWith cX5_piecesWith 2 (some .int) :: ((wsX5_piecesWith_r1 ++ (wsX5_piecesWith_r2 ++ wsX5_piecesWith_r3)) ++ wsX50 ++ wsX20 ++ wsX00)
def wsX5_poison_r1 : List Cond := [Cond.fieldLink RX5 10 "KeyGuess" "now" "LKeyGuess$Keys;", Cond.methodLink RX5 96 yX5_isSpan, Cond.static yX5_isSpan, Cond.initialized RX5, Cond.code yX5_isSpan cX5_isSpan 3 (some .boolean), Cond.methodLink RX5 54 yX5_isNumber, Cond.static yX5_isNumber, Cond.code yX5_isNumber cX5_isNumber 1 (some .boolean), Cond.constant RX5 95 (1000000), Cond.methodLink RX5 61 yX2_size, Cond.instanceMethod yX2_size, Cond.selects RX2 yX2_size yX2_size, Cond.initialized RX2, Cond.code yX2_size cX2_size 1 (some .int), Cond.fieldLink RX2 15 "KeyGuess$Keys" "size" "I", Cond.methodLink RX5 58 yX2_has, Cond.instanceMethod yX2_has, Cond.selects RX2 yX2_has yX2_has, Cond.code yX2_has cX2_has 3 (some .boolean), Cond.fieldLink RX2 9 "KeyGuess$Keys" "cells" "[I", Cond.methodLink RX2 19 yX2_below, Cond.instanceMethod yX2_below, Cond.selects RX2 yX2_below yX2_below, Cond.code yX2_below cX2_below 3 (some .int)]
def wsX5_poison_r2 : List Cond := [Cond.methodLink RX5 139 yX5_piecesWith, Cond.instanceMethod yX5_piecesWith, Cond.selects RX5 yX5_piecesWith yX5_piecesWith, Cond.code yX5_piecesWith cX5_piecesWith 2 (some .int), Cond.fieldLink RX5 19 "KeyGuess" "tried" "LKeyGuess$Keys;", Cond.fieldLink RX5 25 "KeyGuess" "cuts" "LKeyGuess$Cuts;", Cond.fieldLink RX5 50 "KeyGuess" "leeway" "I", Cond.methodLink RX5 145 yX2_copy, Cond.instanceMethod yX2_copy, Cond.selects RX2 yX2_copy yX2_copy, Cond.code yX2_copy cX2_copy 3 none, Cond.methodLink RX2 26 yX2_size, Cond.methodLink RX2 23 yX2_key, Cond.instanceMethod yX2_key, Cond.selects RX2 yX2_key yX2_key, Cond.code yX2_key cX2_key 2 (some .int), Cond.methodLink RX2 29 yX2_append, Cond.instanceMethod yX2_append, Cond.selects RX2 yX2_append yX2_append, Cond.code yX2_append cX2_append 2 none, Cond.methodLink RX5 74 yX2_add, Cond.instanceMethod yX2_add, Cond.selects RX2 yX2_add yX2_add, Cond.code yX2_add cX2_add 4 none]
def wsX5_poison_r3 : List Cond := [Cond.methodLink RX2 33 yX2_has, Cond.methodLink RX5 156 yX0_cut, Cond.instanceMethod yX0_cut, Cond.selects RX0 yX0_cut yX0_cut, Cond.initialized RX0, Cond.code yX0_cut cX0_cut 5 none, Cond.methodLink RX0 33 Lib.Math.min.name, Cond.static Lib.Math.min.name, Cond.initialized "java/lang/Math", Cond.code Lib.Math.min.name Lib.Math.min.code 2 (some .int), Cond.fieldLink RX0 9 "KeyGuess$Cuts" "cells" "[I", Cond.fieldLink RX0 15 "KeyGuess$Cuts" "fewest" "[I", Cond.methodLink RX0 27 yX2_size, Cond.methodLink RX0 39 yX2_key, Cond.methodLink RX0 43 yX0_cutFrom, Cond.instanceMethod yX0_cutFrom, Cond.selects RX0 yX0_cutFrom yX0_cutFrom, Cond.code yX0_cutFrom cX0_cutFrom 12 none, Cond.fieldLink RX0 18 "KeyGuess$Cuts" "lasts" "[I", Cond.fieldLink RX0 21 "KeyGuess$Cuts" "slopeNums" "[I", Cond.fieldLink RX0 24 "KeyGuess$Cuts" "slopeDens" "[I", Cond.methodLink RX5 160 yX0_fewestFrom, Cond.instanceMethod yX0_fewestFrom, Cond.selects RX0 yX0_fewestFrom yX0_fewestFrom]
def wsX5_poison_r4 : List Cond := [Cond.code yX0_fewestFrom cX0_fewestFrom 2 (some .int), Cond.methodLink RX0 47 yX0_isRank, Cond.static yX0_isRank, Cond.code yX0_isRank cX0_isRank 1 (some .boolean)]
def wsX5_poison : List Cond := .code yX5_poison cX5_poison 8 (some .int) :: ((wsX5_poison_r1 ++ (wsX5_poison_r2 ++ (wsX5_poison_r3 ++ wsX5_poison_r4))) ++ wsX50 ++ wsX20 ++ wsX00)
def wsX5_count_r1 : List Cond := [Cond.fieldLink RX5 10 "KeyGuess" "now" "LKeyGuess$Keys;", Cond.fieldLink RX5 16 "KeyGuess" "row" "LKeyGuess$Keys;", Cond.fieldLink RX5 71 "KeyGuess" "newKeys" "I", Cond.fieldLink RX5 65 "KeyGuess" "oldKeys" "I", Cond.fieldLink RX5 85 "KeyGuess" "cost" "I", Cond.fieldLink RX5 39 "KeyGuess" "filter" "LKeyGuess$Filter;", Cond.methodLink RX5 61 yX2_size, Cond.instanceMethod yX2_size, Cond.selects RX2 yX2_size yX2_size, Cond.initialized RX2, Cond.code yX2_size cX2_size 1 (some .int), Cond.fieldLink RX2 15 "KeyGuess$Keys" "size" "I", Cond.methodLink RX5 142 yX1_bitsSet, Cond.instanceMethod yX1_bitsSet, Cond.selects RX1 yX1_bitsSet yX1_bitsSet, Cond.initialized RX1, Cond.code yX1_bitsSet cX1_bitsSet 1 (some .int), Cond.fieldLink RX1 7 "KeyGuess$Filter" "bits" "J", Cond.methodLink RX1 17 yJ13_bitCount_95d88, Cond.static yJ13_bitCount_95d88, Cond.initialized RJ13, Cond.code yJ13_bitCount_95d88 cJ13_bitCount_95d88 2 (some .int), Cond.constantLong RJ13 314 (6148914691236517205), Cond.constantLong RJ13 316 (3689348814741910323)]
def wsX5_count_r2 : List Cond := [Cond.constantLong RJ13 318 (1085102592571150095)]
def wsX5_count : List Cond := .code yX5_count cX5_count 2 (some .int) :: ((wsX5_count_r1 ++ wsX5_count_r2) ++ wsX50 ++ wsX20 ++ wsX10)
def wsX6_layLow : List Cond := .code yX6_layLow cX6_layLow 8 none :: ([.fieldLink RX6 111 "KeyGuessModel" "lowUp" "J", .fieldLink RX6 115 "KeyGuessModel" "lowBelow" "J", .fieldLink RX6 13 "KeyGuessModel" "e" "I", .fieldLink RX6 30 "KeyGuessModel" "keys" "[I"] ++ wsX60)
def wsX6_keeps : List Cond := .code yX6_keeps cX6_keeps 5 (some .boolean) :: ([.fieldLink RX6 111 "KeyGuessModel" "lowUp" "J", .fieldLink RX6 30 "KeyGuessModel" "keys" "[I", .fieldLink RX6 13 "KeyGuessModel" "e" "I", .fieldLink RX6 115 "KeyGuessModel" "lowBelow" "J", .methodLink RX6 118 yX6_layLow, .instanceMethod yX6_layLow, .selects RX6 yX6_layLow yX6_layLow, .initialized RX6, .code yX6_layLow cX6_layLow 8 none] ++ wsX60)
def wsX6_layPieces : List Cond := .code yX6_layPieces cX6_layPieces 4 none :: ([.fieldLink RX6 36 "KeyGuessModel" "fewest" "[I", .fieldLink RX6 122 "KeyGuessModel" "keyMany" "I", .fieldLink RX6 33 "KeyGuessModel" "reach" "[I", .methodLink RX6 125 yX6_keeps, .instanceMethod yX6_keeps, .selects RX6 yX6_keeps yX6_keeps, .initialized RX6, .code yX6_keeps cX6_keeps 5 (some .boolean), .fieldLink RX6 111 "KeyGuessModel" "lowUp" "J", .fieldLink RX6 30 "KeyGuessModel" "keys" "[I", .fieldLink RX6 13 "KeyGuessModel" "e" "I", .fieldLink RX6 115 "KeyGuessModel" "lowBelow" "J", .methodLink RX6 118 yX6_layLow, .instanceMethod yX6_layLow, .selects RX6 yX6_layLow yX6_layLow, .code yX6_layLow cX6_layLow 8 none] ++ wsX60)
def wsX6_endOf : List Cond := .code yX6_endOf cX6_endOf 3 (some .int) :: ([.fieldLink RX6 33 "KeyGuessModel" "reach" "[I", .fieldLink RX6 36 "KeyGuessModel" "fewest" "[I"] ++ wsX60)
def wsX6_divisor : List Cond := .code yX6_divisor cX6_divisor 10 (some .long) :: ([])
def wsX6_layLevel_r1 : List Cond := [Cond.fieldLink RX6 122 "KeyGuessModel" "keyMany" "I", Cond.fieldLink RX6 111 "KeyGuessModel" "lowUp" "J", Cond.fieldLink RX6 115 "KeyGuessModel" "lowBelow" "J", Cond.fieldLink RX6 42 "KeyGuessModel" "firsts" "[I", Cond.fieldLink RX6 45 "KeyGuessModel" "lasts" "[I", Cond.fieldLink RX6 48 "KeyGuessModel" "firstKeys" "[I", Cond.fieldLink RX6 30 "KeyGuessModel" "keys" "[I", Cond.fieldLink RX6 51 "KeyGuessModel" "ups" "[J", Cond.fieldLink RX6 55 "KeyGuessModel" "belows" "[J", Cond.fieldLink RX6 39 "KeyGuessModel" "pieceMany" "[I", Cond.methodLink RX6 128 yX6_layPieces, Cond.instanceMethod yX6_layPieces, Cond.selects RX6 yX6_layPieces yX6_layPieces, Cond.initialized RX6, Cond.code yX6_layPieces cX6_layPieces 4 none, Cond.fieldLink RX6 36 "KeyGuessModel" "fewest" "[I", Cond.fieldLink RX6 33 "KeyGuessModel" "reach" "[I", Cond.methodLink RX6 125 yX6_keeps, Cond.instanceMethod yX6_keeps, Cond.selects RX6 yX6_keeps yX6_keeps, Cond.code yX6_keeps cX6_keeps 5 (some .boolean), Cond.fieldLink RX6 13 "KeyGuessModel" "e" "I", Cond.methodLink RX6 118 yX6_layLow, Cond.instanceMethod yX6_layLow]
def wsX6_layLevel_r2 : List Cond := [Cond.selects RX6 yX6_layLow yX6_layLow, Cond.code yX6_layLow cX6_layLow 8 none, Cond.methodLink RX6 131 yX6_endOf, Cond.instanceMethod yX6_endOf, Cond.selects RX6 yX6_endOf yX6_endOf, Cond.code yX6_endOf cX6_endOf 3 (some .int), Cond.methodLink RX6 135 yX6_divisor, Cond.static yX6_divisor, Cond.code yX6_divisor cX6_divisor 10 (some .long)]
def wsX6_layLevel : List Cond := .code yX6_layLevel cX6_layLevel 8 none :: ((wsX6_layLevel_r1 ++ wsX6_layLevel_r2) ++ wsX60)
def wsX6_layLevels_r1 : List Cond := [Cond.fieldLink RX6 139 "KeyGuessModel" "levelMany" "I", Cond.fieldLink RX6 69 "KeyGuessModel" "rowMany" "I", Cond.fieldLink RX6 122 "KeyGuessModel" "keyMany" "I", Cond.fieldLink RX6 30 "KeyGuessModel" "keys" "[I", Cond.fieldLink RX6 7 "KeyGuessModel" "row" "[I", Cond.fieldLink RX6 39 "KeyGuessModel" "pieceMany" "[I", Cond.fieldLink RX6 48 "KeyGuessModel" "firstKeys" "[I", Cond.methodLink RX6 142 yX6_layLevel, Cond.instanceMethod yX6_layLevel, Cond.selects RX6 yX6_layLevel yX6_layLevel, Cond.initialized RX6, Cond.code yX6_layLevel cX6_layLevel 8 none, Cond.fieldLink RX6 111 "KeyGuessModel" "lowUp" "J", Cond.fieldLink RX6 115 "KeyGuessModel" "lowBelow" "J", Cond.fieldLink RX6 42 "KeyGuessModel" "firsts" "[I", Cond.fieldLink RX6 45 "KeyGuessModel" "lasts" "[I", Cond.fieldLink RX6 51 "KeyGuessModel" "ups" "[J", Cond.fieldLink RX6 55 "KeyGuessModel" "belows" "[J", Cond.methodLink RX6 128 yX6_layPieces, Cond.instanceMethod yX6_layPieces, Cond.selects RX6 yX6_layPieces yX6_layPieces, Cond.code yX6_layPieces cX6_layPieces 4 none, Cond.fieldLink RX6 36 "KeyGuessModel" "fewest" "[I", Cond.fieldLink RX6 33 "KeyGuessModel" "reach" "[I"]
def wsX6_layLevels_r2 : List Cond := [Cond.methodLink RX6 125 yX6_keeps, Cond.instanceMethod yX6_keeps, Cond.selects RX6 yX6_keeps yX6_keeps, Cond.code yX6_keeps cX6_keeps 5 (some .boolean), Cond.fieldLink RX6 13 "KeyGuessModel" "e" "I", Cond.methodLink RX6 118 yX6_layLow, Cond.instanceMethod yX6_layLow, Cond.selects RX6 yX6_layLow yX6_layLow, Cond.code yX6_layLow cX6_layLow 8 none, Cond.methodLink RX6 131 yX6_endOf, Cond.instanceMethod yX6_endOf, Cond.selects RX6 yX6_endOf yX6_endOf, Cond.code yX6_endOf cX6_endOf 3 (some .int), Cond.methodLink RX6 135 yX6_divisor, Cond.static yX6_divisor, Cond.code yX6_divisor cX6_divisor 10 (some .long)]
def wsX6_layLevels : List Cond := .code yX6_layLevels cX6_layLevels 3 none :: ((wsX6_layLevels_r1 ++ wsX6_layLevels_r2) ++ wsX60)
def wsX6_init_r1 : List Cond := [Cond.methodLink RX6 1 objectInit, Cond.instanceMethod objectInit, Cond.code objectInit ⟨#[0xb1]⟩ 1 none, Cond.arrayClass .int, Cond.fieldLink RX6 7 "KeyGuessModel" "row" "[I", Cond.fieldLink RX6 13 "KeyGuessModel" "e" "I", Cond.fieldLink RX6 17 "KeyGuessModel" "news" "[I", Cond.fieldLink RX6 20 "KeyGuessModel" "olds" "[I", Cond.arrayClass .boolean, Cond.fieldLink RX6 23 "KeyGuessModel" "bits" "[Z", Cond.fieldLink RX6 27 "KeyGuessModel" "now" "[I", Cond.fieldLink RX6 30 "KeyGuessModel" "keys" "[I", Cond.fieldLink RX6 33 "KeyGuessModel" "reach" "[I", Cond.fieldLink RX6 36 "KeyGuessModel" "fewest" "[I", Cond.fieldLink RX6 39 "KeyGuessModel" "pieceMany" "[I", Cond.fieldLink RX6 42 "KeyGuessModel" "firsts" "[I", Cond.fieldLink RX6 45 "KeyGuessModel" "lasts" "[I", Cond.fieldLink RX6 48 "KeyGuessModel" "firstKeys" "[I", Cond.arrayClass .long, Cond.fieldLink RX6 51 "KeyGuessModel" "ups" "[J", Cond.fieldLink RX6 55 "KeyGuessModel" "belows" "[J", Cond.methodLink RX6 58 yX6_layLevels, Cond.instanceMethod yX6_layLevels, Cond.selects RX6 yX6_layLevels yX6_layLevels]
def wsX6_init_r2 : List Cond := [Cond.initialized RX6, Cond.code yX6_layLevels cX6_layLevels 3 none, Cond.fieldLink RX6 139 "KeyGuessModel" "levelMany" "I", Cond.fieldLink RX6 69 "KeyGuessModel" "rowMany" "I", Cond.fieldLink RX6 122 "KeyGuessModel" "keyMany" "I", Cond.methodLink RX6 142 yX6_layLevel, Cond.instanceMethod yX6_layLevel, Cond.selects RX6 yX6_layLevel yX6_layLevel, Cond.code yX6_layLevel cX6_layLevel 8 none, Cond.fieldLink RX6 111 "KeyGuessModel" "lowUp" "J", Cond.fieldLink RX6 115 "KeyGuessModel" "lowBelow" "J", Cond.methodLink RX6 128 yX6_layPieces, Cond.instanceMethod yX6_layPieces, Cond.selects RX6 yX6_layPieces yX6_layPieces, Cond.code yX6_layPieces cX6_layPieces 4 none, Cond.methodLink RX6 125 yX6_keeps, Cond.instanceMethod yX6_keeps, Cond.selects RX6 yX6_keeps yX6_keeps, Cond.code yX6_keeps cX6_keeps 5 (some .boolean), Cond.methodLink RX6 118 yX6_layLow, Cond.instanceMethod yX6_layLow, Cond.selects RX6 yX6_layLow yX6_layLow, Cond.code yX6_layLow cX6_layLow 8 none, Cond.methodLink RX6 131 yX6_endOf]
def wsX6_init_r3 : List Cond := [Cond.instanceMethod yX6_endOf, Cond.selects RX6 yX6_endOf yX6_endOf, Cond.code yX6_endOf cX6_endOf 3 (some .int), Cond.methodLink RX6 135 yX6_divisor, Cond.static yX6_divisor, Cond.code yX6_divisor cX6_divisor 10 (some .long)]
def wsX6_init : List Cond := .code yX6_init cX6_init 1 none :: ((wsX6_init_r1 ++ (wsX6_init_r2 ++ wsX6_init_r3)) ++ wsX60)
def wsX6_in : List Cond := .code yX6_in cX6_in 3 (some .boolean) :: ([])
def wsX6_isNumber : List Cond := .code yX6_isNumber cX6_isNumber 1 (some .boolean) :: ([.constant RX6 61 (1000000), .methodLink RX6 62 yX6_in, .static yX6_in, .initialized RX6, .code yX6_in cX6_in 3 (some .boolean)])
def wsX6_placeIn : List Cond := .code yX6_placeIn cX6_placeIn 4 (some .int) :: ([])
def wsX6_insertNow : List Cond := .code yX6_insertNow cX6_insertNow 3 none :: ([.fieldLink RX6 66 "KeyGuessModel" "nowMany" "I", .fieldLink RX6 27 "KeyGuessModel" "now" "[I"] ++ wsX60)
def wsX6_layNow : List Cond := .code yX6_layNow cX6_layNow 2 none :: ([.fieldLink RX6 66 "KeyGuessModel" "nowMany" "I", .fieldLink RX6 69 "KeyGuessModel" "rowMany" "I", .fieldLink RX6 20 "KeyGuessModel" "olds" "[I", .fieldLink RX6 72 "KeyGuessModel" "oldMany" "I", .fieldLink RX6 7 "KeyGuessModel" "row" "[I", .fieldLink RX6 83 "KeyGuessModel" "newMany" "I", .fieldLink RX6 17 "KeyGuessModel" "news" "[I", .methodLink RX6 75 yX6_placeIn, .static yX6_placeIn, .initialized RX6, .code yX6_placeIn cX6_placeIn 4 (some .int), .methodLink RX6 79 yX6_insertNow, .instanceMethod yX6_insertNow, .selects RX6 yX6_insertNow yX6_insertNow, .code yX6_insertNow cX6_insertNow 3 none, .fieldLink RX6 27 "KeyGuessModel" "now" "[I"] ++ wsX60)
def wsX6_isThere : List Cond := .code yX6_isThere cX6_isThere 2 (some .boolean) :: ([.fieldLink RX6 27 "KeyGuessModel" "now" "[I", .fieldLink RX6 66 "KeyGuessModel" "nowMany" "I", .methodLink RX6 86 yX6_layNow, .instanceMethod yX6_layNow, .selects RX6 yX6_layNow yX6_layNow, .initialized RX6, .code yX6_layNow cX6_layNow 2 none, .fieldLink RX6 69 "KeyGuessModel" "rowMany" "I", .fieldLink RX6 20 "KeyGuessModel" "olds" "[I", .fieldLink RX6 72 "KeyGuessModel" "oldMany" "I", .fieldLink RX6 7 "KeyGuessModel" "row" "[I", .fieldLink RX6 83 "KeyGuessModel" "newMany" "I", .fieldLink RX6 17 "KeyGuessModel" "news" "[I", .methodLink RX6 75 yX6_placeIn, .static yX6_placeIn, .code yX6_placeIn cX6_placeIn 4 (some .int), .methodLink RX6 79 yX6_insertNow, .instanceMethod yX6_insertNow, .selects RX6 yX6_insertNow yX6_insertNow, .code yX6_insertNow cX6_insertNow 3 none] ++ wsX60)
def wsX6_setBits : List Cond := .code yX6_setBits cX6_setBits 2 none :: ([.fieldLink RX6 23 "KeyGuessModel" "bits" "[Z"] ++ wsX60)
def wsX6_makeRow_r1 : List Cond := [Cond.fieldLink RX6 23 "KeyGuessModel" "bits" "[Z", Cond.fieldLink RX6 66 "KeyGuessModel" "nowMany" "I", Cond.fieldLink RX6 69 "KeyGuessModel" "rowMany" "I", Cond.fieldLink RX6 7 "KeyGuessModel" "row" "[I", Cond.fieldLink RX6 27 "KeyGuessModel" "now" "[I", Cond.fieldLink RX6 83 "KeyGuessModel" "newMany" "I", Cond.fieldLink RX6 72 "KeyGuessModel" "oldMany" "I", Cond.fieldLink RX6 92 "KeyGuessModel" "cost" "I", Cond.methodLink RX6 86 yX6_layNow, Cond.instanceMethod yX6_layNow, Cond.selects RX6 yX6_layNow yX6_layNow, Cond.initialized RX6, Cond.code yX6_layNow cX6_layNow 2 none, Cond.fieldLink RX6 20 "KeyGuessModel" "olds" "[I", Cond.fieldLink RX6 17 "KeyGuessModel" "news" "[I", Cond.methodLink RX6 75 yX6_placeIn, Cond.static yX6_placeIn, Cond.code yX6_placeIn cX6_placeIn 4 (some .int), Cond.methodLink RX6 79 yX6_insertNow, Cond.instanceMethod yX6_insertNow, Cond.selects RX6 yX6_insertNow yX6_insertNow, Cond.code yX6_insertNow cX6_insertNow 3 none, Cond.methodLink RX6 89 yX6_setBits, Cond.instanceMethod yX6_setBits]
def wsX6_makeRow_r2 : List Cond := [Cond.selects RX6 yX6_setBits yX6_setBits, Cond.code yX6_setBits cX6_setBits 2 none, Cond.methodLink RX6 58 yX6_layLevels, Cond.instanceMethod yX6_layLevels, Cond.selects RX6 yX6_layLevels yX6_layLevels, Cond.code yX6_layLevels cX6_layLevels 3 none, Cond.fieldLink RX6 139 "KeyGuessModel" "levelMany" "I", Cond.fieldLink RX6 122 "KeyGuessModel" "keyMany" "I", Cond.fieldLink RX6 30 "KeyGuessModel" "keys" "[I", Cond.fieldLink RX6 39 "KeyGuessModel" "pieceMany" "[I", Cond.fieldLink RX6 48 "KeyGuessModel" "firstKeys" "[I", Cond.methodLink RX6 142 yX6_layLevel, Cond.instanceMethod yX6_layLevel, Cond.selects RX6 yX6_layLevel yX6_layLevel, Cond.code yX6_layLevel cX6_layLevel 8 none, Cond.fieldLink RX6 111 "KeyGuessModel" "lowUp" "J", Cond.fieldLink RX6 115 "KeyGuessModel" "lowBelow" "J", Cond.fieldLink RX6 42 "KeyGuessModel" "firsts" "[I", Cond.fieldLink RX6 45 "KeyGuessModel" "lasts" "[I", Cond.fieldLink RX6 51 "KeyGuessModel" "ups" "[J", Cond.fieldLink RX6 55 "KeyGuessModel" "belows" "[J", Cond.methodLink RX6 128 yX6_layPieces, Cond.instanceMethod yX6_layPieces, Cond.selects RX6 yX6_layPieces yX6_layPieces]
def wsX6_makeRow_r3 : List Cond := [Cond.code yX6_layPieces cX6_layPieces 4 none, Cond.fieldLink RX6 36 "KeyGuessModel" "fewest" "[I", Cond.fieldLink RX6 33 "KeyGuessModel" "reach" "[I", Cond.methodLink RX6 125 yX6_keeps, Cond.instanceMethod yX6_keeps, Cond.selects RX6 yX6_keeps yX6_keeps, Cond.code yX6_keeps cX6_keeps 5 (some .boolean), Cond.fieldLink RX6 13 "KeyGuessModel" "e" "I", Cond.methodLink RX6 118 yX6_layLow, Cond.instanceMethod yX6_layLow, Cond.selects RX6 yX6_layLow yX6_layLow, Cond.code yX6_layLow cX6_layLow 8 none, Cond.methodLink RX6 131 yX6_endOf, Cond.instanceMethod yX6_endOf, Cond.selects RX6 yX6_endOf yX6_endOf, Cond.code yX6_endOf cX6_endOf 3 (some .int), Cond.methodLink RX6 135 yX6_divisor, Cond.static yX6_divisor, Cond.code yX6_divisor cX6_divisor 10 (some .long)]
def wsX6_makeRow : List Cond := .code yX6_makeRow cX6_makeRow 2 none :: ((wsX6_makeRow_r1 ++ (wsX6_makeRow_r2 ++ wsX6_makeRow_r3)) ++ wsX60)
def wsX6_put_r1 : List Cond := [Cond.fieldLink RX6 66 "KeyGuessModel" "nowMany" "I", Cond.fieldLink RX6 20 "KeyGuessModel" "olds" "[I", Cond.fieldLink RX6 72 "KeyGuessModel" "oldMany" "I", Cond.fieldLink RX6 83 "KeyGuessModel" "newMany" "I", Cond.fieldLink RX6 17 "KeyGuessModel" "news" "[I", Cond.methodLink RX6 95 yX6_isNumber, Cond.static yX6_isNumber, Cond.initialized RX6, Cond.code yX6_isNumber cX6_isNumber 1 (some .boolean), Cond.constant RX6 61 (1000000), Cond.methodLink RX6 62 yX6_in, Cond.static yX6_in, Cond.code yX6_in cX6_in 3 (some .boolean), Cond.methodLink RX6 99 yX6_isThere, Cond.instanceMethod yX6_isThere, Cond.selects RX6 yX6_isThere yX6_isThere, Cond.code yX6_isThere cX6_isThere 2 (some .boolean), Cond.fieldLink RX6 27 "KeyGuessModel" "now" "[I", Cond.methodLink RX6 86 yX6_layNow, Cond.instanceMethod yX6_layNow, Cond.selects RX6 yX6_layNow yX6_layNow, Cond.code yX6_layNow cX6_layNow 2 none, Cond.fieldLink RX6 69 "KeyGuessModel" "rowMany" "I", Cond.fieldLink RX6 7 "KeyGuessModel" "row" "[I"]
def wsX6_put_r2 : List Cond := [Cond.methodLink RX6 75 yX6_placeIn, Cond.static yX6_placeIn, Cond.code yX6_placeIn cX6_placeIn 4 (some .int), Cond.methodLink RX6 79 yX6_insertNow, Cond.instanceMethod yX6_insertNow, Cond.selects RX6 yX6_insertNow yX6_insertNow, Cond.code yX6_insertNow cX6_insertNow 3 none, Cond.methodLink RX6 102 yX6_makeRow, Cond.instanceMethod yX6_makeRow, Cond.selects RX6 yX6_makeRow yX6_makeRow, Cond.code yX6_makeRow cX6_makeRow 2 none, Cond.fieldLink RX6 23 "KeyGuessModel" "bits" "[Z", Cond.fieldLink RX6 92 "KeyGuessModel" "cost" "I", Cond.methodLink RX6 89 yX6_setBits, Cond.instanceMethod yX6_setBits, Cond.selects RX6 yX6_setBits yX6_setBits, Cond.code yX6_setBits cX6_setBits 2 none, Cond.methodLink RX6 58 yX6_layLevels, Cond.instanceMethod yX6_layLevels, Cond.selects RX6 yX6_layLevels yX6_layLevels, Cond.code yX6_layLevels cX6_layLevels 3 none, Cond.fieldLink RX6 139 "KeyGuessModel" "levelMany" "I", Cond.fieldLink RX6 122 "KeyGuessModel" "keyMany" "I", Cond.fieldLink RX6 30 "KeyGuessModel" "keys" "[I"]
def wsX6_put_r3 : List Cond := [Cond.fieldLink RX6 39 "KeyGuessModel" "pieceMany" "[I", Cond.fieldLink RX6 48 "KeyGuessModel" "firstKeys" "[I", Cond.methodLink RX6 142 yX6_layLevel, Cond.instanceMethod yX6_layLevel, Cond.selects RX6 yX6_layLevel yX6_layLevel, Cond.code yX6_layLevel cX6_layLevel 8 none, Cond.fieldLink RX6 111 "KeyGuessModel" "lowUp" "J", Cond.fieldLink RX6 115 "KeyGuessModel" "lowBelow" "J", Cond.fieldLink RX6 42 "KeyGuessModel" "firsts" "[I", Cond.fieldLink RX6 45 "KeyGuessModel" "lasts" "[I", Cond.fieldLink RX6 51 "KeyGuessModel" "ups" "[J", Cond.fieldLink RX6 55 "KeyGuessModel" "belows" "[J", Cond.methodLink RX6 128 yX6_layPieces, Cond.instanceMethod yX6_layPieces, Cond.selects RX6 yX6_layPieces yX6_layPieces, Cond.code yX6_layPieces cX6_layPieces 4 none, Cond.fieldLink RX6 36 "KeyGuessModel" "fewest" "[I", Cond.fieldLink RX6 33 "KeyGuessModel" "reach" "[I", Cond.methodLink RX6 125 yX6_keeps, Cond.instanceMethod yX6_keeps, Cond.selects RX6 yX6_keeps yX6_keeps, Cond.code yX6_keeps cX6_keeps 5 (some .boolean), Cond.fieldLink RX6 13 "KeyGuessModel" "e" "I", Cond.methodLink RX6 118 yX6_layLow]
def wsX6_put_r4 : List Cond := [Cond.instanceMethod yX6_layLow, Cond.selects RX6 yX6_layLow yX6_layLow, Cond.code yX6_layLow cX6_layLow 8 none, Cond.methodLink RX6 131 yX6_endOf, Cond.instanceMethod yX6_endOf, Cond.selects RX6 yX6_endOf yX6_endOf, Cond.code yX6_endOf cX6_endOf 3 (some .int), Cond.methodLink RX6 135 yX6_divisor, Cond.static yX6_divisor, Cond.code yX6_divisor cX6_divisor 10 (some .long)]
def wsX6_put : List Cond := .code yX6_put cX6_put 3 (some .int) :: ((wsX6_put_r1 ++ (wsX6_put_r2 ++ (wsX6_put_r3 ++ wsX6_put_r4))) ++ wsX60)
def wsX6_take_r1 : List Cond := [Cond.fieldLink RX6 17 "KeyGuessModel" "news" "[I", Cond.fieldLink RX6 83 "KeyGuessModel" "newMany" "I", Cond.fieldLink RX6 72 "KeyGuessModel" "oldMany" "I", Cond.fieldLink RX6 20 "KeyGuessModel" "olds" "[I", Cond.fieldLink RX6 66 "KeyGuessModel" "nowMany" "I", Cond.methodLink RX6 95 yX6_isNumber, Cond.static yX6_isNumber, Cond.initialized RX6, Cond.code yX6_isNumber cX6_isNumber 1 (some .boolean), Cond.constant RX6 61 (1000000), Cond.methodLink RX6 62 yX6_in, Cond.static yX6_in, Cond.code yX6_in cX6_in 3 (some .boolean), Cond.methodLink RX6 99 yX6_isThere, Cond.instanceMethod yX6_isThere, Cond.selects RX6 yX6_isThere yX6_isThere, Cond.code yX6_isThere cX6_isThere 2 (some .boolean), Cond.fieldLink RX6 27 "KeyGuessModel" "now" "[I", Cond.methodLink RX6 86 yX6_layNow, Cond.instanceMethod yX6_layNow, Cond.selects RX6 yX6_layNow yX6_layNow, Cond.code yX6_layNow cX6_layNow 2 none, Cond.fieldLink RX6 69 "KeyGuessModel" "rowMany" "I", Cond.fieldLink RX6 7 "KeyGuessModel" "row" "[I"]
def wsX6_take_r2 : List Cond := [Cond.methodLink RX6 75 yX6_placeIn, Cond.static yX6_placeIn, Cond.code yX6_placeIn cX6_placeIn 4 (some .int), Cond.methodLink RX6 79 yX6_insertNow, Cond.instanceMethod yX6_insertNow, Cond.selects RX6 yX6_insertNow yX6_insertNow, Cond.code yX6_insertNow cX6_insertNow 3 none, Cond.methodLink RX6 102 yX6_makeRow, Cond.instanceMethod yX6_makeRow, Cond.selects RX6 yX6_makeRow yX6_makeRow, Cond.code yX6_makeRow cX6_makeRow 2 none, Cond.fieldLink RX6 23 "KeyGuessModel" "bits" "[Z", Cond.fieldLink RX6 92 "KeyGuessModel" "cost" "I", Cond.methodLink RX6 89 yX6_setBits, Cond.instanceMethod yX6_setBits, Cond.selects RX6 yX6_setBits yX6_setBits, Cond.code yX6_setBits cX6_setBits 2 none, Cond.methodLink RX6 58 yX6_layLevels, Cond.instanceMethod yX6_layLevels, Cond.selects RX6 yX6_layLevels yX6_layLevels, Cond.code yX6_layLevels cX6_layLevels 3 none, Cond.fieldLink RX6 139 "KeyGuessModel" "levelMany" "I", Cond.fieldLink RX6 122 "KeyGuessModel" "keyMany" "I", Cond.fieldLink RX6 30 "KeyGuessModel" "keys" "[I"]
def wsX6_take_r3 : List Cond := [Cond.fieldLink RX6 39 "KeyGuessModel" "pieceMany" "[I", Cond.fieldLink RX6 48 "KeyGuessModel" "firstKeys" "[I", Cond.methodLink RX6 142 yX6_layLevel, Cond.instanceMethod yX6_layLevel, Cond.selects RX6 yX6_layLevel yX6_layLevel, Cond.code yX6_layLevel cX6_layLevel 8 none, Cond.fieldLink RX6 111 "KeyGuessModel" "lowUp" "J", Cond.fieldLink RX6 115 "KeyGuessModel" "lowBelow" "J", Cond.fieldLink RX6 42 "KeyGuessModel" "firsts" "[I", Cond.fieldLink RX6 45 "KeyGuessModel" "lasts" "[I", Cond.fieldLink RX6 51 "KeyGuessModel" "ups" "[J", Cond.fieldLink RX6 55 "KeyGuessModel" "belows" "[J", Cond.methodLink RX6 128 yX6_layPieces, Cond.instanceMethod yX6_layPieces, Cond.selects RX6 yX6_layPieces yX6_layPieces, Cond.code yX6_layPieces cX6_layPieces 4 none, Cond.fieldLink RX6 36 "KeyGuessModel" "fewest" "[I", Cond.fieldLink RX6 33 "KeyGuessModel" "reach" "[I", Cond.methodLink RX6 125 yX6_keeps, Cond.instanceMethod yX6_keeps, Cond.selects RX6 yX6_keeps yX6_keeps, Cond.code yX6_keeps cX6_keeps 5 (some .boolean), Cond.fieldLink RX6 13 "KeyGuessModel" "e" "I", Cond.methodLink RX6 118 yX6_layLow]
def wsX6_take_r4 : List Cond := [Cond.instanceMethod yX6_layLow, Cond.selects RX6 yX6_layLow yX6_layLow, Cond.code yX6_layLow cX6_layLow 8 none, Cond.methodLink RX6 131 yX6_endOf, Cond.instanceMethod yX6_endOf, Cond.selects RX6 yX6_endOf yX6_endOf, Cond.code yX6_endOf cX6_endOf 3 (some .int), Cond.methodLink RX6 135 yX6_divisor, Cond.static yX6_divisor, Cond.code yX6_divisor cX6_divisor 10 (some .long)]
def wsX6_take : List Cond := .code yX6_take cX6_take 3 (some .int) :: ((wsX6_take_r1 ++ (wsX6_take_r2 ++ (wsX6_take_r3 ++ wsX6_take_r4))) ++ wsX60)
def wsX6_make_r1 : List Cond := [Cond.fieldLink RX6 92 "KeyGuessModel" "cost" "I", Cond.methodLink RX6 102 yX6_makeRow, Cond.instanceMethod yX6_makeRow, Cond.selects RX6 yX6_makeRow yX6_makeRow, Cond.initialized RX6, Cond.code yX6_makeRow cX6_makeRow 2 none, Cond.fieldLink RX6 23 "KeyGuessModel" "bits" "[Z", Cond.fieldLink RX6 66 "KeyGuessModel" "nowMany" "I", Cond.fieldLink RX6 69 "KeyGuessModel" "rowMany" "I", Cond.fieldLink RX6 7 "KeyGuessModel" "row" "[I", Cond.fieldLink RX6 27 "KeyGuessModel" "now" "[I", Cond.fieldLink RX6 83 "KeyGuessModel" "newMany" "I", Cond.fieldLink RX6 72 "KeyGuessModel" "oldMany" "I", Cond.methodLink RX6 86 yX6_layNow, Cond.instanceMethod yX6_layNow, Cond.selects RX6 yX6_layNow yX6_layNow, Cond.code yX6_layNow cX6_layNow 2 none, Cond.fieldLink RX6 20 "KeyGuessModel" "olds" "[I", Cond.fieldLink RX6 17 "KeyGuessModel" "news" "[I", Cond.methodLink RX6 75 yX6_placeIn, Cond.static yX6_placeIn, Cond.code yX6_placeIn cX6_placeIn 4 (some .int), Cond.methodLink RX6 79 yX6_insertNow, Cond.instanceMethod yX6_insertNow]
def wsX6_make_r2 : List Cond := [Cond.selects RX6 yX6_insertNow yX6_insertNow, Cond.code yX6_insertNow cX6_insertNow 3 none, Cond.methodLink RX6 89 yX6_setBits, Cond.instanceMethod yX6_setBits, Cond.selects RX6 yX6_setBits yX6_setBits, Cond.code yX6_setBits cX6_setBits 2 none, Cond.methodLink RX6 58 yX6_layLevels, Cond.instanceMethod yX6_layLevels, Cond.selects RX6 yX6_layLevels yX6_layLevels, Cond.code yX6_layLevels cX6_layLevels 3 none, Cond.fieldLink RX6 139 "KeyGuessModel" "levelMany" "I", Cond.fieldLink RX6 122 "KeyGuessModel" "keyMany" "I", Cond.fieldLink RX6 30 "KeyGuessModel" "keys" "[I", Cond.fieldLink RX6 39 "KeyGuessModel" "pieceMany" "[I", Cond.fieldLink RX6 48 "KeyGuessModel" "firstKeys" "[I", Cond.methodLink RX6 142 yX6_layLevel, Cond.instanceMethod yX6_layLevel, Cond.selects RX6 yX6_layLevel yX6_layLevel, Cond.code yX6_layLevel cX6_layLevel 8 none, Cond.fieldLink RX6 111 "KeyGuessModel" "lowUp" "J", Cond.fieldLink RX6 115 "KeyGuessModel" "lowBelow" "J", Cond.fieldLink RX6 42 "KeyGuessModel" "firsts" "[I", Cond.fieldLink RX6 45 "KeyGuessModel" "lasts" "[I", Cond.fieldLink RX6 51 "KeyGuessModel" "ups" "[J"]
def wsX6_make_r3 : List Cond := [Cond.fieldLink RX6 55 "KeyGuessModel" "belows" "[J", Cond.methodLink RX6 128 yX6_layPieces, Cond.instanceMethod yX6_layPieces, Cond.selects RX6 yX6_layPieces yX6_layPieces, Cond.code yX6_layPieces cX6_layPieces 4 none, Cond.fieldLink RX6 36 "KeyGuessModel" "fewest" "[I", Cond.fieldLink RX6 33 "KeyGuessModel" "reach" "[I", Cond.methodLink RX6 125 yX6_keeps, Cond.instanceMethod yX6_keeps, Cond.selects RX6 yX6_keeps yX6_keeps, Cond.code yX6_keeps cX6_keeps 5 (some .boolean), Cond.fieldLink RX6 13 "KeyGuessModel" "e" "I", Cond.methodLink RX6 118 yX6_layLow, Cond.instanceMethod yX6_layLow, Cond.selects RX6 yX6_layLow yX6_layLow, Cond.code yX6_layLow cX6_layLow 8 none, Cond.methodLink RX6 131 yX6_endOf, Cond.instanceMethod yX6_endOf, Cond.selects RX6 yX6_endOf yX6_endOf, Cond.code yX6_endOf cX6_endOf 3 (some .int), Cond.methodLink RX6 135 yX6_divisor, Cond.static yX6_divisor, Cond.code yX6_divisor cX6_divisor 10 (some .long)]
def wsX6_make : List Cond := .code yX6_make cX6_make 1 (some .int) :: ((wsX6_make_r1 ++ (wsX6_make_r2 ++ wsX6_make_r3)) ++ wsX60)
def wsX6_slack_r1 : List Cond := [Cond.fieldLink RX6 13 "KeyGuessModel" "e" "I", Cond.methodLink RX6 62 yX6_in, Cond.static yX6_in, Cond.initialized RX6, Cond.code yX6_in cX6_in 3 (some .boolean), Cond.methodLink RX6 102 yX6_makeRow, Cond.instanceMethod yX6_makeRow, Cond.selects RX6 yX6_makeRow yX6_makeRow, Cond.code yX6_makeRow cX6_makeRow 2 none, Cond.fieldLink RX6 23 "KeyGuessModel" "bits" "[Z", Cond.fieldLink RX6 66 "KeyGuessModel" "nowMany" "I", Cond.fieldLink RX6 69 "KeyGuessModel" "rowMany" "I", Cond.fieldLink RX6 7 "KeyGuessModel" "row" "[I", Cond.fieldLink RX6 27 "KeyGuessModel" "now" "[I", Cond.fieldLink RX6 83 "KeyGuessModel" "newMany" "I", Cond.fieldLink RX6 72 "KeyGuessModel" "oldMany" "I", Cond.fieldLink RX6 92 "KeyGuessModel" "cost" "I", Cond.methodLink RX6 86 yX6_layNow, Cond.instanceMethod yX6_layNow, Cond.selects RX6 yX6_layNow yX6_layNow, Cond.code yX6_layNow cX6_layNow 2 none, Cond.fieldLink RX6 20 "KeyGuessModel" "olds" "[I", Cond.fieldLink RX6 17 "KeyGuessModel" "news" "[I", Cond.methodLink RX6 75 yX6_placeIn]
def wsX6_slack_r2 : List Cond := [Cond.static yX6_placeIn, Cond.code yX6_placeIn cX6_placeIn 4 (some .int), Cond.methodLink RX6 79 yX6_insertNow, Cond.instanceMethod yX6_insertNow, Cond.selects RX6 yX6_insertNow yX6_insertNow, Cond.code yX6_insertNow cX6_insertNow 3 none, Cond.methodLink RX6 89 yX6_setBits, Cond.instanceMethod yX6_setBits, Cond.selects RX6 yX6_setBits yX6_setBits, Cond.code yX6_setBits cX6_setBits 2 none, Cond.methodLink RX6 58 yX6_layLevels, Cond.instanceMethod yX6_layLevels, Cond.selects RX6 yX6_layLevels yX6_layLevels, Cond.code yX6_layLevels cX6_layLevels 3 none, Cond.fieldLink RX6 139 "KeyGuessModel" "levelMany" "I", Cond.fieldLink RX6 122 "KeyGuessModel" "keyMany" "I", Cond.fieldLink RX6 30 "KeyGuessModel" "keys" "[I", Cond.fieldLink RX6 39 "KeyGuessModel" "pieceMany" "[I", Cond.fieldLink RX6 48 "KeyGuessModel" "firstKeys" "[I", Cond.methodLink RX6 142 yX6_layLevel, Cond.instanceMethod yX6_layLevel, Cond.selects RX6 yX6_layLevel yX6_layLevel, Cond.code yX6_layLevel cX6_layLevel 8 none, Cond.fieldLink RX6 111 "KeyGuessModel" "lowUp" "J"]
def wsX6_slack_r3 : List Cond := [Cond.fieldLink RX6 115 "KeyGuessModel" "lowBelow" "J", Cond.fieldLink RX6 42 "KeyGuessModel" "firsts" "[I", Cond.fieldLink RX6 45 "KeyGuessModel" "lasts" "[I", Cond.fieldLink RX6 51 "KeyGuessModel" "ups" "[J", Cond.fieldLink RX6 55 "KeyGuessModel" "belows" "[J", Cond.methodLink RX6 128 yX6_layPieces, Cond.instanceMethod yX6_layPieces, Cond.selects RX6 yX6_layPieces yX6_layPieces, Cond.code yX6_layPieces cX6_layPieces 4 none, Cond.fieldLink RX6 36 "KeyGuessModel" "fewest" "[I", Cond.fieldLink RX6 33 "KeyGuessModel" "reach" "[I", Cond.methodLink RX6 125 yX6_keeps, Cond.instanceMethod yX6_keeps, Cond.selects RX6 yX6_keeps yX6_keeps, Cond.code yX6_keeps cX6_keeps 5 (some .boolean), Cond.methodLink RX6 118 yX6_layLow, Cond.instanceMethod yX6_layLow, Cond.selects RX6 yX6_layLow yX6_layLow, Cond.code yX6_layLow cX6_layLow 8 none, Cond.methodLink RX6 131 yX6_endOf, Cond.instanceMethod yX6_endOf, Cond.selects RX6 yX6_endOf yX6_endOf, Cond.code yX6_endOf cX6_endOf 3 (some .int), Cond.methodLink RX6 135 yX6_divisor]
def wsX6_slack_r4 : List Cond := [Cond.static yX6_divisor, Cond.code yX6_divisor cX6_divisor 10 (some .long)]
def wsX6_slack : List Cond := .code yX6_slack cX6_slack 3 (some .int) :: ((wsX6_slack_r1 ++ (wsX6_slack_r2 ++ (wsX6_slack_r3 ++ wsX6_slack_r4))) ++ wsX60)
def wsX6_place_r1 : List Cond := [Cond.fieldLink RX6 27 "KeyGuessModel" "now" "[I", Cond.fieldLink RX6 66 "KeyGuessModel" "nowMany" "I", Cond.methodLink RX6 95 yX6_isNumber, Cond.static yX6_isNumber, Cond.initialized RX6, Cond.code yX6_isNumber cX6_isNumber 1 (some .boolean), Cond.constant RX6 61 (1000000), Cond.methodLink RX6 62 yX6_in, Cond.static yX6_in, Cond.code yX6_in cX6_in 3 (some .boolean), Cond.methodLink RX6 86 yX6_layNow, Cond.instanceMethod yX6_layNow, Cond.selects RX6 yX6_layNow yX6_layNow, Cond.code yX6_layNow cX6_layNow 2 none, Cond.fieldLink RX6 69 "KeyGuessModel" "rowMany" "I", Cond.fieldLink RX6 20 "KeyGuessModel" "olds" "[I", Cond.fieldLink RX6 72 "KeyGuessModel" "oldMany" "I", Cond.fieldLink RX6 7 "KeyGuessModel" "row" "[I", Cond.fieldLink RX6 83 "KeyGuessModel" "newMany" "I", Cond.fieldLink RX6 17 "KeyGuessModel" "news" "[I", Cond.methodLink RX6 75 yX6_placeIn, Cond.static yX6_placeIn, Cond.code yX6_placeIn cX6_placeIn 4 (some .int), Cond.methodLink RX6 79 yX6_insertNow]
def wsX6_place_r2 : List Cond := [Cond.instanceMethod yX6_insertNow, Cond.selects RX6 yX6_insertNow yX6_insertNow, Cond.code yX6_insertNow cX6_insertNow 3 none]
def wsX6_place : List Cond := .code yX6_place cX6_place 2 (some .int) :: ((wsX6_place_r1 ++ wsX6_place_r2) ++ wsX60)
def wsX6_at : List Cond := .code yX6_at cX6_at 2 (some .int) :: ([.fieldLink RX6 66 "KeyGuessModel" "nowMany" "I", .fieldLink RX6 27 "KeyGuessModel" "now" "[I", .methodLink RX6 86 yX6_layNow, .instanceMethod yX6_layNow, .selects RX6 yX6_layNow yX6_layNow, .initialized RX6, .code yX6_layNow cX6_layNow 2 none, .fieldLink RX6 69 "KeyGuessModel" "rowMany" "I", .fieldLink RX6 20 "KeyGuessModel" "olds" "[I", .fieldLink RX6 72 "KeyGuessModel" "oldMany" "I", .fieldLink RX6 7 "KeyGuessModel" "row" "[I", .fieldLink RX6 83 "KeyGuessModel" "newMany" "I", .fieldLink RX6 17 "KeyGuessModel" "news" "[I", .methodLink RX6 75 yX6_placeIn, .static yX6_placeIn, .code yX6_placeIn cX6_placeIn 4 (some .int), .methodLink RX6 79 yX6_insertNow, .instanceMethod yX6_insertNow, .selects RX6 yX6_insertNow yX6_insertNow, .code yX6_insertNow cX6_insertNow 3 none, .methodLink RX6 62 yX6_in, .static yX6_in, .code yX6_in cX6_in 3 (some .boolean)] ++ wsX60)
def wsX6_isSpan : List Cond := .code yX6_isSpan cX6_isSpan 2 (some .boolean) :: ([.methodLink RX6 95 yX6_isNumber, .static yX6_isNumber, .initialized RX6, .code yX6_isNumber cX6_isNumber 1 (some .boolean), .constant RX6 61 (1000000), .methodLink RX6 62 yX6_in, .static yX6_in, .code yX6_in cX6_in 3 (some .boolean)])
def wsX6_range_r1 : List Cond := [Cond.fieldLink RX6 66 "KeyGuessModel" "nowMany" "I", Cond.fieldLink RX6 27 "KeyGuessModel" "now" "[I", Cond.methodLink RX6 105 yX6_isSpan, Cond.static yX6_isSpan, Cond.initialized RX6, Cond.code yX6_isSpan cX6_isSpan 2 (some .boolean), Cond.methodLink RX6 95 yX6_isNumber, Cond.static yX6_isNumber, Cond.code yX6_isNumber cX6_isNumber 1 (some .boolean), Cond.constant RX6 61 (1000000), Cond.methodLink RX6 62 yX6_in, Cond.static yX6_in, Cond.code yX6_in cX6_in 3 (some .boolean), Cond.methodLink RX6 86 yX6_layNow, Cond.instanceMethod yX6_layNow, Cond.selects RX6 yX6_layNow yX6_layNow, Cond.code yX6_layNow cX6_layNow 2 none, Cond.fieldLink RX6 69 "KeyGuessModel" "rowMany" "I", Cond.fieldLink RX6 20 "KeyGuessModel" "olds" "[I", Cond.fieldLink RX6 72 "KeyGuessModel" "oldMany" "I", Cond.fieldLink RX6 7 "KeyGuessModel" "row" "[I", Cond.fieldLink RX6 83 "KeyGuessModel" "newMany" "I", Cond.fieldLink RX6 17 "KeyGuessModel" "news" "[I", Cond.methodLink RX6 75 yX6_placeIn]
def wsX6_range_r2 : List Cond := [Cond.static yX6_placeIn, Cond.code yX6_placeIn cX6_placeIn 4 (some .int), Cond.methodLink RX6 79 yX6_insertNow, Cond.instanceMethod yX6_insertNow, Cond.selects RX6 yX6_insertNow yX6_insertNow, Cond.code yX6_insertNow cX6_insertNow 3 none]
def wsX6_range : List Cond := .code yX6_range cX6_range 5 (some .int) :: ((wsX6_range_r1 ++ wsX6_range_r2) ++ wsX60)
def wsX6_sum_r1 : List Cond := [Cond.constantLong RX6 109 (-2), Cond.fieldLink RX6 66 "KeyGuessModel" "nowMany" "I", Cond.fieldLink RX6 27 "KeyGuessModel" "now" "[I", Cond.methodLink RX6 105 yX6_isSpan, Cond.static yX6_isSpan, Cond.initialized RX6, Cond.code yX6_isSpan cX6_isSpan 2 (some .boolean), Cond.methodLink RX6 95 yX6_isNumber, Cond.static yX6_isNumber, Cond.code yX6_isNumber cX6_isNumber 1 (some .boolean), Cond.constant RX6 61 (1000000), Cond.methodLink RX6 62 yX6_in, Cond.static yX6_in, Cond.code yX6_in cX6_in 3 (some .boolean), Cond.methodLink RX6 86 yX6_layNow, Cond.instanceMethod yX6_layNow, Cond.selects RX6 yX6_layNow yX6_layNow, Cond.code yX6_layNow cX6_layNow 2 none, Cond.fieldLink RX6 69 "KeyGuessModel" "rowMany" "I", Cond.fieldLink RX6 20 "KeyGuessModel" "olds" "[I", Cond.fieldLink RX6 72 "KeyGuessModel" "oldMany" "I", Cond.fieldLink RX6 7 "KeyGuessModel" "row" "[I", Cond.fieldLink RX6 83 "KeyGuessModel" "newMany" "I", Cond.fieldLink RX6 17 "KeyGuessModel" "news" "[I"]
def wsX6_sum_r2 : List Cond := [Cond.methodLink RX6 75 yX6_placeIn, Cond.static yX6_placeIn, Cond.code yX6_placeIn cX6_placeIn 4 (some .int), Cond.methodLink RX6 79 yX6_insertNow, Cond.instanceMethod yX6_insertNow, Cond.selects RX6 yX6_insertNow yX6_insertNow, Cond.code yX6_insertNow cX6_insertNow 3 none]
def wsX6_sum : List Cond := .code yX6_sum cX6_sum 6 (some .long) :: ((wsX6_sum_r1 ++ wsX6_sum_r2) ++ wsX60)
def wsX6_piecesAt : List Cond := .code yX6_piecesAt cX6_piecesAt 2 (some .int) :: ([.fieldLink RX6 139 "KeyGuessModel" "levelMany" "I", .fieldLink RX6 39 "KeyGuessModel" "pieceMany" "[I"] ++ wsX60)
def wsX6_pieces : List Cond := .code yX6_pieces cX6_pieces 2 (some .int) :: ([.methodLink RX6 62 yX6_in, .static yX6_in, .initialized RX6, .code yX6_in cX6_in 3 (some .boolean), .methodLink RX6 145 yX6_piecesAt, .instanceMethod yX6_piecesAt, .selects RX6 yX6_piecesAt yX6_piecesAt, .code yX6_piecesAt cX6_piecesAt 2 (some .int), .fieldLink RX6 139 "KeyGuessModel" "levelMany" "I", .fieldLink RX6 39 "KeyGuessModel" "pieceMany" "[I"] ++ wsX60)
def wsX6_piece : List Cond := .code yX6_piece cX6_piece 5 (some .int) :: ([.fieldLink RX6 42 "KeyGuessModel" "firsts" "[I", .fieldLink RX6 45 "KeyGuessModel" "lasts" "[I", .fieldLink RX6 48 "KeyGuessModel" "firstKeys" "[I", .fieldLink RX6 51 "KeyGuessModel" "ups" "[J", .fieldLink RX6 55 "KeyGuessModel" "belows" "[J", .methodLink RX6 62 yX6_in, .static yX6_in, .initialized RX6, .code yX6_in cX6_in 3 (some .boolean), .methodLink RX6 145 yX6_piecesAt, .instanceMethod yX6_piecesAt, .selects RX6 yX6_piecesAt yX6_piecesAt, .code yX6_piecesAt cX6_piecesAt 2 (some .int), .fieldLink RX6 139 "KeyGuessModel" "levelMany" "I", .fieldLink RX6 39 "KeyGuessModel" "pieceMany" "[I"] ++ wsX60)
def wsX6_levels : List Cond := .code yX6_levels cX6_levels 1 (some .int) :: ([.fieldLink RX6 139 "KeyGuessModel" "levelMany" "I"] ++ wsX60)
def wsX6_pieceFor : List Cond := .code yX6_pieceFor cX6_pieceFor 4 (some .int) :: ([.fieldLink RX6 48 "KeyGuessModel" "firstKeys" "[I", .methodLink RX6 145 yX6_piecesAt, .instanceMethod yX6_piecesAt, .selects RX6 yX6_piecesAt yX6_piecesAt, .initialized RX6, .code yX6_piecesAt cX6_piecesAt 2 (some .int), .fieldLink RX6 139 "KeyGuessModel" "levelMany" "I", .fieldLink RX6 39 "KeyGuessModel" "pieceMany" "[I"] ++ wsX60)
def wsX6_guessBy : List Cond := .code yX6_guessBy cX6_guessBy 9 (some .int) :: ([.fieldLink RX6 51 "KeyGuessModel" "ups" "[J", .fieldLink RX6 48 "KeyGuessModel" "firstKeys" "[I", .fieldLink RX6 55 "KeyGuessModel" "belows" "[J", .fieldLink RX6 42 "KeyGuessModel" "firsts" "[I", .fieldLink RX6 45 "KeyGuessModel" "lasts" "[I"] ++ wsX60)
def wsX6_guess_r1 : List Cond := [Cond.fieldLink RX6 69 "KeyGuessModel" "rowMany" "I", Cond.methodLink RX6 95 yX6_isNumber, Cond.static yX6_isNumber, Cond.initialized RX6, Cond.code yX6_isNumber cX6_isNumber 1 (some .boolean), Cond.constant RX6 61 (1000000), Cond.methodLink RX6 62 yX6_in, Cond.static yX6_in, Cond.code yX6_in cX6_in 3 (some .boolean), Cond.methodLink RX6 148 yX6_pieceFor, Cond.instanceMethod yX6_pieceFor, Cond.selects RX6 yX6_pieceFor yX6_pieceFor, Cond.code yX6_pieceFor cX6_pieceFor 4 (some .int), Cond.fieldLink RX6 48 "KeyGuessModel" "firstKeys" "[I", Cond.methodLink RX6 145 yX6_piecesAt, Cond.instanceMethod yX6_piecesAt, Cond.selects RX6 yX6_piecesAt yX6_piecesAt, Cond.code yX6_piecesAt cX6_piecesAt 2 (some .int), Cond.fieldLink RX6 139 "KeyGuessModel" "levelMany" "I", Cond.fieldLink RX6 39 "KeyGuessModel" "pieceMany" "[I", Cond.methodLink RX6 151 yX6_guessBy, Cond.instanceMethod yX6_guessBy, Cond.selects RX6 yX6_guessBy yX6_guessBy, Cond.code yX6_guessBy cX6_guessBy 9 (some .int)]
def wsX6_guess_r2 : List Cond := [Cond.fieldLink RX6 51 "KeyGuessModel" "ups" "[J", Cond.fieldLink RX6 55 "KeyGuessModel" "belows" "[J", Cond.fieldLink RX6 42 "KeyGuessModel" "firsts" "[I", Cond.fieldLink RX6 45 "KeyGuessModel" "lasts" "[I"]
def wsX6_guess : List Cond := .code yX6_guess cX6_guess 2 (some .int) :: ((wsX6_guess_r1 ++ wsX6_guess_r2) ++ wsX60)
def wsX6_lookFor_r1 : List Cond := [Cond.fieldLink RX6 155 "KeyGuessModel" "looked" "I", Cond.fieldLink RX6 69 "KeyGuessModel" "rowMany" "I", Cond.fieldLink RX6 13 "KeyGuessModel" "e" "I", Cond.fieldLink RX6 42 "KeyGuessModel" "firsts" "[I", Cond.fieldLink RX6 45 "KeyGuessModel" "lasts" "[I", Cond.fieldLink RX6 7 "KeyGuessModel" "row" "[I", Cond.methodLink RX6 148 yX6_pieceFor, Cond.instanceMethod yX6_pieceFor, Cond.selects RX6 yX6_pieceFor yX6_pieceFor, Cond.initialized RX6, Cond.code yX6_pieceFor cX6_pieceFor 4 (some .int), Cond.fieldLink RX6 48 "KeyGuessModel" "firstKeys" "[I", Cond.methodLink RX6 145 yX6_piecesAt, Cond.instanceMethod yX6_piecesAt, Cond.selects RX6 yX6_piecesAt yX6_piecesAt, Cond.code yX6_piecesAt cX6_piecesAt 2 (some .int), Cond.fieldLink RX6 139 "KeyGuessModel" "levelMany" "I", Cond.fieldLink RX6 39 "KeyGuessModel" "pieceMany" "[I", Cond.methodLink RX6 151 yX6_guessBy, Cond.instanceMethod yX6_guessBy, Cond.selects RX6 yX6_guessBy yX6_guessBy, Cond.code yX6_guessBy cX6_guessBy 9 (some .int), Cond.fieldLink RX6 51 "KeyGuessModel" "ups" "[J", Cond.fieldLink RX6 55 "KeyGuessModel" "belows" "[J"]
def wsX6_lookFor_r2 : List Cond := [Cond.methodLink RX6 62 yX6_in, Cond.static yX6_in, Cond.code yX6_in cX6_in 3 (some .boolean)]
def wsX6_lookFor : List Cond := .code yX6_lookFor cX6_lookFor 6 (some .int) :: ((wsX6_lookFor_r1 ++ wsX6_lookFor_r2) ++ wsX60)
def wsX6_find_r1 : List Cond := [Cond.methodLink RX6 95 yX6_isNumber, Cond.static yX6_isNumber, Cond.initialized RX6, Cond.code yX6_isNumber cX6_isNumber 1 (some .boolean), Cond.constant RX6 61 (1000000), Cond.methodLink RX6 62 yX6_in, Cond.static yX6_in, Cond.code yX6_in cX6_in 3 (some .boolean), Cond.methodLink RX6 158 yX6_lookFor, Cond.instanceMethod yX6_lookFor, Cond.selects RX6 yX6_lookFor yX6_lookFor, Cond.code yX6_lookFor cX6_lookFor 6 (some .int), Cond.fieldLink RX6 155 "KeyGuessModel" "looked" "I", Cond.fieldLink RX6 69 "KeyGuessModel" "rowMany" "I", Cond.fieldLink RX6 13 "KeyGuessModel" "e" "I", Cond.fieldLink RX6 42 "KeyGuessModel" "firsts" "[I", Cond.fieldLink RX6 45 "KeyGuessModel" "lasts" "[I", Cond.fieldLink RX6 7 "KeyGuessModel" "row" "[I", Cond.methodLink RX6 148 yX6_pieceFor, Cond.instanceMethod yX6_pieceFor, Cond.selects RX6 yX6_pieceFor yX6_pieceFor, Cond.code yX6_pieceFor cX6_pieceFor 4 (some .int), Cond.fieldLink RX6 48 "KeyGuessModel" "firstKeys" "[I", Cond.methodLink RX6 145 yX6_piecesAt]
def wsX6_find_r2 : List Cond := [Cond.instanceMethod yX6_piecesAt, Cond.selects RX6 yX6_piecesAt yX6_piecesAt, Cond.code yX6_piecesAt cX6_piecesAt 2 (some .int), Cond.fieldLink RX6 139 "KeyGuessModel" "levelMany" "I", Cond.fieldLink RX6 39 "KeyGuessModel" "pieceMany" "[I", Cond.methodLink RX6 151 yX6_guessBy, Cond.instanceMethod yX6_guessBy, Cond.selects RX6 yX6_guessBy yX6_guessBy, Cond.code yX6_guessBy cX6_guessBy 9 (some .int), Cond.fieldLink RX6 51 "KeyGuessModel" "ups" "[J", Cond.fieldLink RX6 55 "KeyGuessModel" "belows" "[J"]
def wsX6_find : List Cond := .code yX6_find cX6_find 2 (some .int) :: ((wsX6_find_r1 ++ wsX6_find_r2) ++ wsX60)
def wsX6_looks_r1 : List Cond := [Cond.fieldLink RX6 155 "KeyGuessModel" "looked" "I", Cond.methodLink RX6 95 yX6_isNumber, Cond.static yX6_isNumber, Cond.initialized RX6, Cond.code yX6_isNumber cX6_isNumber 1 (some .boolean), Cond.constant RX6 61 (1000000), Cond.methodLink RX6 62 yX6_in, Cond.static yX6_in, Cond.code yX6_in cX6_in 3 (some .boolean), Cond.methodLink RX6 158 yX6_lookFor, Cond.instanceMethod yX6_lookFor, Cond.selects RX6 yX6_lookFor yX6_lookFor, Cond.code yX6_lookFor cX6_lookFor 6 (some .int), Cond.fieldLink RX6 69 "KeyGuessModel" "rowMany" "I", Cond.fieldLink RX6 13 "KeyGuessModel" "e" "I", Cond.fieldLink RX6 42 "KeyGuessModel" "firsts" "[I", Cond.fieldLink RX6 45 "KeyGuessModel" "lasts" "[I", Cond.fieldLink RX6 7 "KeyGuessModel" "row" "[I", Cond.methodLink RX6 148 yX6_pieceFor, Cond.instanceMethod yX6_pieceFor, Cond.selects RX6 yX6_pieceFor yX6_pieceFor, Cond.code yX6_pieceFor cX6_pieceFor 4 (some .int), Cond.fieldLink RX6 48 "KeyGuessModel" "firstKeys" "[I", Cond.methodLink RX6 145 yX6_piecesAt]
def wsX6_looks_r2 : List Cond := [Cond.instanceMethod yX6_piecesAt, Cond.selects RX6 yX6_piecesAt yX6_piecesAt, Cond.code yX6_piecesAt cX6_piecesAt 2 (some .int), Cond.fieldLink RX6 139 "KeyGuessModel" "levelMany" "I", Cond.fieldLink RX6 39 "KeyGuessModel" "pieceMany" "[I", Cond.methodLink RX6 151 yX6_guessBy, Cond.instanceMethod yX6_guessBy, Cond.selects RX6 yX6_guessBy yX6_guessBy, Cond.code yX6_guessBy cX6_guessBy 9 (some .int), Cond.fieldLink RX6 51 "KeyGuessModel" "ups" "[J", Cond.fieldLink RX6 55 "KeyGuessModel" "belows" "[J"]
def wsX6_looks : List Cond := .code yX6_looks cX6_looks 2 (some .int) :: ((wsX6_looks_r1 ++ wsX6_looks_r2) ++ wsX60)
def wsX6_isMaybe : List Cond := .code yX6_isMaybe cX6_isMaybe 2 (some .boolean) :: ([.fieldLink RX6 23 "KeyGuessModel" "bits" "[Z"] ++ wsX60)
def wsX6_maybe : List Cond := .code yX6_maybe cX6_maybe 2 (some .int) :: ([.methodLink RX6 95 yX6_isNumber, .static yX6_isNumber, .initialized RX6, .code yX6_isNumber cX6_isNumber 1 (some .boolean), .constant RX6 61 (1000000), .methodLink RX6 62 yX6_in, .static yX6_in, .code yX6_in cX6_in 3 (some .boolean), .methodLink RX6 161 yX6_isMaybe, .instanceMethod yX6_isMaybe, .selects RX6 yX6_isMaybe yX6_isMaybe, .code yX6_isMaybe cX6_isMaybe 2 (some .boolean), .fieldLink RX6 23 "KeyGuessModel" "bits" "[Z"] ++ wsX60)
def wsX6_wrong_r1 : List Cond := [Cond.fieldLink RX6 27 "KeyGuessModel" "now" "[I", Cond.fieldLink RX6 66 "KeyGuessModel" "nowMany" "I", Cond.methodLink RX6 105 yX6_isSpan, Cond.static yX6_isSpan, Cond.initialized RX6, Cond.code yX6_isSpan cX6_isSpan 2 (some .boolean), Cond.methodLink RX6 95 yX6_isNumber, Cond.static yX6_isNumber, Cond.code yX6_isNumber cX6_isNumber 1 (some .boolean), Cond.constant RX6 61 (1000000), Cond.methodLink RX6 62 yX6_in, Cond.static yX6_in, Cond.code yX6_in cX6_in 3 (some .boolean), Cond.methodLink RX6 86 yX6_layNow, Cond.instanceMethod yX6_layNow, Cond.selects RX6 yX6_layNow yX6_layNow, Cond.code yX6_layNow cX6_layNow 2 none, Cond.fieldLink RX6 69 "KeyGuessModel" "rowMany" "I", Cond.fieldLink RX6 20 "KeyGuessModel" "olds" "[I", Cond.fieldLink RX6 72 "KeyGuessModel" "oldMany" "I", Cond.fieldLink RX6 7 "KeyGuessModel" "row" "[I", Cond.fieldLink RX6 83 "KeyGuessModel" "newMany" "I", Cond.fieldLink RX6 17 "KeyGuessModel" "news" "[I", Cond.methodLink RX6 75 yX6_placeIn]
def wsX6_wrong_r2 : List Cond := [Cond.static yX6_placeIn, Cond.code yX6_placeIn cX6_placeIn 4 (some .int), Cond.methodLink RX6 79 yX6_insertNow, Cond.instanceMethod yX6_insertNow, Cond.selects RX6 yX6_insertNow yX6_insertNow, Cond.code yX6_insertNow cX6_insertNow 3 none, Cond.methodLink RX6 161 yX6_isMaybe, Cond.instanceMethod yX6_isMaybe, Cond.selects RX6 yX6_isMaybe yX6_isMaybe, Cond.code yX6_isMaybe cX6_isMaybe 2 (some .boolean), Cond.fieldLink RX6 23 "KeyGuessModel" "bits" "[Z"]
def wsX6_wrong : List Cond := .code yX6_wrong cX6_wrong 5 (some .int) :: ((wsX6_wrong_r1 ++ wsX6_wrong_r2) ++ wsX60)
def wsX6_piecesWith : List Cond := .code yX6_piecesWith cX6_piecesWith 4 (some .int) :: ([.fieldLink RX6 122 "KeyGuessModel" "keyMany" "I", .fieldLink RX6 66 "KeyGuessModel" "nowMany" "I", .fieldLink RX6 27 "KeyGuessModel" "now" "[I", .fieldLink RX6 30 "KeyGuessModel" "keys" "[I", .fieldLink RX6 36 "KeyGuessModel" "fewest" "[I", .methodLink RX6 128 yX6_layPieces, .instanceMethod yX6_layPieces, .selects RX6 yX6_layPieces yX6_layPieces, .initialized RX6, .code yX6_layPieces cX6_layPieces 4 none, .fieldLink RX6 33 "KeyGuessModel" "reach" "[I", .methodLink RX6 125 yX6_keeps, .instanceMethod yX6_keeps, .selects RX6 yX6_keeps yX6_keeps, .code yX6_keeps cX6_keeps 5 (some .boolean), .fieldLink RX6 111 "KeyGuessModel" "lowUp" "J", .fieldLink RX6 13 "KeyGuessModel" "e" "I", .fieldLink RX6 115 "KeyGuessModel" "lowBelow" "J", .methodLink RX6 118 yX6_layLow, .instanceMethod yX6_layLow, .selects RX6 yX6_layLow yX6_layLow, .code yX6_layLow cX6_layLow 8 none] ++ wsX60)
def wsX6_poison_r1 : List Cond := [Cond.fieldLink RX6 66 "KeyGuessModel" "nowMany" "I", Cond.fieldLink RX6 27 "KeyGuessModel" "now" "[I", Cond.methodLink RX6 105 yX6_isSpan, Cond.static yX6_isSpan, Cond.initialized RX6, Cond.code yX6_isSpan cX6_isSpan 2 (some .boolean), Cond.methodLink RX6 95 yX6_isNumber, Cond.static yX6_isNumber, Cond.code yX6_isNumber cX6_isNumber 1 (some .boolean), Cond.constant RX6 61 (1000000), Cond.methodLink RX6 62 yX6_in, Cond.static yX6_in, Cond.code yX6_in cX6_in 3 (some .boolean), Cond.methodLink RX6 86 yX6_layNow, Cond.instanceMethod yX6_layNow, Cond.selects RX6 yX6_layNow yX6_layNow, Cond.code yX6_layNow cX6_layNow 2 none, Cond.fieldLink RX6 69 "KeyGuessModel" "rowMany" "I", Cond.fieldLink RX6 20 "KeyGuessModel" "olds" "[I", Cond.fieldLink RX6 72 "KeyGuessModel" "oldMany" "I", Cond.fieldLink RX6 7 "KeyGuessModel" "row" "[I", Cond.fieldLink RX6 83 "KeyGuessModel" "newMany" "I", Cond.fieldLink RX6 17 "KeyGuessModel" "news" "[I", Cond.methodLink RX6 75 yX6_placeIn]
def wsX6_poison_r2 : List Cond := [Cond.static yX6_placeIn, Cond.code yX6_placeIn cX6_placeIn 4 (some .int), Cond.methodLink RX6 79 yX6_insertNow, Cond.instanceMethod yX6_insertNow, Cond.selects RX6 yX6_insertNow yX6_insertNow, Cond.code yX6_insertNow cX6_insertNow 3 none, Cond.methodLink RX6 164 yX6_piecesWith, Cond.instanceMethod yX6_piecesWith, Cond.selects RX6 yX6_piecesWith yX6_piecesWith, Cond.code yX6_piecesWith cX6_piecesWith 4 (some .int), Cond.fieldLink RX6 122 "KeyGuessModel" "keyMany" "I", Cond.fieldLink RX6 30 "KeyGuessModel" "keys" "[I", Cond.fieldLink RX6 36 "KeyGuessModel" "fewest" "[I", Cond.methodLink RX6 128 yX6_layPieces, Cond.instanceMethod yX6_layPieces, Cond.selects RX6 yX6_layPieces yX6_layPieces, Cond.code yX6_layPieces cX6_layPieces 4 none, Cond.fieldLink RX6 33 "KeyGuessModel" "reach" "[I", Cond.methodLink RX6 125 yX6_keeps, Cond.instanceMethod yX6_keeps, Cond.selects RX6 yX6_keeps yX6_keeps, Cond.code yX6_keeps cX6_keeps 5 (some .boolean), Cond.fieldLink RX6 111 "KeyGuessModel" "lowUp" "J", Cond.fieldLink RX6 13 "KeyGuessModel" "e" "I"]
def wsX6_poison_r3 : List Cond := [Cond.fieldLink RX6 115 "KeyGuessModel" "lowBelow" "J", Cond.methodLink RX6 118 yX6_layLow, Cond.instanceMethod yX6_layLow, Cond.selects RX6 yX6_layLow yX6_layLow, Cond.code yX6_layLow cX6_layLow 8 none]
def wsX6_poison : List Cond := .code yX6_poison cX6_poison 8 (some .int) :: ((wsX6_poison_r1 ++ (wsX6_poison_r2 ++ wsX6_poison_r3)) ++ wsX60)
def wsX6_count : List Cond := .code yX6_count cX6_count 4 (some .int) :: ([.fieldLink RX6 66 "KeyGuessModel" "nowMany" "I", .fieldLink RX6 69 "KeyGuessModel" "rowMany" "I", .fieldLink RX6 83 "KeyGuessModel" "newMany" "I", .fieldLink RX6 72 "KeyGuessModel" "oldMany" "I", .fieldLink RX6 92 "KeyGuessModel" "cost" "I", .fieldLink RX6 23 "KeyGuessModel" "bits" "[Z", .methodLink RX6 86 yX6_layNow, .instanceMethod yX6_layNow, .selects RX6 yX6_layNow yX6_layNow, .initialized RX6, .code yX6_layNow cX6_layNow 2 none, .fieldLink RX6 20 "KeyGuessModel" "olds" "[I", .fieldLink RX6 7 "KeyGuessModel" "row" "[I", .fieldLink RX6 17 "KeyGuessModel" "news" "[I", .methodLink RX6 75 yX6_placeIn, .static yX6_placeIn, .code yX6_placeIn cX6_placeIn 4 (some .int), .methodLink RX6 79 yX6_insertNow, .instanceMethod yX6_insertNow, .selects RX6 yX6_insertNow yX6_insertNow, .code yX6_insertNow cX6_insertNow 3 none, .fieldLink RX6 27 "KeyGuessModel" "now" "[I"] ++ wsX60)
def wsJ9_max_7cf53 : List Cond := .code yJ9_max_7cf53 cJ9_max_7cf53 2 (some .int) :: ([])
def wsJ9_min_7cf53 : List Cond := .code yJ9_min_7cf53 cJ9_min_7cf53 2 (some .int) :: ([])
def wsL_law_r1 : List Cond := [Cond.classLink RL 7 RX5, Cond.instantiable RX5 11, Cond.initialized RX5, Cond.classLink RL 10 RX6, Cond.instantiable RX6 25, Cond.initialized RX6, Cond.methodLink RL 9 yX5_init, Cond.instanceMethod yX5_init, Cond.code yX5_init cX5_init 1 none, Cond.methodLink RX5 1 objectInit, Cond.instanceMethod objectInit, Cond.code objectInit ⟨#[0xb1]⟩ 1 none, Cond.classLink RX5 7 RX2, Cond.instantiable RX2 2, Cond.initialized RX2, Cond.fieldLink RX5 10 "KeyGuess" "now" "LKeyGuess$Keys;", Cond.fieldLink RX5 16 "KeyGuess" "row" "LKeyGuess$Keys;", Cond.fieldLink RX5 19 "KeyGuess" "tried" "LKeyGuess$Keys;", Cond.classLink RX5 22 RX0, Cond.instantiable RX0 5, Cond.initialized RX0, Cond.fieldLink RX5 25 "KeyGuess" "cuts" "LKeyGuess$Cuts;", Cond.classLink RX5 29 RX4, Cond.instantiable RX4 9]
def wsL_law_r2 : List Cond := [Cond.initialized RX4, Cond.fieldLink RX5 32 "KeyGuess" "tower" "LKeyGuess$Tower;", Cond.classLink RX5 36 RX1, Cond.instantiable RX1 1, Cond.initialized RX1, Cond.fieldLink RX5 39 "KeyGuess" "filter" "LKeyGuess$Filter;", Cond.classLink RX5 43 RX3, Cond.instantiable RX3 2, Cond.initialized RX3, Cond.fieldLink RX5 46 "KeyGuess" "look" "LKeyGuess$Look;", Cond.fieldLink RX5 50 "KeyGuess" "leeway" "I", Cond.methodLink RX5 9 yX2_init, Cond.instanceMethod yX2_init, Cond.code yX2_init cX2_init 1 none, Cond.methodLink RX2 3 objectInit, Cond.arrayClass .int, Cond.fieldLink RX2 9 "KeyGuess$Keys" "cells" "[I", Cond.methodLink RX5 24 yX0_init, Cond.instanceMethod yX0_init, Cond.code yX0_init cX0_init 1 none, Cond.methodLink RX0 3 objectInit, Cond.fieldLink RX0 9 "KeyGuess$Cuts" "cells" "[I", Cond.fieldLink RX0 15 "KeyGuess$Cuts" "fewest" "[I", Cond.fieldLink RX0 18 "KeyGuess$Cuts" "lasts" "[I"]
def wsL_law_r3 : List Cond := [Cond.fieldLink RX0 21 "KeyGuess$Cuts" "slopeNums" "[I", Cond.fieldLink RX0 24 "KeyGuess$Cuts" "slopeDens" "[I", Cond.methodLink RX5 31 yX4_init, Cond.instanceMethod yX4_init, Cond.code yX4_init cX4_init 1 none, Cond.methodLink RX4 3 objectInit, Cond.classLink RX4 9 RX2, Cond.fieldLink RX4 12 "KeyGuess$Tower" "base" "LKeyGuess$Keys;", Cond.fieldLink RX4 18 "KeyGuess$Tower" "starts" "[I", Cond.fieldLink RX4 22 "KeyGuess$Tower" "froms" "[I", Cond.fieldLink RX4 25 "KeyGuess$Tower" "lasts" "[I", Cond.fieldLink RX4 28 "KeyGuess$Tower" "firsts" "[I", Cond.fieldLink RX4 31 "KeyGuess$Tower" "slopeNums" "[I", Cond.fieldLink RX4 34 "KeyGuess$Tower" "slopeDens" "[I", Cond.methodLink RX4 11 yX2_init, Cond.instanceMethod yX1_init, Cond.code yX1_init cX1_init 1 none, Cond.methodLink RX1 1 objectInit, Cond.instanceMethod yX3_init, Cond.code yX3_init cX3_init 1 none, Cond.methodLink RX3 3 objectInit, Cond.methodLink RL 12 yX6_init, Cond.instanceMethod yX6_init, Cond.code yX6_init cX6_init 1 none]
def wsL_law_r4 : List Cond := [Cond.methodLink RX6 1 objectInit, Cond.fieldLink RX6 7 "KeyGuessModel" "row" "[I", Cond.fieldLink RX6 13 "KeyGuessModel" "e" "I", Cond.fieldLink RX6 17 "KeyGuessModel" "news" "[I", Cond.fieldLink RX6 20 "KeyGuessModel" "olds" "[I", Cond.arrayClass .boolean, Cond.fieldLink RX6 23 "KeyGuessModel" "bits" "[Z", Cond.fieldLink RX6 27 "KeyGuessModel" "now" "[I", Cond.fieldLink RX6 30 "KeyGuessModel" "keys" "[I", Cond.fieldLink RX6 33 "KeyGuessModel" "reach" "[I", Cond.fieldLink RX6 36 "KeyGuessModel" "fewest" "[I", Cond.fieldLink RX6 39 "KeyGuessModel" "pieceMany" "[I", Cond.fieldLink RX6 42 "KeyGuessModel" "firsts" "[I", Cond.fieldLink RX6 45 "KeyGuessModel" "lasts" "[I", Cond.fieldLink RX6 48 "KeyGuessModel" "firstKeys" "[I", Cond.arrayClass .long, Cond.fieldLink RX6 51 "KeyGuessModel" "ups" "[J", Cond.fieldLink RX6 55 "KeyGuessModel" "belows" "[J", Cond.methodLink RX6 58 yX6_layLevels, Cond.instanceMethod yX6_layLevels, Cond.selects RX6 yX6_layLevels yX6_layLevels, Cond.code yX6_layLevels cX6_layLevels 3 none, Cond.fieldLink RX6 139 "KeyGuessModel" "levelMany" "I", Cond.fieldLink RX6 69 "KeyGuessModel" "rowMany" "I"]
def wsL_law_r5 : List Cond := [Cond.fieldLink RX6 122 "KeyGuessModel" "keyMany" "I", Cond.methodLink RX6 142 yX6_layLevel, Cond.instanceMethod yX6_layLevel, Cond.selects RX6 yX6_layLevel yX6_layLevel, Cond.code yX6_layLevel cX6_layLevel 8 none, Cond.fieldLink RX6 111 "KeyGuessModel" "lowUp" "J", Cond.fieldLink RX6 115 "KeyGuessModel" "lowBelow" "J", Cond.methodLink RX6 128 yX6_layPieces, Cond.instanceMethod yX6_layPieces, Cond.selects RX6 yX6_layPieces yX6_layPieces, Cond.code yX6_layPieces cX6_layPieces 4 none, Cond.methodLink RX6 125 yX6_keeps, Cond.instanceMethod yX6_keeps, Cond.selects RX6 yX6_keeps yX6_keeps, Cond.code yX6_keeps cX6_keeps 5 (some .boolean), Cond.methodLink RX6 118 yX6_layLow, Cond.instanceMethod yX6_layLow, Cond.selects RX6 yX6_layLow yX6_layLow, Cond.code yX6_layLow cX6_layLow 8 none, Cond.methodLink RX6 131 yX6_endOf, Cond.instanceMethod yX6_endOf, Cond.selects RX6 yX6_endOf yX6_endOf, Cond.code yX6_endOf cX6_endOf 3 (some .int), Cond.methodLink RX6 135 yX6_divisor]
def wsL_law_r6 : List Cond := [Cond.static yX6_divisor, Cond.code yX6_divisor cX6_divisor 10 (some .long), Cond.methodLink RL 13 yX5_put, Cond.instanceMethod yX5_put, Cond.selects RX5 yX5_put yX5_put, Cond.code yX5_put cX5_put 2 (some .int), Cond.fieldLink RX5 65 "KeyGuess" "oldKeys" "I", Cond.fieldLink RX5 71 "KeyGuess" "newKeys" "I", Cond.methodLink RX5 54 yX5_isNumber, Cond.static yX5_isNumber, Cond.code yX5_isNumber cX5_isNumber 1 (some .boolean), Cond.constant RX5 95 (1000000), Cond.methodLink RX5 58 yX2_has, Cond.instanceMethod yX2_has, Cond.selects RX2 yX2_has yX2_has, Cond.code yX2_has cX2_has 3 (some .boolean), Cond.fieldLink RX2 15 "KeyGuess$Keys" "size" "I", Cond.methodLink RX2 19 yX2_below, Cond.instanceMethod yX2_below, Cond.selects RX2 yX2_below yX2_below, Cond.code yX2_below cX2_below 3 (some .int), Cond.methodLink RX5 61 yX2_size, Cond.instanceMethod yX2_size, Cond.selects RX2 yX2_size yX2_size]
def wsL_law_r7 : List Cond := [Cond.code yX2_size cX2_size 1 (some .int), Cond.methodLink RX5 68 yX5_clearAsideIfFull, Cond.instanceMethod yX5_clearAsideIfFull, Cond.selects RX5 yX5_clearAsideIfFull yX5_clearAsideIfFull, Cond.code yX5_clearAsideIfFull cX5_clearAsideIfFull 1 none, Cond.methodLink RX5 82 yX5_makeRow, Cond.instanceMethod yX5_makeRow, Cond.selects RX5 yX5_makeRow yX5_makeRow, Cond.code yX5_makeRow cX5_makeRow 2 none, Cond.fieldLink RX5 85 "KeyGuess" "cost" "I", Cond.methodLink RX5 145 yX2_copy, Cond.instanceMethod yX2_copy, Cond.selects RX2 yX2_copy yX2_copy, Cond.code yX2_copy cX2_copy 3 none, Cond.methodLink RX2 26 yX2_size, Cond.methodLink RX2 23 yX2_key, Cond.instanceMethod yX2_key, Cond.selects RX2 yX2_key yX2_key, Cond.code yX2_key cX2_key 2 (some .int), Cond.methodLink RX2 29 yX2_append, Cond.instanceMethod yX2_append, Cond.selects RX2 yX2_append yX2_append, Cond.code yX2_append cX2_append 2 none, Cond.methodLink RX5 149 yX1_clear]
def wsL_law_r8 : List Cond := [Cond.instanceMethod yX1_clear, Cond.selects RX1 yX1_clear yX1_clear, Cond.code yX1_clear cX1_clear 1 none, Cond.fieldLink RX1 7 "KeyGuess$Filter" "bits" "J", Cond.methodLink RX5 92 yX2_key, Cond.methodLink RX5 78 yX1_add, Cond.instanceMethod yX1_add, Cond.selects RX1 yX1_add yX1_add, Cond.code yX1_add cX1_add 2 none, Cond.methodLink RX1 13 yX1_bitsOf, Cond.static yX1_bitsOf, Cond.code yX1_bitsOf cX1_bitsOf 1 (some .long), Cond.methodLink RX5 152 yX4_build, Cond.instanceMethod yX4_build, Cond.selects RX4 yX4_build yX4_build, Cond.code yX4_build cX4_build 6 none, Cond.fieldLink RX4 37 "KeyGuess$Tower" "height" "I", Cond.fieldLink RX4 49 "KeyGuess$Tower" "size" "I", Cond.methodLink RX4 52 yX2_copy, Cond.methodLink RX4 56 yX2_size, Cond.methodLink RX4 59 yX0_cut, Cond.instanceMethod yX0_cut, Cond.selects RX0 yX0_cut yX0_cut, Cond.code yX0_cut cX0_cut 5 none]
def wsL_law_r9 : List Cond := [Cond.methodLink RX0 33 Lib.Math.min.name, Cond.static Lib.Math.min.name, Cond.initialized "java/lang/Math", Cond.code Lib.Math.min.name Lib.Math.min.code 2 (some .int), Cond.methodLink RX0 27 yX2_size, Cond.methodLink RX0 39 yX2_key, Cond.methodLink RX0 43 yX0_cutFrom, Cond.instanceMethod yX0_cutFrom, Cond.selects RX0 yX0_cutFrom yX0_cutFrom, Cond.code yX0_cutFrom cX0_cutFrom 12 none, Cond.methodLink RX4 65 yX4_raise, Cond.instanceMethod yX4_raise, Cond.selects RX4 yX4_raise yX4_raise, Cond.code yX4_raise cX4_raise 5 none, Cond.methodLink RX4 85 yX4_lay, Cond.instanceMethod yX4_lay, Cond.selects RX4 yX4_lay yX4_lay, Cond.code yX4_lay cX4_lay 6 none, Cond.methodLink RX4 91 yX0_slopeNum, Cond.instanceMethod yX0_slopeNum, Cond.selects RX0 yX0_slopeNum yX0_slopeNum, Cond.code yX0_slopeNum cX0_slopeNum 2 (some .int), Cond.methodLink RX0 47 yX0_isRank, Cond.static yX0_isRank]
def wsL_law_r10 : List Cond := [Cond.code yX0_isRank cX0_isRank 1 (some .boolean), Cond.methodLink RX4 94 yX0_slopeDen, Cond.instanceMethod yX0_slopeDen, Cond.selects RX0 yX0_slopeDen yX0_slopeDen, Cond.code yX0_slopeDen cX0_slopeDen 2 (some .int), Cond.methodLink RX4 97 yX4_commonDivisor, Cond.static yX4_commonDivisor, Cond.code yX4_commonDivisor cX4_commonDivisor 4 (some .int), Cond.methodLink RX4 88 yX0_lastOf, Cond.instanceMethod yX0_lastOf, Cond.selects RX0 yX0_lastOf yX0_lastOf, Cond.code yX0_lastOf cX0_lastOf 2 (some .int), Cond.methodLink RX4 100 yX2_key, Cond.methodLink RX4 41 yX4_width, Cond.instanceMethod yX4_width, Cond.selects RX4 yX4_width yX4_width, Cond.code yX4_width cX4_width 2 (some .int), Cond.methodLink RX4 69 yX4_layBase, Cond.instanceMethod yX4_layBase, Cond.selects RX4 yX4_layBase yX4_layBase, Cond.code yX4_layBase cX4_layBase 3 none, Cond.methodLink RX4 103 yX2_clear, Cond.instanceMethod yX2_clear, Cond.selects RX2 yX2_clear yX2_clear]
def wsL_law_r11 : List Cond := [Cond.code yX2_clear cX2_clear 1 none, Cond.methodLink RX4 106 yX4_tell, Cond.instanceMethod yX4_tell, Cond.selects RX4 yX4_tell yX4_tell, Cond.code yX4_tell cX4_tell 5 (some .int), Cond.methodLink RX4 45 yX4_isPiece, Cond.instanceMethod yX4_isPiece, Cond.selects RX4 yX4_isPiece yX4_isPiece, Cond.code yX4_isPiece cX4_isPiece 2 (some .boolean), Cond.methodLink RX4 110 yX2_append, Cond.methodLink RX5 74 yX2_add, Cond.instanceMethod yX2_add, Cond.selects RX2 yX2_add yX2_add, Cond.code yX2_add cX2_add 4 none, Cond.methodLink RX2 33 yX2_has, Cond.methodLink RL 17 yX6_put, Cond.instanceMethod yX6_put, Cond.selects RX6 yX6_put yX6_put, Cond.code yX6_put cX6_put 3 (some .int), Cond.fieldLink RX6 66 "KeyGuessModel" "nowMany" "I", Cond.fieldLink RX6 72 "KeyGuessModel" "oldMany" "I", Cond.fieldLink RX6 83 "KeyGuessModel" "newMany" "I", Cond.methodLink RX6 95 yX6_isNumber, Cond.static yX6_isNumber]
def wsL_law_r12 : List Cond := [Cond.code yX6_isNumber cX6_isNumber 1 (some .boolean), Cond.constant RX6 61 (1000000), Cond.methodLink RX6 62 yX6_in, Cond.static yX6_in, Cond.code yX6_in cX6_in 3 (some .boolean), Cond.methodLink RX6 99 yX6_isThere, Cond.instanceMethod yX6_isThere, Cond.selects RX6 yX6_isThere yX6_isThere, Cond.code yX6_isThere cX6_isThere 2 (some .boolean), Cond.methodLink RX6 86 yX6_layNow, Cond.instanceMethod yX6_layNow, Cond.selects RX6 yX6_layNow yX6_layNow, Cond.code yX6_layNow cX6_layNow 2 none, Cond.methodLink RX6 75 yX6_placeIn, Cond.static yX6_placeIn, Cond.code yX6_placeIn cX6_placeIn 4 (some .int), Cond.methodLink RX6 79 yX6_insertNow, Cond.instanceMethod yX6_insertNow, Cond.selects RX6 yX6_insertNow yX6_insertNow, Cond.code yX6_insertNow cX6_insertNow 3 none, Cond.methodLink RX6 102 yX6_makeRow, Cond.instanceMethod yX6_makeRow, Cond.selects RX6 yX6_makeRow yX6_makeRow, Cond.code yX6_makeRow cX6_makeRow 2 none]
def wsL_law_r13 : List Cond := [Cond.fieldLink RX6 92 "KeyGuessModel" "cost" "I", Cond.methodLink RX6 89 yX6_setBits, Cond.instanceMethod yX6_setBits, Cond.selects RX6 yX6_setBits yX6_setBits, Cond.code yX6_setBits cX6_setBits 2 none, Cond.methodLink RL 18 yX5_take, Cond.instanceMethod yX5_take, Cond.selects RX5 yX5_take yX5_take, Cond.code yX5_take cX5_take 2 (some .int), Cond.methodLink RX5 79 yX2_drop, Cond.instanceMethod yX2_drop, Cond.selects RX2 yX2_drop yX2_drop, Cond.code yX2_drop cX2_drop 3 none, Cond.methodLink RL 21 yX6_take, Cond.instanceMethod yX6_take, Cond.selects RX6 yX6_take yX6_take, Cond.code yX6_take cX6_take 3 (some .int), Cond.methodLink RL 22 yX5_make, Cond.instanceMethod yX5_make, Cond.selects RX5 yX5_make yX5_make, Cond.code yX5_make cX5_make 1 (some .int), Cond.methodLink RL 26 yX6_make, Cond.instanceMethod yX6_make, Cond.selects RX6 yX6_make yX6_make]
def wsL_law_r14 : List Cond := [Cond.code yX6_make cX6_make 1 (some .int), Cond.methodLink RL 27 yX5_slack, Cond.instanceMethod yX5_slack, Cond.selects RX5 yX5_slack yX5_slack, Cond.code yX5_slack cX5_slack 3 (some .int), Cond.methodLink RL 30 yX6_slack, Cond.instanceMethod yX6_slack, Cond.selects RX6 yX6_slack yX6_slack, Cond.code yX6_slack cX6_slack 3 (some .int), Cond.methodLink RL 31 yX5_place, Cond.instanceMethod yX5_place, Cond.selects RX5 yX5_place yX5_place, Cond.code yX5_place cX5_place 2 (some .int), Cond.methodLink RX5 88 yX2_below, Cond.methodLink RL 34 yX6_place, Cond.instanceMethod yX6_place, Cond.selects RX6 yX6_place yX6_place, Cond.code yX6_place cX6_place 2 (some .int), Cond.methodLink RL 35 yX5_at, Cond.instanceMethod yX5_at, Cond.selects RX5 yX5_at yX5_at, Cond.code yX5_at cX5_at 2 (some .int), Cond.methodLink RL 38 yX6_at, Cond.instanceMethod yX6_at]
def wsL_law_r15 : List Cond := [Cond.selects RX6 yX6_at yX6_at, Cond.code yX6_at cX6_at 2 (some .int), Cond.methodLink RL 39 yX5_range, Cond.instanceMethod yX5_range, Cond.selects RX5 yX5_range yX5_range, Cond.code yX5_range cX5_range 3 (some .int), Cond.methodLink RX5 96 yX5_isSpan, Cond.static yX5_isSpan, Cond.code yX5_isSpan cX5_isSpan 3 (some .boolean), Cond.methodLink RX5 100 yX2_within, Cond.instanceMethod yX2_within, Cond.selects RX2 yX2_within yX2_within, Cond.code yX2_within cX2_within 3 (some .int), Cond.methodLink RL 43 yX6_range, Cond.instanceMethod yX6_range, Cond.selects RX6 yX6_range yX6_range, Cond.code yX6_range cX6_range 5 (some .int), Cond.methodLink RX6 105 yX6_isSpan, Cond.static yX6_isSpan, Cond.code yX6_isSpan cX6_isSpan 2 (some .boolean), Cond.methodLink RL 44 yX5_sum, Cond.instanceMethod yX5_sum, Cond.selects RX5 yX5_sum yX5_sum, Cond.code yX5_sum cX5_sum 3 (some .long)]
def wsL_law_r16 : List Cond := [Cond.constantLong RX5 104 (-2), Cond.methodLink RX5 106 yX2_total, Cond.instanceMethod yX2_total, Cond.selects RX2 yX2_total yX2_total, Cond.code yX2_total cX2_total 7 (some .long), Cond.methodLink RL 48 yX6_sum, Cond.instanceMethod yX6_sum, Cond.selects RX6 yX6_sum yX6_sum, Cond.code yX6_sum cX6_sum 6 (some .long), Cond.constantLong RX6 109 (-2), Cond.methodLink RL 49 yX5_pieces, Cond.instanceMethod yX5_pieces, Cond.selects RX5 yX5_pieces yX5_pieces, Cond.code yX5_pieces cX5_pieces 2 (some .int), Cond.methodLink RX5 110 yX4_width, Cond.methodLink RL 52 yX6_pieces, Cond.instanceMethod yX6_pieces, Cond.selects RX6 yX6_pieces yX6_pieces, Cond.code yX6_pieces cX6_pieces 2 (some .int), Cond.methodLink RX6 145 yX6_piecesAt, Cond.instanceMethod yX6_piecesAt, Cond.selects RX6 yX6_piecesAt yX6_piecesAt, Cond.code yX6_piecesAt cX6_piecesAt 2 (some .int), Cond.methodLink RL 53 yX5_piece]
def wsL_law_r17 : List Cond := [Cond.instanceMethod yX5_piece, Cond.selects RX5 yX5_piece yX5_piece, Cond.code yX5_piece cX5_piece 4 (some .int), Cond.methodLink RX5 113 yX4_tell, Cond.methodLink RL 57 yX6_piece, Cond.instanceMethod yX6_piece, Cond.selects RX6 yX6_piece yX6_piece, Cond.code yX6_piece cX6_piece 5 (some .int), Cond.methodLink RL 58 yX5_levels, Cond.instanceMethod yX5_levels, Cond.selects RX5 yX5_levels yX5_levels, Cond.code yX5_levels cX5_levels 1 (some .int), Cond.methodLink RX5 117 yX4_height, Cond.instanceMethod yX4_height, Cond.selects RX4 yX4_height yX4_height, Cond.code yX4_height cX4_height 1 (some .int), Cond.methodLink RL 61 yX6_levels, Cond.instanceMethod yX6_levels, Cond.selects RX6 yX6_levels yX6_levels, Cond.code yX6_levels cX6_levels 1 (some .int), Cond.methodLink RL 62 yX5_guess, Cond.instanceMethod yX5_guess, Cond.selects RX5 yX5_guess yX5_guess, Cond.code yX5_guess cX5_guess 2 (some .int)]
def wsL_law_r18 : List Cond := [Cond.methodLink RX5 120 yX4_pieceFor, Cond.instanceMethod yX4_pieceFor, Cond.selects RX4 yX4_pieceFor yX4_pieceFor, Cond.code yX4_pieceFor cX4_pieceFor 4 (some .int), Cond.methodLink RX5 123 yX4_rankBy, Cond.instanceMethod yX4_rankBy, Cond.selects RX4 yX4_rankBy yX4_rankBy, Cond.code yX4_rankBy cX4_rankBy 4 (some .int), Cond.methodLink RX4 79 Lib.Math.min.name, Cond.methodLink RX4 82 Lib.Math.max.name, Cond.static Lib.Math.max.name, Cond.code Lib.Math.max.name Lib.Math.max.code 2 (some .int), Cond.methodLink RX4 73 yJ9_floorDiv_7cf53, Cond.static yJ9_floorDiv_7cf53, Cond.initialized RJ9, Cond.code yJ9_floorDiv_7cf53 cJ9_floorDiv_7cf53 3 (some .int), Cond.methodLink RL 65 yX6_guess, Cond.instanceMethod yX6_guess, Cond.selects RX6 yX6_guess yX6_guess, Cond.code yX6_guess cX6_guess 2 (some .int), Cond.methodLink RX6 148 yX6_pieceFor, Cond.instanceMethod yX6_pieceFor, Cond.selects RX6 yX6_pieceFor yX6_pieceFor, Cond.code yX6_pieceFor cX6_pieceFor 4 (some .int)]
def wsL_law_r19 : List Cond := [Cond.methodLink RX6 151 yX6_guessBy, Cond.instanceMethod yX6_guessBy, Cond.selects RX6 yX6_guessBy yX6_guessBy, Cond.code yX6_guessBy cX6_guessBy 9 (some .int), Cond.methodLink RL 66 yX5_find, Cond.instanceMethod yX5_find, Cond.selects RX5 yX5_find yX5_find, Cond.code yX5_find cX5_find 2 (some .int), Cond.methodLink RX5 126 yX3_run, Cond.instanceMethod yX3_run, Cond.selects RX3 yX3_run yX3_run, Cond.code yX3_run cX3_run 9 none, Cond.fieldLink RX3 9 "KeyGuess$Look" "met" "I", Cond.fieldLink RX3 15 "KeyGuess$Look" "seen" "I", Cond.methodLink RX3 18 yX4_height, Cond.methodLink RX3 24 yX4_pieceFor, Cond.methodLink RX3 28 yX4_rankBy, Cond.methodLink RX3 32 yX3_away, Cond.static yX3_away, Cond.code yX3_away cX3_away 1 (some .int), Cond.methodLink RX3 35 yX4_fromOf, Cond.instanceMethod yX4_fromOf, Cond.selects RX4 yX4_fromOf yX4_fromOf, Cond.code yX4_fromOf cX4_fromOf 2 (some .int)]
def wsL_law_r20 : List Cond := [Cond.methodLink RX3 38 yX4_lastOf, Cond.instanceMethod yX4_lastOf, Cond.selects RX4 yX4_lastOf yX4_lastOf, Cond.code yX4_lastOf cX4_lastOf 2 (some .int), Cond.methodLink RX3 41 yX2_key, Cond.methodLink RX5 130 yX3_met, Cond.instanceMethod yX3_met, Cond.selects RX3 yX3_met yX3_met, Cond.code yX3_met cX3_met 1 (some .int), Cond.methodLink RL 69 yX6_find, Cond.instanceMethod yX6_find, Cond.selects RX6 yX6_find yX6_find, Cond.code yX6_find cX6_find 2 (some .int), Cond.methodLink RX6 158 yX6_lookFor, Cond.instanceMethod yX6_lookFor, Cond.selects RX6 yX6_lookFor yX6_lookFor, Cond.code yX6_lookFor cX6_lookFor 6 (some .int), Cond.fieldLink RX6 155 "KeyGuessModel" "looked" "I", Cond.methodLink RL 70 yX5_looks, Cond.instanceMethod yX5_looks, Cond.selects RX5 yX5_looks yX5_looks, Cond.code yX5_looks cX5_looks 2 (some .int), Cond.methodLink RX5 133 yX3_ranksSeen, Cond.instanceMethod yX3_ranksSeen]
def wsL_law_r21 : List Cond := [Cond.selects RX3 yX3_ranksSeen yX3_ranksSeen, Cond.code yX3_ranksSeen cX3_ranksSeen 1 (some .int), Cond.methodLink RL 73 yX6_looks, Cond.instanceMethod yX6_looks, Cond.selects RX6 yX6_looks yX6_looks, Cond.code yX6_looks cX6_looks 2 (some .int), Cond.methodLink RL 74 yX5_maybe, Cond.instanceMethod yX5_maybe, Cond.selects RX5 yX5_maybe yX5_maybe, Cond.code yX5_maybe cX5_maybe 2 (some .int), Cond.methodLink RX5 136 yX1_passes, Cond.instanceMethod yX1_passes, Cond.selects RX1 yX1_passes yX1_passes, Cond.code yX1_passes cX1_passes 4 (some .boolean), Cond.methodLink RL 77 yX6_maybe, Cond.instanceMethod yX6_maybe, Cond.selects RX6 yX6_maybe yX6_maybe, Cond.code yX6_maybe cX6_maybe 2 (some .int), Cond.methodLink RX6 161 yX6_isMaybe, Cond.instanceMethod yX6_isMaybe, Cond.selects RX6 yX6_isMaybe yX6_isMaybe, Cond.code yX6_isMaybe cX6_isMaybe 2 (some .boolean), Cond.methodLink RL 78 yX5_wrong, Cond.instanceMethod yX5_wrong]
def wsL_law_r22 : List Cond := [Cond.selects RX5 yX5_wrong yX5_wrong, Cond.code yX5_wrong cX5_wrong 5 (some .int), Cond.methodLink RL 81 yX6_wrong, Cond.instanceMethod yX6_wrong, Cond.selects RX6 yX6_wrong yX6_wrong, Cond.code yX6_wrong cX6_wrong 5 (some .int), Cond.methodLink RL 82 yX5_poison, Cond.instanceMethod yX5_poison, Cond.selects RX5 yX5_poison yX5_poison, Cond.code yX5_poison cX5_poison 8 (some .int), Cond.methodLink RX5 139 yX5_piecesWith, Cond.instanceMethod yX5_piecesWith, Cond.selects RX5 yX5_piecesWith yX5_piecesWith, Cond.code yX5_piecesWith cX5_piecesWith 2 (some .int), Cond.methodLink RX5 156 yX0_cut, Cond.methodLink RX5 160 yX0_fewestFrom, Cond.instanceMethod yX0_fewestFrom, Cond.selects RX0 yX0_fewestFrom yX0_fewestFrom, Cond.code yX0_fewestFrom cX0_fewestFrom 2 (some .int), Cond.methodLink RL 85 yX6_poison, Cond.instanceMethod yX6_poison, Cond.selects RX6 yX6_poison yX6_poison, Cond.code yX6_poison cX6_poison 8 (some .int), Cond.methodLink RX6 164 yX6_piecesWith]
def wsL_law_r23 : List Cond := [Cond.instanceMethod yX6_piecesWith, Cond.selects RX6 yX6_piecesWith yX6_piecesWith, Cond.code yX6_piecesWith cX6_piecesWith 4 (some .int), Cond.methodLink RL 86 yX5_count, Cond.instanceMethod yX5_count, Cond.selects RX5 yX5_count yX5_count, Cond.code yX5_count cX5_count 2 (some .int), Cond.methodLink RX5 142 yX1_bitsSet, Cond.instanceMethod yX1_bitsSet, Cond.selects RX1 yX1_bitsSet yX1_bitsSet, Cond.code yX1_bitsSet cX1_bitsSet 1 (some .int), Cond.methodLink RX1 17 yJ13_bitCount_95d88, Cond.static yJ13_bitCount_95d88, Cond.initialized RJ13, Cond.code yJ13_bitCount_95d88 cJ13_bitCount_95d88 2 (some .int), Cond.constantLong RJ13 314 (6148914691236517205), Cond.constantLong RJ13 316 (3689348814741910323), Cond.constantLong RJ13 318 (1085102592571150095), Cond.methodLink RL 89 yX6_count, Cond.instanceMethod yX6_count, Cond.selects RX6 yX6_count yX6_count, Cond.code yX6_count cX6_count 4 (some .int)]
def wsL_law : List Cond := (wsL_law_r1 ++ (wsL_law_r2 ++ (wsL_law_r3 ++ (wsL_law_r4 ++ (wsL_law_r5 ++ (wsL_law_r6 ++ (wsL_law_r7 ++ (wsL_law_r8 ++ (wsL_law_r9 ++ (wsL_law_r10 ++ (wsL_law_r11 ++ (wsL_law_r12 ++ (wsL_law_r13 ++ (wsL_law_r14 ++ (wsL_law_r15 ++ (wsL_law_r16 ++ (wsL_law_r17 ++ (wsL_law_r18 ++ (wsL_law_r19 ++ (wsL_law_r20 ++ (wsL_law_r21 ++ (wsL_law_r22 ++ wsL_law_r23)))))))))))))))))))))) ++ wsX50 ++ wsX60 ++ wsX20 ++ wsX00 ++ wsX40 ++ wsX10 ++ wsX30 ++ ([] : List Cond)
theorem inlX0 : ∀ w ∈ wsX00, w ∈ wsL_law := fun _ h => List.mem_append_left _ (List.mem_append_left _ (List.mem_append_left _ (List.mem_append_left _ (List.mem_append_right _ h))))
theorem inlX1 : ∀ w ∈ wsX10, w ∈ wsL_law := fun _ h => List.mem_append_left _ (List.mem_append_left _ (List.mem_append_right _ h))
theorem inlX2 : ∀ w ∈ wsX20, w ∈ wsL_law := fun _ h => List.mem_append_left _ (List.mem_append_left _ (List.mem_append_left _ (List.mem_append_left _ (List.mem_append_left _ (List.mem_append_right _ h)))))
theorem inlX3 : ∀ w ∈ wsX30, w ∈ wsL_law := fun _ h => List.mem_append_left _ (List.mem_append_right _ h)
theorem inlX4 : ∀ w ∈ wsX40, w ∈ wsL_law := fun _ h => List.mem_append_left _ (List.mem_append_left _ (List.mem_append_left _ (List.mem_append_right _ h)))
theorem inlX5 : ∀ w ∈ wsX50, w ∈ wsL_law := fun _ h => List.mem_append_left _ (List.mem_append_left _ (List.mem_append_left _ (List.mem_append_left _ (List.mem_append_left _ (List.mem_append_left _ (List.mem_append_left _ (List.mem_append_right _ h)))))))
theorem inlX6 : ∀ w ∈ wsX60, w ∈ wsL_law := fun _ h => List.mem_append_left _ (List.mem_append_left _ (List.mem_append_left _ (List.mem_append_left _ (List.mem_append_left _ (List.mem_append_left _ (List.mem_append_right _ h))))))
end
section
theorem dX0_init_0 : decode cX0_init 0 = .ok (.aload_n 0, 1) := by decide +kernel
theorem dX0_init_1 : decode cX0_init 1 = .ok (.invokespecial 3, 3) := by decide +kernel
theorem dX0_init_4 : decode cX0_init 4 = .ok (.aload_n 0, 1) := by decide +kernel
theorem dX0_init_5 : decode cX0_init 5 = .ok (.bipush 60, 2) := by decide +kernel
theorem dX0_init_7 : decode cX0_init 7 = .ok (.newarray .int, 2) := by decide +kernel
theorem dX0_init_9 : decode cX0_init 9 = .ok (.putfield 9, 3) := by decide +kernel
theorem dX0_init_12 : decode cX0_init 12 = .ok (.aload_n 0, 1) := by decide +kernel
theorem dX0_init_13 : decode cX0_init 13 = .ok (.bipush 61, 2) := by decide +kernel
theorem dX0_init_15 : decode cX0_init 15 = .ok (.newarray .int, 2) := by decide +kernel
theorem dX0_init_17 : decode cX0_init 17 = .ok (.putfield 15, 3) := by decide +kernel
theorem dX0_init_20 : decode cX0_init 20 = .ok (.aload_n 0, 1) := by decide +kernel
theorem dX0_init_21 : decode cX0_init 21 = .ok (.bipush 60, 2) := by decide +kernel
theorem dX0_init_23 : decode cX0_init 23 = .ok (.newarray .int, 2) := by decide +kernel
theorem dX0_init_25 : decode cX0_init 25 = .ok (.putfield 18, 3) := by decide +kernel
theorem dX0_init_28 : decode cX0_init 28 = .ok (.aload_n 0, 1) := by decide +kernel
theorem dX0_init_29 : decode cX0_init 29 = .ok (.bipush 60, 2) := by decide +kernel
theorem dX0_init_31 : decode cX0_init 31 = .ok (.newarray .int, 2) := by decide +kernel
theorem dX0_init_33 : decode cX0_init 33 = .ok (.putfield 21, 3) := by decide +kernel
theorem dX0_init_36 : decode cX0_init 36 = .ok (.aload_n 0, 1) := by decide +kernel
theorem dX0_init_37 : decode cX0_init 37 = .ok (.bipush 60, 2) := by decide +kernel
theorem dX0_init_39 : decode cX0_init 39 = .ok (.newarray .int, 2) := by decide +kernel
theorem dX0_init_41 : decode cX0_init 41 = .ok (.putfield 24, 3) := by decide +kernel
theorem dX0_init_44 : decode cX0_init 44 = .ok (.return_, 1) := by decide +kernel
set_option maxRecDepth 20000 in
theorem ggX0_cut_X2_size : GoodIn wsX0_cut wsX2_size := goodIn_r _ [11, 12, 31, 32] (by decide +kernel) (by decide +kernel)
set_option maxRecDepth 20000 in
theorem gX0_cut_X2_size : GoodIn wsX0_cut (wsV RX0 27 RX2 yX2_size wsX2_size) := goodIn_app (goodIn_of _ (by decide +kernel)) ggX0_cut_X2_size
set_option maxRecDepth 20000 in
theorem ggX0_cut_X2_key : GoodIn wsX0_cut wsX2_key := goodIn_r _ [16, 12, 17, 31, 32] (by decide +kernel) (by decide +kernel)
set_option maxRecDepth 20000 in
theorem gX0_cut_X2_key : GoodIn wsX0_cut (wsV RX0 39 RX2 yX2_key wsX2_key) := goodIn_app (goodIn_of _ (by decide +kernel)) ggX0_cut_X2_key
set_option maxRecDepth 20000 in
theorem ggX0_cut_X0_cutFrom : GoodIn wsX0_cut wsX0_cutFrom := goodIn_r _ [22, 6, 23, 24, 25, 5, 26, 27, 28, 29, 30] (by decide +kernel) (by decide +kernel)
set_option maxRecDepth 20000 in
theorem gX0_cut_X0_cutFrom : GoodIn wsX0_cut (wsV RX0 43 RX0 yX0_cutFrom wsX0_cutFrom) := goodIn_app (goodIn_of _ (by decide +kernel)) ggX0_cut_X0_cutFrom
theorem dX0_cut_0 : decode cX0_cut 0 = .ok (.aload_n 1, 1) := by decide +kernel
theorem dX0_cut_1 : decode cX0_cut 1 = .ok (.invokevirtual 27, 3) := by decide +kernel
theorem dX0_cut_4 : decode cX0_cut 4 = .ok (.bipush 60, 2) := by decide +kernel
theorem dX0_cut_6 : decode cX0_cut 6 = .ok (.invokestatic 33, 3) := by decide +kernel
theorem dX0_cut_9 : decode cX0_cut 9 = .ok (.istore_n 3, 1) := by decide +kernel
theorem dX0_cut_10 : decode cX0_cut 10 = .ok (.iconst 0, 1) := by decide +kernel
theorem dX0_cut_11 : decode cX0_cut 11 = .ok (.istore 4, 2) := by decide +kernel
theorem dX0_cut_13 : decode cX0_cut 13 = .ok (.iload 4, 2) := by decide +kernel
theorem dX0_cut_15 : decode cX0_cut 15 = .ok (.iload_n 3, 1) := by decide +kernel
theorem dX0_cut_16 : decode cX0_cut 16 = .ok (.if_icmp .ge 22, 3) := by decide +kernel
theorem dX0_cut_19 : decode cX0_cut 19 = .ok (.aload_n 0, 1) := by decide +kernel
theorem dX0_cut_20 : decode cX0_cut 20 = .ok (.getfield 9, 3) := by decide +kernel
theorem dX0_cut_23 : decode cX0_cut 23 = .ok (.iload 4, 2) := by decide +kernel
theorem dX0_cut_25 : decode cX0_cut 25 = .ok (.aload_n 1, 1) := by decide +kernel
theorem dX0_cut_26 : decode cX0_cut 26 = .ok (.iload 4, 2) := by decide +kernel
theorem dX0_cut_28 : decode cX0_cut 28 = .ok (.invokevirtual 39, 3) := by decide +kernel
theorem dX0_cut_31 : decode cX0_cut 31 = .ok (.iastore, 1) := by decide +kernel
theorem dX0_cut_32 : decode cX0_cut 32 = .ok (.iinc 4 1, 3) := by decide +kernel
theorem dX0_cut_35 : decode cX0_cut 35 = .ok (.goto (-22), 3) := by decide +kernel
theorem dX0_cut_38 : decode cX0_cut 38 = .ok (.aload_n 0, 1) := by decide +kernel
theorem dX0_cut_39 : decode cX0_cut 39 = .ok (.getfield 15, 3) := by decide +kernel
theorem dX0_cut_42 : decode cX0_cut 42 = .ok (.iload_n 3, 1) := by decide +kernel
theorem dX0_cut_43 : decode cX0_cut 43 = .ok (.iconst 0, 1) := by decide +kernel
theorem dX0_cut_44 : decode cX0_cut 44 = .ok (.iastore, 1) := by decide +kernel
theorem dX0_cut_45 : decode cX0_cut 45 = .ok (.iload_n 3, 1) := by decide +kernel
theorem dX0_cut_46 : decode cX0_cut 46 = .ok (.iconst 1, 1) := by decide +kernel
theorem dX0_cut_47 : decode cX0_cut 47 = .ok (.isub, 1) := by decide +kernel
theorem dX0_cut_48 : decode cX0_cut 48 = .ok (.istore 4, 2) := by decide +kernel
theorem dX0_cut_50 : decode cX0_cut 50 = .ok (.iload 4, 2) := by decide +kernel
theorem dX0_cut_52 : decode cX0_cut 52 = .ok (.ifCond .lt 17, 3) := by decide +kernel
theorem dX0_cut_55 : decode cX0_cut 55 = .ok (.aload_n 0, 1) := by decide +kernel
theorem dX0_cut_56 : decode cX0_cut 56 = .ok (.iload 4, 2) := by decide +kernel
theorem dX0_cut_58 : decode cX0_cut 58 = .ok (.iload_n 3, 1) := by decide +kernel
theorem dX0_cut_59 : decode cX0_cut 59 = .ok (.iload_n 2, 1) := by decide +kernel
theorem dX0_cut_60 : decode cX0_cut 60 = .ok (.invokevirtual 43, 3) := by decide +kernel
theorem dX0_cut_63 : decode cX0_cut 63 = .ok (.iinc 4 (-1), 3) := by decide +kernel
theorem dX0_cut_66 : decode cX0_cut 66 = .ok (.goto (-16), 3) := by decide +kernel
theorem dX0_cut_69 : decode cX0_cut 69 = .ok (.return_, 1) := by decide +kernel
set_option maxRecDepth 20000 in
theorem ggX0_fewestFrom_X0_isRank : GoodIn wsX0_fewestFrom wsX0_isRank := goodIn_r _ [5] (by decide +kernel) (by decide +kernel)
set_option maxRecDepth 20000 in
theorem gX0_fewestFrom_X0_isRank : GoodIn wsX0_fewestFrom (va_wsS RX0 47 yX0_isRank wsX0_isRank) := goodIn_app (goodIn_of _ (by decide +kernel)) ggX0_fewestFrom_X0_isRank
theorem dX0_fewestFrom_0 : decode cX0_fewestFrom 0 = .ok (.iload_n 1, 1) := by decide +kernel
theorem dX0_fewestFrom_1 : decode cX0_fewestFrom 1 = .ok (.invokestatic 47, 3) := by decide +kernel
theorem dX0_fewestFrom_4 : decode cX0_fewestFrom 4 = .ok (.ifCond .eq 12, 3) := by decide +kernel
theorem dX0_fewestFrom_7 : decode cX0_fewestFrom 7 = .ok (.aload_n 0, 1) := by decide +kernel
theorem dX0_fewestFrom_8 : decode cX0_fewestFrom 8 = .ok (.getfield 15, 3) := by decide +kernel
theorem dX0_fewestFrom_11 : decode cX0_fewestFrom 11 = .ok (.iload_n 1, 1) := by decide +kernel
theorem dX0_fewestFrom_12 : decode cX0_fewestFrom 12 = .ok (.iaload, 1) := by decide +kernel
theorem dX0_fewestFrom_13 : decode cX0_fewestFrom 13 = .ok (.goto 4, 3) := by decide +kernel
theorem dX0_fewestFrom_16 : decode cX0_fewestFrom 16 = .ok (.iconst 0, 1) := by decide +kernel
theorem dX0_fewestFrom_17 : decode cX0_fewestFrom 17 = .ok (.ireturn, 1) := by decide +kernel
set_option maxRecDepth 20000 in
theorem ggX0_lastOf_X0_isRank : GoodIn wsX0_lastOf wsX0_isRank := goodIn_r _ [5] (by decide +kernel) (by decide +kernel)
set_option maxRecDepth 20000 in
theorem gX0_lastOf_X0_isRank : GoodIn wsX0_lastOf (va_wsS RX0 47 yX0_isRank wsX0_isRank) := goodIn_app (goodIn_of _ (by decide +kernel)) ggX0_lastOf_X0_isRank
theorem dX0_lastOf_0 : decode cX0_lastOf 0 = .ok (.iload_n 1, 1) := by decide +kernel
theorem dX0_lastOf_1 : decode cX0_lastOf 1 = .ok (.invokestatic 47, 3) := by decide +kernel
theorem dX0_lastOf_4 : decode cX0_lastOf 4 = .ok (.ifCond .eq 12, 3) := by decide +kernel
theorem dX0_lastOf_7 : decode cX0_lastOf 7 = .ok (.aload_n 0, 1) := by decide +kernel
theorem dX0_lastOf_8 : decode cX0_lastOf 8 = .ok (.getfield 18, 3) := by decide +kernel
theorem dX0_lastOf_11 : decode cX0_lastOf 11 = .ok (.iload_n 1, 1) := by decide +kernel
theorem dX0_lastOf_12 : decode cX0_lastOf 12 = .ok (.iaload, 1) := by decide +kernel
theorem dX0_lastOf_13 : decode cX0_lastOf 13 = .ok (.goto 4, 3) := by decide +kernel
theorem dX0_lastOf_16 : decode cX0_lastOf 16 = .ok (.iload_n 1, 1) := by decide +kernel
theorem dX0_lastOf_17 : decode cX0_lastOf 17 = .ok (.ireturn, 1) := by decide +kernel
set_option maxRecDepth 20000 in
theorem ggX0_slopeNum_X0_isRank : GoodIn wsX0_slopeNum wsX0_isRank := goodIn_r _ [5] (by decide +kernel) (by decide +kernel)
set_option maxRecDepth 20000 in
theorem gX0_slopeNum_X0_isRank : GoodIn wsX0_slopeNum (va_wsS RX0 47 yX0_isRank wsX0_isRank) := goodIn_app (goodIn_of _ (by decide +kernel)) ggX0_slopeNum_X0_isRank
theorem dX0_slopeNum_0 : decode cX0_slopeNum 0 = .ok (.iload_n 1, 1) := by decide +kernel
theorem dX0_slopeNum_1 : decode cX0_slopeNum 1 = .ok (.invokestatic 47, 3) := by decide +kernel
theorem dX0_slopeNum_4 : decode cX0_slopeNum 4 = .ok (.ifCond .eq 12, 3) := by decide +kernel
theorem dX0_slopeNum_7 : decode cX0_slopeNum 7 = .ok (.aload_n 0, 1) := by decide +kernel
theorem dX0_slopeNum_8 : decode cX0_slopeNum 8 = .ok (.getfield 21, 3) := by decide +kernel
theorem dX0_slopeNum_11 : decode cX0_slopeNum 11 = .ok (.iload_n 1, 1) := by decide +kernel
theorem dX0_slopeNum_12 : decode cX0_slopeNum 12 = .ok (.iaload, 1) := by decide +kernel
theorem dX0_slopeNum_13 : decode cX0_slopeNum 13 = .ok (.goto 4, 3) := by decide +kernel
theorem dX0_slopeNum_16 : decode cX0_slopeNum 16 = .ok (.iconst 0, 1) := by decide +kernel
theorem dX0_slopeNum_17 : decode cX0_slopeNum 17 = .ok (.ireturn, 1) := by decide +kernel
set_option maxRecDepth 20000 in
theorem ggX0_slopeDen_X0_isRank : GoodIn wsX0_slopeDen wsX0_isRank := goodIn_r _ [5] (by decide +kernel) (by decide +kernel)
set_option maxRecDepth 20000 in
theorem gX0_slopeDen_X0_isRank : GoodIn wsX0_slopeDen (va_wsS RX0 47 yX0_isRank wsX0_isRank) := goodIn_app (goodIn_of _ (by decide +kernel)) ggX0_slopeDen_X0_isRank
theorem dX0_slopeDen_0 : decode cX0_slopeDen 0 = .ok (.iload_n 1, 1) := by decide +kernel
theorem dX0_slopeDen_1 : decode cX0_slopeDen 1 = .ok (.invokestatic 47, 3) := by decide +kernel
theorem dX0_slopeDen_4 : decode cX0_slopeDen 4 = .ok (.ifCond .eq 12, 3) := by decide +kernel
theorem dX0_slopeDen_7 : decode cX0_slopeDen 7 = .ok (.aload_n 0, 1) := by decide +kernel
theorem dX0_slopeDen_8 : decode cX0_slopeDen 8 = .ok (.getfield 24, 3) := by decide +kernel
theorem dX0_slopeDen_11 : decode cX0_slopeDen 11 = .ok (.iload_n 1, 1) := by decide +kernel
theorem dX0_slopeDen_12 : decode cX0_slopeDen 12 = .ok (.iaload, 1) := by decide +kernel
theorem dX0_slopeDen_13 : decode cX0_slopeDen 13 = .ok (.goto 4, 3) := by decide +kernel
theorem dX0_slopeDen_16 : decode cX0_slopeDen 16 = .ok (.iconst 1, 1) := by decide +kernel
theorem dX0_slopeDen_17 : decode cX0_slopeDen 17 = .ok (.ireturn, 1) := by decide +kernel
theorem dX0_isRank_0 : decode cX0_isRank 0 = .ok (.iload_n 0, 1) := by decide +kernel
theorem dX0_isRank_1 : decode cX0_isRank 1 = .ok (.ifCond .lt 13, 3) := by decide +kernel
theorem dX0_isRank_4 : decode cX0_isRank 4 = .ok (.iload_n 0, 1) := by decide +kernel
theorem dX0_isRank_5 : decode cX0_isRank 5 = .ok (.bipush 60, 2) := by decide +kernel
theorem dX0_isRank_7 : decode cX0_isRank 7 = .ok (.if_icmp .ge 7, 3) := by decide +kernel
theorem dX0_isRank_10 : decode cX0_isRank 10 = .ok (.iconst 1, 1) := by decide +kernel
theorem dX0_isRank_11 : decode cX0_isRank 11 = .ok (.goto 4, 3) := by decide +kernel
theorem dX0_isRank_14 : decode cX0_isRank 14 = .ok (.iconst 0, 1) := by decide +kernel
theorem dX0_isRank_15 : decode cX0_isRank 15 = .ok (.ireturn, 1) := by decide +kernel
theorem dX0_cutFrom_0 : decode cX0_cutFrom 0 = .ok (.iload_n 1, 1) := by decide +kernel
theorem dX0_cutFrom_1 : decode cX0_cutFrom 1 = .ok (.ifCond .lt 14, 3) := by decide +kernel
theorem dX0_cutFrom_4 : decode cX0_cutFrom 4 = .ok (.iload_n 1, 1) := by decide +kernel
theorem dX0_cutFrom_5 : decode cX0_cutFrom 5 = .ok (.iload_n 2, 1) := by decide +kernel
theorem dX0_cutFrom_6 : decode cX0_cutFrom 6 = .ok (.if_icmp .ge 9, 3) := by decide +kernel
theorem dX0_cutFrom_9 : decode cX0_cutFrom 9 = .ok (.iload_n 2, 1) := by decide +kernel
theorem dX0_cutFrom_10 : decode cX0_cutFrom 10 = .ok (.bipush 60, 2) := by decide +kernel
theorem dX0_cutFrom_12 : decode cX0_cutFrom 12 = .ok (.if_icmp .le 4, 3) := by decide +kernel
theorem dX0_cutFrom_15 : decode cX0_cutFrom 15 = .ok (.return_, 1) := by decide +kernel
theorem dX0_cutFrom_16 : decode cX0_cutFrom 16 = .ok (.iconst 0, 1) := by decide +kernel
theorem dX0_cutFrom_17 : decode cX0_cutFrom 17 = .ok (.istore 4, 2) := by decide +kernel
theorem dX0_cutFrom_19 : decode cX0_cutFrom 19 = .ok (.iconst 1, 1) := by decide +kernel
theorem dX0_cutFrom_20 : decode cX0_cutFrom 20 = .ok (.istore 5, 2) := by decide +kernel
theorem dX0_cutFrom_22 : decode cX0_cutFrom 22 = .ok (.iconst 1, 1) := by decide +kernel
theorem dX0_cutFrom_23 : decode cX0_cutFrom 23 = .ok (.istore 6, 2) := by decide +kernel
theorem dX0_cutFrom_25 : decode cX0_cutFrom 25 = .ok (.iconst 0, 1) := by decide +kernel
theorem dX0_cutFrom_26 : decode cX0_cutFrom 26 = .ok (.istore 7, 2) := by decide +kernel
theorem dX0_cutFrom_28 : decode cX0_cutFrom 28 = .ok (.aload_n 0, 1) := by decide +kernel
theorem dX0_cutFrom_29 : decode cX0_cutFrom 29 = .ok (.getfield 15, 3) := by decide +kernel
theorem dX0_cutFrom_32 : decode cX0_cutFrom 32 = .ok (.iload_n 1, 1) := by decide +kernel
theorem dX0_cutFrom_33 : decode cX0_cutFrom 33 = .ok (.aload_n 0, 1) := by decide +kernel
theorem dX0_cutFrom_34 : decode cX0_cutFrom 34 = .ok (.getfield 15, 3) := by decide +kernel
theorem dX0_cutFrom_37 : decode cX0_cutFrom 37 = .ok (.iload_n 1, 1) := by decide +kernel
theorem dX0_cutFrom_38 : decode cX0_cutFrom 38 = .ok (.iconst 1, 1) := by decide +kernel
theorem dX0_cutFrom_39 : decode cX0_cutFrom 39 = .ok (.iadd, 1) := by decide +kernel
theorem dX0_cutFrom_40 : decode cX0_cutFrom 40 = .ok (.iaload, 1) := by decide +kernel
theorem dX0_cutFrom_41 : decode cX0_cutFrom 41 = .ok (.iconst 1, 1) := by decide +kernel
theorem dX0_cutFrom_42 : decode cX0_cutFrom 42 = .ok (.iadd, 1) := by decide +kernel
theorem dX0_cutFrom_43 : decode cX0_cutFrom 43 = .ok (.iastore, 1) := by decide +kernel
theorem dX0_cutFrom_44 : decode cX0_cutFrom 44 = .ok (.aload_n 0, 1) := by decide +kernel
theorem dX0_cutFrom_45 : decode cX0_cutFrom 45 = .ok (.getfield 18, 3) := by decide +kernel
theorem dX0_cutFrom_48 : decode cX0_cutFrom 48 = .ok (.iload_n 1, 1) := by decide +kernel
theorem dX0_cutFrom_49 : decode cX0_cutFrom 49 = .ok (.iload_n 1, 1) := by decide +kernel
theorem dX0_cutFrom_50 : decode cX0_cutFrom 50 = .ok (.iastore, 1) := by decide +kernel
theorem dX0_cutFrom_51 : decode cX0_cutFrom 51 = .ok (.aload_n 0, 1) := by decide +kernel
theorem dX0_cutFrom_52 : decode cX0_cutFrom 52 = .ok (.getfield 21, 3) := by decide +kernel
theorem dX0_cutFrom_55 : decode cX0_cutFrom 55 = .ok (.iload_n 1, 1) := by decide +kernel
theorem dX0_cutFrom_56 : decode cX0_cutFrom 56 = .ok (.iload 4, 2) := by decide +kernel
theorem dX0_cutFrom_58 : decode cX0_cutFrom 58 = .ok (.iastore, 1) := by decide +kernel
theorem dX0_cutFrom_59 : decode cX0_cutFrom 59 = .ok (.aload_n 0, 1) := by decide +kernel
theorem dX0_cutFrom_60 : decode cX0_cutFrom 60 = .ok (.getfield 24, 3) := by decide +kernel
theorem dX0_cutFrom_63 : decode cX0_cutFrom 63 = .ok (.iload_n 1, 1) := by decide +kernel
theorem dX0_cutFrom_64 : decode cX0_cutFrom 64 = .ok (.iload 5, 2) := by decide +kernel
theorem dX0_cutFrom_66 : decode cX0_cutFrom 66 = .ok (.iastore, 1) := by decide +kernel
theorem dX0_cutFrom_67 : decode cX0_cutFrom 67 = .ok (.iload_n 1, 1) := by decide +kernel
theorem dX0_cutFrom_68 : decode cX0_cutFrom 68 = .ok (.iconst 1, 1) := by decide +kernel
theorem dX0_cutFrom_69 : decode cX0_cutFrom 69 = .ok (.iadd, 1) := by decide +kernel
theorem dX0_cutFrom_70 : decode cX0_cutFrom 70 = .ok (.istore 8, 2) := by decide +kernel
theorem dX0_cutFrom_72 : decode cX0_cutFrom 72 = .ok (.iload 8, 2) := by decide +kernel
theorem dX0_cutFrom_74 : decode cX0_cutFrom 74 = .ok (.iload_n 2, 1) := by decide +kernel
theorem dX0_cutFrom_75 : decode cX0_cutFrom 75 = .ok (.if_icmp .ge 160, 3) := by decide +kernel
theorem dX0_cutFrom_78 : decode cX0_cutFrom 78 = .ok (.aload_n 0, 1) := by decide +kernel
theorem dX0_cutFrom_79 : decode cX0_cutFrom 79 = .ok (.getfield 9, 3) := by decide +kernel
theorem dX0_cutFrom_82 : decode cX0_cutFrom 82 = .ok (.iload 8, 2) := by decide +kernel
theorem dX0_cutFrom_84 : decode cX0_cutFrom 84 = .ok (.iaload, 1) := by decide +kernel
theorem dX0_cutFrom_85 : decode cX0_cutFrom 85 = .ok (.aload_n 0, 1) := by decide +kernel
theorem dX0_cutFrom_86 : decode cX0_cutFrom 86 = .ok (.getfield 9, 3) := by decide +kernel
theorem dX0_cutFrom_89 : decode cX0_cutFrom 89 = .ok (.iload_n 1, 1) := by decide +kernel
theorem dX0_cutFrom_90 : decode cX0_cutFrom 90 = .ok (.iaload, 1) := by decide +kernel
theorem dX0_cutFrom_91 : decode cX0_cutFrom 91 = .ok (.isub, 1) := by decide +kernel
theorem dX0_cutFrom_92 : decode cX0_cutFrom 92 = .ok (.istore 9, 2) := by decide +kernel
theorem dX0_cutFrom_94 : decode cX0_cutFrom 94 = .ok (.iload 8, 2) := by decide +kernel
theorem dX0_cutFrom_96 : decode cX0_cutFrom 96 = .ok (.iload_n 1, 1) := by decide +kernel
theorem dX0_cutFrom_97 : decode cX0_cutFrom 97 = .ok (.isub, 1) := by decide +kernel
theorem dX0_cutFrom_98 : decode cX0_cutFrom 98 = .ok (.iload_n 3, 1) := by decide +kernel
theorem dX0_cutFrom_99 : decode cX0_cutFrom 99 = .ok (.isub, 1) := by decide +kernel
theorem dX0_cutFrom_100 : decode cX0_cutFrom 100 = .ok (.istore 10, 2) := by decide +kernel
theorem dX0_cutFrom_102 : decode cX0_cutFrom 102 = .ok (.iload 8, 2) := by decide +kernel
theorem dX0_cutFrom_104 : decode cX0_cutFrom 104 = .ok (.iload_n 1, 1) := by decide +kernel
theorem dX0_cutFrom_105 : decode cX0_cutFrom 105 = .ok (.isub, 1) := by decide +kernel
theorem dX0_cutFrom_106 : decode cX0_cutFrom 106 = .ok (.iload_n 3, 1) := by decide +kernel
theorem dX0_cutFrom_107 : decode cX0_cutFrom 107 = .ok (.iadd, 1) := by decide +kernel
theorem dX0_cutFrom_108 : decode cX0_cutFrom 108 = .ok (.istore 11, 2) := by decide +kernel
theorem dX0_cutFrom_110 : decode cX0_cutFrom 110 = .ok (.iload 10, 2) := by decide +kernel
theorem dX0_cutFrom_112 : decode cX0_cutFrom 112 = .ok (.iload 5, 2) := by decide +kernel
theorem dX0_cutFrom_114 : decode cX0_cutFrom 114 = .ok (.imul, 1) := by decide +kernel
theorem dX0_cutFrom_115 : decode cX0_cutFrom 115 = .ok (.iload 4, 2) := by decide +kernel
theorem dX0_cutFrom_117 : decode cX0_cutFrom 117 = .ok (.iload 9, 2) := by decide +kernel
theorem dX0_cutFrom_119 : decode cX0_cutFrom 119 = .ok (.imul, 1) := by decide +kernel
theorem dX0_cutFrom_120 : decode cX0_cutFrom 120 = .ok (.if_icmp .le 11, 3) := by decide +kernel
theorem dX0_cutFrom_123 : decode cX0_cutFrom 123 = .ok (.iload 10, 2) := by decide +kernel
theorem dX0_cutFrom_125 : decode cX0_cutFrom 125 = .ok (.istore 4, 2) := by decide +kernel
theorem dX0_cutFrom_127 : decode cX0_cutFrom 127 = .ok (.iload 9, 2) := by decide +kernel
theorem dX0_cutFrom_129 : decode cX0_cutFrom 129 = .ok (.istore 5, 2) := by decide +kernel
theorem dX0_cutFrom_131 : decode cX0_cutFrom 131 = .ok (.iload 11, 2) := by decide +kernel
theorem dX0_cutFrom_133 : decode cX0_cutFrom 133 = .ok (.iload 7, 2) := by decide +kernel
theorem dX0_cutFrom_135 : decode cX0_cutFrom 135 = .ok (.imul, 1) := by decide +kernel
theorem dX0_cutFrom_136 : decode cX0_cutFrom 136 = .ok (.iload 6, 2) := by decide +kernel
theorem dX0_cutFrom_138 : decode cX0_cutFrom 138 = .ok (.iload 9, 2) := by decide +kernel
theorem dX0_cutFrom_140 : decode cX0_cutFrom 140 = .ok (.imul, 1) := by decide +kernel
theorem dX0_cutFrom_141 : decode cX0_cutFrom 141 = .ok (.if_icmp .ge 11, 3) := by decide +kernel
theorem dX0_cutFrom_144 : decode cX0_cutFrom 144 = .ok (.iload 11, 2) := by decide +kernel
theorem dX0_cutFrom_146 : decode cX0_cutFrom 146 = .ok (.istore 6, 2) := by decide +kernel
theorem dX0_cutFrom_148 : decode cX0_cutFrom 148 = .ok (.iload 9, 2) := by decide +kernel
theorem dX0_cutFrom_150 : decode cX0_cutFrom 150 = .ok (.istore 7, 2) := by decide +kernel
theorem dX0_cutFrom_152 : decode cX0_cutFrom 152 = .ok (.iload 4, 2) := by decide +kernel
theorem dX0_cutFrom_154 : decode cX0_cutFrom 154 = .ok (.iload 7, 2) := by decide +kernel
theorem dX0_cutFrom_156 : decode cX0_cutFrom 156 = .ok (.imul, 1) := by decide +kernel
theorem dX0_cutFrom_157 : decode cX0_cutFrom 157 = .ok (.iload 6, 2) := by decide +kernel
theorem dX0_cutFrom_159 : decode cX0_cutFrom 159 = .ok (.iload 5, 2) := by decide +kernel
theorem dX0_cutFrom_161 : decode cX0_cutFrom 161 = .ok (.imul, 1) := by decide +kernel
theorem dX0_cutFrom_162 : decode cX0_cutFrom 162 = .ok (.if_icmp .le 6, 3) := by decide +kernel
theorem dX0_cutFrom_165 : decode cX0_cutFrom 165 = .ok (.goto 70, 3) := by decide +kernel
theorem dX0_cutFrom_168 : decode cX0_cutFrom 168 = .ok (.aload_n 0, 1) := by decide +kernel
theorem dX0_cutFrom_169 : decode cX0_cutFrom 169 = .ok (.getfield 15, 3) := by decide +kernel
theorem dX0_cutFrom_172 : decode cX0_cutFrom 172 = .ok (.iload 8, 2) := by decide +kernel
theorem dX0_cutFrom_174 : decode cX0_cutFrom 174 = .ok (.iconst 1, 1) := by decide +kernel
theorem dX0_cutFrom_175 : decode cX0_cutFrom 175 = .ok (.iadd, 1) := by decide +kernel
theorem dX0_cutFrom_176 : decode cX0_cutFrom 176 = .ok (.iaload, 1) := by decide +kernel
theorem dX0_cutFrom_177 : decode cX0_cutFrom 177 = .ok (.iconst 1, 1) := by decide +kernel
theorem dX0_cutFrom_178 : decode cX0_cutFrom 178 = .ok (.iadd, 1) := by decide +kernel
theorem dX0_cutFrom_179 : decode cX0_cutFrom 179 = .ok (.aload_n 0, 1) := by decide +kernel
theorem dX0_cutFrom_180 : decode cX0_cutFrom 180 = .ok (.getfield 15, 3) := by decide +kernel
theorem dX0_cutFrom_183 : decode cX0_cutFrom 183 = .ok (.iload_n 1, 1) := by decide +kernel
theorem dX0_cutFrom_184 : decode cX0_cutFrom 184 = .ok (.iaload, 1) := by decide +kernel
theorem dX0_cutFrom_185 : decode cX0_cutFrom 185 = .ok (.if_icmp .gt 44, 3) := by decide +kernel
theorem dX0_cutFrom_188 : decode cX0_cutFrom 188 = .ok (.aload_n 0, 1) := by decide +kernel
theorem dX0_cutFrom_189 : decode cX0_cutFrom 189 = .ok (.getfield 15, 3) := by decide +kernel
theorem dX0_cutFrom_192 : decode cX0_cutFrom 192 = .ok (.iload_n 1, 1) := by decide +kernel
theorem dX0_cutFrom_193 : decode cX0_cutFrom 193 = .ok (.aload_n 0, 1) := by decide +kernel
theorem dX0_cutFrom_194 : decode cX0_cutFrom 194 = .ok (.getfield 15, 3) := by decide +kernel
theorem dX0_cutFrom_197 : decode cX0_cutFrom 197 = .ok (.iload 8, 2) := by decide +kernel
theorem dX0_cutFrom_199 : decode cX0_cutFrom 199 = .ok (.iconst 1, 1) := by decide +kernel
theorem dX0_cutFrom_200 : decode cX0_cutFrom 200 = .ok (.iadd, 1) := by decide +kernel
theorem dX0_cutFrom_201 : decode cX0_cutFrom 201 = .ok (.iaload, 1) := by decide +kernel
theorem dX0_cutFrom_202 : decode cX0_cutFrom 202 = .ok (.iconst 1, 1) := by decide +kernel
theorem dX0_cutFrom_203 : decode cX0_cutFrom 203 = .ok (.iadd, 1) := by decide +kernel
theorem dX0_cutFrom_204 : decode cX0_cutFrom 204 = .ok (.iastore, 1) := by decide +kernel
theorem dX0_cutFrom_205 : decode cX0_cutFrom 205 = .ok (.aload_n 0, 1) := by decide +kernel
theorem dX0_cutFrom_206 : decode cX0_cutFrom 206 = .ok (.getfield 18, 3) := by decide +kernel
theorem dX0_cutFrom_209 : decode cX0_cutFrom 209 = .ok (.iload_n 1, 1) := by decide +kernel
theorem dX0_cutFrom_210 : decode cX0_cutFrom 210 = .ok (.iload 8, 2) := by decide +kernel
theorem dX0_cutFrom_212 : decode cX0_cutFrom 212 = .ok (.iastore, 1) := by decide +kernel
theorem dX0_cutFrom_213 : decode cX0_cutFrom 213 = .ok (.aload_n 0, 1) := by decide +kernel
theorem dX0_cutFrom_214 : decode cX0_cutFrom 214 = .ok (.getfield 21, 3) := by decide +kernel
theorem dX0_cutFrom_217 : decode cX0_cutFrom 217 = .ok (.iload_n 1, 1) := by decide +kernel
theorem dX0_cutFrom_218 : decode cX0_cutFrom 218 = .ok (.iload 4, 2) := by decide +kernel
theorem dX0_cutFrom_220 : decode cX0_cutFrom 220 = .ok (.iastore, 1) := by decide +kernel
theorem dX0_cutFrom_221 : decode cX0_cutFrom 221 = .ok (.aload_n 0, 1) := by decide +kernel
theorem dX0_cutFrom_222 : decode cX0_cutFrom 222 = .ok (.getfield 24, 3) := by decide +kernel
theorem dX0_cutFrom_225 : decode cX0_cutFrom 225 = .ok (.iload_n 1, 1) := by decide +kernel
theorem dX0_cutFrom_226 : decode cX0_cutFrom 226 = .ok (.iload 5, 2) := by decide +kernel
theorem dX0_cutFrom_228 : decode cX0_cutFrom 228 = .ok (.iastore, 1) := by decide +kernel
theorem dX0_cutFrom_229 : decode cX0_cutFrom 229 = .ok (.iinc 8 1, 3) := by decide +kernel
theorem dX0_cutFrom_232 : decode cX0_cutFrom 232 = .ok (.goto (-160), 3) := by decide +kernel
theorem dX0_cutFrom_235 : decode cX0_cutFrom 235 = .ok (.return_, 1) := by decide +kernel
theorem dX1_init_0 : decode cX1_init 0 = .ok (.aload_n 0, 1) := by decide +kernel
theorem dX1_init_1 : decode cX1_init 1 = .ok (.invokespecial 1, 3) := by decide +kernel
theorem dX1_init_4 : decode cX1_init 4 = .ok (.return_, 1) := by decide +kernel
theorem dX1_clear_0 : decode cX1_clear 0 = .ok (.aload_n 0, 1) := by decide +kernel
theorem dX1_clear_1 : decode cX1_clear 1 = .ok (.lconst 0, 1) := by decide +kernel
theorem dX1_clear_2 : decode cX1_clear 2 = .ok (.putfield 7, 3) := by decide +kernel
theorem dX1_clear_5 : decode cX1_clear 5 = .ok (.return_, 1) := by decide +kernel
set_option maxRecDepth 20000 in
theorem ggX1_add_X1_bitsOf : GoodIn wsX1_add wsX1_bitsOf := goodIn_r _ [5] (by decide +kernel) (by decide +kernel)
set_option maxRecDepth 20000 in
theorem gX1_add_X1_bitsOf : GoodIn wsX1_add (va_wsS RX1 13 yX1_bitsOf wsX1_bitsOf) := goodIn_app (goodIn_of _ (by decide +kernel)) ggX1_add_X1_bitsOf
theorem dX1_add_0 : decode cX1_add 0 = .ok (.aload_n 0, 1) := by decide +kernel
theorem dX1_add_1 : decode cX1_add 1 = .ok (.dup, 1) := by decide +kernel
theorem dX1_add_2 : decode cX1_add 2 = .ok (.getfield 7, 3) := by decide +kernel
theorem dX1_add_5 : decode cX1_add 5 = .ok (.iload_n 1, 1) := by decide +kernel
theorem dX1_add_6 : decode cX1_add 6 = .ok (.invokestatic 13, 3) := by decide +kernel
theorem dX1_add_9 : decode cX1_add 9 = .ok (.lor, 1) := by decide +kernel
theorem dX1_add_10 : decode cX1_add 10 = .ok (.putfield 7, 3) := by decide +kernel
theorem dX1_add_13 : decode cX1_add 13 = .ok (.return_, 1) := by decide +kernel
set_option maxRecDepth 20000 in
theorem ggX1_passes_X1_bitsOf : GoodIn wsX1_passes wsX1_bitsOf := goodIn_r _ [5] (by decide +kernel) (by decide +kernel)
set_option maxRecDepth 20000 in
theorem gX1_passes_X1_bitsOf : GoodIn wsX1_passes (va_wsS RX1 13 yX1_bitsOf wsX1_bitsOf) := goodIn_app (goodIn_of _ (by decide +kernel)) ggX1_passes_X1_bitsOf
theorem dX1_passes_0 : decode cX1_passes 0 = .ok (.iload_n 1, 1) := by decide +kernel
theorem dX1_passes_1 : decode cX1_passes 1 = .ok (.invokestatic 13, 3) := by decide +kernel
theorem dX1_passes_4 : decode cX1_passes 4 = .ok (.lstore_n 2, 1) := by decide +kernel
theorem dX1_passes_5 : decode cX1_passes 5 = .ok (.aload_n 0, 1) := by decide +kernel
theorem dX1_passes_6 : decode cX1_passes 6 = .ok (.getfield 7, 3) := by decide +kernel
theorem dX1_passes_9 : decode cX1_passes 9 = .ok (.lload_n 2, 1) := by decide +kernel
theorem dX1_passes_10 : decode cX1_passes 10 = .ok (.land, 1) := by decide +kernel
theorem dX1_passes_11 : decode cX1_passes 11 = .ok (.lload_n 2, 1) := by decide +kernel
theorem dX1_passes_12 : decode cX1_passes 12 = .ok (.lcmp, 1) := by decide +kernel
theorem dX1_passes_13 : decode cX1_passes 13 = .ok (.ifCond .ne 7, 3) := by decide +kernel
theorem dX1_passes_16 : decode cX1_passes 16 = .ok (.iconst 1, 1) := by decide +kernel
theorem dX1_passes_17 : decode cX1_passes 17 = .ok (.goto 4, 3) := by decide +kernel
theorem dX1_passes_20 : decode cX1_passes 20 = .ok (.iconst 0, 1) := by decide +kernel
theorem dX1_passes_21 : decode cX1_passes 21 = .ok (.ireturn, 1) := by decide +kernel
set_option maxRecDepth 20000 in
theorem ggX1_bitsSet_J13_bitCount_95d88 : GoodIn wsX1_bitsSet wsJ13_bitCount_95d88 := goodIn_r _ [5, 6, 7, 8] (by decide +kernel) (by decide +kernel)
set_option maxRecDepth 20000 in
theorem gX1_bitsSet_J13_bitCount_95d88 : GoodIn wsX1_bitsSet (va_wsS RX1 17 yJ13_bitCount_95d88 wsJ13_bitCount_95d88) := goodIn_app (goodIn_of _ (by decide +kernel)) ggX1_bitsSet_J13_bitCount_95d88
theorem dX1_bitsSet_0 : decode cX1_bitsSet 0 = .ok (.aload_n 0, 1) := by decide +kernel
theorem dX1_bitsSet_1 : decode cX1_bitsSet 1 = .ok (.getfield 7, 3) := by decide +kernel
theorem dX1_bitsSet_4 : decode cX1_bitsSet 4 = .ok (.invokestatic 17, 3) := by decide +kernel
theorem dX1_bitsSet_7 : decode cX1_bitsSet 7 = .ok (.ireturn, 1) := by decide +kernel
theorem dX1_bitsOf_0 : decode cX1_bitsOf 0 = .ok (.lconst 1, 1) := by decide +kernel
theorem dX1_bitsOf_1 : decode cX1_bitsOf 1 = .ok (.iload_n 0, 1) := by decide +kernel
theorem dX1_bitsOf_2 : decode cX1_bitsOf 2 = .ok (.bipush 61, 2) := by decide +kernel
theorem dX1_bitsOf_4 : decode cX1_bitsOf 4 = .ok (.irem, 1) := by decide +kernel
theorem dX1_bitsOf_5 : decode cX1_bitsOf 5 = .ok (.lshl, 1) := by decide +kernel
theorem dX1_bitsOf_6 : decode cX1_bitsOf 6 = .ok (.lconst 1, 1) := by decide +kernel
theorem dX1_bitsOf_7 : decode cX1_bitsOf 7 = .ok (.iload_n 0, 1) := by decide +kernel
theorem dX1_bitsOf_8 : decode cX1_bitsOf 8 = .ok (.bipush 61, 2) := by decide +kernel
theorem dX1_bitsOf_10 : decode cX1_bitsOf 10 = .ok (.idiv, 1) := by decide +kernel
theorem dX1_bitsOf_11 : decode cX1_bitsOf 11 = .ok (.bipush 64, 2) := by decide +kernel
theorem dX1_bitsOf_13 : decode cX1_bitsOf 13 = .ok (.irem, 1) := by decide +kernel
theorem dX1_bitsOf_14 : decode cX1_bitsOf 14 = .ok (.lshl, 1) := by decide +kernel
theorem dX1_bitsOf_15 : decode cX1_bitsOf 15 = .ok (.lor, 1) := by decide +kernel
theorem dX1_bitsOf_16 : decode cX1_bitsOf 16 = .ok (.lreturn, 1) := by decide +kernel
end
section
theorem dX2_init_0 : decode cX2_init 0 = .ok (.aload_n 0, 1) := by decide +kernel
theorem dX2_init_1 : decode cX2_init 1 = .ok (.invokespecial 3, 3) := by decide +kernel
theorem dX2_init_4 : decode cX2_init 4 = .ok (.aload_n 0, 1) := by decide +kernel
theorem dX2_init_5 : decode cX2_init 5 = .ok (.bipush 60, 2) := by decide +kernel
theorem dX2_init_7 : decode cX2_init 7 = .ok (.newarray .int, 2) := by decide +kernel
theorem dX2_init_9 : decode cX2_init 9 = .ok (.putfield 9, 3) := by decide +kernel
theorem dX2_init_12 : decode cX2_init 12 = .ok (.return_, 1) := by decide +kernel
theorem dX2_size_0 : decode cX2_size 0 = .ok (.aload_n 0, 1) := by decide +kernel
theorem dX2_size_1 : decode cX2_size 1 = .ok (.getfield 15, 3) := by decide +kernel
theorem dX2_size_4 : decode cX2_size 4 = .ok (.ireturn, 1) := by decide +kernel
theorem dX2_key_0 : decode cX2_key 0 = .ok (.iload_n 1, 1) := by decide +kernel
theorem dX2_key_1 : decode cX2_key 1 = .ok (.ifCond .lt 20, 3) := by decide +kernel
theorem dX2_key_4 : decode cX2_key 4 = .ok (.iload_n 1, 1) := by decide +kernel
theorem dX2_key_5 : decode cX2_key 5 = .ok (.aload_n 0, 1) := by decide +kernel
theorem dX2_key_6 : decode cX2_key 6 = .ok (.getfield 15, 3) := by decide +kernel
theorem dX2_key_9 : decode cX2_key 9 = .ok (.if_icmp .ge 12, 3) := by decide +kernel
theorem dX2_key_12 : decode cX2_key 12 = .ok (.aload_n 0, 1) := by decide +kernel
theorem dX2_key_13 : decode cX2_key 13 = .ok (.getfield 9, 3) := by decide +kernel
theorem dX2_key_16 : decode cX2_key 16 = .ok (.iload_n 1, 1) := by decide +kernel
theorem dX2_key_17 : decode cX2_key 17 = .ok (.iaload, 1) := by decide +kernel
theorem dX2_key_18 : decode cX2_key 18 = .ok (.goto 4, 3) := by decide +kernel
theorem dX2_key_21 : decode cX2_key 21 = .ok (.iconst (-1), 1) := by decide +kernel
theorem dX2_key_22 : decode cX2_key 22 = .ok (.ireturn, 1) := by decide +kernel
theorem dX2_below_0 : decode cX2_below 0 = .ok (.iconst 0, 1) := by decide +kernel
theorem dX2_below_1 : decode cX2_below 1 = .ok (.istore_n 2, 1) := by decide +kernel
theorem dX2_below_2 : decode cX2_below 2 = .ok (.iload_n 2, 1) := by decide +kernel
theorem dX2_below_3 : decode cX2_below 3 = .ok (.aload_n 0, 1) := by decide +kernel
theorem dX2_below_4 : decode cX2_below 4 = .ok (.getfield 15, 3) := by decide +kernel
theorem dX2_below_7 : decode cX2_below 7 = .ok (.if_icmp .ge 19, 3) := by decide +kernel
theorem dX2_below_10 : decode cX2_below 10 = .ok (.aload_n 0, 1) := by decide +kernel
theorem dX2_below_11 : decode cX2_below 11 = .ok (.getfield 9, 3) := by decide +kernel
theorem dX2_below_14 : decode cX2_below 14 = .ok (.iload_n 2, 1) := by decide +kernel
theorem dX2_below_15 : decode cX2_below 15 = .ok (.iaload, 1) := by decide +kernel
theorem dX2_below_16 : decode cX2_below 16 = .ok (.iload_n 1, 1) := by decide +kernel
theorem dX2_below_17 : decode cX2_below 17 = .ok (.if_icmp .ge 9, 3) := by decide +kernel
theorem dX2_below_20 : decode cX2_below 20 = .ok (.iinc 2 1, 3) := by decide +kernel
theorem dX2_below_23 : decode cX2_below 23 = .ok (.goto (-21), 3) := by decide +kernel
theorem dX2_below_26 : decode cX2_below 26 = .ok (.iload_n 2, 1) := by decide +kernel
theorem dX2_below_27 : decode cX2_below 27 = .ok (.ireturn, 1) := by decide +kernel
set_option maxRecDepth 20000 in
theorem ggX2_has_X2_below : GoodIn wsX2_has wsX2_below := goodIn_r _ [7, 1, 2, 8, 9] (by decide +kernel) (by decide +kernel)
set_option maxRecDepth 20000 in
theorem gX2_has_X2_below : GoodIn wsX2_has (wsV RX2 19 RX2 yX2_below wsX2_below) := goodIn_app (goodIn_of _ (by decide +kernel)) ggX2_has_X2_below
theorem dX2_has_0 : decode cX2_has 0 = .ok (.aload_n 0, 1) := by decide +kernel
theorem dX2_has_1 : decode cX2_has 1 = .ok (.iload_n 1, 1) := by decide +kernel
theorem dX2_has_2 : decode cX2_has 2 = .ok (.invokevirtual 19, 3) := by decide +kernel
theorem dX2_has_5 : decode cX2_has 5 = .ok (.istore_n 2, 1) := by decide +kernel
theorem dX2_has_6 : decode cX2_has 6 = .ok (.iload_n 2, 1) := by decide +kernel
theorem dX2_has_7 : decode cX2_has 7 = .ok (.aload_n 0, 1) := by decide +kernel
theorem dX2_has_8 : decode cX2_has 8 = .ok (.getfield 15, 3) := by decide +kernel
theorem dX2_has_11 : decode cX2_has 11 = .ok (.if_icmp .ge 17, 3) := by decide +kernel
theorem dX2_has_14 : decode cX2_has 14 = .ok (.aload_n 0, 1) := by decide +kernel
theorem dX2_has_15 : decode cX2_has 15 = .ok (.getfield 9, 3) := by decide +kernel
theorem dX2_has_18 : decode cX2_has 18 = .ok (.iload_n 2, 1) := by decide +kernel
theorem dX2_has_19 : decode cX2_has 19 = .ok (.iaload, 1) := by decide +kernel
theorem dX2_has_20 : decode cX2_has 20 = .ok (.iload_n 1, 1) := by decide +kernel
theorem dX2_has_21 : decode cX2_has 21 = .ok (.if_icmp .ne 7, 3) := by decide +kernel
theorem dX2_has_24 : decode cX2_has 24 = .ok (.iconst 1, 1) := by decide +kernel
theorem dX2_has_25 : decode cX2_has 25 = .ok (.goto 4, 3) := by decide +kernel
theorem dX2_has_28 : decode cX2_has 28 = .ok (.iconst 0, 1) := by decide +kernel
theorem dX2_has_29 : decode cX2_has 29 = .ok (.ireturn, 1) := by decide +kernel
set_option maxRecDepth 20000 in
theorem ggX2_within_X2_below : GoodIn wsX2_within wsX2_below := goodIn_r _ [5, 6, 7, 8, 9] (by decide +kernel) (by decide +kernel)
set_option maxRecDepth 20000 in
theorem gX2_within_X2_below : GoodIn wsX2_within (wsV RX2 19 RX2 yX2_below wsX2_below) := goodIn_app (goodIn_of _ (by decide +kernel)) ggX2_within_X2_below
theorem dX2_within_0 : decode cX2_within 0 = .ok (.aload_n 0, 1) := by decide +kernel
theorem dX2_within_1 : decode cX2_within 1 = .ok (.iload_n 2, 1) := by decide +kernel
theorem dX2_within_2 : decode cX2_within 2 = .ok (.iconst 1, 1) := by decide +kernel
theorem dX2_within_3 : decode cX2_within 3 = .ok (.iadd, 1) := by decide +kernel
theorem dX2_within_4 : decode cX2_within 4 = .ok (.invokevirtual 19, 3) := by decide +kernel
theorem dX2_within_7 : decode cX2_within 7 = .ok (.aload_n 0, 1) := by decide +kernel
theorem dX2_within_8 : decode cX2_within 8 = .ok (.iload_n 1, 1) := by decide +kernel
theorem dX2_within_9 : decode cX2_within 9 = .ok (.invokevirtual 19, 3) := by decide +kernel
theorem dX2_within_12 : decode cX2_within 12 = .ok (.isub, 1) := by decide +kernel
theorem dX2_within_13 : decode cX2_within 13 = .ok (.ireturn, 1) := by decide +kernel
set_option maxRecDepth 20000 in
theorem ggX2_total_X2_below : GoodIn wsX2_total wsX2_below := goodIn_r _ [5, 6, 7, 12, 13] (by decide +kernel) (by decide +kernel)
set_option maxRecDepth 20000 in
theorem gX2_total_X2_below : GoodIn wsX2_total (wsV RX2 19 RX2 yX2_below wsX2_below) := goodIn_app (goodIn_of _ (by decide +kernel)) ggX2_total_X2_below
set_option maxRecDepth 20000 in
theorem ggX2_total_X2_key : GoodIn wsX2_total wsX2_key := goodIn_r _ [11, 6, 7, 12, 13] (by decide +kernel) (by decide +kernel)
set_option maxRecDepth 20000 in
theorem gX2_total_X2_key : GoodIn wsX2_total (wsV RX2 23 RX2 yX2_key wsX2_key) := goodIn_app (goodIn_of _ (by decide +kernel)) ggX2_total_X2_key
theorem dX2_total_0 : decode cX2_total 0 = .ok (.lconst 0, 1) := by decide +kernel
theorem dX2_total_1 : decode cX2_total 1 = .ok (.lstore_n 3, 1) := by decide +kernel
theorem dX2_total_2 : decode cX2_total 2 = .ok (.aload_n 0, 1) := by decide +kernel
theorem dX2_total_3 : decode cX2_total 3 = .ok (.iload_n 2, 1) := by decide +kernel
theorem dX2_total_4 : decode cX2_total 4 = .ok (.iconst 1, 1) := by decide +kernel
theorem dX2_total_5 : decode cX2_total 5 = .ok (.iadd, 1) := by decide +kernel
theorem dX2_total_6 : decode cX2_total 6 = .ok (.invokevirtual 19, 3) := by decide +kernel
theorem dX2_total_9 : decode cX2_total 9 = .ok (.istore 5, 2) := by decide +kernel
theorem dX2_total_11 : decode cX2_total 11 = .ok (.aload_n 0, 1) := by decide +kernel
theorem dX2_total_12 : decode cX2_total 12 = .ok (.iload_n 1, 1) := by decide +kernel
theorem dX2_total_13 : decode cX2_total 13 = .ok (.invokevirtual 19, 3) := by decide +kernel
theorem dX2_total_16 : decode cX2_total 16 = .ok (.istore 6, 2) := by decide +kernel
theorem dX2_total_18 : decode cX2_total 18 = .ok (.iload 6, 2) := by decide +kernel
theorem dX2_total_20 : decode cX2_total 20 = .ok (.iload 5, 2) := by decide +kernel
theorem dX2_total_22 : decode cX2_total 22 = .ok (.if_icmp .ge 19, 3) := by decide +kernel
theorem dX2_total_25 : decode cX2_total 25 = .ok (.lload_n 3, 1) := by decide +kernel
theorem dX2_total_26 : decode cX2_total 26 = .ok (.aload_n 0, 1) := by decide +kernel
theorem dX2_total_27 : decode cX2_total 27 = .ok (.iload 6, 2) := by decide +kernel
theorem dX2_total_29 : decode cX2_total 29 = .ok (.invokevirtual 23, 3) := by decide +kernel
theorem dX2_total_32 : decode cX2_total 32 = .ok (.i2l, 1) := by decide +kernel
theorem dX2_total_33 : decode cX2_total 33 = .ok (.ladd, 1) := by decide +kernel
theorem dX2_total_34 : decode cX2_total 34 = .ok (.lstore_n 3, 1) := by decide +kernel
theorem dX2_total_35 : decode cX2_total 35 = .ok (.iinc 6 1, 3) := by decide +kernel
theorem dX2_total_38 : decode cX2_total 38 = .ok (.goto (-20), 3) := by decide +kernel
theorem dX2_total_41 : decode cX2_total 41 = .ok (.lload_n 3, 1) := by decide +kernel
theorem dX2_total_42 : decode cX2_total 42 = .ok (.lreturn, 1) := by decide +kernel
theorem dX2_clear_0 : decode cX2_clear 0 = .ok (.aload_n 0, 1) := by decide +kernel
theorem dX2_clear_1 : decode cX2_clear 1 = .ok (.iconst 0, 1) := by decide +kernel
theorem dX2_clear_2 : decode cX2_clear 2 = .ok (.putfield 15, 3) := by decide +kernel
theorem dX2_clear_5 : decode cX2_clear 5 = .ok (.return_, 1) := by decide +kernel
set_option maxRecDepth 20000 in
theorem ggX2_copy_X2_size : GoodIn wsX2_copy wsX2_size := goodIn_r _ [6, 1, 16, 17] (by decide +kernel) (by decide +kernel)
set_option maxRecDepth 20000 in
theorem gX2_copy_X2_size : GoodIn wsX2_copy (wsV RX2 26 RX2 yX2_size wsX2_size) := goodIn_app (goodIn_of _ (by decide +kernel)) ggX2_copy_X2_size
set_option maxRecDepth 20000 in
theorem ggX2_copy_X2_key : GoodIn wsX2_copy wsX2_key := goodIn_r _ [10, 1, 11, 16, 17] (by decide +kernel) (by decide +kernel)
set_option maxRecDepth 20000 in
theorem gX2_copy_X2_key : GoodIn wsX2_copy (wsV RX2 23 RX2 yX2_key wsX2_key) := goodIn_app (goodIn_of _ (by decide +kernel)) ggX2_copy_X2_key
set_option maxRecDepth 20000 in
theorem ggX2_copy_X2_append : GoodIn wsX2_copy wsX2_append := goodIn_r _ [15, 1, 11, 16, 17] (by decide +kernel) (by decide +kernel)
set_option maxRecDepth 20000 in
theorem gX2_copy_X2_append : GoodIn wsX2_copy (wsV RX2 29 RX2 yX2_append wsX2_append) := goodIn_app (goodIn_of _ (by decide +kernel)) ggX2_copy_X2_append
theorem dX2_copy_0 : decode cX2_copy 0 = .ok (.aload_n 0, 1) := by decide +kernel
theorem dX2_copy_1 : decode cX2_copy 1 = .ok (.iconst 0, 1) := by decide +kernel
theorem dX2_copy_2 : decode cX2_copy 2 = .ok (.putfield 15, 3) := by decide +kernel
theorem dX2_copy_5 : decode cX2_copy 5 = .ok (.iconst 0, 1) := by decide +kernel
theorem dX2_copy_6 : decode cX2_copy 6 = .ok (.istore_n 2, 1) := by decide +kernel
theorem dX2_copy_7 : decode cX2_copy 7 = .ok (.iload_n 2, 1) := by decide +kernel
theorem dX2_copy_8 : decode cX2_copy 8 = .ok (.aload_n 1, 1) := by decide +kernel
theorem dX2_copy_9 : decode cX2_copy 9 = .ok (.invokevirtual 26, 3) := by decide +kernel
theorem dX2_copy_12 : decode cX2_copy 12 = .ok (.if_icmp .ge 18, 3) := by decide +kernel
theorem dX2_copy_15 : decode cX2_copy 15 = .ok (.aload_n 0, 1) := by decide +kernel
theorem dX2_copy_16 : decode cX2_copy 16 = .ok (.aload_n 1, 1) := by decide +kernel
theorem dX2_copy_17 : decode cX2_copy 17 = .ok (.iload_n 2, 1) := by decide +kernel
theorem dX2_copy_18 : decode cX2_copy 18 = .ok (.invokevirtual 23, 3) := by decide +kernel
theorem dX2_copy_21 : decode cX2_copy 21 = .ok (.invokevirtual 29, 3) := by decide +kernel
theorem dX2_copy_24 : decode cX2_copy 24 = .ok (.iinc 2 1, 3) := by decide +kernel
theorem dX2_copy_27 : decode cX2_copy 27 = .ok (.goto (-20), 3) := by decide +kernel
theorem dX2_copy_30 : decode cX2_copy 30 = .ok (.return_, 1) := by decide +kernel
theorem dX2_append_0 : decode cX2_append 0 = .ok (.aload_n 0, 1) := by decide +kernel
theorem dX2_append_1 : decode cX2_append 1 = .ok (.getfield 15, 3) := by decide +kernel
theorem dX2_append_4 : decode cX2_append 4 = .ok (.aload_n 0, 1) := by decide +kernel
theorem dX2_append_5 : decode cX2_append 5 = .ok (.getfield 9, 3) := by decide +kernel
theorem dX2_append_8 : decode cX2_append 8 = .ok (.arraylength, 1) := by decide +kernel
theorem dX2_append_9 : decode cX2_append 9 = .ok (.if_icmp .ge 23, 3) := by decide +kernel
theorem dX2_append_12 : decode cX2_append 12 = .ok (.aload_n 0, 1) := by decide +kernel
theorem dX2_append_13 : decode cX2_append 13 = .ok (.getfield 9, 3) := by decide +kernel
theorem dX2_append_16 : decode cX2_append 16 = .ok (.aload_n 0, 1) := by decide +kernel
theorem dX2_append_17 : decode cX2_append 17 = .ok (.getfield 15, 3) := by decide +kernel
theorem dX2_append_20 : decode cX2_append 20 = .ok (.iload_n 1, 1) := by decide +kernel
theorem dX2_append_21 : decode cX2_append 21 = .ok (.iastore, 1) := by decide +kernel
theorem dX2_append_22 : decode cX2_append 22 = .ok (.aload_n 0, 1) := by decide +kernel
theorem dX2_append_23 : decode cX2_append 23 = .ok (.dup, 1) := by decide +kernel
theorem dX2_append_24 : decode cX2_append 24 = .ok (.getfield 15, 3) := by decide +kernel
theorem dX2_append_27 : decode cX2_append 27 = .ok (.iconst 1, 1) := by decide +kernel
theorem dX2_append_28 : decode cX2_append 28 = .ok (.iadd, 1) := by decide +kernel
theorem dX2_append_29 : decode cX2_append 29 = .ok (.putfield 15, 3) := by decide +kernel
theorem dX2_append_32 : decode cX2_append 32 = .ok (.return_, 1) := by decide +kernel
set_option maxRecDepth 20000 in
theorem ggX2_add_X2_has : GoodIn wsX2_add wsX2_has := goodIn_r _ [7, 1, 2, 8, 9, 10, 6, 11, 12, 13] (by decide +kernel) (by decide +kernel)
set_option maxRecDepth 20000 in
theorem gX2_add_X2_has : GoodIn wsX2_add (wsV RX2 33 RX2 yX2_has wsX2_has) := goodIn_app (goodIn_of _ (by decide +kernel)) ggX2_add_X2_has
set_option maxRecDepth 20000 in
theorem ggX2_add_X2_below : GoodIn wsX2_add wsX2_below := goodIn_r _ [11, 1, 2, 12, 13] (by decide +kernel) (by decide +kernel)
set_option maxRecDepth 20000 in
theorem gX2_add_X2_below : GoodIn wsX2_add (wsV RX2 19 RX2 yX2_below wsX2_below) := goodIn_app (goodIn_of _ (by decide +kernel)) ggX2_add_X2_below
theorem dX2_add_0 : decode cX2_add 0 = .ok (.aload_n 0, 1) := by decide +kernel
theorem dX2_add_1 : decode cX2_add 1 = .ok (.getfield 15, 3) := by decide +kernel
theorem dX2_add_4 : decode cX2_add 4 = .ok (.aload_n 0, 1) := by decide +kernel
theorem dX2_add_5 : decode cX2_add 5 = .ok (.getfield 9, 3) := by decide +kernel
theorem dX2_add_8 : decode cX2_add 8 = .ok (.arraylength, 1) := by decide +kernel
theorem dX2_add_9 : decode cX2_add 9 = .ok (.if_icmp .ge 11, 3) := by decide +kernel
theorem dX2_add_12 : decode cX2_add 12 = .ok (.aload_n 0, 1) := by decide +kernel
theorem dX2_add_13 : decode cX2_add 13 = .ok (.iload_n 1, 1) := by decide +kernel
theorem dX2_add_14 : decode cX2_add 14 = .ok (.invokevirtual 33, 3) := by decide +kernel
theorem dX2_add_17 : decode cX2_add 17 = .ok (.ifCond .eq 4, 3) := by decide +kernel
theorem dX2_add_20 : decode cX2_add 20 = .ok (.return_, 1) := by decide +kernel
theorem dX2_add_21 : decode cX2_add 21 = .ok (.aload_n 0, 1) := by decide +kernel
theorem dX2_add_22 : decode cX2_add 22 = .ok (.iload_n 1, 1) := by decide +kernel
theorem dX2_add_23 : decode cX2_add 23 = .ok (.invokevirtual 19, 3) := by decide +kernel
theorem dX2_add_26 : decode cX2_add 26 = .ok (.istore_n 2, 1) := by decide +kernel
theorem dX2_add_27 : decode cX2_add 27 = .ok (.aload_n 0, 1) := by decide +kernel
theorem dX2_add_28 : decode cX2_add 28 = .ok (.getfield 15, 3) := by decide +kernel
theorem dX2_add_31 : decode cX2_add 31 = .ok (.istore_n 3, 1) := by decide +kernel
theorem dX2_add_32 : decode cX2_add 32 = .ok (.iload_n 3, 1) := by decide +kernel
theorem dX2_add_33 : decode cX2_add 33 = .ok (.iload_n 2, 1) := by decide +kernel
theorem dX2_add_34 : decode cX2_add 34 = .ok (.if_icmp .le 23, 3) := by decide +kernel
theorem dX2_add_37 : decode cX2_add 37 = .ok (.aload_n 0, 1) := by decide +kernel
theorem dX2_add_38 : decode cX2_add 38 = .ok (.getfield 9, 3) := by decide +kernel
theorem dX2_add_41 : decode cX2_add 41 = .ok (.iload_n 3, 1) := by decide +kernel
theorem dX2_add_42 : decode cX2_add 42 = .ok (.aload_n 0, 1) := by decide +kernel
theorem dX2_add_43 : decode cX2_add 43 = .ok (.getfield 9, 3) := by decide +kernel
theorem dX2_add_46 : decode cX2_add 46 = .ok (.iload_n 3, 1) := by decide +kernel
theorem dX2_add_47 : decode cX2_add 47 = .ok (.iconst 1, 1) := by decide +kernel
theorem dX2_add_48 : decode cX2_add 48 = .ok (.isub, 1) := by decide +kernel
theorem dX2_add_49 : decode cX2_add 49 = .ok (.iaload, 1) := by decide +kernel
theorem dX2_add_50 : decode cX2_add 50 = .ok (.iastore, 1) := by decide +kernel
theorem dX2_add_51 : decode cX2_add 51 = .ok (.iinc 3 (-1), 3) := by decide +kernel
theorem dX2_add_54 : decode cX2_add 54 = .ok (.goto (-22), 3) := by decide +kernel
theorem dX2_add_57 : decode cX2_add 57 = .ok (.aload_n 0, 1) := by decide +kernel
theorem dX2_add_58 : decode cX2_add 58 = .ok (.getfield 9, 3) := by decide +kernel
theorem dX2_add_61 : decode cX2_add 61 = .ok (.iload_n 2, 1) := by decide +kernel
theorem dX2_add_62 : decode cX2_add 62 = .ok (.iload_n 1, 1) := by decide +kernel
theorem dX2_add_63 : decode cX2_add 63 = .ok (.iastore, 1) := by decide +kernel
theorem dX2_add_64 : decode cX2_add 64 = .ok (.aload_n 0, 1) := by decide +kernel
theorem dX2_add_65 : decode cX2_add 65 = .ok (.dup, 1) := by decide +kernel
theorem dX2_add_66 : decode cX2_add 66 = .ok (.getfield 15, 3) := by decide +kernel
theorem dX2_add_69 : decode cX2_add 69 = .ok (.iconst 1, 1) := by decide +kernel
theorem dX2_add_70 : decode cX2_add 70 = .ok (.iadd, 1) := by decide +kernel
theorem dX2_add_71 : decode cX2_add 71 = .ok (.putfield 15, 3) := by decide +kernel
theorem dX2_add_74 : decode cX2_add 74 = .ok (.return_, 1) := by decide +kernel
set_option maxRecDepth 20000 in
theorem ggX2_drop_X2_has : GoodIn wsX2_drop wsX2_has := goodIn_r _ [7, 1, 2, 8, 9, 10, 6, 11, 12, 13] (by decide +kernel) (by decide +kernel)
set_option maxRecDepth 20000 in
theorem gX2_drop_X2_has : GoodIn wsX2_drop (wsV RX2 33 RX2 yX2_has wsX2_has) := goodIn_app (goodIn_of _ (by decide +kernel)) ggX2_drop_X2_has
set_option maxRecDepth 20000 in
theorem ggX2_drop_X2_below : GoodIn wsX2_drop wsX2_below := goodIn_r _ [11, 1, 2, 12, 13] (by decide +kernel) (by decide +kernel)
set_option maxRecDepth 20000 in
theorem gX2_drop_X2_below : GoodIn wsX2_drop (wsV RX2 19 RX2 yX2_below wsX2_below) := goodIn_app (goodIn_of _ (by decide +kernel)) ggX2_drop_X2_below
theorem dX2_drop_0 : decode cX2_drop 0 = .ok (.aload_n 0, 1) := by decide +kernel
theorem dX2_drop_1 : decode cX2_drop 1 = .ok (.iload_n 1, 1) := by decide +kernel
theorem dX2_drop_2 : decode cX2_drop 2 = .ok (.invokevirtual 33, 3) := by decide +kernel
theorem dX2_drop_5 : decode cX2_drop 5 = .ok (.ifCond .ne 4, 3) := by decide +kernel
theorem dX2_drop_8 : decode cX2_drop 8 = .ok (.return_, 1) := by decide +kernel
theorem dX2_drop_9 : decode cX2_drop 9 = .ok (.aload_n 0, 1) := by decide +kernel
theorem dX2_drop_10 : decode cX2_drop 10 = .ok (.iload_n 1, 1) := by decide +kernel
theorem dX2_drop_11 : decode cX2_drop 11 = .ok (.invokevirtual 19, 3) := by decide +kernel
theorem dX2_drop_14 : decode cX2_drop 14 = .ok (.iconst 1, 1) := by decide +kernel
theorem dX2_drop_15 : decode cX2_drop 15 = .ok (.iadd, 1) := by decide +kernel
theorem dX2_drop_16 : decode cX2_drop 16 = .ok (.istore_n 2, 1) := by decide +kernel
theorem dX2_drop_17 : decode cX2_drop 17 = .ok (.iload_n 2, 1) := by decide +kernel
theorem dX2_drop_18 : decode cX2_drop 18 = .ok (.aload_n 0, 1) := by decide +kernel
theorem dX2_drop_19 : decode cX2_drop 19 = .ok (.getfield 15, 3) := by decide +kernel
theorem dX2_drop_22 : decode cX2_drop 22 = .ok (.if_icmp .ge 23, 3) := by decide +kernel
theorem dX2_drop_25 : decode cX2_drop 25 = .ok (.aload_n 0, 1) := by decide +kernel
theorem dX2_drop_26 : decode cX2_drop 26 = .ok (.getfield 9, 3) := by decide +kernel
theorem dX2_drop_29 : decode cX2_drop 29 = .ok (.iload_n 2, 1) := by decide +kernel
theorem dX2_drop_30 : decode cX2_drop 30 = .ok (.iconst 1, 1) := by decide +kernel
theorem dX2_drop_31 : decode cX2_drop 31 = .ok (.isub, 1) := by decide +kernel
theorem dX2_drop_32 : decode cX2_drop 32 = .ok (.aload_n 0, 1) := by decide +kernel
theorem dX2_drop_33 : decode cX2_drop 33 = .ok (.getfield 9, 3) := by decide +kernel
theorem dX2_drop_36 : decode cX2_drop 36 = .ok (.iload_n 2, 1) := by decide +kernel
theorem dX2_drop_37 : decode cX2_drop 37 = .ok (.iaload, 1) := by decide +kernel
theorem dX2_drop_38 : decode cX2_drop 38 = .ok (.iastore, 1) := by decide +kernel
theorem dX2_drop_39 : decode cX2_drop 39 = .ok (.iinc 2 1, 3) := by decide +kernel
theorem dX2_drop_42 : decode cX2_drop 42 = .ok (.goto (-25), 3) := by decide +kernel
theorem dX2_drop_45 : decode cX2_drop 45 = .ok (.aload_n 0, 1) := by decide +kernel
theorem dX2_drop_46 : decode cX2_drop 46 = .ok (.dup, 1) := by decide +kernel
theorem dX2_drop_47 : decode cX2_drop 47 = .ok (.getfield 15, 3) := by decide +kernel
theorem dX2_drop_50 : decode cX2_drop 50 = .ok (.iconst 1, 1) := by decide +kernel
theorem dX2_drop_51 : decode cX2_drop 51 = .ok (.isub, 1) := by decide +kernel
theorem dX2_drop_52 : decode cX2_drop 52 = .ok (.putfield 15, 3) := by decide +kernel
theorem dX2_drop_55 : decode cX2_drop 55 = .ok (.return_, 1) := by decide +kernel
theorem dX3_init_0 : decode cX3_init 0 = .ok (.aload_n 0, 1) := by decide +kernel
theorem dX3_init_1 : decode cX3_init 1 = .ok (.invokespecial 3, 3) := by decide +kernel
theorem dX3_init_4 : decode cX3_init 4 = .ok (.return_, 1) := by decide +kernel
theorem dX3_met_0 : decode cX3_met 0 = .ok (.aload_n 0, 1) := by decide +kernel
theorem dX3_met_1 : decode cX3_met 1 = .ok (.getfield 9, 3) := by decide +kernel
theorem dX3_met_4 : decode cX3_met 4 = .ok (.ireturn, 1) := by decide +kernel
theorem dX3_ranksSeen_0 : decode cX3_ranksSeen 0 = .ok (.aload_n 0, 1) := by decide +kernel
theorem dX3_ranksSeen_1 : decode cX3_ranksSeen 1 = .ok (.getfield 15, 3) := by decide +kernel
theorem dX3_ranksSeen_4 : decode cX3_ranksSeen 4 = .ok (.ireturn, 1) := by decide +kernel
set_option maxRecDepth 20000 in
theorem ggX3_run_X4_height : GoodIn wsX3_run wsX4_height := goodIn_r _ [7, 8, 64, 65, 66, 67, 68, 69, 70, 71, 72] (by decide +kernel) (by decide +kernel)
set_option maxRecDepth 20000 in
theorem gX3_run_X4_height : GoodIn wsX3_run (wsV RX3 18 RX4 yX4_height wsX4_height) := goodIn_app (goodIn_of _ (by decide +kernel)) ggX3_run_X4_height
set_option maxRecDepth 20000 in
theorem ggX3_run_X4_pieceFor : GoodIn wsX3_run wsX4_pieceFor := goodIn_r _ [12, 13, 14, 15, 16, 6, 17, 8, 18, 19, 20, 21, 22, 23, 64, 65, 66, 67, 68, 69, 70, 71, 72] (by decide +kernel) (by decide +kernel)
set_option maxRecDepth 20000 in
theorem gX3_run_X4_pieceFor : GoodIn wsX3_run (wsV RX3 24 RX4 yX4_pieceFor wsX4_pieceFor) := goodIn_app (goodIn_of _ (by decide +kernel)) ggX3_run_X4_pieceFor
set_option maxRecDepth 20000 in
theorem ggX3_run_X4_rankBy : GoodIn wsX3_run wsX4_rankBy := goodIn_r _ [27, 28, 29, 13, 30, 31, 32, 33, 34, 35, 36, 37, 38, 19, 20, 21, 6, 22, 23, 39, 40, 41, 42, 64, 65, 66, 67, 68, 69, 70, 71, 72] (by decide +kernel) (by decide +kernel)
set_option maxRecDepth 20000 in
theorem gX3_run_X4_rankBy : GoodIn wsX3_run (wsV RX3 28 RX4 yX4_rankBy wsX4_rankBy) := goodIn_app (goodIn_of _ (by decide +kernel)) ggX3_run_X4_rankBy
set_option maxRecDepth 20000 in
theorem ggX3_run_X3_away : GoodIn wsX3_run wsX3_away := goodIn_r _ [46] (by decide +kernel) (by decide +kernel)
set_option maxRecDepth 20000 in
theorem gX3_run_X3_away : GoodIn wsX3_run (va_wsS RX3 32 yX3_away wsX3_away) := goodIn_app (goodIn_of _ (by decide +kernel)) ggX3_run_X3_away
set_option maxRecDepth 20000 in
theorem ggX3_run_X4_fromOf : GoodIn wsX3_run wsX4_fromOf := goodIn_r _ [50, 30, 19, 20, 21, 6, 22, 23, 64, 65, 66, 67, 68, 69, 70, 71, 72] (by decide +kernel) (by decide +kernel)
set_option maxRecDepth 20000 in
theorem gX3_run_X4_fromOf : GoodIn wsX3_run (wsV RX3 35 RX4 yX4_fromOf wsX4_fromOf) := goodIn_app (goodIn_of _ (by decide +kernel)) ggX3_run_X4_fromOf
set_option maxRecDepth 20000 in
theorem ggX3_run_X4_lastOf : GoodIn wsX3_run wsX4_lastOf := goodIn_r _ [54, 31, 19, 20, 21, 6, 22, 23, 64, 65, 66, 67, 68, 69, 70, 71, 72] (by decide +kernel) (by decide +kernel)
set_option maxRecDepth 20000 in
theorem gX3_run_X4_lastOf : GoodIn wsX3_run (wsV RX3 38 RX4 yX4_lastOf wsX4_lastOf) := goodIn_app (goodIn_of _ (by decide +kernel)) ggX3_run_X4_lastOf
set_option maxRecDepth 20000 in
theorem ggX3_run_X2_key : GoodIn wsX3_run wsX2_key := goodIn_r _ [59, 60, 61, 73, 74] (by decide +kernel) (by decide +kernel)
set_option maxRecDepth 20000 in
theorem gX3_run_X2_key : GoodIn wsX3_run (wsV RX3 41 RX2 yX2_key wsX2_key) := goodIn_app (goodIn_of _ (by decide +kernel)) ggX3_run_X2_key
theorem dX3_run_0 : decode cX3_run 0 = .ok (.aload_n 0, 1) := by decide +kernel
theorem dX3_run_1 : decode cX3_run 1 = .ok (.iconst (-1), 1) := by decide +kernel
theorem dX3_run_2 : decode cX3_run 2 = .ok (.putfield 9, 3) := by decide +kernel
theorem dX3_run_5 : decode cX3_run 5 = .ok (.aload_n 0, 1) := by decide +kernel
theorem dX3_run_6 : decode cX3_run 6 = .ok (.iconst 0, 1) := by decide +kernel
theorem dX3_run_7 : decode cX3_run 7 = .ok (.putfield 15, 3) := by decide +kernel
theorem dX3_run_10 : decode cX3_run 10 = .ok (.aload_n 2, 1) := by decide +kernel
theorem dX3_run_11 : decode cX3_run 11 = .ok (.invokevirtual 18, 3) := by decide +kernel
theorem dX3_run_14 : decode cX3_run 14 = .ok (.ifCond .ne 4, 3) := by decide +kernel
theorem dX3_run_17 : decode cX3_run 17 = .ok (.return_, 1) := by decide +kernel
theorem dX3_run_18 : decode cX3_run 18 = .ok (.aload_n 2, 1) := by decide +kernel
theorem dX3_run_19 : decode cX3_run 19 = .ok (.iload_n 3, 1) := by decide +kernel
theorem dX3_run_20 : decode cX3_run 20 = .ok (.invokevirtual 24, 3) := by decide +kernel
theorem dX3_run_23 : decode cX3_run 23 = .ok (.istore 5, 2) := by decide +kernel
theorem dX3_run_25 : decode cX3_run 25 = .ok (.aload_n 2, 1) := by decide +kernel
theorem dX3_run_26 : decode cX3_run 26 = .ok (.iload 5, 2) := by decide +kernel
theorem dX3_run_28 : decode cX3_run 28 = .ok (.iload_n 3, 1) := by decide +kernel
theorem dX3_run_29 : decode cX3_run 29 = .ok (.invokevirtual 28, 3) := by decide +kernel
theorem dX3_run_32 : decode cX3_run 32 = .ok (.istore 6, 2) := by decide +kernel
theorem dX3_run_34 : decode cX3_run 34 = .ok (.iconst 0, 1) := by decide +kernel
theorem dX3_run_35 : decode cX3_run 35 = .ok (.istore 7, 2) := by decide +kernel
theorem dX3_run_37 : decode cX3_run 37 = .ok (.iload 7, 2) := by decide +kernel
theorem dX3_run_39 : decode cX3_run 39 = .ok (.iconst 2, 1) := by decide +kernel
theorem dX3_run_40 : decode cX3_run 40 = .ok (.iload 4, 2) := by decide +kernel
theorem dX3_run_42 : decode cX3_run 42 = .ok (.imul, 1) := by decide +kernel
theorem dX3_run_43 : decode cX3_run 43 = .ok (.if_icmp .gt 79, 3) := by decide +kernel
theorem dX3_run_46 : decode cX3_run 46 = .ok (.aload_n 0, 1) := by decide +kernel
theorem dX3_run_47 : decode cX3_run 47 = .ok (.getfield 9, 3) := by decide +kernel
theorem dX3_run_50 : decode cX3_run 50 = .ok (.iconst (-1), 1) := by decide +kernel
theorem dX3_run_51 : decode cX3_run 51 = .ok (.if_icmp .ne 71, 3) := by decide +kernel
theorem dX3_run_54 : decode cX3_run 54 = .ok (.iload 6, 2) := by decide +kernel
theorem dX3_run_56 : decode cX3_run 56 = .ok (.iload 7, 2) := by decide +kernel
theorem dX3_run_58 : decode cX3_run 58 = .ok (.invokestatic 32, 3) := by decide +kernel
theorem dX3_run_61 : decode cX3_run 61 = .ok (.iadd, 1) := by decide +kernel
theorem dX3_run_62 : decode cX3_run 62 = .ok (.istore 8, 2) := by decide +kernel
theorem dX3_run_64 : decode cX3_run 64 = .ok (.iload 8, 2) := by decide +kernel
theorem dX3_run_66 : decode cX3_run 66 = .ok (.aload_n 2, 1) := by decide +kernel
theorem dX3_run_67 : decode cX3_run 67 = .ok (.iload 5, 2) := by decide +kernel
theorem dX3_run_69 : decode cX3_run 69 = .ok (.invokevirtual 35, 3) := by decide +kernel
theorem dX3_run_72 : decode cX3_run 72 = .ok (.if_icmp .lt 44, 3) := by decide +kernel
theorem dX3_run_75 : decode cX3_run 75 = .ok (.iload 8, 2) := by decide +kernel
theorem dX3_run_77 : decode cX3_run 77 = .ok (.aload_n 2, 1) := by decide +kernel
theorem dX3_run_78 : decode cX3_run 78 = .ok (.iload 5, 2) := by decide +kernel
theorem dX3_run_80 : decode cX3_run 80 = .ok (.invokevirtual 38, 3) := by decide +kernel
theorem dX3_run_83 : decode cX3_run 83 = .ok (.if_icmp .gt 33, 3) := by decide +kernel
theorem dX3_run_86 : decode cX3_run 86 = .ok (.aload_n 0, 1) := by decide +kernel
theorem dX3_run_87 : decode cX3_run 87 = .ok (.dup, 1) := by decide +kernel
theorem dX3_run_88 : decode cX3_run 88 = .ok (.getfield 15, 3) := by decide +kernel
theorem dX3_run_91 : decode cX3_run 91 = .ok (.iconst 1, 1) := by decide +kernel
theorem dX3_run_92 : decode cX3_run 92 = .ok (.iadd, 1) := by decide +kernel
theorem dX3_run_93 : decode cX3_run 93 = .ok (.putfield 15, 3) := by decide +kernel
theorem dX3_run_96 : decode cX3_run 96 = .ok (.aload_n 0, 1) := by decide +kernel
theorem dX3_run_97 : decode cX3_run 97 = .ok (.aload_n 1, 1) := by decide +kernel
theorem dX3_run_98 : decode cX3_run 98 = .ok (.iload 8, 2) := by decide +kernel
theorem dX3_run_100 : decode cX3_run 100 = .ok (.invokevirtual 41, 3) := by decide +kernel
theorem dX3_run_103 : decode cX3_run 103 = .ok (.iload_n 3, 1) := by decide +kernel
theorem dX3_run_104 : decode cX3_run 104 = .ok (.if_icmp .ne 8, 3) := by decide +kernel
theorem dX3_run_107 : decode cX3_run 107 = .ok (.iload 8, 2) := by decide +kernel
theorem dX3_run_109 : decode cX3_run 109 = .ok (.goto 4, 3) := by decide +kernel
theorem dX3_run_112 : decode cX3_run 112 = .ok (.iconst (-1), 1) := by decide +kernel
theorem dX3_run_113 : decode cX3_run 113 = .ok (.putfield 9, 3) := by decide +kernel
theorem dX3_run_116 : decode cX3_run 116 = .ok (.iinc 7 1, 3) := by decide +kernel
theorem dX3_run_119 : decode cX3_run 119 = .ok (.goto (-82), 3) := by decide +kernel
theorem dX3_run_122 : decode cX3_run 122 = .ok (.return_, 1) := by decide +kernel
theorem dX3_away_0 : decode cX3_away 0 = .ok (.iload_n 0, 1) := by decide +kernel
theorem dX3_away_1 : decode cX3_away 1 = .ok (.iconst 2, 1) := by decide +kernel
theorem dX3_away_2 : decode cX3_away 2 = .ok (.irem, 1) := by decide +kernel
theorem dX3_away_3 : decode cX3_away 3 = .ok (.ifCond .ne 9, 3) := by decide +kernel
theorem dX3_away_6 : decode cX3_away 6 = .ok (.iload_n 0, 1) := by decide +kernel
theorem dX3_away_7 : decode cX3_away 7 = .ok (.iconst 2, 1) := by decide +kernel
theorem dX3_away_8 : decode cX3_away 8 = .ok (.idiv, 1) := by decide +kernel
theorem dX3_away_9 : decode cX3_away 9 = .ok (.goto 9, 3) := by decide +kernel
theorem dX3_away_12 : decode cX3_away 12 = .ok (.iload_n 0, 1) := by decide +kernel
theorem dX3_away_13 : decode cX3_away 13 = .ok (.iconst 1, 1) := by decide +kernel
theorem dX3_away_14 : decode cX3_away 14 = .ok (.iadd, 1) := by decide +kernel
theorem dX3_away_15 : decode cX3_away 15 = .ok (.ineg, 1) := by decide +kernel
theorem dX3_away_16 : decode cX3_away 16 = .ok (.iconst 2, 1) := by decide +kernel
theorem dX3_away_17 : decode cX3_away 17 = .ok (.idiv, 1) := by decide +kernel
theorem dX3_away_18 : decode cX3_away 18 = .ok (.ireturn, 1) := by decide +kernel
set_option maxRecDepth 20000 in
theorem ggX4_init_X2_init : GoodIn wsX4_init wsX2_init := goodIn_r _ [17, 18, 2, 3, 8, 19, 20, 21] (by decide +kernel) (by decide +kernel)
set_option maxRecDepth 20000 in
theorem gX4_init_X2_init : GoodIn wsX4_init (wsX2_init) := ggX4_init_X2_init
end
section
theorem dX4_init_0 : decode cX4_init 0 = .ok (.aload_n 0, 1) := by decide +kernel
theorem dX4_init_1 : decode cX4_init 1 = .ok (.invokespecial 3, 3) := by decide +kernel
theorem dX4_init_4 : decode cX4_init 4 = .ok (.aload_n 0, 1) := by decide +kernel
theorem dX4_init_5 : decode cX4_init 5 = .ok (.new 9, 3) := by decide +kernel
theorem dX4_init_8 : decode cX4_init 8 = .ok (.dup, 1) := by decide +kernel
theorem dX4_init_9 : decode cX4_init 9 = .ok (.invokespecial 11, 3) := by decide +kernel
theorem dX4_init_12 : decode cX4_init 12 = .ok (.putfield 12, 3) := by decide +kernel
theorem dX4_init_15 : decode cX4_init 15 = .ok (.aload_n 0, 1) := by decide +kernel
theorem dX4_init_16 : decode cX4_init 16 = .ok (.bipush 11, 2) := by decide +kernel
theorem dX4_init_18 : decode cX4_init 18 = .ok (.newarray .int, 2) := by decide +kernel
theorem dX4_init_20 : decode cX4_init 20 = .ok (.putfield 18, 3) := by decide +kernel
theorem dX4_init_23 : decode cX4_init 23 = .ok (.aload_n 0, 1) := by decide +kernel
theorem dX4_init_24 : decode cX4_init 24 = .ok (.bipush 60, 2) := by decide +kernel
theorem dX4_init_26 : decode cX4_init 26 = .ok (.newarray .int, 2) := by decide +kernel
theorem dX4_init_28 : decode cX4_init 28 = .ok (.putfield 22, 3) := by decide +kernel
theorem dX4_init_31 : decode cX4_init 31 = .ok (.aload_n 0, 1) := by decide +kernel
theorem dX4_init_32 : decode cX4_init 32 = .ok (.bipush 60, 2) := by decide +kernel
theorem dX4_init_34 : decode cX4_init 34 = .ok (.newarray .int, 2) := by decide +kernel
theorem dX4_init_36 : decode cX4_init 36 = .ok (.putfield 25, 3) := by decide +kernel
theorem dX4_init_39 : decode cX4_init 39 = .ok (.aload_n 0, 1) := by decide +kernel
theorem dX4_init_40 : decode cX4_init 40 = .ok (.bipush 60, 2) := by decide +kernel
theorem dX4_init_42 : decode cX4_init 42 = .ok (.newarray .int, 2) := by decide +kernel
theorem dX4_init_44 : decode cX4_init 44 = .ok (.putfield 28, 3) := by decide +kernel
theorem dX4_init_47 : decode cX4_init 47 = .ok (.aload_n 0, 1) := by decide +kernel
theorem dX4_init_48 : decode cX4_init 48 = .ok (.bipush 60, 2) := by decide +kernel
theorem dX4_init_50 : decode cX4_init 50 = .ok (.newarray .int, 2) := by decide +kernel
theorem dX4_init_52 : decode cX4_init 52 = .ok (.putfield 31, 3) := by decide +kernel
theorem dX4_init_55 : decode cX4_init 55 = .ok (.aload_n 0, 1) := by decide +kernel
theorem dX4_init_56 : decode cX4_init 56 = .ok (.bipush 60, 2) := by decide +kernel
theorem dX4_init_58 : decode cX4_init 58 = .ok (.newarray .int, 2) := by decide +kernel
theorem dX4_init_60 : decode cX4_init 60 = .ok (.putfield 34, 3) := by decide +kernel
theorem dX4_init_63 : decode cX4_init 63 = .ok (.return_, 1) := by decide +kernel
theorem dX4_height_0 : decode cX4_height 0 = .ok (.aload_n 0, 1) := by decide +kernel
theorem dX4_height_1 : decode cX4_height 1 = .ok (.getfield 37, 3) := by decide +kernel
theorem dX4_height_4 : decode cX4_height 4 = .ok (.ireturn, 1) := by decide +kernel
theorem dX4_width_0 : decode cX4_width 0 = .ok (.iload_n 1, 1) := by decide +kernel
theorem dX4_width_1 : decode cX4_width 1 = .ok (.ifCond .lt 35, 3) := by decide +kernel
theorem dX4_width_4 : decode cX4_width 4 = .ok (.iload_n 1, 1) := by decide +kernel
theorem dX4_width_5 : decode cX4_width 5 = .ok (.aload_n 0, 1) := by decide +kernel
theorem dX4_width_6 : decode cX4_width 6 = .ok (.getfield 37, 3) := by decide +kernel
theorem dX4_width_9 : decode cX4_width 9 = .ok (.if_icmp .ge 27, 3) := by decide +kernel
theorem dX4_width_12 : decode cX4_width 12 = .ok (.iload_n 1, 1) := by decide +kernel
theorem dX4_width_13 : decode cX4_width 13 = .ok (.bipush 10, 2) := by decide +kernel
theorem dX4_width_15 : decode cX4_width 15 = .ok (.if_icmp .ge 21, 3) := by decide +kernel
theorem dX4_width_18 : decode cX4_width 18 = .ok (.aload_n 0, 1) := by decide +kernel
theorem dX4_width_19 : decode cX4_width 19 = .ok (.getfield 18, 3) := by decide +kernel
theorem dX4_width_22 : decode cX4_width 22 = .ok (.iload_n 1, 1) := by decide +kernel
theorem dX4_width_23 : decode cX4_width 23 = .ok (.iconst 1, 1) := by decide +kernel
theorem dX4_width_24 : decode cX4_width 24 = .ok (.iadd, 1) := by decide +kernel
theorem dX4_width_25 : decode cX4_width 25 = .ok (.iaload, 1) := by decide +kernel
theorem dX4_width_26 : decode cX4_width 26 = .ok (.aload_n 0, 1) := by decide +kernel
theorem dX4_width_27 : decode cX4_width 27 = .ok (.getfield 18, 3) := by decide +kernel
theorem dX4_width_30 : decode cX4_width 30 = .ok (.iload_n 1, 1) := by decide +kernel
theorem dX4_width_31 : decode cX4_width 31 = .ok (.iaload, 1) := by decide +kernel
theorem dX4_width_32 : decode cX4_width 32 = .ok (.isub, 1) := by decide +kernel
theorem dX4_width_33 : decode cX4_width 33 = .ok (.goto 4, 3) := by decide +kernel
theorem dX4_width_36 : decode cX4_width 36 = .ok (.iconst 0, 1) := by decide +kernel
theorem dX4_width_37 : decode cX4_width 37 = .ok (.ireturn, 1) := by decide +kernel
set_option maxRecDepth 20000 in
theorem ggX4_tell_X4_width : GoodIn wsX4_tell wsX4_width := goodIn_r _ [11, 12, 1, 18, 19, 20, 21, 22, 23, 24, 25, 26] (by decide +kernel) (by decide +kernel)
set_option maxRecDepth 20000 in
theorem gX4_tell_X4_width : GoodIn wsX4_tell (wsV RX4 41 RX4 yX4_width wsX4_width) := goodIn_app (goodIn_of _ (by decide +kernel)) ggX4_tell_X4_width
set_option maxRecDepth 20000 in
theorem ggX4_tell_X4_isPiece : GoodIn wsX4_tell wsX4_isPiece := goodIn_r _ [16, 17, 18, 19, 20, 21, 22, 23, 24, 25, 26] (by decide +kernel) (by decide +kernel)
set_option maxRecDepth 20000 in
theorem gX4_tell_X4_isPiece : GoodIn wsX4_tell (wsV RX4 45 RX4 yX4_isPiece wsX4_isPiece) := goodIn_app (goodIn_of _ (by decide +kernel)) ggX4_tell_X4_isPiece
theorem dX4_tell_0 : decode cX4_tell 0 = .ok (.iload_n 2, 1) := by decide +kernel
theorem dX4_tell_1 : decode cX4_tell 1 = .ok (.ifCond .lt 12, 3) := by decide +kernel
theorem dX4_tell_4 : decode cX4_tell 4 = .ok (.iload_n 2, 1) := by decide +kernel
theorem dX4_tell_5 : decode cX4_tell 5 = .ok (.aload_n 0, 1) := by decide +kernel
theorem dX4_tell_6 : decode cX4_tell 6 = .ok (.iload_n 1, 1) := by decide +kernel
theorem dX4_tell_7 : decode cX4_tell 7 = .ok (.invokevirtual 41, 3) := by decide +kernel
theorem dX4_tell_10 : decode cX4_tell 10 = .ok (.if_icmp .lt 6, 3) := by decide +kernel
theorem dX4_tell_13 : decode cX4_tell 13 = .ok (.bipush (-2), 2) := by decide +kernel
theorem dX4_tell_15 : decode cX4_tell 15 = .ok (.ireturn, 1) := by decide +kernel
theorem dX4_tell_16 : decode cX4_tell 16 = .ok (.aload_n 0, 1) := by decide +kernel
theorem dX4_tell_17 : decode cX4_tell 17 = .ok (.getfield 18, 3) := by decide +kernel
theorem dX4_tell_20 : decode cX4_tell 20 = .ok (.iload_n 1, 1) := by decide +kernel
theorem dX4_tell_21 : decode cX4_tell 21 = .ok (.iaload, 1) := by decide +kernel
theorem dX4_tell_22 : decode cX4_tell 22 = .ok (.iload_n 2, 1) := by decide +kernel
theorem dX4_tell_23 : decode cX4_tell 23 = .ok (.iadd, 1) := by decide +kernel
theorem dX4_tell_24 : decode cX4_tell 24 = .ok (.istore 4, 2) := by decide +kernel
theorem dX4_tell_26 : decode cX4_tell 26 = .ok (.aload_n 0, 1) := by decide +kernel
theorem dX4_tell_27 : decode cX4_tell 27 = .ok (.iload 4, 2) := by decide +kernel
theorem dX4_tell_29 : decode cX4_tell 29 = .ok (.invokevirtual 45, 3) := by decide +kernel
theorem dX4_tell_32 : decode cX4_tell 32 = .ok (.ifCond .ne 6, 3) := by decide +kernel
theorem dX4_tell_35 : decode cX4_tell 35 = .ok (.bipush (-2), 2) := by decide +kernel
theorem dX4_tell_37 : decode cX4_tell 37 = .ok (.ireturn, 1) := by decide +kernel
theorem dX4_tell_38 : decode cX4_tell 38 = .ok (.iload_n 3, 1) := by decide +kernel
theorem dX4_tell_39 : decode cX4_tell 39 = .ok (.tableswitch 73 0 4 #[33, 41, 49, 57, 65], 33) := by decide +kernel
theorem dX4_tell_72 : decode cX4_tell 72 = .ok (.aload_n 0, 1) := by decide +kernel
theorem dX4_tell_73 : decode cX4_tell 73 = .ok (.getfield 22, 3) := by decide +kernel
theorem dX4_tell_76 : decode cX4_tell 76 = .ok (.iload 4, 2) := by decide +kernel
theorem dX4_tell_78 : decode cX4_tell 78 = .ok (.iaload, 1) := by decide +kernel
theorem dX4_tell_79 : decode cX4_tell 79 = .ok (.ireturn, 1) := by decide +kernel
theorem dX4_tell_80 : decode cX4_tell 80 = .ok (.aload_n 0, 1) := by decide +kernel
theorem dX4_tell_81 : decode cX4_tell 81 = .ok (.getfield 25, 3) := by decide +kernel
theorem dX4_tell_84 : decode cX4_tell 84 = .ok (.iload 4, 2) := by decide +kernel
theorem dX4_tell_86 : decode cX4_tell 86 = .ok (.iaload, 1) := by decide +kernel
theorem dX4_tell_87 : decode cX4_tell 87 = .ok (.ireturn, 1) := by decide +kernel
theorem dX4_tell_88 : decode cX4_tell 88 = .ok (.aload_n 0, 1) := by decide +kernel
theorem dX4_tell_89 : decode cX4_tell 89 = .ok (.getfield 28, 3) := by decide +kernel
theorem dX4_tell_92 : decode cX4_tell 92 = .ok (.iload 4, 2) := by decide +kernel
theorem dX4_tell_94 : decode cX4_tell 94 = .ok (.iaload, 1) := by decide +kernel
theorem dX4_tell_95 : decode cX4_tell 95 = .ok (.ireturn, 1) := by decide +kernel
theorem dX4_tell_96 : decode cX4_tell 96 = .ok (.aload_n 0, 1) := by decide +kernel
theorem dX4_tell_97 : decode cX4_tell 97 = .ok (.getfield 31, 3) := by decide +kernel
theorem dX4_tell_100 : decode cX4_tell 100 = .ok (.iload 4, 2) := by decide +kernel
theorem dX4_tell_102 : decode cX4_tell 102 = .ok (.iaload, 1) := by decide +kernel
theorem dX4_tell_103 : decode cX4_tell 103 = .ok (.ireturn, 1) := by decide +kernel
theorem dX4_tell_104 : decode cX4_tell 104 = .ok (.aload_n 0, 1) := by decide +kernel
theorem dX4_tell_105 : decode cX4_tell 105 = .ok (.getfield 34, 3) := by decide +kernel
theorem dX4_tell_108 : decode cX4_tell 108 = .ok (.iload 4, 2) := by decide +kernel
theorem dX4_tell_110 : decode cX4_tell 110 = .ok (.iaload, 1) := by decide +kernel
theorem dX4_tell_111 : decode cX4_tell 111 = .ok (.ireturn, 1) := by decide +kernel
theorem dX4_tell_112 : decode cX4_tell 112 = .ok (.bipush (-2), 2) := by decide +kernel
theorem dX4_tell_114 : decode cX4_tell 114 = .ok (.ireturn, 1) := by decide +kernel
set_option maxRecDepth 20000 in
theorem ggX4_build_X2_copy : GoodIn wsX4_build wsX2_copy := goodIn_r _ [8, 9, 10, 11, 12, 7, 13, 14, 15, 16, 17, 18, 19, 20, 21, 22, 108, 109] (by decide +kernel) (by decide +kernel)
set_option maxRecDepth 20000 in
theorem gX4_build_X2_copy : GoodIn wsX4_build (wsV RX4 52 RX2 yX2_copy wsX2_copy) := goodIn_app (goodIn_of _ (by decide +kernel)) ggX4_build_X2_copy
set_option maxRecDepth 20000 in
theorem ggX4_build_X2_size : GoodIn wsX4_build wsX2_size := goodIn_r _ [13, 9, 108, 109] (by decide +kernel) (by decide +kernel)
set_option maxRecDepth 20000 in
theorem gX4_build_X2_size : GoodIn wsX4_build (wsV RX4 56 RX2 yX2_size wsX2_size) := goodIn_app (goodIn_of _ (by decide +kernel)) ggX4_build_X2_size
set_option maxRecDepth 20000 in
theorem ggX4_build_X0_cut : GoodIn wsX4_build wsX0_cut := goodIn_r _ [28, 29, 30, 31, 32, 33, 34, 35, 11, 12, 7, 13, 9, 36, 15, 16, 17, 18, 37, 38, 39, 27, 40, 41, 42, 43, 110, 111, 112, 113, 114, 108, 109] (by decide +kernel) (by decide +kernel)
set_option maxRecDepth 20000 in
theorem gX4_build_X0_cut : GoodIn wsX4_build (wsV RX4 59 RX0 yX0_cut wsX0_cut) := goodIn_app (goodIn_of _ (by decide +kernel)) ggX4_build_X0_cut
set_option maxRecDepth 20000 in
theorem ggX4_build_X4_raise : GoodIn wsX4_build wsX4_raise := goodIn_r _ [48, 49, 2, 3, 1, 23, 11, 12, 7, 13, 9, 50, 51, 52, 47, 53, 54, 55, 56, 57, 58, 59, 60, 61, 27, 62, 42, 63, 64, 65, 66, 67, 68, 69, 43, 70, 71, 72, 73, 74, 75, 76, 41, 77, 15, 16, 17, 18, 99, 100, 101, 102, 103, 104, 105, 106, 107, 108, 109, 110, 111, 112, 113, 114] (by decide +kernel) (by decide +kernel)
set_option maxRecDepth 20000 in
theorem gX4_build_X4_raise : GoodIn wsX4_build (wsV RX4 65 RX4 yX4_raise wsX4_raise) := goodIn_app (goodIn_of _ (by decide +kernel)) ggX4_build_X4_raise
set_option maxRecDepth 20000 in
theorem ggX4_build_X4_width : GoodIn wsX4_build wsX4_width := goodIn_r _ [81, 1, 49, 99, 100, 101, 102, 103, 104, 105, 106, 107] (by decide +kernel) (by decide +kernel)
set_option maxRecDepth 20000 in
theorem gX4_build_X4_width : GoodIn wsX4_build (wsV RX4 41 RX4 yX4_width wsX4_width) := goodIn_app (goodIn_of _ (by decide +kernel)) ggX4_build_X4_width
set_option maxRecDepth 20000 in
theorem ggX4_build_X4_layBase : GoodIn wsX4_build wsX4_layBase := goodIn_r _ [85, 3, 86, 87, 88, 7, 89, 9, 78, 79, 80, 47, 81, 1, 49, 90, 91, 92, 93, 54, 55, 56, 57, 58, 94, 95, 96, 97, 2, 98, 20, 21, 22, 18, 99, 100, 101, 102, 103, 104, 105, 106, 107, 108, 109] (by decide +kernel) (by decide +kernel)
set_option maxRecDepth 20000 in
theorem gX4_build_X4_layBase : GoodIn wsX4_build (wsV RX4 69 RX4 yX4_layBase wsX4_layBase) := goodIn_app (goodIn_of _ (by decide +kernel)) ggX4_build_X4_layBase
theorem dX4_build_0 : decode cX4_build 0 = .ok (.aload_n 0, 1) := by decide +kernel
theorem dX4_build_1 : decode cX4_build 1 = .ok (.iconst 0, 1) := by decide +kernel
theorem dX4_build_2 : decode cX4_build 2 = .ok (.putfield 37, 3) := by decide +kernel
theorem dX4_build_5 : decode cX4_build 5 = .ok (.aload_n 0, 1) := by decide +kernel
theorem dX4_build_6 : decode cX4_build 6 = .ok (.iconst 0, 1) := by decide +kernel
theorem dX4_build_7 : decode cX4_build 7 = .ok (.putfield 49, 3) := by decide +kernel
theorem dX4_build_10 : decode cX4_build 10 = .ok (.aload_n 0, 1) := by decide +kernel
theorem dX4_build_11 : decode cX4_build 11 = .ok (.getfield 12, 3) := by decide +kernel
theorem dX4_build_14 : decode cX4_build 14 = .ok (.aload_n 1, 1) := by decide +kernel
theorem dX4_build_15 : decode cX4_build 15 = .ok (.invokevirtual 52, 3) := by decide +kernel
theorem dX4_build_18 : decode cX4_build 18 = .ok (.aload_n 0, 1) := by decide +kernel
theorem dX4_build_19 : decode cX4_build 19 = .ok (.getfield 12, 3) := by decide +kernel
theorem dX4_build_22 : decode cX4_build 22 = .ok (.invokevirtual 56, 3) := by decide +kernel
theorem dX4_build_25 : decode cX4_build 25 = .ok (.ifCond .le 7, 3) := by decide +kernel
theorem dX4_build_28 : decode cX4_build 28 = .ok (.iconst 1, 1) := by decide +kernel
theorem dX4_build_29 : decode cX4_build 29 = .ok (.goto 4, 3) := by decide +kernel
theorem dX4_build_32 : decode cX4_build 32 = .ok (.iconst 0, 1) := by decide +kernel
theorem dX4_build_33 : decode cX4_build 33 = .ok (.istore 4, 2) := by decide +kernel
theorem dX4_build_35 : decode cX4_build 35 = .ok (.iconst 0, 1) := by decide +kernel
theorem dX4_build_36 : decode cX4_build 36 = .ok (.istore 5, 2) := by decide +kernel
theorem dX4_build_38 : decode cX4_build 38 = .ok (.iload 5, 2) := by decide +kernel
theorem dX4_build_40 : decode cX4_build 40 = .ok (.bipush 10, 2) := by decide +kernel
theorem dX4_build_42 : decode cX4_build 42 = .ok (.if_icmp .ge 53, 3) := by decide +kernel
theorem dX4_build_45 : decode cX4_build 45 = .ok (.iload 4, 2) := by decide +kernel
theorem dX4_build_47 : decode cX4_build 47 = .ok (.ifCond .eq 48, 3) := by decide +kernel
theorem dX4_build_50 : decode cX4_build 50 = .ok (.aload_n 2, 1) := by decide +kernel
theorem dX4_build_51 : decode cX4_build 51 = .ok (.aload_n 0, 1) := by decide +kernel
theorem dX4_build_52 : decode cX4_build 52 = .ok (.getfield 12, 3) := by decide +kernel
theorem dX4_build_55 : decode cX4_build 55 = .ok (.iload_n 3, 1) := by decide +kernel
theorem dX4_build_56 : decode cX4_build 56 = .ok (.invokevirtual 59, 3) := by decide +kernel
theorem dX4_build_59 : decode cX4_build 59 = .ok (.aload_n 0, 1) := by decide +kernel
theorem dX4_build_60 : decode cX4_build 60 = .ok (.iload 5, 2) := by decide +kernel
theorem dX4_build_62 : decode cX4_build 62 = .ok (.aload_n 2, 1) := by decide +kernel
theorem dX4_build_63 : decode cX4_build 63 = .ok (.invokevirtual 65, 3) := by decide +kernel
theorem dX4_build_66 : decode cX4_build 66 = .ok (.aload_n 0, 1) := by decide +kernel
theorem dX4_build_67 : decode cX4_build 67 = .ok (.iload 5, 2) := by decide +kernel
theorem dX4_build_69 : decode cX4_build 69 = .ok (.invokevirtual 41, 3) := by decide +kernel
theorem dX4_build_72 : decode cX4_build 72 = .ok (.iconst 1, 1) := by decide +kernel
theorem dX4_build_73 : decode cX4_build 73 = .ok (.if_icmp .le 7, 3) := by decide +kernel
theorem dX4_build_76 : decode cX4_build 76 = .ok (.iconst 1, 1) := by decide +kernel
theorem dX4_build_77 : decode cX4_build 77 = .ok (.goto 4, 3) := by decide +kernel
theorem dX4_build_80 : decode cX4_build 80 = .ok (.iconst 0, 1) := by decide +kernel
theorem dX4_build_81 : decode cX4_build 81 = .ok (.istore 4, 2) := by decide +kernel
theorem dX4_build_83 : decode cX4_build 83 = .ok (.aload_n 0, 1) := by decide +kernel
theorem dX4_build_84 : decode cX4_build 84 = .ok (.iload 5, 2) := by decide +kernel
theorem dX4_build_86 : decode cX4_build 86 = .ok (.invokevirtual 69, 3) := by decide +kernel
theorem dX4_build_89 : decode cX4_build 89 = .ok (.iinc 5 1, 3) := by decide +kernel
theorem dX4_build_92 : decode cX4_build 92 = .ok (.goto (-54), 3) := by decide +kernel
theorem dX4_build_95 : decode cX4_build 95 = .ok (.return_, 1) := by decide +kernel
set_option maxRecDepth 20000 in
theorem ggX4_pieceFor_X4_width : GoodIn wsX4_pieceFor wsX4_width := goodIn_r _ [6, 7, 8, 14, 15, 16, 17, 18, 19, 20, 21, 22] (by decide +kernel) (by decide +kernel)
set_option maxRecDepth 20000 in
theorem gX4_pieceFor_X4_width : GoodIn wsX4_pieceFor (wsV RX4 41 RX4 yX4_width wsX4_width) := goodIn_app (goodIn_of _ (by decide +kernel)) ggX4_pieceFor_X4_width
set_option maxRecDepth 20000 in
theorem ggX4_pieceFor_X4_isPiece : GoodIn wsX4_pieceFor wsX4_isPiece := goodIn_r _ [12, 13, 14, 15, 16, 17, 18, 19, 20, 21, 22] (by decide +kernel) (by decide +kernel)
set_option maxRecDepth 20000 in
theorem gX4_pieceFor_X4_isPiece : GoodIn wsX4_pieceFor (wsV RX4 45 RX4 yX4_isPiece wsX4_isPiece) := goodIn_app (goodIn_of _ (by decide +kernel)) ggX4_pieceFor_X4_isPiece
theorem dX4_pieceFor_0 : decode cX4_pieceFor 0 = .ok (.iconst 0, 1) := by decide +kernel
theorem dX4_pieceFor_1 : decode cX4_pieceFor 1 = .ok (.istore_n 2, 1) := by decide +kernel
theorem dX4_pieceFor_2 : decode cX4_pieceFor 2 = .ok (.iconst 1, 1) := by decide +kernel
theorem dX4_pieceFor_3 : decode cX4_pieceFor 3 = .ok (.istore_n 3, 1) := by decide +kernel
theorem dX4_pieceFor_4 : decode cX4_pieceFor 4 = .ok (.iload_n 3, 1) := by decide +kernel
theorem dX4_pieceFor_5 : decode cX4_pieceFor 5 = .ok (.aload_n 0, 1) := by decide +kernel
theorem dX4_pieceFor_6 : decode cX4_pieceFor 6 = .ok (.iconst 0, 1) := by decide +kernel
theorem dX4_pieceFor_7 : decode cX4_pieceFor 7 = .ok (.invokevirtual 41, 3) := by decide +kernel
theorem dX4_pieceFor_10 : decode cX4_pieceFor 10 = .ok (.if_icmp .ge 29, 3) := by decide +kernel
theorem dX4_pieceFor_13 : decode cX4_pieceFor 13 = .ok (.aload_n 0, 1) := by decide +kernel
theorem dX4_pieceFor_14 : decode cX4_pieceFor 14 = .ok (.iload_n 3, 1) := by decide +kernel
theorem dX4_pieceFor_15 : decode cX4_pieceFor 15 = .ok (.invokevirtual 45, 3) := by decide +kernel
theorem dX4_pieceFor_18 : decode cX4_pieceFor 18 = .ok (.ifCond .eq 21, 3) := by decide +kernel
theorem dX4_pieceFor_21 : decode cX4_pieceFor 21 = .ok (.aload_n 0, 1) := by decide +kernel
theorem dX4_pieceFor_22 : decode cX4_pieceFor 22 = .ok (.getfield 28, 3) := by decide +kernel
theorem dX4_pieceFor_25 : decode cX4_pieceFor 25 = .ok (.iload_n 3, 1) := by decide +kernel
theorem dX4_pieceFor_26 : decode cX4_pieceFor 26 = .ok (.iaload, 1) := by decide +kernel
theorem dX4_pieceFor_27 : decode cX4_pieceFor 27 = .ok (.iload_n 1, 1) := by decide +kernel
theorem dX4_pieceFor_28 : decode cX4_pieceFor 28 = .ok (.if_icmp .gt 11, 3) := by decide +kernel
theorem dX4_pieceFor_31 : decode cX4_pieceFor 31 = .ok (.iload_n 3, 1) := by decide +kernel
theorem dX4_pieceFor_32 : decode cX4_pieceFor 32 = .ok (.istore_n 2, 1) := by decide +kernel
theorem dX4_pieceFor_33 : decode cX4_pieceFor 33 = .ok (.iinc 3 1, 3) := by decide +kernel
theorem dX4_pieceFor_36 : decode cX4_pieceFor 36 = .ok (.goto (-32), 3) := by decide +kernel
theorem dX4_pieceFor_39 : decode cX4_pieceFor 39 = .ok (.iload_n 2, 1) := by decide +kernel
theorem dX4_pieceFor_40 : decode cX4_pieceFor 40 = .ok (.ireturn, 1) := by decide +kernel
set_option maxRecDepth 20000 in
theorem ggX4_rankBy_X4_isPiece : GoodIn wsX4_rankBy wsX4_isPiece := goodIn_r _ [17, 18, 23, 24, 25, 26, 27, 28, 29, 30, 31] (by decide +kernel) (by decide +kernel)
set_option maxRecDepth 20000 in
theorem gX4_rankBy_X4_isPiece : GoodIn wsX4_rankBy (wsV RX4 45 RX4 yX4_isPiece wsX4_isPiece) := goodIn_app (goodIn_of _ (by decide +kernel)) ggX4_rankBy_X4_isPiece
set_option maxRecDepth 20000 in
theorem ggX4_rankBy_J9_floorDiv_7cf53 : GoodIn wsX4_rankBy wsJ9_floorDiv_7cf53 := goodIn_r _ [22] (by decide +kernel) (by decide +kernel)
set_option maxRecDepth 20000 in
theorem gX4_rankBy_J9_floorDiv_7cf53 : GoodIn wsX4_rankBy (va_wsS RX4 73 yJ9_floorDiv_7cf53 wsJ9_floorDiv_7cf53) := goodIn_app (goodIn_of _ (by decide +kernel)) ggX4_rankBy_J9_floorDiv_7cf53
theorem dX4_rankBy_0 : decode cX4_rankBy 0 = .ok (.aload_n 0, 1) := by decide +kernel
theorem dX4_rankBy_1 : decode cX4_rankBy 1 = .ok (.iload_n 1, 1) := by decide +kernel
theorem dX4_rankBy_2 : decode cX4_rankBy 2 = .ok (.invokevirtual 45, 3) := by decide +kernel
theorem dX4_rankBy_5 : decode cX4_rankBy 5 = .ok (.ifCond .eq 12, 3) := by decide +kernel
theorem dX4_rankBy_8 : decode cX4_rankBy 8 = .ok (.aload_n 0, 1) := by decide +kernel
theorem dX4_rankBy_9 : decode cX4_rankBy 9 = .ok (.getfield 34, 3) := by decide +kernel
theorem dX4_rankBy_12 : decode cX4_rankBy 12 = .ok (.iload_n 1, 1) := by decide +kernel
theorem dX4_rankBy_13 : decode cX4_rankBy 13 = .ok (.iaload, 1) := by decide +kernel
theorem dX4_rankBy_14 : decode cX4_rankBy 14 = .ok (.ifCond .gt 5, 3) := by decide +kernel
theorem dX4_rankBy_17 : decode cX4_rankBy 17 = .ok (.iconst (-1), 1) := by decide +kernel
theorem dX4_rankBy_18 : decode cX4_rankBy 18 = .ok (.ireturn, 1) := by decide +kernel
theorem dX4_rankBy_19 : decode cX4_rankBy 19 = .ok (.aload_n 0, 1) := by decide +kernel
theorem dX4_rankBy_20 : decode cX4_rankBy 20 = .ok (.getfield 31, 3) := by decide +kernel
theorem dX4_rankBy_23 : decode cX4_rankBy 23 = .ok (.iload_n 1, 1) := by decide +kernel
theorem dX4_rankBy_24 : decode cX4_rankBy 24 = .ok (.iaload, 1) := by decide +kernel
theorem dX4_rankBy_25 : decode cX4_rankBy 25 = .ok (.iload_n 2, 1) := by decide +kernel
theorem dX4_rankBy_26 : decode cX4_rankBy 26 = .ok (.aload_n 0, 1) := by decide +kernel
theorem dX4_rankBy_27 : decode cX4_rankBy 27 = .ok (.getfield 28, 3) := by decide +kernel
theorem dX4_rankBy_30 : decode cX4_rankBy 30 = .ok (.iload_n 1, 1) := by decide +kernel
theorem dX4_rankBy_31 : decode cX4_rankBy 31 = .ok (.iaload, 1) := by decide +kernel
theorem dX4_rankBy_32 : decode cX4_rankBy 32 = .ok (.isub, 1) := by decide +kernel
theorem dX4_rankBy_33 : decode cX4_rankBy 33 = .ok (.imul, 1) := by decide +kernel
theorem dX4_rankBy_34 : decode cX4_rankBy 34 = .ok (.aload_n 0, 1) := by decide +kernel
theorem dX4_rankBy_35 : decode cX4_rankBy 35 = .ok (.getfield 34, 3) := by decide +kernel
theorem dX4_rankBy_38 : decode cX4_rankBy 38 = .ok (.iload_n 1, 1) := by decide +kernel
theorem dX4_rankBy_39 : decode cX4_rankBy 39 = .ok (.iaload, 1) := by decide +kernel
theorem dX4_rankBy_40 : decode cX4_rankBy 40 = .ok (.invokestatic 73, 3) := by decide +kernel
theorem dX4_rankBy_43 : decode cX4_rankBy 43 = .ok (.istore_n 3, 1) := by decide +kernel
theorem dX4_rankBy_44 : decode cX4_rankBy 44 = .ok (.aload_n 0, 1) := by decide +kernel
theorem dX4_rankBy_45 : decode cX4_rankBy 45 = .ok (.getfield 22, 3) := by decide +kernel
theorem dX4_rankBy_48 : decode cX4_rankBy 48 = .ok (.iload_n 1, 1) := by decide +kernel
theorem dX4_rankBy_49 : decode cX4_rankBy 49 = .ok (.iaload, 1) := by decide +kernel
theorem dX4_rankBy_50 : decode cX4_rankBy 50 = .ok (.aload_n 0, 1) := by decide +kernel
theorem dX4_rankBy_51 : decode cX4_rankBy 51 = .ok (.getfield 25, 3) := by decide +kernel
theorem dX4_rankBy_54 : decode cX4_rankBy 54 = .ok (.iload_n 1, 1) := by decide +kernel
theorem dX4_rankBy_55 : decode cX4_rankBy 55 = .ok (.iaload, 1) := by decide +kernel
theorem dX4_rankBy_56 : decode cX4_rankBy 56 = .ok (.aload_n 0, 1) := by decide +kernel
theorem dX4_rankBy_57 : decode cX4_rankBy 57 = .ok (.getfield 22, 3) := by decide +kernel
theorem dX4_rankBy_60 : decode cX4_rankBy 60 = .ok (.iload_n 1, 1) := by decide +kernel
theorem dX4_rankBy_61 : decode cX4_rankBy 61 = .ok (.iaload, 1) := by decide +kernel
theorem dX4_rankBy_62 : decode cX4_rankBy 62 = .ok (.iload_n 3, 1) := by decide +kernel
theorem dX4_rankBy_63 : decode cX4_rankBy 63 = .ok (.iadd, 1) := by decide +kernel
theorem dX4_rankBy_64 : decode cX4_rankBy 64 = .ok (.invokestatic 79, 3) := by decide +kernel
theorem dX4_rankBy_67 : decode cX4_rankBy 67 = .ok (.invokestatic 82, 3) := by decide +kernel
theorem dX4_rankBy_70 : decode cX4_rankBy 70 = .ok (.ireturn, 1) := by decide +kernel
set_option maxRecDepth 20000 in
theorem ggX4_fromOf_X4_isPiece : GoodIn wsX4_fromOf wsX4_isPiece := goodIn_r _ [6, 7, 8, 9, 10, 11, 12, 13, 14, 15, 16] (by decide +kernel) (by decide +kernel)
set_option maxRecDepth 20000 in
theorem gX4_fromOf_X4_isPiece : GoodIn wsX4_fromOf (wsV RX4 45 RX4 yX4_isPiece wsX4_isPiece) := goodIn_app (goodIn_of _ (by decide +kernel)) ggX4_fromOf_X4_isPiece
theorem dX4_fromOf_0 : decode cX4_fromOf 0 = .ok (.aload_n 0, 1) := by decide +kernel
theorem dX4_fromOf_1 : decode cX4_fromOf 1 = .ok (.iload_n 1, 1) := by decide +kernel
theorem dX4_fromOf_2 : decode cX4_fromOf 2 = .ok (.invokevirtual 45, 3) := by decide +kernel
theorem dX4_fromOf_5 : decode cX4_fromOf 5 = .ok (.ifCond .eq 12, 3) := by decide +kernel
theorem dX4_fromOf_8 : decode cX4_fromOf 8 = .ok (.aload_n 0, 1) := by decide +kernel
theorem dX4_fromOf_9 : decode cX4_fromOf 9 = .ok (.getfield 22, 3) := by decide +kernel
theorem dX4_fromOf_12 : decode cX4_fromOf 12 = .ok (.iload_n 1, 1) := by decide +kernel
theorem dX4_fromOf_13 : decode cX4_fromOf 13 = .ok (.iaload, 1) := by decide +kernel
theorem dX4_fromOf_14 : decode cX4_fromOf 14 = .ok (.goto 4, 3) := by decide +kernel
theorem dX4_fromOf_17 : decode cX4_fromOf 17 = .ok (.iconst 0, 1) := by decide +kernel
theorem dX4_fromOf_18 : decode cX4_fromOf 18 = .ok (.ireturn, 1) := by decide +kernel
set_option maxRecDepth 20000 in
theorem ggX4_lastOf_X4_isPiece : GoodIn wsX4_lastOf wsX4_isPiece := goodIn_r _ [6, 7, 8, 9, 10, 11, 12, 13, 14, 15, 16] (by decide +kernel) (by decide +kernel)
set_option maxRecDepth 20000 in
theorem gX4_lastOf_X4_isPiece : GoodIn wsX4_lastOf (wsV RX4 45 RX4 yX4_isPiece wsX4_isPiece) := goodIn_app (goodIn_of _ (by decide +kernel)) ggX4_lastOf_X4_isPiece
theorem dX4_lastOf_0 : decode cX4_lastOf 0 = .ok (.aload_n 0, 1) := by decide +kernel
theorem dX4_lastOf_1 : decode cX4_lastOf 1 = .ok (.iload_n 1, 1) := by decide +kernel
theorem dX4_lastOf_2 : decode cX4_lastOf 2 = .ok (.invokevirtual 45, 3) := by decide +kernel
theorem dX4_lastOf_5 : decode cX4_lastOf 5 = .ok (.ifCond .eq 12, 3) := by decide +kernel
theorem dX4_lastOf_8 : decode cX4_lastOf 8 = .ok (.aload_n 0, 1) := by decide +kernel
theorem dX4_lastOf_9 : decode cX4_lastOf 9 = .ok (.getfield 25, 3) := by decide +kernel
theorem dX4_lastOf_12 : decode cX4_lastOf 12 = .ok (.iload_n 1, 1) := by decide +kernel
theorem dX4_lastOf_13 : decode cX4_lastOf 13 = .ok (.iaload, 1) := by decide +kernel
theorem dX4_lastOf_14 : decode cX4_lastOf 14 = .ok (.goto 4, 3) := by decide +kernel
theorem dX4_lastOf_17 : decode cX4_lastOf 17 = .ok (.iconst (-1), 1) := by decide +kernel
theorem dX4_lastOf_18 : decode cX4_lastOf 18 = .ok (.ireturn, 1) := by decide +kernel
theorem dX4_isPiece_0 : decode cX4_isPiece 0 = .ok (.iload_n 1, 1) := by decide +kernel
theorem dX4_isPiece_1 : decode cX4_isPiece 1 = .ok (.ifCond .lt 21, 3) := by decide +kernel
theorem dX4_isPiece_4 : decode cX4_isPiece 4 = .ok (.iload_n 1, 1) := by decide +kernel
theorem dX4_isPiece_5 : decode cX4_isPiece 5 = .ok (.aload_n 0, 1) := by decide +kernel
theorem dX4_isPiece_6 : decode cX4_isPiece 6 = .ok (.getfield 49, 3) := by decide +kernel
theorem dX4_isPiece_9 : decode cX4_isPiece 9 = .ok (.if_icmp .ge 13, 3) := by decide +kernel
theorem dX4_isPiece_12 : decode cX4_isPiece 12 = .ok (.iload_n 1, 1) := by decide +kernel
theorem dX4_isPiece_13 : decode cX4_isPiece 13 = .ok (.bipush 60, 2) := by decide +kernel
theorem dX4_isPiece_15 : decode cX4_isPiece 15 = .ok (.if_icmp .ge 7, 3) := by decide +kernel
theorem dX4_isPiece_18 : decode cX4_isPiece 18 = .ok (.iconst 1, 1) := by decide +kernel
theorem dX4_isPiece_19 : decode cX4_isPiece 19 = .ok (.goto 4, 3) := by decide +kernel
theorem dX4_isPiece_22 : decode cX4_isPiece 22 = .ok (.iconst 0, 1) := by decide +kernel
theorem dX4_isPiece_23 : decode cX4_isPiece 23 = .ok (.ireturn, 1) := by decide +kernel
set_option maxRecDepth 20000 in
theorem ggX4_raise_X2_size : GoodIn wsX4_raise wsX2_size := goodIn_r _ [9, 10, 57, 58] (by decide +kernel) (by decide +kernel)
set_option maxRecDepth 20000 in
theorem gX4_raise_X2_size : GoodIn wsX4_raise (wsV RX4 56 RX2 yX2_size wsX2_size) := goodIn_app (goodIn_of _ (by decide +kernel)) ggX4_raise_X2_size
set_option maxRecDepth 20000 in
theorem ggX4_raise_X4_lay : GoodIn wsX4_raise wsX4_lay := goodIn_r _ [15, 2, 16, 17, 18, 3, 19, 20, 21, 22, 23, 24, 25, 26, 27, 28, 29, 30, 31, 32, 33, 34, 35, 36, 14, 37, 38, 39, 40, 41, 42, 43, 44, 45, 8, 46, 10, 47, 48, 49, 50, 51, 52, 53, 54, 55, 56, 59, 60, 61, 62, 63, 57, 58] (by decide +kernel) (by decide +kernel)
set_option maxRecDepth 20000 in
theorem gX4_raise_X4_lay : GoodIn wsX4_raise (wsV RX4 85 RX4 yX4_lay wsX4_lay) := goodIn_app (goodIn_of _ (by decide +kernel)) ggX4_raise_X4_lay
set_option maxRecDepth 20000 in
theorem ggX4_raise_X0_lastOf : GoodIn wsX4_raise wsX0_lastOf := goodIn_r _ [41, 42, 27, 28, 24, 29, 59, 60, 61, 62, 63] (by decide +kernel) (by decide +kernel)
set_option maxRecDepth 20000 in
theorem gX4_raise_X0_lastOf : GoodIn wsX4_raise (wsV RX4 88 RX0 yX0_lastOf wsX0_lastOf) := goodIn_app (goodIn_of _ (by decide +kernel)) ggX4_raise_X0_lastOf
theorem dX4_raise_0 : decode cX4_raise 0 = .ok (.iload_n 1, 1) := by decide +kernel
theorem dX4_raise_1 : decode cX4_raise 1 = .ok (.ifCond .lt 9, 3) := by decide +kernel
theorem dX4_raise_4 : decode cX4_raise 4 = .ok (.iload_n 1, 1) := by decide +kernel
theorem dX4_raise_5 : decode cX4_raise 5 = .ok (.bipush 10, 2) := by decide +kernel
theorem dX4_raise_7 : decode cX4_raise 7 = .ok (.if_icmp .lt 4, 3) := by decide +kernel
theorem dX4_raise_10 : decode cX4_raise 10 = .ok (.return_, 1) := by decide +kernel
theorem dX4_raise_11 : decode cX4_raise 11 = .ok (.aload_n 0, 1) := by decide +kernel
theorem dX4_raise_12 : decode cX4_raise 12 = .ok (.getfield 18, 3) := by decide +kernel
theorem dX4_raise_15 : decode cX4_raise 15 = .ok (.iload_n 1, 1) := by decide +kernel
theorem dX4_raise_16 : decode cX4_raise 16 = .ok (.aload_n 0, 1) := by decide +kernel
theorem dX4_raise_17 : decode cX4_raise 17 = .ok (.getfield 49, 3) := by decide +kernel
theorem dX4_raise_20 : decode cX4_raise 20 = .ok (.iastore, 1) := by decide +kernel
theorem dX4_raise_21 : decode cX4_raise 21 = .ok (.iconst 0, 1) := by decide +kernel
theorem dX4_raise_22 : decode cX4_raise 22 = .ok (.istore_n 3, 1) := by decide +kernel
theorem dX4_raise_23 : decode cX4_raise 23 = .ok (.iconst 0, 1) := by decide +kernel
theorem dX4_raise_24 : decode cX4_raise 24 = .ok (.istore 4, 2) := by decide +kernel
theorem dX4_raise_26 : decode cX4_raise 26 = .ok (.iload 4, 2) := by decide +kernel
theorem dX4_raise_28 : decode cX4_raise 28 = .ok (.bipush 60, 2) := by decide +kernel
theorem dX4_raise_30 : decode cX4_raise 30 = .ok (.if_icmp .ge 34, 3) := by decide +kernel
theorem dX4_raise_33 : decode cX4_raise 33 = .ok (.iload_n 3, 1) := by decide +kernel
theorem dX4_raise_34 : decode cX4_raise 34 = .ok (.aload_n 0, 1) := by decide +kernel
theorem dX4_raise_35 : decode cX4_raise 35 = .ok (.getfield 12, 3) := by decide +kernel
theorem dX4_raise_38 : decode cX4_raise 38 = .ok (.invokevirtual 56, 3) := by decide +kernel
theorem dX4_raise_41 : decode cX4_raise 41 = .ok (.if_icmp .ge 23, 3) := by decide +kernel
theorem dX4_raise_44 : decode cX4_raise 44 = .ok (.aload_n 0, 1) := by decide +kernel
theorem dX4_raise_45 : decode cX4_raise 45 = .ok (.iload_n 3, 1) := by decide +kernel
theorem dX4_raise_46 : decode cX4_raise 46 = .ok (.aload_n 2, 1) := by decide +kernel
theorem dX4_raise_47 : decode cX4_raise 47 = .ok (.invokevirtual 85, 3) := by decide +kernel
theorem dX4_raise_50 : decode cX4_raise 50 = .ok (.aload_n 2, 1) := by decide +kernel
theorem dX4_raise_51 : decode cX4_raise 51 = .ok (.iload_n 3, 1) := by decide +kernel
theorem dX4_raise_52 : decode cX4_raise 52 = .ok (.invokevirtual 88, 3) := by decide +kernel
theorem dX4_raise_55 : decode cX4_raise 55 = .ok (.iconst 1, 1) := by decide +kernel
theorem dX4_raise_56 : decode cX4_raise 56 = .ok (.iadd, 1) := by decide +kernel
theorem dX4_raise_57 : decode cX4_raise 57 = .ok (.istore_n 3, 1) := by decide +kernel
theorem dX4_raise_58 : decode cX4_raise 58 = .ok (.iinc 4 1, 3) := by decide +kernel
theorem dX4_raise_61 : decode cX4_raise 61 = .ok (.goto (-35), 3) := by decide +kernel
theorem dX4_raise_64 : decode cX4_raise 64 = .ok (.aload_n 0, 1) := by decide +kernel
theorem dX4_raise_65 : decode cX4_raise 65 = .ok (.getfield 18, 3) := by decide +kernel
theorem dX4_raise_68 : decode cX4_raise 68 = .ok (.iload_n 1, 1) := by decide +kernel
theorem dX4_raise_69 : decode cX4_raise 69 = .ok (.iconst 1, 1) := by decide +kernel
theorem dX4_raise_70 : decode cX4_raise 70 = .ok (.iadd, 1) := by decide +kernel
theorem dX4_raise_71 : decode cX4_raise 71 = .ok (.aload_n 0, 1) := by decide +kernel
theorem dX4_raise_72 : decode cX4_raise 72 = .ok (.getfield 49, 3) := by decide +kernel
theorem dX4_raise_75 : decode cX4_raise 75 = .ok (.iastore, 1) := by decide +kernel
theorem dX4_raise_76 : decode cX4_raise 76 = .ok (.aload_n 0, 1) := by decide +kernel
theorem dX4_raise_77 : decode cX4_raise 77 = .ok (.iload_n 1, 1) := by decide +kernel
theorem dX4_raise_78 : decode cX4_raise 78 = .ok (.iconst 1, 1) := by decide +kernel
theorem dX4_raise_79 : decode cX4_raise 79 = .ok (.iadd, 1) := by decide +kernel
theorem dX4_raise_80 : decode cX4_raise 80 = .ok (.putfield 37, 3) := by decide +kernel
theorem dX4_raise_83 : decode cX4_raise 83 = .ok (.return_, 1) := by decide +kernel
set_option maxRecDepth 20000 in
theorem ggX4_lay_X0_slopeNum : GoodIn wsX4_lay wsX0_slopeNum := goodIn_r _ [12, 13, 14, 15, 11, 16, 47, 48, 49, 50, 51] (by decide +kernel) (by decide +kernel)
set_option maxRecDepth 20000 in
theorem gX4_lay_X0_slopeNum : GoodIn wsX4_lay (wsV RX4 91 RX0 yX0_slopeNum wsX0_slopeNum) := goodIn_app (goodIn_of _ (by decide +kernel)) ggX4_lay_X0_slopeNum
set_option maxRecDepth 20000 in
theorem ggX4_lay_X0_slopeDen : GoodIn wsX4_lay wsX0_slopeDen := goodIn_r _ [20, 21, 14, 15, 11, 16, 47, 48, 49, 50, 51] (by decide +kernel) (by decide +kernel)
set_option maxRecDepth 20000 in
theorem gX4_lay_X0_slopeDen : GoodIn wsX4_lay (wsV RX4 94 RX0 yX0_slopeDen wsX0_slopeDen) := goodIn_app (goodIn_of _ (by decide +kernel)) ggX4_lay_X0_slopeDen
set_option maxRecDepth 20000 in
theorem ggX4_lay_X4_commonDivisor : GoodIn wsX4_lay wsX4_commonDivisor := goodIn_r _ [25] (by decide +kernel) (by decide +kernel)
set_option maxRecDepth 20000 in
theorem gX4_lay_X4_commonDivisor : GoodIn wsX4_lay (va_wsS RX4 97 yX4_commonDivisor wsX4_commonDivisor) := goodIn_app (goodIn_of _ (by decide +kernel)) ggX4_lay_X4_commonDivisor
set_option maxRecDepth 20000 in
theorem ggX4_lay_X0_lastOf : GoodIn wsX4_lay wsX0_lastOf := goodIn_r _ [29, 30, 14, 15, 11, 16, 47, 48, 49, 50, 51] (by decide +kernel) (by decide +kernel)
set_option maxRecDepth 20000 in
theorem gX4_lay_X0_lastOf : GoodIn wsX4_lay (wsV RX4 88 RX0 yX0_lastOf wsX0_lastOf) := goodIn_app (goodIn_of _ (by decide +kernel)) ggX4_lay_X0_lastOf
set_option maxRecDepth 20000 in
theorem ggX4_lay_X2_key : GoodIn wsX4_lay wsX2_key := goodIn_r _ [35, 36, 37, 52, 53] (by decide +kernel) (by decide +kernel)
set_option maxRecDepth 20000 in
theorem gX4_lay_X2_key : GoodIn wsX4_lay (wsV RX4 100 RX2 yX2_key wsX2_key) := goodIn_app (goodIn_of _ (by decide +kernel)) ggX4_lay_X2_key
theorem dX4_lay_0 : decode cX4_lay 0 = .ok (.aload_n 0, 1) := by decide +kernel
theorem dX4_lay_1 : decode cX4_lay 1 = .ok (.getfield 49, 3) := by decide +kernel
theorem dX4_lay_4 : decode cX4_lay 4 = .ok (.ifCond .lt 12, 3) := by decide +kernel
theorem dX4_lay_7 : decode cX4_lay 7 = .ok (.aload_n 0, 1) := by decide +kernel
theorem dX4_lay_8 : decode cX4_lay 8 = .ok (.getfield 49, 3) := by decide +kernel
theorem dX4_lay_11 : decode cX4_lay 11 = .ok (.bipush 60, 2) := by decide +kernel
theorem dX4_lay_13 : decode cX4_lay 13 = .ok (.if_icmp .lt 4, 3) := by decide +kernel
theorem dX4_lay_16 : decode cX4_lay 16 = .ok (.return_, 1) := by decide +kernel
theorem dX4_lay_17 : decode cX4_lay 17 = .ok (.aload_n 2, 1) := by decide +kernel
theorem dX4_lay_18 : decode cX4_lay 18 = .ok (.iload_n 1, 1) := by decide +kernel
theorem dX4_lay_19 : decode cX4_lay 19 = .ok (.invokevirtual 91, 3) := by decide +kernel
theorem dX4_lay_22 : decode cX4_lay 22 = .ok (.istore_n 3, 1) := by decide +kernel
theorem dX4_lay_23 : decode cX4_lay 23 = .ok (.aload_n 2, 1) := by decide +kernel
theorem dX4_lay_24 : decode cX4_lay 24 = .ok (.iload_n 1, 1) := by decide +kernel
theorem dX4_lay_25 : decode cX4_lay 25 = .ok (.invokevirtual 94, 3) := by decide +kernel
theorem dX4_lay_28 : decode cX4_lay 28 = .ok (.istore 4, 2) := by decide +kernel
theorem dX4_lay_30 : decode cX4_lay 30 = .ok (.iload_n 3, 1) := by decide +kernel
theorem dX4_lay_31 : decode cX4_lay 31 = .ok (.iload 4, 2) := by decide +kernel
theorem dX4_lay_33 : decode cX4_lay 33 = .ok (.invokestatic 97, 3) := by decide +kernel
theorem dX4_lay_36 : decode cX4_lay 36 = .ok (.istore 5, 2) := by decide +kernel
theorem dX4_lay_38 : decode cX4_lay 38 = .ok (.aload_n 0, 1) := by decide +kernel
theorem dX4_lay_39 : decode cX4_lay 39 = .ok (.getfield 22, 3) := by decide +kernel
theorem dX4_lay_42 : decode cX4_lay 42 = .ok (.aload_n 0, 1) := by decide +kernel
theorem dX4_lay_43 : decode cX4_lay 43 = .ok (.getfield 49, 3) := by decide +kernel
theorem dX4_lay_46 : decode cX4_lay 46 = .ok (.iload_n 1, 1) := by decide +kernel
theorem dX4_lay_47 : decode cX4_lay 47 = .ok (.iastore, 1) := by decide +kernel
theorem dX4_lay_48 : decode cX4_lay 48 = .ok (.aload_n 0, 1) := by decide +kernel
theorem dX4_lay_49 : decode cX4_lay 49 = .ok (.getfield 25, 3) := by decide +kernel
theorem dX4_lay_52 : decode cX4_lay 52 = .ok (.aload_n 0, 1) := by decide +kernel
theorem dX4_lay_53 : decode cX4_lay 53 = .ok (.getfield 49, 3) := by decide +kernel
theorem dX4_lay_56 : decode cX4_lay 56 = .ok (.aload_n 2, 1) := by decide +kernel
theorem dX4_lay_57 : decode cX4_lay 57 = .ok (.iload_n 1, 1) := by decide +kernel
theorem dX4_lay_58 : decode cX4_lay 58 = .ok (.invokevirtual 88, 3) := by decide +kernel
theorem dX4_lay_61 : decode cX4_lay 61 = .ok (.iastore, 1) := by decide +kernel
theorem dX4_lay_62 : decode cX4_lay 62 = .ok (.aload_n 0, 1) := by decide +kernel
theorem dX4_lay_63 : decode cX4_lay 63 = .ok (.getfield 28, 3) := by decide +kernel
theorem dX4_lay_66 : decode cX4_lay 66 = .ok (.aload_n 0, 1) := by decide +kernel
theorem dX4_lay_67 : decode cX4_lay 67 = .ok (.getfield 49, 3) := by decide +kernel
theorem dX4_lay_70 : decode cX4_lay 70 = .ok (.aload_n 0, 1) := by decide +kernel
theorem dX4_lay_71 : decode cX4_lay 71 = .ok (.getfield 12, 3) := by decide +kernel
theorem dX4_lay_74 : decode cX4_lay 74 = .ok (.iload_n 1, 1) := by decide +kernel
theorem dX4_lay_75 : decode cX4_lay 75 = .ok (.invokevirtual 100, 3) := by decide +kernel
theorem dX4_lay_78 : decode cX4_lay 78 = .ok (.iastore, 1) := by decide +kernel
theorem dX4_lay_79 : decode cX4_lay 79 = .ok (.aload_n 0, 1) := by decide +kernel
theorem dX4_lay_80 : decode cX4_lay 80 = .ok (.getfield 31, 3) := by decide +kernel
theorem dX4_lay_83 : decode cX4_lay 83 = .ok (.aload_n 0, 1) := by decide +kernel
theorem dX4_lay_84 : decode cX4_lay 84 = .ok (.getfield 49, 3) := by decide +kernel
theorem dX4_lay_87 : decode cX4_lay 87 = .ok (.iload 5, 2) := by decide +kernel
theorem dX4_lay_89 : decode cX4_lay 89 = .ok (.ifCond .le 10, 3) := by decide +kernel
theorem dX4_lay_92 : decode cX4_lay 92 = .ok (.iload_n 3, 1) := by decide +kernel
theorem dX4_lay_93 : decode cX4_lay 93 = .ok (.iload 5, 2) := by decide +kernel
theorem dX4_lay_95 : decode cX4_lay 95 = .ok (.idiv, 1) := by decide +kernel
theorem dX4_lay_96 : decode cX4_lay 96 = .ok (.goto 4, 3) := by decide +kernel
theorem dX4_lay_99 : decode cX4_lay 99 = .ok (.iload_n 3, 1) := by decide +kernel
theorem dX4_lay_100 : decode cX4_lay 100 = .ok (.iastore, 1) := by decide +kernel
theorem dX4_lay_101 : decode cX4_lay 101 = .ok (.aload_n 0, 1) := by decide +kernel
theorem dX4_lay_102 : decode cX4_lay 102 = .ok (.getfield 34, 3) := by decide +kernel
theorem dX4_lay_105 : decode cX4_lay 105 = .ok (.aload_n 0, 1) := by decide +kernel
theorem dX4_lay_106 : decode cX4_lay 106 = .ok (.getfield 49, 3) := by decide +kernel
theorem dX4_lay_109 : decode cX4_lay 109 = .ok (.iload 5, 2) := by decide +kernel
theorem dX4_lay_111 : decode cX4_lay 111 = .ok (.ifCond .le 11, 3) := by decide +kernel
theorem dX4_lay_114 : decode cX4_lay 114 = .ok (.iload 4, 2) := by decide +kernel
theorem dX4_lay_116 : decode cX4_lay 116 = .ok (.iload 5, 2) := by decide +kernel
theorem dX4_lay_118 : decode cX4_lay 118 = .ok (.idiv, 1) := by decide +kernel
theorem dX4_lay_119 : decode cX4_lay 119 = .ok (.goto 5, 3) := by decide +kernel
theorem dX4_lay_122 : decode cX4_lay 122 = .ok (.iload 4, 2) := by decide +kernel
theorem dX4_lay_124 : decode cX4_lay 124 = .ok (.iastore, 1) := by decide +kernel
theorem dX4_lay_125 : decode cX4_lay 125 = .ok (.aload_n 0, 1) := by decide +kernel
theorem dX4_lay_126 : decode cX4_lay 126 = .ok (.dup, 1) := by decide +kernel
theorem dX4_lay_127 : decode cX4_lay 127 = .ok (.getfield 49, 3) := by decide +kernel
theorem dX4_lay_130 : decode cX4_lay 130 = .ok (.iconst 1, 1) := by decide +kernel
theorem dX4_lay_131 : decode cX4_lay 131 = .ok (.iadd, 1) := by decide +kernel
theorem dX4_lay_132 : decode cX4_lay 132 = .ok (.putfield 49, 3) := by decide +kernel
theorem dX4_lay_135 : decode cX4_lay 135 = .ok (.return_, 1) := by decide +kernel
set_option maxRecDepth 20000 in
theorem ggX4_layBase_X2_clear : GoodIn wsX4_layBase wsX2_clear := goodIn_r _ [6, 7, 43, 44] (by decide +kernel) (by decide +kernel)
set_option maxRecDepth 20000 in
theorem gX4_layBase_X2_clear : GoodIn wsX4_layBase (wsV RX4 103 RX2 yX2_clear wsX2_clear) := goodIn_app (goodIn_of _ (by decide +kernel)) ggX4_layBase_X2_clear
set_option maxRecDepth 20000 in
theorem ggX4_layBase_X4_width : GoodIn wsX4_layBase wsX4_width := goodIn_r _ [12, 13, 14, 34, 35, 36, 37, 38, 39, 40, 41, 42] (by decide +kernel) (by decide +kernel)
set_option maxRecDepth 20000 in
theorem gX4_layBase_X4_width : GoodIn wsX4_layBase (wsV RX4 41 RX4 yX4_width wsX4_width) := goodIn_app (goodIn_of _ (by decide +kernel)) ggX4_layBase_X4_width
set_option maxRecDepth 20000 in
theorem ggX4_layBase_X4_tell : GoodIn wsX4_layBase wsX4_tell := goodIn_r _ [18, 14, 19, 20, 21, 22, 23, 8, 9, 10, 11, 12, 13, 24, 25, 26, 27, 28, 34, 35, 36, 37, 38, 39, 40, 41, 42] (by decide +kernel) (by decide +kernel)
set_option maxRecDepth 20000 in
theorem gX4_layBase_X4_tell : GoodIn wsX4_layBase (wsV RX4 106 RX4 yX4_tell wsX4_tell) := goodIn_app (goodIn_of _ (by decide +kernel)) ggX4_layBase_X4_tell
set_option maxRecDepth 20000 in
theorem ggX4_layBase_X2_append : GoodIn wsX4_layBase wsX2_append := goodIn_r _ [32, 7, 33, 43, 44] (by decide +kernel) (by decide +kernel)
set_option maxRecDepth 20000 in
theorem gX4_layBase_X2_append : GoodIn wsX4_layBase (wsV RX4 110 RX2 yX2_append wsX2_append) := goodIn_app (goodIn_of _ (by decide +kernel)) ggX4_layBase_X2_append
theorem dX4_layBase_0 : decode cX4_layBase 0 = .ok (.aload_n 0, 1) := by decide +kernel
theorem dX4_layBase_1 : decode cX4_layBase 1 = .ok (.getfield 12, 3) := by decide +kernel
theorem dX4_layBase_4 : decode cX4_layBase 4 = .ok (.invokevirtual 103, 3) := by decide +kernel
theorem dX4_layBase_7 : decode cX4_layBase 7 = .ok (.iconst 0, 1) := by decide +kernel
theorem dX4_layBase_8 : decode cX4_layBase 8 = .ok (.istore_n 2, 1) := by decide +kernel
theorem dX4_layBase_9 : decode cX4_layBase 9 = .ok (.iload_n 2, 1) := by decide +kernel
theorem dX4_layBase_10 : decode cX4_layBase 10 = .ok (.aload_n 0, 1) := by decide +kernel
theorem dX4_layBase_11 : decode cX4_layBase 11 = .ok (.iload_n 1, 1) := by decide +kernel
theorem dX4_layBase_12 : decode cX4_layBase 12 = .ok (.invokevirtual 41, 3) := by decide +kernel
theorem dX4_layBase_15 : decode cX4_layBase 15 = .ok (.if_icmp .ge 23, 3) := by decide +kernel
theorem dX4_layBase_18 : decode cX4_layBase 18 = .ok (.aload_n 0, 1) := by decide +kernel
theorem dX4_layBase_19 : decode cX4_layBase 19 = .ok (.getfield 12, 3) := by decide +kernel
theorem dX4_layBase_22 : decode cX4_layBase 22 = .ok (.aload_n 0, 1) := by decide +kernel
theorem dX4_layBase_23 : decode cX4_layBase 23 = .ok (.iload_n 1, 1) := by decide +kernel
theorem dX4_layBase_24 : decode cX4_layBase 24 = .ok (.iload_n 2, 1) := by decide +kernel
theorem dX4_layBase_25 : decode cX4_layBase 25 = .ok (.iconst 2, 1) := by decide +kernel
theorem dX4_layBase_26 : decode cX4_layBase 26 = .ok (.invokevirtual 106, 3) := by decide +kernel
theorem dX4_layBase_29 : decode cX4_layBase 29 = .ok (.invokevirtual 110, 3) := by decide +kernel
theorem dX4_layBase_32 : decode cX4_layBase 32 = .ok (.iinc 2 1, 3) := by decide +kernel
theorem dX4_layBase_35 : decode cX4_layBase 35 = .ok (.goto (-26), 3) := by decide +kernel
theorem dX4_layBase_38 : decode cX4_layBase 38 = .ok (.return_, 1) := by decide +kernel
theorem dX4_commonDivisor_0 : decode cX4_commonDivisor 0 = .ok (.iconst 0, 1) := by decide +kernel
theorem dX4_commonDivisor_1 : decode cX4_commonDivisor 1 = .ok (.istore_n 2, 1) := by decide +kernel
theorem dX4_commonDivisor_2 : decode cX4_commonDivisor 2 = .ok (.iload_n 2, 1) := by decide +kernel
theorem dX4_commonDivisor_3 : decode cX4_commonDivisor 3 = .ok (.bipush 64, 2) := by decide +kernel
theorem dX4_commonDivisor_5 : decode cX4_commonDivisor 5 = .ok (.if_icmp .ge 21, 3) := by decide +kernel
theorem dX4_commonDivisor_8 : decode cX4_commonDivisor 8 = .ok (.iload_n 1, 1) := by decide +kernel
theorem dX4_commonDivisor_9 : decode cX4_commonDivisor 9 = .ok (.ifCond .eq 17, 3) := by decide +kernel
theorem dX4_commonDivisor_12 : decode cX4_commonDivisor 12 = .ok (.iload_n 0, 1) := by decide +kernel
theorem dX4_commonDivisor_13 : decode cX4_commonDivisor 13 = .ok (.iload_n 1, 1) := by decide +kernel
theorem dX4_commonDivisor_14 : decode cX4_commonDivisor 14 = .ok (.irem, 1) := by decide +kernel
theorem dX4_commonDivisor_15 : decode cX4_commonDivisor 15 = .ok (.istore_n 3, 1) := by decide +kernel
theorem dX4_commonDivisor_16 : decode cX4_commonDivisor 16 = .ok (.iload_n 1, 1) := by decide +kernel
theorem dX4_commonDivisor_17 : decode cX4_commonDivisor 17 = .ok (.istore_n 0, 1) := by decide +kernel
theorem dX4_commonDivisor_18 : decode cX4_commonDivisor 18 = .ok (.iload_n 3, 1) := by decide +kernel
theorem dX4_commonDivisor_19 : decode cX4_commonDivisor 19 = .ok (.istore_n 1, 1) := by decide +kernel
theorem dX4_commonDivisor_20 : decode cX4_commonDivisor 20 = .ok (.iinc 2 1, 3) := by decide +kernel
theorem dX4_commonDivisor_23 : decode cX4_commonDivisor 23 = .ok (.goto (-21), 3) := by decide +kernel
theorem dX4_commonDivisor_26 : decode cX4_commonDivisor 26 = .ok (.iload_n 0, 1) := by decide +kernel
theorem dX4_commonDivisor_27 : decode cX4_commonDivisor 27 = .ok (.ireturn, 1) := by decide +kernel
set_option maxRecDepth 20000 in
theorem ggX5_init_X2_init : GoodIn wsX5_init wsX2_init := goodIn_r _ [29, 30, 2, 3, 31, 32, 61, 62] (by decide +kernel) (by decide +kernel)
set_option maxRecDepth 20000 in
theorem gX5_init_X2_init : GoodIn wsX5_init (wsX2_init) := ggX5_init_X2_init
set_option maxRecDepth 20000 in
theorem ggX5_init_X0_init : GoodIn wsX5_init wsX0_init := goodIn_r _ [35, 36, 2, 3, 31, 37, 38, 39, 40, 41, 74, 75, 76, 77, 78] (by decide +kernel) (by decide +kernel)
set_option maxRecDepth 20000 in
theorem gX5_init_X0_init : GoodIn wsX5_init (wsX0_init) := ggX5_init_X0_init
set_option maxRecDepth 20000 in
theorem ggX5_init_X4_init : GoodIn wsX5_init wsX4_init := goodIn_r _ [44, 45, 2, 3, 46, 5, 6, 47, 31, 48, 49, 50, 51, 52, 53, 54, 28, 29, 30, 32, 61, 62, 79, 80, 81, 82, 83, 84, 85, 86, 87] (by decide +kernel) (by decide +kernel)
set_option maxRecDepth 20000 in
theorem gX5_init_X4_init : GoodIn wsX5_init (wsX4_init) := ggX5_init_X4_init
set_option maxRecDepth 20000 in
theorem ggX5_init_X1_init : GoodIn wsX5_init wsX1_init := goodIn_r _ [56, 57, 2, 3] (by decide +kernel) (by decide +kernel)
set_option maxRecDepth 20000 in
theorem gX5_init_X1_init_n38 : GoodIn wsX5_init (wsX1_init) := ggX5_init_X1_init
set_option maxRecDepth 20000 in
theorem ggX5_init_X3_init : GoodIn wsX5_init wsX3_init := goodIn_r _ [59, 60, 2, 3] (by decide +kernel) (by decide +kernel)
set_option maxRecDepth 20000 in
theorem gX5_init_X3_init_n45 : GoodIn wsX5_init (wsX3_init) := ggX5_init_X3_init
end
section
abbrev vwCl : List vw_C := [(RX0, TX0, 5), (RX1, TX1, 1), (RX2, TX2, 2), (RX3, TX3, 2), (RX4, TX4, 9), (RX5, TX5, 11), (RX6, TX6, 25)]
/-! ===== the walker's layer: a state as data: world ws, locals lv, stack st; ints by mathematical integers ===== -/
abbrev xG : Type := va_G × ClassId × ClassId × ClassId
abbrev xE : Type := Program × Env × State × MethodId × Array Value × List Frame × Method × Code × (Nat → Prop) × (State → Prop)
def xT (g : xG) : List (ClassId × FieldType) := [(g.2.1, .int), (g.2.2.1, .long), (g.2.2.2, .boolean)]
def iI (z : Int) : Int32 := Int32.ofInt z
def lI (z : Int) : Int64 := Int64.ofInt z
def bI (b : Bool) : Int32 := if b then 1 else 0
def jv (z : Int) : Value := .int (iI z)
def Jv (z : Int) : Value := .long (lI z)
def ai (g : xG) (n : Nat) (f : Int → Int) : va_E := .inl (g.2.1, (n, .inl (fun k => iI (f (k : Int)))))
def al (g : xG) (n : Nat) (f : Int → Int) : va_E := .inl (g.2.2.1, (n, .inr (.inl (fun k => lI (f (k : Int))))))
def az (g : xG) (n : Nat) (f : Int → Bool) : va_E := .inl (g.2.2.2, (n, .inl (fun k => bI (f (k : Int)))))
def ob (ci : Nat) (fs : List Value) : va_E := .inr (ci, fs)
def up {α : Type} (f : Int → α) (k : Int) (v : α) : Int → α := fun j => if j = k then v else f j
def Rg (a : Int) : Prop := -2147483648 ≤ a ∧ a < 2147483648
def Rl (a : Int) : Prop := -9223372036854775808 ≤ a ∧ a < 9223372036854775808
theorem up_eq {α : Type} (f : Int → α) (k : Int) (v : α) : up f k v k = v := by simp [up]
theorem up_ne {α : Type} (f : Int → α) {k j : Int} (v : α) (h : j ≠ k) : up f k v j = f j := by simp [up, h]
theorem iI_toInt {a : Int} (h : Rg a) : (iI a).toInt = a := Int32.toInt_ofInt_of_le (by have := h.1; omega) (by have := h.2; omega)
theorem lI_toInt {a : Int} (h : Rl a) : (lI a).toInt = a := Int64.toInt_ofInt_of_le (by have := h.1; omega) (by have := h.2; omega)
theorem iI_lt {a b : Int} (ha : Rg a) (hb : Rg b) : iI a < iI b ↔ a < b := by rw [Int32.lt_iff_toInt_lt, iI_toInt ha, iI_toInt hb]
theorem iI_le {a b : Int} (ha : Rg a) (hb : Rg b) : iI a ≤ iI b ↔ a ≤ b := by rw [Int32.le_iff_toInt_le, iI_toInt ha, iI_toInt hb]
theorem iI_eq {a b : Int} (ha : Rg a) (hb : Rg b) : iI a = iI b ↔ a = b := by rw [← Int32.toInt_inj, iI_toInt ha, iI_toInt hb]
theorem lI_lt {a b : Int} (ha : Rl a) (hb : Rl b) : lI a < lI b ↔ a < b := by rw [Int64.lt_iff_toInt_lt, lI_toInt ha, lI_toInt hb]
theorem lI_le {a b : Int} (ha : Rl a) (hb : Rl b) : lI a ≤ lI b ↔ a ≤ b := by rw [Int64.le_iff_toInt_le, lI_toInt ha, lI_toInt hb]
theorem lI_eq {a b : Int} (ha : Rl a) (hb : Rl b) : lI a = lI b ↔ a = b := by rw [← Int64.toInt_inj, lI_toInt ha, lI_toInt hb]
theorem Rg_0 : Rg 0 := ⟨by decide, by decide⟩
theorem Rl_0 : Rl 0 := ⟨by decide, by decide⟩
theorem iI_add (a b : Int) : iI a + iI b = iI (a + b) := (Int32.ofInt_add a b).symm
theorem iI_sub (a b : Int) : iI a - iI b = iI (a - b) := (Int32.ofInt_sub a b).symm
theorem iI_mul (a b : Int) : iI a * iI b = iI (a * b) := (Int32.ofInt_mul a b).symm
theorem iI_neg (a : Int) : -iI a = iI (-a) := (Int32.ofInt_neg a).symm
theorem lI_add (a b : Int) : lI a + lI b = lI (a + b) := (Int64.ofInt_add a b).symm
theorem lI_sub (a b : Int) : lI a - lI b = lI (a - b) := (Int64.ofInt_sub a b).symm
theorem lI_mul (a b : Int) : lI a * lI b = lI (a * b) := (Int64.ofInt_mul a b).symm
theorem lI_neg (a : Int) : -lI a = lI (-a) := (Int64.ofInt_neg a).symm
theorem iI_div {a b : Int} (ha : Rg a) (hb : Rg b) : iI a / iI b = iI (a.tdiv b) := (Int32.ofInt_tdiv (by have := ha.1; exact this) (by have := ha.2; show a ≤ 2147483647; omega) (by have := hb.1; exact this) (by have := hb.2; show b ≤ 2147483647; omega)).symm
theorem lI_div {a b : Int} (ha : Rl a) (hb : Rl b) : lI a / lI b = lI (a.tdiv b) := (Int64.ofInt_tdiv (by have := ha.1; exact this) (by have := ha.2; show a ≤ 9223372036854775807; omega) (by have := hb.1; exact this) (by have := hb.2; show b ≤ 9223372036854775807; omega)).symm
theorem tdm (a b : Int) : a - a.tdiv b * b = a.tmod b := by have := Int.tmod_add_mul_tdiv a b; rw [Int.mul_comm] at this; omega
theorem iI_rem {a b : Int} (ha : Rg a) (hb : Rg b) : iI a - iI a / iI b * iI b = iI (a.tmod b) := by rw [iI_div ha hb, iI_mul, iI_sub, tdm]
theorem lI_rem {a b : Int} (ha : Rl a) (hb : Rl b) : lI a - lI a / lI b * lI b = lI (a.tmod b) := by rw [lI_div ha hb, lI_mul, lI_sub, tdm]
theorem iI_l {a : Int} (ha : Rg a) : (iI a).toInt64 = lI a := Int32.toInt64_ofInt (by have := ha.1; exact this) (by have := ha.2; show a ≤ 2147483647; omega)
theorem lI_i (a : Int) : (lI a).toInt32 = iI a := Int64.toInt32_ofInt
theorem iI_nat {a : Int} (h0 : 0 ≤ a) (h : a < 2147483648) : (iI a).toNatClampNeg = a.toNat := Int32.toNatClampNeg_ofInt_of_le (by omega) (by omega)
theorem iI_in {a : Int} {n : Nat} (h0 : 0 ≤ a) (h : a < n) (hn : n < 2147483648) : vp_in (iI a) n := by
  have hr : Rg a := ⟨by omega, by omega⟩
  rw [vp_in_iff, iI_toInt hr]
  exact ⟨h0, h⟩
def Cx (l : Launch) (g : xG) (E : xE) (R : Room) (own nm : String) (cc : ByteArray) (Ts : List Cond) (nL : Nat) : Prop := match E with
  | (p, _, s, m, args, _, meth, c, A, _) => p.tables.exec = Jvm.exec ∧ c.code = cc ∧ c.maxLocals = nL ∧ s.vm.findClass own = some m.cls ∧ (∀ w ∈ Ts, w.before args s = true) ∧ va_K g.1 vwCl (xT g) s ∧ meth.locks = false ∧ (∀ q : Nat, s.heap.size ≤ q → A q) ∧ meth.name = nm
def X (l : Launch) (g : xG) (E : xE) (R : Room) (nL : Nat) (ws : va_W) (cl sl : Nat) (lv : List (Nat × Value)) (pc : Nat) (st : List Value) : Prop := match E with
  | (p, e, s, m, args, below, meth, c, A, Q) => ∀ (H : Heap) (locs : List Loc) (ls : Array Slot), va_P g.1 vwCl ws H → va_D A ws → va_S A s.heap H locs → lv_has ls nL lv → W p l e R s m args below meth c H locs cl sl Q (F0 m pc ls st)
/-- a contract: from the world w and the arguments av the method returns v with the world u, Post v u; nothing else changes -/
def Ct (l : Launch) (g : xG) (y : MethodName) (wsy : List Cond) (rm : Room) (mc ms : Nat) (w : va_W) (av : List Value) (Post : Option Value → va_W → Prop) : Prop :=
  ∀ sz : Nat, Met l y wsy rm (va_Pc av (fun U => U.heap.size = sz ∧ va_P g.1 vwCl w U.heap ∧ va_K g.1 vwCl (xT g) U ∧ va_D (fun _ => True) w)) (fun _ st oc t => (∃ (v : Option Value) (u : va_W), oc = .returned v ∧ Post v u ∧ va_P g.1 vwCl u t.heap ∧ va_K g.1 vwCl (xT g) t ∧ va_D (va_A w sz) u) ∧ va_F (va_A w sz) st t) mc ms (va_A w sz)
def Rt (g : xG) (E : xE) (ret : Option FieldType) (mc ms : Nat) (w : va_W) (Post : Option Value → va_W → Prop) : Prop := match E with
  | (_, _, s, _, args, below, meth, _, A, Q) => A = va_A w s.heap.size ∧ meth.sig.returnType = ret ∧ Q = MQ below (fun _ st oc t => (∃ (v : Option Value) (u : va_W), oc = .returned v ∧ Post v u ∧ va_P g.1 vwCl u t.heap ∧ va_K g.1 vwCl (xT g) t ∧ va_D (va_A w s.heap.size) u) ∧ va_F (va_A w s.heap.size) st t) args s mc ms (va_A w s.heap.size)
theorem ct_of {l : Launch} {g : xG} {y : MethodName} {wsy ws' : List Cond} {rm : Room} {mc ms : Nat} {w : va_W} {av : List Value} {Post : Option Value → va_W → Prop} {cc : ByteArray} {nL : Nat} {ret : Option FieldType} (hy : plainName y.cls = true) (hw : wsy = Cond.code y cc nL ret :: ws') (hlen : (lg_sl av).length ≤ nL)
    (body : ∀ E : xE, Cx l g E rm y.cls y.name cc wsy nL → Rt g E ret mc ms w Post → X l g E rm nL w 0 0 (lv_args 0 av) 0 []) : Ct l g y wsy rm mc ms w av Post := by
  intro sz
  refine Met.ofW (cc := cc) (maxL := nL) (ret := ret) hy hw ?_
  intro p e s m args below meth c s₁ B hml hv
  obtain ⟨rfl, hsz, hP, hK, hD0⟩ := hv
  subst hsz
  have hin : meth.name = y.name := (name_of_methodNamed B.named B.method).1
  have hl := lv_entry av (n := nL) hlen
  rw [lg_entry_eq]
  exact body (p, e, s, m, av.toArray, below, meth, c, va_A w s.heap.size, _) ⟨B.exec, B.bytes, hml, findClass_of_methodNamed B.named, atoms_spec (ws := wsy) B.pre, hK, B.notSynchronized, fun q h => Or.inr h, hin⟩ ⟨rfl, B.returns, rfl⟩ s.heap [] _ hP hD0.self va_S.rf hl
section XR
variable {l : Launch} {g : xG} {E : xE} {R : Room} {own nm : String} {cc : ByteArray} {Ts : List Cond} {nL : Nat} {ws : va_W} {cl sl pc : Nat} {lv lv' : List (Nat × Value)} {rest : List Value}

theorem x_iconst (C : Cx l g E R own nm cc Ts nL) {n : Int} (hd : decode cc pc = .ok (.iconst n, 1))  (k : X l g E R nL ws cl sl lv (pc + 1) (jv n :: rest)) : X l g E R nL ws cl sl lv pc (rest) := by
  obtain ⟨p, e, s, m, args, below, meth, c, A, Q⟩ := E
  obtain ⟨hx, hb, hml, hown, hts, hK, hlck, hA, hnm⟩ := C
  intro H locs ls hP hD hS hl
  exact lv_iconst hx hb hd rfl (k H locs ls hP hD hS hl)
theorem x_bipush (C : Cx l g E R own nm cc Ts nL) {n : Int} (hd : decode cc pc = .ok (.bipush n, 2)) (hv : (Int8.ofInt n).toInt32 = iI n) (k : X l g E R nL ws cl sl lv (pc + 2) (jv n :: rest)) : X l g E R nL ws cl sl lv pc (rest) := by
  obtain ⟨p, e, s, m, args, below, meth, c, A, Q⟩ := E
  obtain ⟨hx, hb, hml, hown, hts, hK, hlck, hA, hnm⟩ := C
  intro H locs ls hP hD hS hl
  exact lv_bipush hx hb hd hv (k H locs ls hP hD hS hl)
theorem x_sipush (C : Cx l g E R own nm cc Ts nL) {n : Int} (hd : decode cc pc = .ok (.sipush n, 3)) (hv : (Int16.ofInt n).toInt32 = iI n) (k : X l g E R nL ws cl sl lv (pc + 3) (jv n :: rest)) : X l g E R nL ws cl sl lv pc (rest) := by
  obtain ⟨p, e, s, m, args, below, meth, c, A, Q⟩ := E
  obtain ⟨hx, hb, hml, hown, hts, hK, hlck, hA, hnm⟩ := C
  intro H locs ls hP hD hS hl
  exact lv_sipush hx hb hd hv (k H locs ls hP hD hS hl)
theorem x_lconst (C : Cx l g E R own nm cc Ts nL) {n : Fin 2} {z : Int} (hd : decode cc pc = .ok (.lconst n, 1)) (hv : Int64.ofNat (n : Nat) = lI z) (k : X l g E R nL ws cl sl lv (pc + 1) (Jv z :: rest)) : X l g E R nL ws cl sl lv pc (rest) := by
  obtain ⟨p, e, s, m, args, below, meth, c, A, Q⟩ := E
  obtain ⟨hx, hb, hml, hown, hts, hK, hlck, hA, hnm⟩ := C
  intro H locs ls hP hD hS hl
  exact lv_lconst hx hb hd hv (k H locs ls hP hD hS hl)
theorem x_ldc (C : Cx l g E R own nm cc Ts nL) {i : Nat} {v : Int32} {z : Int} (hd : decode cc pc = .ok (.ldc i, 2)) (hc : ∀ {args : Array Value} {s : State}, (∀ w ∈ Ts, w.before args s = true) → (Jvm.Cond.constant own i v).before args s = true) (hv : iI z = v) (k : X l g E R nL ws cl sl lv (pc + 2) (jv z :: rest)) : X l g E R nL ws cl sl lv pc (rest) := by
  obtain ⟨p, e, s, m, args, below, meth, c, A, Q⟩ := E
  obtain ⟨hx, hb, hml, hown, hts, hK, hlck, hA, hnm⟩ := C
  intro H locs ls hP hD hS hl
  subst hv
  exact lv_ldc hx hb hown (hc hts) hd (k H locs ls hP hD hS hl)
theorem x_ldc2 (C : Cx l g E R own nm cc Ts nL) {i : Nat} {v : Int64} {z : Int} (hd : decode cc pc = .ok (.ldc2_w i, 3)) (hc : ∀ {args : Array Value} {s : State}, (∀ w ∈ Ts, w.before args s = true) → (Jvm.Cond.constantLong own i v).before args s = true) (hv : lI z = v) (k : X l g E R nL ws cl sl lv (pc + 3) (Jv z :: rest)) : X l g E R nL ws cl sl lv pc (rest) := by
  obtain ⟨p, e, s, m, args, below, meth, c, A, Q⟩ := E
  obtain ⟨hx, hb, hml, hown, hts, hK, hlck, hA, hnm⟩ := C
  intro H locs ls hP hD hS hl
  subst hv
  exact lv_ldc2 hx hb hown (hc hts) hd (k H locs ls hP hD hS hl)
theorem x_iload_n (C : Cx l g E R own nm cc Ts nL) {i : Fin 4} {z : Int} (j : Nat) (hd : decode cc pc = .ok (.iload_n i, 1)) (hj : lv[j]? = some (i.val, jv z)) (k : X l g E R nL ws cl sl lv (pc + 1) (jv z :: rest)) : X l g E R nL ws cl sl lv pc (rest) := by
  obtain ⟨p, e, s, m, args, below, meth, c, A, Q⟩ := E
  obtain ⟨hx, hb, hml, hown, hts, hK, hlck, hA, hnm⟩ := C
  intro H locs ls hP hD hS hl
  exact lv_iload_n hx hb hd rfl (lv_at hl j hj) (k H locs ls hP hD hS hl)
theorem x_iload (C : Cx l g E R own nm cc Ts nL) {i : Nat} {z : Int} (j : Nat) (hd : decode cc pc = .ok (.iload i, 2)) (hj : lv[j]? = some (i, jv z)) (k : X l g E R nL ws cl sl lv (pc + 2) (jv z :: rest)) : X l g E R nL ws cl sl lv pc (rest) := by
  obtain ⟨p, e, s, m, args, below, meth, c, A, Q⟩ := E
  obtain ⟨hx, hb, hml, hown, hts, hK, hlck, hA, hnm⟩ := C
  intro H locs ls hP hD hS hl
  exact lv_iload hx hb hd (lv_at hl j hj) (k H locs ls hP hD hS hl)
theorem x_iload_nR (C : Cx l g E R own nm cc Ts nL) {i : Fin 4} {z : Int32} (j : Nat) (hd : decode cc pc = .ok (.iload_n i, 1)) (hj : lv[j]? = some (i.val, .int z)) (k : X l g E R nL ws cl sl lv (pc + 1) (.int z :: rest)) : X l g E R nL ws cl sl lv pc (rest) := by
  obtain ⟨p, e, s, m, args, below, meth, c, A, Q⟩ := E
  obtain ⟨hx, hb, hml, hown, hts, hK, hlck, hA, hnm⟩ := C
  intro H locs ls hP hD hS hl
  exact lv_iload_n hx hb hd rfl (lv_at hl j hj) (k H locs ls hP hD hS hl)
theorem x_lload_n (C : Cx l g E R own nm cc Ts nL) {i : Fin 4} {z : Int} (j : Nat) (hd : decode cc pc = .ok (.lload_n i, 1)) (hj : lv[j]? = some (i.val, Jv z)) (k : X l g E R nL ws cl sl lv (pc + 1) (Jv z :: rest)) : X l g E R nL ws cl sl lv pc (rest) := by
  obtain ⟨p, e, s, m, args, below, meth, c, A, Q⟩ := E
  obtain ⟨hx, hb, hml, hown, hts, hK, hlck, hA, hnm⟩ := C
  intro H locs ls hP hD hS hl
  exact lv_lload_n hx hb hd rfl (lv_at hl j hj) (k H locs ls hP hD hS hl)
theorem x_lload (C : Cx l g E R own nm cc Ts nL) {i : Nat} {z : Int} (j : Nat) (hd : decode cc pc = .ok (.lload i, 2)) (hj : lv[j]? = some (i, Jv z)) (k : X l g E R nL ws cl sl lv (pc + 2) (Jv z :: rest)) : X l g E R nL ws cl sl lv pc (rest) := by
  obtain ⟨p, e, s, m, args, below, meth, c, A, Q⟩ := E
  obtain ⟨hx, hb, hml, hown, hts, hK, hlck, hA, hnm⟩ := C
  intro H locs ls hP hD hS hl
  exact lv_lload hx hb hd (lv_at hl j hj) (k H locs ls hP hD hS hl)
theorem x_lload_nR (C : Cx l g E R own nm cc Ts nL) {i : Fin 4} {z : Int64} (j : Nat) (hd : decode cc pc = .ok (.lload_n i, 1)) (hj : lv[j]? = some (i.val, .long z)) (k : X l g E R nL ws cl sl lv (pc + 1) (.long z :: rest)) : X l g E R nL ws cl sl lv pc (rest) := by
  obtain ⟨p, e, s, m, args, below, meth, c, A, Q⟩ := E
  obtain ⟨hx, hb, hml, hown, hts, hK, hlck, hA, hnm⟩ := C
  intro H locs ls hP hD hS hl
  exact lv_lload_n hx hb hd rfl (lv_at hl j hj) (k H locs ls hP hD hS hl)
theorem x_lloadR (C : Cx l g E R own nm cc Ts nL) {i : Nat} {z : Int64} (j : Nat) (hd : decode cc pc = .ok (.lload i, 2)) (hj : lv[j]? = some (i, .long z)) (k : X l g E R nL ws cl sl lv (pc + 2) (.long z :: rest)) : X l g E R nL ws cl sl lv pc (rest) := by
  obtain ⟨p, e, s, m, args, below, meth, c, A, Q⟩ := E
  obtain ⟨hx, hb, hml, hown, hts, hK, hlck, hA, hnm⟩ := C
  intro H locs ls hP hD hS hl
  exact lv_lload hx hb hd (lv_at hl j hj) (k H locs ls hP hD hS hl)
theorem x_aload_n (C : Cx l g E R own nm cc Ts nL) {i : Fin 4} {a : Nat} (j : Nat) (hd : decode cc pc = .ok (.aload_n i, 1)) (hj : lv[j]? = some (i.val, .ref a)) (k : X l g E R nL ws cl sl lv (pc + 1) (.ref a :: rest)) : X l g E R nL ws cl sl lv pc (rest) := by
  obtain ⟨p, e, s, m, args, below, meth, c, A, Q⟩ := E
  obtain ⟨hx, hb, hml, hown, hts, hK, hlck, hA, hnm⟩ := C
  intro H locs ls hP hD hS hl
  exact lv_aload_n hx hb hd rfl (lv_at hl j hj) (k H locs ls hP hD hS hl)
theorem x_aload (C : Cx l g E R own nm cc Ts nL) {i : Nat} {a : Nat} (j : Nat) (hd : decode cc pc = .ok (.aload i, 2)) (hj : lv[j]? = some (i, .ref a)) (k : X l g E R nL ws cl sl lv (pc + 2) (.ref a :: rest)) : X l g E R nL ws cl sl lv pc (rest) := by
  obtain ⟨p, e, s, m, args, below, meth, c, A, Q⟩ := E
  obtain ⟨hx, hb, hml, hown, hts, hK, hlck, hA, hnm⟩ := C
  intro H locs ls hP hD hS hl
  exact lv_aload hx hb hd (lv_at hl j hj) (k H locs ls hP hD hS hl)
theorem x_istore_n (C : Cx l g E R own nm cc Ts nL) {i : Fin 4} {z : Int} (hd : decode cc pc = .ok (.istore_n i, 1)) (hn : i.val < nL) (hl2 : (i.val, jv z) :: lv.filter (fun q => !(q.1 == i.val) && !(q.1 + 1 == i.val && q.2.category == 2)) = lv') (k : X l g E R nL ws cl sl lv' (pc + 1) rest) : X l g E R nL ws cl sl lv pc (jv z :: rest) := by
  obtain ⟨p, e, s, m, args, below, meth, c, A, Q⟩ := E
  obtain ⟨hx, hb, hml, hown, hts, hK, hlck, hA, hnm⟩ := C
  intro H locs ls hP hD hS hl
  exact lv_istore_n hx hb hd rfl hl hn hl2 (fun ls' hl' => k H locs ls' hP hD hS hl')
theorem x_istore (C : Cx l g E R own nm cc Ts nL) {i : Nat} {z : Int} (hd : decode cc pc = .ok (.istore i, 2)) (hn : i < nL) (hl2 : (i, jv z) :: lv.filter (fun q => !(q.1 == i) && !(q.1 + 1 == i && q.2.category == 2)) = lv') (k : X l g E R nL ws cl sl lv' (pc + 2) rest) : X l g E R nL ws cl sl lv pc (jv z :: rest) := by
  obtain ⟨p, e, s, m, args, below, meth, c, A, Q⟩ := E
  obtain ⟨hx, hb, hml, hown, hts, hK, hlck, hA, hnm⟩ := C
  intro H locs ls hP hD hS hl
  exact lv_istore hx hb hd hl hn hl2 (fun ls' hl' => k H locs ls' hP hD hS hl')
theorem x_lstore_n (C : Cx l g E R own nm cc Ts nL) {i : Fin 4} {z : Int} (hd : decode cc pc = .ok (.lstore_n i, 1)) (hn : i.val + 1 < nL) (hl2 : (i.val, Jv z) :: lv.filter (fun q => !(q.1 == i.val) && (!(q.1 == i.val + 1) && !(q.1 + 1 == i.val && q.2.category == 2))) = lv') (k : X l g E R nL ws cl sl lv' (pc + 1) rest) : X l g E R nL ws cl sl lv pc (Jv z :: rest) := by
  obtain ⟨p, e, s, m, args, below, meth, c, A, Q⟩ := E
  obtain ⟨hx, hb, hml, hown, hts, hK, hlck, hA, hnm⟩ := C
  intro H locs ls hP hD hS hl
  exact lv_lstore_n hx hb hd rfl hl hn hl2 (fun ls' hl' => k H locs ls' hP hD hS hl')
theorem x_lstore (C : Cx l g E R own nm cc Ts nL) {i : Nat} {z : Int} (hd : decode cc pc = .ok (.lstore i, 2)) (hn : i + 1 < nL) (hl2 : (i, Jv z) :: lv.filter (fun q => !(q.1 == i) && (!(q.1 == i + 1) && !(q.1 + 1 == i && q.2.category == 2))) = lv') (k : X l g E R nL ws cl sl lv' (pc + 2) rest) : X l g E R nL ws cl sl lv pc (Jv z :: rest) := by
  obtain ⟨p, e, s, m, args, below, meth, c, A, Q⟩ := E
  obtain ⟨hx, hb, hml, hown, hts, hK, hlck, hA, hnm⟩ := C
  intro H locs ls hP hD hS hl
  exact lv_lstore hx hb hd hl hn hl2 (fun ls' hl' => k H locs ls' hP hD hS hl')
theorem x_lstore_nR (C : Cx l g E R own nm cc Ts nL) {i : Fin 4} {z : Int64} (hd : decode cc pc = .ok (.lstore_n i, 1)) (hn : i.val + 1 < nL) (hl2 : (i.val, .long z) :: lv.filter (fun q => !(q.1 == i.val) && (!(q.1 == i.val + 1) && !(q.1 + 1 == i.val && q.2.category == 2))) = lv') (k : X l g E R nL ws cl sl lv' (pc + 1) rest) : X l g E R nL ws cl sl lv pc (.long z :: rest) := by
  obtain ⟨p, e, s, m, args, below, meth, c, A, Q⟩ := E
  obtain ⟨hx, hb, hml, hown, hts, hK, hlck, hA, hnm⟩ := C
  intro H locs ls hP hD hS hl
  exact lv_lstore_n hx hb hd rfl hl hn hl2 (fun ls' hl' => k H locs ls' hP hD hS hl')
theorem x_astore_n (C : Cx l g E R own nm cc Ts nL) {i : Fin 4} {a : Nat} (hd : decode cc pc = .ok (.astore_n i, 1)) (hn : i.val < nL) (hl2 : (i.val, .ref a) :: lv.filter (fun q => !(q.1 == i.val) && !(q.1 + 1 == i.val && q.2.category == 2)) = lv') (k : X l g E R nL ws cl sl lv' (pc + 1) rest) : X l g E R nL ws cl sl lv pc (.ref a :: rest) := by
  obtain ⟨p, e, s, m, args, below, meth, c, A, Q⟩ := E
  obtain ⟨hx, hb, hml, hown, hts, hK, hlck, hA, hnm⟩ := C
  intro H locs ls hP hD hS hl
  exact lv_astore_n hx hb hd rfl hl hn hl2 (fun ls' hl' => k H locs ls' hP hD hS hl')
theorem x_iinc (C : Cx l g E R own nm cc Ts nL) {i : Nat} {n z : Int} (j : Nat) (hd : decode cc pc = .ok (.iinc i n, 3)) (hj : lv[j]? = some (i, jv z)) (hn : i < nL) (hl2 : (i, jv (z + n)) :: lv.filter (fun q => !(q.1 == i) && !(q.1 + 1 == i && q.2.category == 2)) = lv') (k : X l g E R nL ws cl sl lv' (pc + 3) rest) : X l g E R nL ws cl sl lv pc rest := by
  obtain ⟨p, e, s, m, args, below, meth, c, A, Q⟩ := E
  obtain ⟨hx, hb, hml, hown, hts, hK, hlck, hA, hnm⟩ := C
  intro H locs ls hP hD hS hl
  exact lv_iinc (v := iI (z + n)) hx hb hd hl hj (iI_add z n) hn hl2 (fun ls' hl' => k H locs ls' hP hD hS hl')
theorem x_iadd (C : Cx l g E R own nm cc Ts nL) {a b : Int} (hd : decode cc pc = .ok (.iadd, 1))  (k : X l g E R nL ws cl sl lv (pc + 1) (jv (a + b) :: rest)) : X l g E R nL ws cl sl lv pc (jv b :: jv a :: rest) := by
  obtain ⟨p, e, s, m, args, below, meth, c, A, Q⟩ := E
  obtain ⟨hx, hb, hml, hown, hts, hK, hlck, hA, hnm⟩ := C
  intro H locs ls hP hD hS hl
  have k := k H locs ls hP hD hS hl
  refine lv_iadd hx hb hd ?_
  rw [iI_add]
  exact k
theorem x_isub (C : Cx l g E R own nm cc Ts nL) {a b : Int} (hd : decode cc pc = .ok (.isub, 1))  (k : X l g E R nL ws cl sl lv (pc + 1) (jv (a - b) :: rest)) : X l g E R nL ws cl sl lv pc (jv b :: jv a :: rest) := by
  obtain ⟨p, e, s, m, args, below, meth, c, A, Q⟩ := E
  obtain ⟨hx, hb, hml, hown, hts, hK, hlck, hA, hnm⟩ := C
  intro H locs ls hP hD hS hl
  have k := k H locs ls hP hD hS hl
  refine lv_isub hx hb hd ?_
  rw [iI_sub]
  exact k
theorem x_imul (C : Cx l g E R own nm cc Ts nL) {a b : Int} (hd : decode cc pc = .ok (.imul, 1))  (k : X l g E R nL ws cl sl lv (pc + 1) (jv (a * b) :: rest)) : X l g E R nL ws cl sl lv pc (jv b :: jv a :: rest) := by
  obtain ⟨p, e, s, m, args, below, meth, c, A, Q⟩ := E
  obtain ⟨hx, hb, hml, hown, hts, hK, hlck, hA, hnm⟩ := C
  intro H locs ls hP hD hS hl
  have k := k H locs ls hP hD hS hl
  refine lv_imul hx hb hd ?_
  rw [iI_mul]
  exact k
theorem x_ladd (C : Cx l g E R own nm cc Ts nL) {a b : Int} (hd : decode cc pc = .ok (.ladd, 1))  (k : X l g E R nL ws cl sl lv (pc + 1) (Jv (a + b) :: rest)) : X l g E R nL ws cl sl lv pc (Jv b :: Jv a :: rest) := by
  obtain ⟨p, e, s, m, args, below, meth, c, A, Q⟩ := E
  obtain ⟨hx, hb, hml, hown, hts, hK, hlck, hA, hnm⟩ := C
  intro H locs ls hP hD hS hl
  have k := k H locs ls hP hD hS hl
  refine lv_ladd hx hb hd ?_
  rw [lI_add]
  exact k
theorem x_lsub (C : Cx l g E R own nm cc Ts nL) {a b : Int} (hd : decode cc pc = .ok (.lsub, 1))  (k : X l g E R nL ws cl sl lv (pc + 1) (Jv (a - b) :: rest)) : X l g E R nL ws cl sl lv pc (Jv b :: Jv a :: rest) := by
  obtain ⟨p, e, s, m, args, below, meth, c, A, Q⟩ := E
  obtain ⟨hx, hb, hml, hown, hts, hK, hlck, hA, hnm⟩ := C
  intro H locs ls hP hD hS hl
  have k := k H locs ls hP hD hS hl
  refine lv_lsub hx hb hd ?_
  rw [lI_sub]
  exact k
theorem x_lmul (C : Cx l g E R own nm cc Ts nL) {a b : Int} (hd : decode cc pc = .ok (.lmul, 1))  (k : X l g E R nL ws cl sl lv (pc + 1) (Jv (a * b) :: rest)) : X l g E R nL ws cl sl lv pc (Jv b :: Jv a :: rest) := by
  obtain ⟨p, e, s, m, args, below, meth, c, A, Q⟩ := E
  obtain ⟨hx, hb, hml, hown, hts, hK, hlck, hA, hnm⟩ := C
  intro H locs ls hP hD hS hl
  have k := k H locs ls hP hD hS hl
  refine lv_lmul hx hb hd ?_
  rw [lI_mul]
  exact k
theorem x_idiv (C : Cx l g E R own nm cc Ts nL) {a b : Int} (hd : decode cc pc = .ok (.idiv, 1)) (ha : Rg a) (hb2 : Rg b) (hne : b ≠ 0) (k : X l g E R nL ws cl sl lv (pc + 1) (jv (a.tdiv b) :: rest)) : X l g E R nL ws cl sl lv pc (jv b :: jv a :: rest) := by
  obtain ⟨p, e, s, m, args, below, meth, c, A, Q⟩ := E
  obtain ⟨hx, hb, hml, hown, hts, hK, hlck, hA, hnm⟩ := C
  intro H locs ls hP hD hS hl
  have k := k H locs ls hP hD hS hl
  refine lv_idiv hx hb hd (fun h => hne ((iI_eq hb2 Rg_0).mp h)) ?_
  rw [iI_div ha hb2]
  exact k
theorem x_irem (C : Cx l g E R own nm cc Ts nL) {a b : Int} (hd : decode cc pc = .ok (.irem, 1)) (ha : Rg a) (hb2 : Rg b) (hne : b ≠ 0) (k : X l g E R nL ws cl sl lv (pc + 1) (jv (a.tmod b) :: rest)) : X l g E R nL ws cl sl lv pc (jv b :: jv a :: rest) := by
  obtain ⟨p, e, s, m, args, below, meth, c, A, Q⟩ := E
  obtain ⟨hx, hb, hml, hown, hts, hK, hlck, hA, hnm⟩ := C
  intro H locs ls hP hD hS hl
  have k := k H locs ls hP hD hS hl
  refine lv_irem hx hb hd (fun h => hne ((iI_eq hb2 Rg_0).mp h)) ?_
  rw [iI_rem ha hb2]
  exact k
theorem x_ldiv (C : Cx l g E R own nm cc Ts nL) {a b : Int} (hd : decode cc pc = .ok (.ldiv, 1)) (ha : Rl a) (hb2 : Rl b) (hne : b ≠ 0) (k : X l g E R nL ws cl sl lv (pc + 1) (Jv (a.tdiv b) :: rest)) : X l g E R nL ws cl sl lv pc (Jv b :: Jv a :: rest) := by
  obtain ⟨p, e, s, m, args, below, meth, c, A, Q⟩ := E
  obtain ⟨hx, hb, hml, hown, hts, hK, hlck, hA, hnm⟩ := C
  intro H locs ls hP hD hS hl
  have k := k H locs ls hP hD hS hl
  refine lv_ldiv hx hb hd (fun h => hne ((lI_eq hb2 Rl_0).mp h)) ?_
  rw [lI_div ha hb2]
  exact k
theorem x_lrem (C : Cx l g E R own nm cc Ts nL) {a b : Int} (hd : decode cc pc = .ok (.lrem, 1)) (ha : Rl a) (hb2 : Rl b) (hne : b ≠ 0) (k : X l g E R nL ws cl sl lv (pc + 1) (Jv (a.tmod b) :: rest)) : X l g E R nL ws cl sl lv pc (Jv b :: Jv a :: rest) := by
  obtain ⟨p, e, s, m, args, below, meth, c, A, Q⟩ := E
  obtain ⟨hx, hb, hml, hown, hts, hK, hlck, hA, hnm⟩ := C
  intro H locs ls hP hD hS hl
  have k := k H locs ls hP hD hS hl
  refine lv_lrem hx hb hd (fun h => hne ((lI_eq hb2 Rl_0).mp h)) ?_
  rw [lI_rem ha hb2]
  exact k
theorem x_i2l (C : Cx l g E R own nm cc Ts nL) {a : Int} (hd : decode cc pc = .ok (.i2l, 1)) (ha : Rg a) (k : X l g E R nL ws cl sl lv (pc + 1) (Jv a :: rest)) : X l g E R nL ws cl sl lv pc (jv a :: rest) := by
  obtain ⟨p, e, s, m, args, below, meth, c, A, Q⟩ := E
  obtain ⟨hx, hb, hml, hown, hts, hK, hlck, hA, hnm⟩ := C
  intro H locs ls hP hD hS hl
  exact lv_i2l hx hb hd (iI_l ha) (k H locs ls hP hD hS hl)
theorem x_l2i (C : Cx l g E R own nm cc Ts nL) {a : Int} (hd : decode cc pc = .ok (.l2i, 1))  (k : X l g E R nL ws cl sl lv (pc + 1) (jv a :: rest)) : X l g E R nL ws cl sl lv pc (Jv a :: rest) := by
  obtain ⟨p, e, s, m, args, below, meth, c, A, Q⟩ := E
  obtain ⟨hx, hb, hml, hown, hts, hK, hlck, hA, hnm⟩ := C
  intro H locs ls hP hD hS hl
  exact lv_l2i hx hb hd (lI_i a) (k H locs ls hP hD hS hl)
theorem x_l2iR (C : Cx l g E R own nm cc Ts nL) {a : Int64} (hd : decode cc pc = .ok (.l2i, 1))  (k : X l g E R nL ws cl sl lv (pc + 1) (.int a.toInt32 :: rest)) : X l g E R nL ws cl sl lv pc (.long a :: rest) := by
  obtain ⟨p, e, s, m, args, below, meth, c, A, Q⟩ := E
  obtain ⟨hx, hb, hml, hown, hts, hK, hlck, hA, hnm⟩ := C
  intro H locs ls hP hD hS hl
  exact lv_l2i hx hb hd rfl (k H locs ls hP hD hS hl)
theorem x_ineg (C : Cx l g E R own nm cc Ts nL) {a : Int} (hd : decode cc pc = .ok (.ineg, 1)) (k : X l g E R nL ws cl sl lv (pc + 1) (jv (-a) :: rest)) : X l g E R nL ws cl sl lv pc (jv a :: rest) := by
  obtain ⟨p, e, s, m, args, below, meth, c, A, Q⟩ := E
  obtain ⟨hx, hb, hml, hown, hts, hK, hlck, hA, hnm⟩ := C
  intro H locs ls hP hD hS hl
  have k := k H locs ls hP hD hS hl
  refine lv_ineg hx hb hd ?_
  rw [iI_neg]
  exact k
theorem x_lneg (C : Cx l g E R own nm cc Ts nL) {a : Int} (hd : decode cc pc = .ok (.lneg, 1)) (k : X l g E R nL ws cl sl lv (pc + 1) (Jv (-a) :: rest)) : X l g E R nL ws cl sl lv pc (Jv a :: rest) := by
  obtain ⟨p, e, s, m, args, below, meth, c, A, Q⟩ := E
  obtain ⟨hx, hb, hml, hown, hts, hK, hlck, hA, hnm⟩ := C
  intro H locs ls hP hD hS hl
  have k := k H locs ls hP hD hS hl
  refine lv_lneg hx hb hd ?_
  rw [lI_neg]
  exact k
theorem x_lorR (C : Cx l g E R own nm cc Ts nL) {a b : Int64} (hd : decode cc pc = .ok (.lor, 1))  (k : X l g E R nL ws cl sl lv (pc + 1) (.long (a ||| b) :: rest)) : X l g E R nL ws cl sl lv pc (.long b :: .long a :: rest) := by
  obtain ⟨p, e, s, m, args, below, meth, c, A, Q⟩ := E
  obtain ⟨hx, hb, hml, hown, hts, hK, hlck, hA, hnm⟩ := C
  intro H locs ls hP hD hS hl
  exact lv_lor hx hb hd (k H locs ls hP hD hS hl)
theorem x_landR (C : Cx l g E R own nm cc Ts nL) {a b : Int64} (hd : decode cc pc = .ok (.land, 1))  (k : X l g E R nL ws cl sl lv (pc + 1) (.long (a &&& b) :: rest)) : X l g E R nL ws cl sl lv pc (.long b :: .long a :: rest) := by
  obtain ⟨p, e, s, m, args, below, meth, c, A, Q⟩ := E
  obtain ⟨hx, hb, hml, hown, hts, hK, hlck, hA, hnm⟩ := C
  intro H locs ls hP hD hS hl
  exact lv_land hx hb hd (k H locs ls hP hD hS hl)
theorem x_laddR (C : Cx l g E R own nm cc Ts nL) {a b : Int64} (hd : decode cc pc = .ok (.ladd, 1))  (k : X l g E R nL ws cl sl lv (pc + 1) (.long (a + b) :: rest)) : X l g E R nL ws cl sl lv pc (.long b :: .long a :: rest) := by
  obtain ⟨p, e, s, m, args, below, meth, c, A, Q⟩ := E
  obtain ⟨hx, hb, hml, hown, hts, hK, hlck, hA, hnm⟩ := C
  intro H locs ls hP hD hS hl
  exact lv_ladd hx hb hd (k H locs ls hP hD hS hl)
theorem x_lsubR (C : Cx l g E R own nm cc Ts nL) {a b : Int64} (hd : decode cc pc = .ok (.lsub, 1))  (k : X l g E R nL ws cl sl lv (pc + 1) (.long (a - b) :: rest)) : X l g E R nL ws cl sl lv pc (.long b :: .long a :: rest) := by
  obtain ⟨p, e, s, m, args, below, meth, c, A, Q⟩ := E
  obtain ⟨hx, hb, hml, hown, hts, hK, hlck, hA, hnm⟩ := C
  intro H locs ls hP hD hS hl
  exact lv_lsub hx hb hd (k H locs ls hP hD hS hl)
theorem x_lshlR (C : Cx l g E R own nm cc Ts nL) {a : Int64} {b : Int32} (hd : decode cc pc = .ok (.lshl, 1))  (k : X l g E R nL ws cl sl lv (pc + 1) (.long (a <<< (b.toInt64 &&& 63)) :: rest)) : X l g E R nL ws cl sl lv pc (.int b :: .long a :: rest) := by
  obtain ⟨p, e, s, m, args, below, meth, c, A, Q⟩ := E
  obtain ⟨hx, hb, hml, hown, hts, hK, hlck, hA, hnm⟩ := C
  intro H locs ls hP hD hS hl
  exact lv_lshl hx hb hd rfl (k H locs ls hP hD hS hl)
theorem x_lushrR (C : Cx l g E R own nm cc Ts nL) {a : Int64} {b : Int32} (hd : decode cc pc = .ok (.lushr, 1))  (k : X l g E R nL ws cl sl lv (pc + 1) (.long ((a.toUInt64 >>> (b.toInt64.toUInt64 &&& Int64.toUInt64 63)).toInt64) :: rest)) : X l g E R nL ws cl sl lv pc (.int b :: .long a :: rest) := by
  obtain ⟨p, e, s, m, args, below, meth, c, A, Q⟩ := E
  obtain ⟨hx, hb, hml, hown, hts, hK, hlck, hA, hnm⟩ := C
  intro H locs ls hP hD hS hl
  exact lv_lushr hx hb hd rfl (k H locs ls hP hD hS hl)
theorem x_iandR (C : Cx l g E R own nm cc Ts nL) {a b : Int32} (hd : decode cc pc = .ok (.iand, 1))  (k : X l g E R nL ws cl sl lv (pc + 1) (.int (a &&& b) :: rest)) : X l g E R nL ws cl sl lv pc (.int b :: .int a :: rest) := by
  obtain ⟨p, e, s, m, args, below, meth, c, A, Q⟩ := E
  obtain ⟨hx, hb, hml, hown, hts, hK, hlck, hA, hnm⟩ := C
  intro H locs ls hP hD hS hl
  exact lv_iand hx hb hd (k H locs ls hP hD hS hl)
theorem x_dup (C : Cx l g E R own nm cc Ts nL) {v : Value} (hd : decode cc pc = .ok (.dup, 1)) (hv : v.category = 1) (k : X l g E R nL ws cl sl lv (pc + 1) (v :: v :: rest)) : X l g E R nL ws cl sl lv pc (v :: rest) := by
  obtain ⟨p, e, s, m, args, below, meth, c, A, Q⟩ := E
  obtain ⟨hx, hb, hml, hown, hts, hK, hlck, hA, hnm⟩ := C
  intro H locs ls hP hD hS hl
  exact lv_dup hx hb hd hv (k H locs ls hP hD hS hl)
theorem x_pop (C : Cx l g E R own nm cc Ts nL) {v : Value} (hd : decode cc pc = .ok (.pop, 1)) (hv : v.category = 1) (k : X l g E R nL ws cl sl lv (pc + 1) (rest)) : X l g E R nL ws cl sl lv pc (v :: rest) := by
  obtain ⟨p, e, s, m, args, below, meth, c, A, Q⟩ := E
  obtain ⟨hx, hb, hml, hown, hts, hK, hlck, hA, hnm⟩ := C
  intro H locs ls hP hD hS hl
  exact lv_pop hx hb hd hv (k H locs ls hP hD hS hl)
theorem x_lconstR (C : Cx l g E R own nm cc Ts nL) {n : Fin 2} {z : Int64} (hd : decode cc pc = .ok (.lconst n, 1)) (hv : Int64.ofNat (n : Nat) = z) (k : X l g E R nL ws cl sl lv (pc + 1) (.long z :: rest)) : X l g E R nL ws cl sl lv pc (rest) := by
  obtain ⟨p, e, s, m, args, below, meth, c, A, Q⟩ := E
  obtain ⟨hx, hb, hml, hown, hts, hK, hlck, hA, hnm⟩ := C
  intro H locs ls hP hD hS hl
  exact lv_lconst hx hb hd hv (k H locs ls hP hD hS hl)
theorem x_lcmp (C : Cx l g E R own nm cc Ts nL) {a b : Int} (hd : decode cc pc = .ok (.lcmp, 1)) (ha : Rl a) (hb2 : Rl b) (k1 : a < b → X l g E R nL ws cl sl lv (pc + 1) (jv (-1) :: rest)) (k2 : a = b → X l g E R nL ws cl sl lv (pc + 1) (jv 0 :: rest)) (k3 : b < a → X l g E R nL ws cl sl lv (pc + 1) (jv 1 :: rest)) : X l g E R nL ws cl sl lv pc (Jv b :: Jv a :: rest) := by
  obtain ⟨p, e, s, m, args, below, meth, c, A, Q⟩ := E
  obtain ⟨hx, hb, hml, hown, hts, hK, hlck, hA, hnm⟩ := C
  intro H locs ls hP hD hS hl
  refine W.lcmp hx hb hd ?_
  rcases Int.lt_trichotomy a b with h | h | h
  · have := k1 h H locs ls hP hD hS hl
    have e : lg_cmp (lI a) (lI b) = iI (-1) := by
      unfold lg_cmp
      have h1 : lI a < lI b := (lI_lt ha hb2).mpr h
      have h2 : ¬ lI b < lI a := fun q => by have := (lI_lt hb2 ha).mp q; omega
      have h3 : ¬ lI a = lI b := fun q => by have := (lI_eq ha hb2).mp q; omega
      simp [h1, h2, h3]
      try rfl
    rw [e]
    exact this
  · have := k2 h H locs ls hP hD hS hl
    have e : lg_cmp (lI a) (lI b) = iI 0 := by
      subst h
      unfold lg_cmp
      have h2 : ¬ lI a < lI a := fun q => by have := (lI_lt ha ha).mp q; omega
      simp [h2]
      try rfl
    rw [e]
    exact this
  · have := k3 h H locs ls hP hD hS hl
    have e : lg_cmp (lI a) (lI b) = iI 1 := by
      unfold lg_cmp
      have h1 : lI b < lI a := (lI_lt hb2 ha).mpr h
      have h2 : ¬ lI a < lI b := fun q => by have := (lI_lt ha hb2).mp q; omega
      have h3 : ¬ lI a = lI b := fun q => by have := (lI_eq ha hb2).mp q; omega
      simp [h1, h2, h3]
      try rfl
    rw [e]
    exact this
theorem x_icmp_eq (C : Cx l g E R own nm cc Ts nL) {a b off : Int} (tgt : Nat) (hd : decode cc pc = .ok (.if_icmp .eq off, 3)) (ht : (pc : Int) + off = (tgt : Int)) (ha : Rg a) (hb2 : Rg b) (kt : a = b → X l g E R nL ws cl sl lv tgt rest) (kf : ¬ a = b → X l g E R nL ws cl sl lv (pc + 3) rest) : X l g E R nL ws cl sl lv pc (jv b :: jv a :: rest) := by
  obtain ⟨p, e, s, m, args, below, meth, c, A, Q⟩ := E
  obtain ⟨hx, hb, hml, hown, hts, hK, hlck, hA, hnm⟩ := C
  intro H locs ls hP hD hS hl
  exact lv_icmp_eq hx hb hd ht (fun h => kt ((iI_eq ha hb2).mp h) H locs ls hP hD hS hl) (fun h => kf (fun q => h ((iI_eq ha hb2).mpr q)) H locs ls hP hD hS hl)
theorem x_icmp_ne (C : Cx l g E R own nm cc Ts nL) {a b off : Int} (tgt : Nat) (hd : decode cc pc = .ok (.if_icmp .ne off, 3)) (ht : (pc : Int) + off = (tgt : Int)) (ha : Rg a) (hb2 : Rg b) (kt : ¬ a = b → X l g E R nL ws cl sl lv tgt rest) (kf : a = b → X l g E R nL ws cl sl lv (pc + 3) rest) : X l g E R nL ws cl sl lv pc (jv b :: jv a :: rest) := by
  obtain ⟨p, e, s, m, args, below, meth, c, A, Q⟩ := E
  obtain ⟨hx, hb, hml, hown, hts, hK, hlck, hA, hnm⟩ := C
  intro H locs ls hP hD hS hl
  exact lv_icmp_ne hx hb hd ht (fun h => kt (fun q => h ((iI_eq ha hb2).mpr q)) H locs ls hP hD hS hl) (fun h => kf ((iI_eq ha hb2).mp h) H locs ls hP hD hS hl)
theorem x_icmp_lt (C : Cx l g E R own nm cc Ts nL) {a b off : Int} (tgt : Nat) (hd : decode cc pc = .ok (.if_icmp .lt off, 3)) (ht : (pc : Int) + off = (tgt : Int)) (ha : Rg a) (hb2 : Rg b) (kt : a < b → X l g E R nL ws cl sl lv tgt rest) (kf : ¬ a < b → X l g E R nL ws cl sl lv (pc + 3) rest) : X l g E R nL ws cl sl lv pc (jv b :: jv a :: rest) := by
  obtain ⟨p, e, s, m, args, below, meth, c, A, Q⟩ := E
  obtain ⟨hx, hb, hml, hown, hts, hK, hlck, hA, hnm⟩ := C
  intro H locs ls hP hD hS hl
  exact lv_icmp_lt hx hb hd ht (fun h => kt ((iI_lt ha hb2).mp h) H locs ls hP hD hS hl) (fun h => kf (fun q => h ((iI_lt ha hb2).mpr q)) H locs ls hP hD hS hl)
theorem x_icmp_ge (C : Cx l g E R own nm cc Ts nL) {a b off : Int} (tgt : Nat) (hd : decode cc pc = .ok (.if_icmp .ge off, 3)) (ht : (pc : Int) + off = (tgt : Int)) (ha : Rg a) (hb2 : Rg b) (kt : b ≤ a → X l g E R nL ws cl sl lv tgt rest) (kf : ¬ b ≤ a → X l g E R nL ws cl sl lv (pc + 3) rest) : X l g E R nL ws cl sl lv pc (jv b :: jv a :: rest) := by
  obtain ⟨p, e, s, m, args, below, meth, c, A, Q⟩ := E
  obtain ⟨hx, hb, hml, hown, hts, hK, hlck, hA, hnm⟩ := C
  intro H locs ls hP hD hS hl
  exact lv_icmp_ge hx hb hd ht (fun h => kt ((iI_le hb2 ha).mp h) H locs ls hP hD hS hl) (fun h => kf (fun q => h ((iI_le hb2 ha).mpr q)) H locs ls hP hD hS hl)
theorem x_icmp_gt (C : Cx l g E R own nm cc Ts nL) {a b off : Int} (tgt : Nat) (hd : decode cc pc = .ok (.if_icmp .gt off, 3)) (ht : (pc : Int) + off = (tgt : Int)) (ha : Rg a) (hb2 : Rg b) (kt : b < a → X l g E R nL ws cl sl lv tgt rest) (kf : ¬ b < a → X l g E R nL ws cl sl lv (pc + 3) rest) : X l g E R nL ws cl sl lv pc (jv b :: jv a :: rest) := by
  obtain ⟨p, e, s, m, args, below, meth, c, A, Q⟩ := E
  obtain ⟨hx, hb, hml, hown, hts, hK, hlck, hA, hnm⟩ := C
  intro H locs ls hP hD hS hl
  exact lv_icmp_gt hx hb hd ht (fun h => kt ((iI_lt hb2 ha).mp h) H locs ls hP hD hS hl) (fun h => kf (fun q => h ((iI_lt hb2 ha).mpr q)) H locs ls hP hD hS hl)
theorem x_icmp_le (C : Cx l g E R own nm cc Ts nL) {a b off : Int} (tgt : Nat) (hd : decode cc pc = .ok (.if_icmp .le off, 3)) (ht : (pc : Int) + off = (tgt : Int)) (ha : Rg a) (hb2 : Rg b) (kt : a ≤ b → X l g E R nL ws cl sl lv tgt rest) (kf : ¬ a ≤ b → X l g E R nL ws cl sl lv (pc + 3) rest) : X l g E R nL ws cl sl lv pc (jv b :: jv a :: rest) := by
  obtain ⟨p, e, s, m, args, below, meth, c, A, Q⟩ := E
  obtain ⟨hx, hb, hml, hown, hts, hK, hlck, hA, hnm⟩ := C
  intro H locs ls hP hD hS hl
  exact lv_icmp_le hx hb hd ht (fun h => kt ((iI_le ha hb2).mp h) H locs ls hP hD hS hl) (fun h => kf (fun q => h ((iI_le ha hb2).mpr q)) H locs ls hP hD hS hl)
theorem x_if_eq (C : Cx l g E R own nm cc Ts nL) {a off : Int} (tgt : Nat) (hd : decode cc pc = .ok (.ifCond .eq off, 3)) (ht : (pc : Int) + off = (tgt : Int)) (ha : Rg a) (kt : a = 0 → X l g E R nL ws cl sl lv tgt rest) (kf : ¬ a = 0 → X l g E R nL ws cl sl lv (pc + 3) rest) : X l g E R nL ws cl sl lv pc (jv a :: rest) := by
  obtain ⟨p, e, s, m, args, below, meth, c, A, Q⟩ := E
  obtain ⟨hx, hb, hml, hown, hts, hK, hlck, hA, hnm⟩ := C
  intro H locs ls hP hD hS hl
  exact lv_if_eq hx hb hd ht (fun h => kt ((iI_eq ha Rg_0).mp h) H locs ls hP hD hS hl) (fun h => kf (fun q => h ((iI_eq ha Rg_0).mpr q)) H locs ls hP hD hS hl)
theorem x_if_ne (C : Cx l g E R own nm cc Ts nL) {a off : Int} (tgt : Nat) (hd : decode cc pc = .ok (.ifCond .ne off, 3)) (ht : (pc : Int) + off = (tgt : Int)) (ha : Rg a) (kt : ¬ a = 0 → X l g E R nL ws cl sl lv tgt rest) (kf : a = 0 → X l g E R nL ws cl sl lv (pc + 3) rest) : X l g E R nL ws cl sl lv pc (jv a :: rest) := by
  obtain ⟨p, e, s, m, args, below, meth, c, A, Q⟩ := E
  obtain ⟨hx, hb, hml, hown, hts, hK, hlck, hA, hnm⟩ := C
  intro H locs ls hP hD hS hl
  exact lv_if_ne hx hb hd ht (fun h => kt (fun q => h ((iI_eq ha Rg_0).mpr q)) H locs ls hP hD hS hl) (fun h => kf ((iI_eq ha Rg_0).mp h) H locs ls hP hD hS hl)
theorem x_if_lt (C : Cx l g E R own nm cc Ts nL) {a off : Int} (tgt : Nat) (hd : decode cc pc = .ok (.ifCond .lt off, 3)) (ht : (pc : Int) + off = (tgt : Int)) (ha : Rg a) (kt : a < 0 → X l g E R nL ws cl sl lv tgt rest) (kf : ¬ a < 0 → X l g E R nL ws cl sl lv (pc + 3) rest) : X l g E R nL ws cl sl lv pc (jv a :: rest) := by
  obtain ⟨p, e, s, m, args, below, meth, c, A, Q⟩ := E
  obtain ⟨hx, hb, hml, hown, hts, hK, hlck, hA, hnm⟩ := C
  intro H locs ls hP hD hS hl
  exact lv_if_lt hx hb hd ht (fun h => kt ((iI_lt ha Rg_0).mp h) H locs ls hP hD hS hl) (fun h => kf (fun q => h ((iI_lt ha Rg_0).mpr q)) H locs ls hP hD hS hl)
theorem x_if_ge (C : Cx l g E R own nm cc Ts nL) {a off : Int} (tgt : Nat) (hd : decode cc pc = .ok (.ifCond .ge off, 3)) (ht : (pc : Int) + off = (tgt : Int)) (ha : Rg a) (kt : 0 ≤ a → X l g E R nL ws cl sl lv tgt rest) (kf : ¬ 0 ≤ a → X l g E R nL ws cl sl lv (pc + 3) rest) : X l g E R nL ws cl sl lv pc (jv a :: rest) := by
  obtain ⟨p, e, s, m, args, below, meth, c, A, Q⟩ := E
  obtain ⟨hx, hb, hml, hown, hts, hK, hlck, hA, hnm⟩ := C
  intro H locs ls hP hD hS hl
  exact lv_if_ge hx hb hd ht (fun h => kt ((iI_le Rg_0 ha).mp h) H locs ls hP hD hS hl) (fun h => kf (fun q => h ((iI_le Rg_0 ha).mpr q)) H locs ls hP hD hS hl)
theorem x_if_gt (C : Cx l g E R own nm cc Ts nL) {a off : Int} (tgt : Nat) (hd : decode cc pc = .ok (.ifCond .gt off, 3)) (ht : (pc : Int) + off = (tgt : Int)) (ha : Rg a) (kt : 0 < a → X l g E R nL ws cl sl lv tgt rest) (kf : ¬ 0 < a → X l g E R nL ws cl sl lv (pc + 3) rest) : X l g E R nL ws cl sl lv pc (jv a :: rest) := by
  obtain ⟨p, e, s, m, args, below, meth, c, A, Q⟩ := E
  obtain ⟨hx, hb, hml, hown, hts, hK, hlck, hA, hnm⟩ := C
  intro H locs ls hP hD hS hl
  exact lv_if_gt hx hb hd ht (fun h => kt ((iI_lt Rg_0 ha).mp h) H locs ls hP hD hS hl) (fun h => kf (fun q => h ((iI_lt Rg_0 ha).mpr q)) H locs ls hP hD hS hl)
theorem x_if_le (C : Cx l g E R own nm cc Ts nL) {a off : Int} (tgt : Nat) (hd : decode cc pc = .ok (.ifCond .le off, 3)) (ht : (pc : Int) + off = (tgt : Int)) (ha : Rg a) (kt : a ≤ 0 → X l g E R nL ws cl sl lv tgt rest) (kf : ¬ a ≤ 0 → X l g E R nL ws cl sl lv (pc + 3) rest) : X l g E R nL ws cl sl lv pc (jv a :: rest) := by
  obtain ⟨p, e, s, m, args, below, meth, c, A, Q⟩ := E
  obtain ⟨hx, hb, hml, hown, hts, hK, hlck, hA, hnm⟩ := C
  intro H locs ls hP hD hS hl
  exact lv_if_le hx hb hd ht (fun h => kt ((iI_le ha Rg_0).mp h) H locs ls hP hD hS hl) (fun h => kf (fun q => h ((iI_le ha Rg_0).mpr q)) H locs ls hP hD hS hl)
theorem x_goto (C : Cx l g E R own nm cc Ts nL) {off : Int} (tgt : Nat) (hd : decode cc pc = .ok (.goto off, 3)) (ht : (pc : Int) + off = (tgt : Int)) (k : X l g E R nL ws cl sl lv tgt rest) : X l g E R nL ws cl sl lv pc rest := by
  obtain ⟨p, e, s, m, args, below, meth, c, A, Q⟩ := E
  obtain ⟨hx, hb, hml, hown, hts, hK, hlck, hA, hnm⟩ := C
  intro H locs ls hP hD hS hl
  exact lv_goto hx hb hd ht (k H locs ls hP hD hS hl)
theorem x_tableIn (C : Cx l g E R own nm cc Ts nL) {dflt lo hi : Int} {offs : Array Int} {len : Nat} {a off : Int} (tgt : Nat) (hd : decode cc pc = .ok (.tableswitch dflt lo hi offs, len)) (ha : Rg a) (h1 : lo ≤ a) (h2 : a ≤ hi) (ho : offs[(a - lo).toNat]? = some off) (ht : (pc : Int) + off = (tgt : Int)) (k : X l g E R nL ws cl sl lv tgt rest) : X l g E R nL ws cl sl lv pc (jv a :: rest) := by
  obtain ⟨p, e, s, m, args, below, meth, c, A, Q⟩ := E
  obtain ⟨hx, hb, hml, hown, hts, hK, hlck, hA, hnm⟩ := C
  intro H locs ls hP hD hS hl
  exact lv_tableIn hx hb hd (by rw [iI_toInt ha]; omega) (by rw [iI_toInt ha]; omega) (by rw [iI_toInt ha]; exact ho) ht (k H locs ls hP hD hS hl)
theorem x_tableOut (C : Cx l g E R own nm cc Ts nL) {dflt lo hi : Int} {offs : Array Int} {len : Nat} {a : Int} (tgt : Nat) (hd : decode cc pc = .ok (.tableswitch dflt lo hi offs, len)) (ha : Rg a) (h : a < lo ∨ hi < a) (ht : (pc : Int) + dflt = (tgt : Int)) (k : X l g E R nL ws cl sl lv tgt rest) : X l g E R nL ws cl sl lv pc (jv a :: rest) := by
  obtain ⟨p, e, s, m, args, below, meth, c, A, Q⟩ := E
  obtain ⟨hx, hb, hml, hown, hts, hK, hlck, hA, hnm⟩ := C
  intro H locs ls hP hD hS hl
  exact lv_tableOut hx hb hd (by rw [iI_toInt ha]; exact h) ht (k H locs ls hP hD hS hl)
theorem x_get (C : Cx l g E R own nm cc Ts nL) {ref Cn : String} {T : u_T} {N ci i a : Nat} {fs : List Value} {v : Value} (q0 k : Nat) (hd : decode cc pc = .ok (.getfield i, 3)) (hin : ∀ w ∈ u_ws Cn T N, w ∈ Ts) (hlk : Cond.fieldLink own i ref (T k).2.1 (T k).2.2.1 ∈ Ts) (hrf : (T k).1 = ref) (he : ws[q0]? = some (a, ob ci fs)) (hc : vwCl[ci]? = some (Cn, T, N)) (hk : k < N) (hv : fs[k]? = some v) (kk : X l g E R nL ws cl sl lv (pc + 3) (v :: rest)) : X l g E R nL ws cl sl lv pc (.ref a :: rest) := by
  obtain ⟨p, e, s, m, args, below, meth, c, A, Q⟩ := E
  obtain ⟨hx, hb, hml, hown, hts, hK, hlk2, hA, hnm⟩ := C
  subst hrf
  intro H locs ls hP hD hS hl
  exact va_get hx hb hts hin hown hK hP q0 he hc k hk (hts _ hlk) (fun _ h => h) hv hd (kk H locs ls hP hD hS hl)
theorem x_put (C : Cx l g E R own nm cc Ts nL) {ref Cn : String} {T : u_T} {N ci i a : Nat} {fs : List Value} {v : Value} {ws' : va_W} {ty : FieldType} (ty0 : Nat → FieldType) (q0 k : Nat) (hd : decode cc pc = .ok (.putfield i, 3)) (hin : ∀ w ∈ u_ws Cn T N, w ∈ Ts) (hty : ∀ k, k < N → parseFieldDescriptor (T k).2.2.1 = some (ty0 k)) (hnm2 : ∀ a, a < N → ∀ b, b < N → a ≠ b → (T a).2.1 ≠ (T b).2.1) (hlk : Cond.fieldLink own i ref (T k).2.1 (T k).2.2.1 ∈ Ts) (hrf : (T k).1 = ref) (he : ws[q0]? = some (a, ob ci fs)) (hc : vwCl[ci]? = some (Cn, T, N)) (hk : k < N) (hfin : (T k).2.2.2 = false) (hde : parseFieldDescriptor (T k).2.2.1 = some ty) (hn : narrow ty v = v) (hfit : fits ty v = true) (hl2 : k < fs.length) (hw : ws.set q0 (a, ob ci (fs.set k v)) = ws') (kk : X l g E R nL ws' cl sl lv (pc + 3) rest) : X l g E R nL ws cl sl lv pc (v :: .ref a :: rest) := by
  obtain ⟨p, e, s, m, args, below, meth, c, A, Q⟩ := E
  obtain ⟨hx, hb, hml, hown, hts, hK, hlk2, hA, hnm⟩ := C
  subst hrf
  subst hw
  intro H locs ls hP hD hS hl
  exact va_put hx hb hts hin ty0 hty hnm2 hown hK hP hD hS q0 he hc k hk (hts _ hlk) (fun _ h => h) hfin hde hn hfit hl2 hd (fun H1 locs1 hP1 hD1 hS1 => kk H1 locs1 ls hP1 hD1 hS1 hl)
theorem x_putF (C : Cx l g E R own nm cc Ts nL) {Cn : String} {T : u_T} {N ci i a : Nat} {fs : List Value} {v : Value} {ws' : va_W} {ty : FieldType} (ty0 : Nat → FieldType) (q0 k : Nat) (hd : decode cc pc = .ok (.putfield i, 3)) (hin : ∀ w ∈ u_ws Cn T N, w ∈ Ts) (hty : ∀ k, k < N → parseFieldDescriptor (T k).2.2.1 = some (ty0 k)) (hnm2 : ∀ a, a < N → ∀ b, b < N → a ≠ b → (T a).2.1 ≠ (T b).2.1) (hlk : Cond.fieldLink own i own (T k).2.1 (T k).2.2.1 ∈ Ts) (hrf : (T k).1 = own) (he : ws[q0]? = some (a, ob ci fs)) (hc : vwCl[ci]? = some (Cn, T, N)) (hk : k < N) (hfin : (T k).2.2.2 = true) (hini : nm = "<init>") (hde : parseFieldDescriptor (T k).2.2.1 = some ty) (hn : narrow ty v = v) (hfit : fits ty v = true) (hl2 : k < fs.length) (hw : ws.set q0 (a, ob ci (fs.set k v)) = ws') (kk : X l g E R nL ws' cl sl lv (pc + 3) rest) : X l g E R nL ws cl sl lv pc (v :: .ref a :: rest) := by
  obtain ⟨p, e, s, m, args, below, meth, c, A, Q⟩ := E
  obtain ⟨hx, hb, hml, hown, hts, hK, hlk2, hA, hnm⟩ := C
  subst hw
  intro H locs ls hP hD hS hl
  exact va_putF hx hb hts hin ty0 hty hnm2 hown hK hP hD hS q0 he hc k hk (hts _ hlk) (fun _ h => by rw [← hrf]; exact h) hfin (hnm.trans hini) hrf hde hn hfit hl2 hd (fun H1 locs1 hP1 hD1 hS1 => kk H1 locs1 ls hP1 hD1 hS1 hl)
theorem x_iald (C : Cx l g E R own nm cc Ts nL) {a n : Nat} {f : Int → Int} {i : Int} (q0 : Nat) (hd : decode cc pc = .ok (.iaload, 1)) (ha : ws[q0]? = some (a, ai g n f)) (h0 : 0 ≤ i) (h1 : i < n) (hn : n < 2147483648) (k : X l g E R nL ws cl sl lv (pc + 1) (jv (f i) :: rest)) : X l g E R nL ws cl sl lv pc (jv i :: .ref a :: rest) := by
  obtain ⟨p, e, s, m, args, below, meth, c, A, Q⟩ := E
  obtain ⟨hx, hb, hml, hown, hts, hK, hlck, hA, hnm⟩ := C
  intro H locs ls hP hD hS hl
  have k := k H locs ls hP hD hS hl
  refine va_iald hx hb hK hP q0 0 ha rfl (iI_in h0 h1 hn) hd ?_
  rw [iI_nat h0 (by omega), Int.toNat_of_nonneg h0]
  exact k
theorem x_lald (C : Cx l g E R own nm cc Ts nL) {a n : Nat} {f : Int → Int} {i : Int} (q0 : Nat) (hd : decode cc pc = .ok (.laload, 1)) (ha : ws[q0]? = some (a, al g n f)) (h0 : 0 ≤ i) (h1 : i < n) (hn : n < 2147483648) (k : X l g E R nL ws cl sl lv (pc + 1) (Jv (f i) :: rest)) : X l g E R nL ws cl sl lv pc (jv i :: .ref a :: rest) := by
  obtain ⟨p, e, s, m, args, below, meth, c, A, Q⟩ := E
  obtain ⟨hx, hb, hml, hown, hts, hK, hlck, hA, hnm⟩ := C
  intro H locs ls hP hD hS hl
  have k := k H locs ls hP hD hS hl
  refine va_lald hx hb hK hP q0 1 ha rfl (iI_in h0 h1 hn) hd ?_
  rw [iI_nat h0 (by omega), Int.toNat_of_nonneg h0]
  exact k
theorem x_zald (C : Cx l g E R own nm cc Ts nL) {a n : Nat} {f : Int → Bool} {i : Int} (q0 : Nat) (hd : decode cc pc = .ok (.baload, 1)) (ha : ws[q0]? = some (a, az g n f)) (h0 : 0 ≤ i) (h1 : i < n) (hn : n < 2147483648) (k1 : f i = true → X l g E R nL ws cl sl lv (pc + 1) (jv 1 :: rest)) (k2 : f i = false → X l g E R nL ws cl sl lv (pc + 1) (jv 0 :: rest)) : X l g E R nL ws cl sl lv pc (jv i :: .ref a :: rest) := by
  obtain ⟨p, e, s, m, args, below, meth, c, A, Q⟩ := E
  obtain ⟨hx, hb, hml, hown, hts, hK, hlck, hA, hnm⟩ := C
  intro H locs ls hP hD hS hl
  refine va_zald hx hb hK hP q0 2 ha rfl (iI_in h0 h1 hn) hd ?_
  rw [iI_nat h0 (by omega), Int.toNat_of_nonneg h0]
  cases hf : f i with
  | true => exact k1 hf H locs ls hP hD hS hl
  | false => exact k2 hf H locs ls hP hD hS hl
theorem up_ai {f : Int → Int} {k v : Int} (h0 : 0 ≤ k) : upd (fun j => iI (f (j : Int))) k.toNat (iI v) = fun j : Nat => iI (up f k v (j : Int)) := by
  funext j
  unfold upd up
  by_cases h : j = k.toNat
  · rw [if_pos h, if_pos (by omega)]
  · rw [if_neg h, if_neg (by omega)]
theorem up_al {f : Int → Int} {k v : Int} (h0 : 0 ≤ k) : vp_updL (fun j => lI (f (j : Int))) k.toNat (lI v) = fun j : Nat => lI (up f k v (j : Int)) := by
  funext j
  unfold vp_updL up
  by_cases h : j = k.toNat
  · rw [if_pos h, if_pos (by omega)]
  · rw [if_neg h, if_neg (by omega)]
theorem up_az {f : Int → Bool} {k : Int} {v : Bool} (h0 : 0 ≤ k) : upd (fun j => bI (f (j : Int))) k.toNat (bI v) = fun j : Nat => bI (up f k v (j : Int)) := by
  funext j
  unfold upd up
  by_cases h : j = k.toNat
  · rw [if_pos h, if_pos (by omega)]
  · rw [if_neg h, if_neg (by omega)]
theorem x_iast (C : Cx l g E R own nm cc Ts nL) {a n : Nat} {f : Int → Int} {i v : Int} {ws' : va_W} (q0 : Nat) (hd : decode cc pc = .ok (.iastore, 1)) (ha : ws[q0]? = some (a, ai g n f)) (h0 : 0 ≤ i) (h1 : i < n) (hn : n < 2147483648) (hw : ws.set q0 (a, ai g n (up f i v)) = ws') (k : X l g E R nL ws' cl sl lv (pc + 1) rest) : X l g E R nL ws cl sl lv pc (jv v :: jv i :: .ref a :: rest) := by
  obtain ⟨p, e, s, m, args, below, meth, c, A, Q⟩ := E
  obtain ⟨hx, hb, hml, hown, hts, hK, hlck, hA, hnm⟩ := C
  subst hw
  intro H locs ls hP hD hS hl
  refine va_iast hx hb hK hP hD hS q0 0 ha rfl (iI_in h0 h1 hn) hd (fun H1 locs1 hP1 hD1 hS1 => ?_)
  rw [iI_nat h0 (by omega), up_ai h0] at hP1 hD1
  exact k H1 locs1 ls hP1 hD1 hS1 hl
theorem x_last (C : Cx l g E R own nm cc Ts nL) {a n : Nat} {f : Int → Int} {i v : Int} {ws' : va_W} (q0 : Nat) (hd : decode cc pc = .ok (.lastore, 1)) (ha : ws[q0]? = some (a, al g n f)) (h0 : 0 ≤ i) (h1 : i < n) (hn : n < 2147483648) (hw : ws.set q0 (a, al g n (up f i v)) = ws') (k : X l g E R nL ws' cl sl lv (pc + 1) rest) : X l g E R nL ws cl sl lv pc (Jv v :: jv i :: .ref a :: rest) := by
  obtain ⟨p, e, s, m, args, below, meth, c, A, Q⟩ := E
  obtain ⟨hx, hb, hml, hown, hts, hK, hlck, hA, hnm⟩ := C
  subst hw
  intro H locs ls hP hD hS hl
  refine va_last hx hb hK hP hD hS q0 1 ha rfl (iI_in h0 h1 hn) hd (fun H1 locs1 hP1 hD1 hS1 => ?_)
  rw [iI_nat h0 (by omega), up_al h0] at hP1 hD1
  exact k H1 locs1 ls hP1 hD1 hS1 hl
theorem vz0 : vp_nar .boolean (iI 0) = bI false := rfl
theorem vz1 : vp_nar .boolean (iI 1) = bI true := rfl
theorem x_zast (C : Cx l g E R own nm cc Ts nL) {a n : Nat} {f : Int → Bool} {i v : Int} (bv : Bool) {ws' : va_W} (q0 : Nat) (hd : decode cc pc = .ok (.bastore, 1)) (ha : ws[q0]? = some (a, az g n f)) (hbv : vp_nar .boolean (iI v) = bI bv) (h0 : 0 ≤ i) (h1 : i < n) (hn : n < 2147483648) (hw : ws.set q0 (a, az g n (up f i bv)) = ws') (k : X l g E R nL ws' cl sl lv (pc + 1) rest) : X l g E R nL ws cl sl lv pc (jv v :: jv i :: .ref a :: rest) := by
  obtain ⟨p, e, s, m, args, below, meth, c, A, Q⟩ := E
  obtain ⟨hx, hb, hml, hown, hts, hK, hlck, hA, hnm⟩ := C
  subst hw
  intro H locs ls hP hD hS hl
  refine va_zast hx hb hK hP hD hS q0 2 ha rfl (iI_in h0 h1 hn) hd (fun H1 locs1 hP1 hD1 hS1 => ?_)
  rw [iI_nat h0 (by omega), hbv, up_az h0] at hP1 hD1
  exact k H1 locs1 ls hP1 hD1 hS1 hl
theorem x_alen (C : Cx l g E R own nm cc Ts nL) {a n : Nat} {f : Int → Int} (q0 : Nat) (hd : decode cc pc = .ok (.arraylength, 1)) (ha : ws[q0]? = some (a, ai g n f)) (k : X l g E R nL ws cl sl lv (pc + 1) (jv (n : Int) :: rest)) : X l g E R nL ws cl sl lv pc (.ref a :: rest) := by
  obtain ⟨p, e, s, m, args, below, meth, c, A, Q⟩ := E
  obtain ⟨hx, hb, hml, hown, hts, hK, hlck, hA, hnm⟩ := C
  intro H locs ls hP hD hS hl
  exact va_alen hx hb hK hP q0 0 ha rfl (v := iI (n : Int)) (by show Int32.ofNat n = Int32.ofInt (n : Int); exact (Int32.ofInt_eq_ofNat (n := n)).symm) hd (k H locs ls hP hD hS hl)
/-- fewer cells, or in another order -/
theorem x_world {ws' : va_W} (is : List Nat) (hn : va_nd is = true) (hs : is.map (fun i => ws[i]?) = ws'.map some) (k : X l g E R nL ws' cl sl lv pc rest) : X l g E R nL ws cl sl lv pc rest := by
  obtain ⟨p, e, s, m, args, below, meth, c, A, Q⟩ := E
  intro H locs ls hP hD hS hl
  have hf : is.filterMap (fun i => ws[i]?) = ws' := by
    have h1 : ∀ (is : List Nat) (w : va_W), is.map (fun i => ws[i]?) = w.map some → is.filterMap (fun i => ws[i]?) = w := by
      intro is
      induction is with
      | nil => intro w h; cases w with
        | nil => rfl
        | cons a t => simp at h
      | cons i is ih => intro w h; cases w with
        | nil => simp at h
        | cons a t =>
          simp only [List.map_cons, List.cons.injEq] at h
          rw [List.filterMap_cons, h.1]
          simp [ih t h.2]
    exact h1 is ws' hs
  exact k H locs ls (hP.sub is hf) (hD.sub is hn hs) hS hl
theorem x_locals (ks : List Nat) (hl2 : lv_pick lv ks = lv') (k : X l g E R nL ws cl sl lv' pc rest) : X l g E R nL ws cl sl lv pc rest := by
  obtain ⟨p, e, s, m, args, below, meth, c, A, Q⟩ := E
  intro H locs ls hP hD hS hl
  exact k H locs ls hP hD hS (lv_sub hl ks hl2)
theorem x_widen {cl' sl' : Nat} (h1 : cl ≤ cl') (h2 : sl ≤ sl') (k : X l g E R nL ws cl' sl' lv pc rest) : X l g E R nL ws cl sl lv pc rest := by
  obtain ⟨p, e, s, m, args, below, meth, c, A, Q⟩ := E
  intro H locs ls hP hD hS hl
  exact W.widen h1 h2 (k H locs ls hP hD hS hl)
theorem x_eq {st2 : List Value} {ws2 : va_W} {lv2 : List (Nat × Value)} (h : rest = st2) (h2 : ws = ws2) (h3 : lv = lv2) (k : X l g E R nL ws2 cl sl lv2 pc st2) : X l g E R nL ws cl sl lv pc rest := by
  subst h; subst h2; subst h3; exact k
-- ends
variable {ret : Option FieldType} {w : va_W} {Post : Option Value → va_W → Prop}
theorem x_iret (C : Cx l g E R own nm cc Ts nL) (Rt0 : Rt g E ret cl sl w Post) {v : Int} (hd : decode cc pc = .ok (.ireturn, 1)) (hr : ret = some .int) (hp : Post (some (jv v)) ws) : X l g E R nL ws cl sl lv pc [jv v] := by
  obtain ⟨p, e, s, m, args, below, meth, c, A, Q⟩ := E
  obtain ⟨hx, hb, hml, hown, hts, hK, hlck, hA, hnm⟩ := C
  obtain ⟨rfl, h2, rfl⟩ := Rt0
  intro H locs ls hP hD hS hl
  exact W.iret (v := iI v) hx hb (h2.trans hr) (fun t ht hW => ⟨⟨_, _, rfl, hp, by rw [ht]; exact hP, va_K.moved hW.alike hK, hD⟩, hS.F ht⟩) hS.2.2 hd
theorem x_iretR (C : Cx l g E R own nm cc Ts nL) (Rt0 : Rt g E ret cl sl w Post) {v : Int32} (hd : decode cc pc = .ok (.ireturn, 1)) (hr : ret = some .int) (hp : Post (some (.int v)) ws) : X l g E R nL ws cl sl lv pc [.int v] := by
  obtain ⟨p, e, s, m, args, below, meth, c, A, Q⟩ := E
  obtain ⟨hx, hb, hml, hown, hts, hK, hlck, hA, hnm⟩ := C
  obtain ⟨rfl, h2, rfl⟩ := Rt0
  intro H locs ls hP hD hS hl
  exact W.iret (v := v) hx hb (h2.trans hr) (fun t ht hW => ⟨⟨_, _, rfl, hp, by rw [ht]; exact hP, va_K.moved hW.alike hK, hD⟩, hS.F ht⟩) hS.2.2 hd
theorem x_zret (C : Cx l g E R own nm cc Ts nL) (Rt0 : Rt g E ret cl sl w Post) {v : Int} (hd : decode cc pc = .ok (.ireturn, 1)) (hr : ret = some .boolean) (hn : narrow .boolean (jv v) = jv v) (hp : Post (some (jv v)) ws) : X l g E R nL ws cl sl lv pc [jv v] := by
  obtain ⟨p, e, s, m, args, below, meth, c, A, Q⟩ := E
  obtain ⟨hx, hb, hml, hown, hts, hK, hlck, hA, hnm⟩ := C
  obtain ⟨rfl, h2, rfl⟩ := Rt0
  intro H locs ls hP hD hS hl
  exact W.zret (v := iI v) (ty := .boolean) hx hb (h2.trans hr) hn (fun t ht hW => ⟨⟨_, _, rfl, hp, by rw [ht]; exact hP, va_K.moved hW.alike hK, hD⟩, hS.F ht⟩) hS.2.2 hd
theorem x_lret (C : Cx l g E R own nm cc Ts nL) (Rt0 : Rt g E ret cl sl w Post) {v : Int64} (hd : decode cc pc = .ok (.lreturn, 1)) (hr : ret = some .long) (hp : Post (some (.long v)) ws) : X l g E R nL ws cl sl lv pc [.long v] := by
  obtain ⟨p, e, s, m, args, below, meth, c, A, Q⟩ := E
  obtain ⟨hx, hb, hml, hown, hts, hK, hlck, hA, hnm⟩ := C
  obtain ⟨rfl, h2, rfl⟩ := Rt0
  intro H locs ls hP hD hS hl
  exact W.lret (v := v) hx hb (h2.trans hr) (fun t ht hW => ⟨⟨_, _, rfl, hp, by rw [ht]; exact hP, va_K.moved hW.alike hK, hD⟩, hS.F ht⟩) hS.2.2 hd
theorem x_vret (C : Cx l g E R own nm cc Ts nL) (Rt0 : Rt g E ret cl sl w Post) (hd : decode cc pc = .ok (.return_, 1)) (hr : ret = none) (hp : Post none ws) : X l g E R nL ws cl sl lv pc [] := by
  obtain ⟨p, e, s, m, args, below, meth, c, A, Q⟩ := E
  obtain ⟨hx, hb, hml, hown, hts, hK, hlck, hA, hnm⟩ := C
  obtain ⟨rfl, h2, rfl⟩ := Rt0
  intro H locs ls hP hD hS hl
  exact W.vret hx hb (h2.trans hr) (fun t ht hW => ⟨⟨_, _, rfl, hp, by rw [ht]; exact hP, va_K.moved hW.alike hK, hD⟩, hS.F ht⟩) hS.2.2 hd
-- calls
variable {y : MethodName} {wsy ws' : List Cond} {rm : Room} {mc ms maxL index : Nat} {wc wr : va_W} {As : List Value} {bytes : ByteArray} {rety : Option FieldType}
theorem x_callV (C : Cx l g E R own nm cc Ts nL) {b ci q0 n : Nat} {fs : List Value} {Cn : String} {T : u_T} {N : Nat} (isC isR : List Nat) (hM : Ct l g y wsy rm mc ms wc (.ref b :: As) Post) (hG : GoodIn Ts (wsV own index Cn y wsy)) (hw : wsy = Cond.code y bytes maxL rety :: ws') (hrc : rm.cells = mc ∧ rm.slots = ms) (hdd : y.cls = Cn ∧ y.cls ≠ "java/lang/invoke/MethodHandle" ∧ y.cls ≠ "java/lang/invoke/VarHandle" ∧ (parseMethodDescriptor y.desc).map (fun d => d.parameters.length) = some n) (hR : rm.frames + 1 ≤ R.frames ∧ 8 + (maxL + 11) + rm.locals ≤ R.locals) (hn : As.length = n) (hci : vwCl[ci]? = some (Cn, T, N)) (hq0 : wc[q0]? = some (b, ob ci fs))
    (hC : isC.map (fun i => ws[i]?) = wc.map some) (hRr : isR.map (fun i => ws[i]?) = wr.map some) (hnC : va_nd isC = true) (hnR : va_nd isR = true) (hdis : ∀ i ∈ isR, i ∉ isC) {st0 : List Value} (hst : st0 = As.reverse ++ .ref b :: rest) (hcat : (rest.map fun v => v.category).sum ≤ 8) (hd : decode cc pc = .ok (.invokevirtual index, 3)) (hf : cl + mc ≤ R.cells ∧ sl + ms ≤ R.slots) (kk : ∀ (v : Option Value) (u : va_W), Post v u → X l g E R nL (wr ++ u) (cl + mc) (sl + ms) lv (pc + 3) (v.toList ++ rest)) : X l g E R nL ws cl sl lv pc st0 := by
  obtain ⟨p, e, s, m, args, below, meth, c, A, Q⟩ := E
  obtain ⟨hx, hb, hml, hown, hts, hK, hlck, hA, hnm⟩ := C
  intro H locs ls hP hD hS hl
  have hDc : va_D A wc := hD.sub isC hnC hC
  have hPc : va_P g.1 vwCl wc H := by
    intro k q hk
    have h1 : (isC.map (fun i => ws[i]?))[k]? = some (some q) := by rw [hC, List.getElem?_map, hk]; rfl
    rw [List.getElem?_map] at h1
    cases hi : isC[k]? with
    | none => rw [hi] at h1; cases h1
    | some i => rw [hi] at h1; exact hP i q (Option.some.inj h1)
  have hFc := va_free (wc := wc) hD hS hA isC hC
  have hrun := va_runV (rest := rest) (g := F0 m pc ls st0) (l := l) (e := e) (below := below) (meth := meth) (H := H) (locs := locs) (cells := cl) (slots := sl) ⟨hx, hb, hml, hown, hts⟩ (hM H.size) (cwV (R := R) n hts hG hw hrc.1 hrc.2 hdd hR) ⟨fun a U g' mk q => by obtain ⟨q0, q1, qP, qK, qD⟩ := q; exact ⟨q0, q1, qP, va_K.moved (u := U) (U := U.calling g' mk a) (Vm.Alike.refl U.vm) qK, qD⟩, va_recv hK hPc hci hq0, fun U hU hW => ⟨rfl, by rw [hU], by rw [hU]; exact hPc, va_K.moved hW.alike hK, hDc.weaken (fun _ _ _ _ => trivial)⟩⟩ rfl hn hl.1 hst (lv_room hcat) hd hf
  intro T0 hT X0
  obtain ⟨v, st₀, t, T', L, h0, X', hL, e1, e2, ⟨⟨v2, u, hv, hp, hPu, hKu, hDu⟩, hz, hk⟩, st⟩ := hrun T0 hT X0
  cases hv
  rw [h0] at hz hk
  rw [← e1] at hPu hz hk
  obtain ⟨hP2, hD2⟩ := va_join hP hD isC isR hC hRr hnR hdis hk hFc hPu hDu
  have hS2 : va_S A s.heap T'.heap (locs ++ L) := ⟨Nat.le_trans hS.1 hz, fun q h1 h2 => by rw [hk q (Nat.lt_of_lt_of_le h1 hS.1) (fun z => h2 (hFc q z))]; exact hS.2.1 q h1 h2, fun q hq => by
    rcases List.mem_append.mp hq with h | h
    · exact hS.2.2 q h
    · exact hFc _ (hL q h)⟩
  obtain ⟨t2, a1, b1⟩ := kk v u hp T'.heap (locs ++ L) ls hP2 hD2 hS2 hl T' rfl X'
  exact ⟨t2, st t2 a1, b1⟩

theorem x_callS (C : Cx l g E R own nm cc Ts nL) {n : Nat} (isC isR : List Nat) (hM : Ct l g y wsy rm mc ms wc (As) Post) (hG : GoodIn Ts (va_wsS own index y wsy)) (hw : wsy = Cond.code y bytes maxL rety :: ws') (hdd : y.cls ≠ "java/lang/invoke/MethodHandle" ∧ y.cls ≠ "java/lang/invoke/VarHandle" ∧ (parseMethodDescriptor y.desc).map (fun d => d.parameters.length) = some n) (hrc : rm.cells = mc ∧ rm.slots = ms) (hR : rm.frames + 1 ≤ R.frames ∧ 8 + (maxL + 11) + rm.locals ≤ R.locals) (hn : As.length = n)
    (hC : isC.map (fun i => ws[i]?) = wc.map some) (hRr : isR.map (fun i => ws[i]?) = wr.map some) (hnC : va_nd isC = true) (hnR : va_nd isR = true) (hdis : ∀ i ∈ isR, i ∉ isC) {st0 : List Value} (hst : st0 = As.reverse ++ rest) (hcat : (rest.map fun v => v.category).sum ≤ 8) (hd : decode cc pc = .ok (.invokestatic index, 3)) (hf : cl + mc ≤ R.cells ∧ sl + ms ≤ R.slots) (kk : ∀ (v : Option Value) (u : va_W), Post v u → X l g E R nL (wr ++ u) (cl + mc) (sl + ms) lv (pc + 3) (v.toList ++ rest)) : X l g E R nL ws cl sl lv pc st0 := by
  obtain ⟨p, e, s, m, args, below, meth, c, A, Q⟩ := E
  obtain ⟨hx, hb, hml, hown, hts, hK, hlck, hA, hnm⟩ := C
  intro H locs ls hP hD hS hl
  have hDc : va_D A wc := hD.sub isC hnC hC
  have hPc : va_P g.1 vwCl wc H := by
    intro k q hk
    have h1 : (isC.map (fun i => ws[i]?))[k]? = some (some q) := by rw [hC, List.getElem?_map, hk]; rfl
    rw [List.getElem?_map] at h1
    cases hi : isC[k]? with
    | none => rw [hi] at h1; cases h1
    | some i => rw [hi] at h1; exact hP i q (Option.some.inj h1)
  have hFc := va_free (wc := wc) hD hS hA isC hC
  have hrun := va_runS (rest := rest) (g := F0 m pc ls st0) (l := l) (e := e) (below := below) (meth := meth) (H := H) (locs := locs) (cells := cl) (slots := sl) ⟨hx, hb, hml, hown, hts⟩ (hM H.size) (va_cwS (R := R) n hts hG hw hrc.1 hrc.2 hdd hR) ⟨fun a U g' mk q => by obtain ⟨q0, q1, qP, qK, qD⟩ := q; exact ⟨q0, q1, qP, va_K.moved (u := U) (U := U.calling g' mk a) (Vm.Alike.refl U.vm) qK, qD⟩, fun U hU hW => ⟨rfl, by rw [hU], by rw [hU]; exact hPc, va_K.moved hW.alike hK, hDc.weaken (fun _ _ _ _ => trivial)⟩⟩ rfl hn hl.1 hst (lv_room hcat) hd hf
  intro T0 hT X0
  obtain ⟨v, st₀, t, T', L, h0, X', hL, e1, e2, ⟨⟨v2, u, hv, hp, hPu, hKu, hDu⟩, hz, hk⟩, st⟩ := hrun T0 hT X0
  cases hv
  rw [h0] at hz hk
  rw [← e1] at hPu hz hk
  obtain ⟨hP2, hD2⟩ := va_join hP hD isC isR hC hRr hnR hdis hk hFc hPu hDu
  have hS2 : va_S A s.heap T'.heap (locs ++ L) := ⟨Nat.le_trans hS.1 hz, fun q h1 h2 => by rw [hk q (Nat.lt_of_lt_of_le h1 hS.1) (fun z => h2 (hFc q z))]; exact hS.2.1 q h1 h2, fun q hq => by
    rcases List.mem_append.mp hq with h | h
    · exact hS.2.2 q h
    · exact hFc _ (hL q h)⟩
  obtain ⟨t2, a1, b1⟩ := kk v u hp T'.heap (locs ++ L) ls hP2 hD2 hS2 hl T' rfl X'
  exact ⟨t2, st t2 a1, b1⟩
theorem x_callI (C : Cx l g E R own nm cc Ts nL) {n b : Nat} (isC isR : List Nat) (hM : Ct l g y wsy rm mc ms wc (.ref b :: As) Post) (hG : GoodIn Ts wsy) (hw : wsy = Cond.code y bytes maxL none :: ws') (hdd : y.cls ≠ "java/lang/invoke/MethodHandle" ∧ y.cls ≠ "java/lang/invoke/VarHandle" ∧ (parseMethodDescriptor y.desc).map (fun d => d.parameters.length) = some n) (hini : Cond.initialized y.cls ∈ Ts) (hlk : Cond.methodLink own index y ∈ Ts) (him : Cond.instanceMethod y ∈ Ts) (hy1 : y.name = "<init>") (hrc : rm.cells = mc ∧ rm.slots = ms) (hR : rm.frames + 1 ≤ R.frames ∧ 8 + (maxL + 11) + rm.locals ≤ R.locals) (hn : As.length = n)
    (hC : isC.map (fun i => ws[i]?) = wc.map some) (hRr : isR.map (fun i => ws[i]?) = wr.map some) (hnC : va_nd isC = true) (hnR : va_nd isR = true) (hdis : ∀ i ∈ isR, i ∉ isC) {st0 : List Value} (hst : st0 = As.reverse ++ .ref b :: rest) (hcat : (rest.map fun v => v.category).sum ≤ 8) (hd : decode cc pc = .ok (.invokespecial index, 3)) (hf : cl + mc ≤ R.cells ∧ sl + ms ≤ R.slots) (kk : ∀ (v : Option Value) (u : va_W), Post v u → X l g E R nL (wr ++ u) (cl + mc) (sl + ms) lv (pc + 3) (v.toList ++ rest)) : X l g E R nL ws cl sl lv pc st0 := by
  obtain ⟨p, e, s, m, args, below, meth, c, A, Q⟩ := E
  obtain ⟨hx, hb, hml, hown, hts, hK, hlck, hA, hnm⟩ := C
  intro H locs ls hP hD hS hl
  have hDc : va_D A wc := hD.sub isC hnC hC
  have hPc : va_P g.1 vwCl wc H := by
    intro k q hk
    have h1 : (isC.map (fun i => ws[i]?))[k]? = some (some q) := by rw [hC, List.getElem?_map, hk]; rfl
    rw [List.getElem?_map] at h1
    cases hi : isC[k]? with
    | none => rw [hi] at h1; cases h1
    | some i => rw [hi] at h1; exact hP i q (Option.some.inj h1)
  have hFc := va_free (wc := wc) hD hS hA isC hC
  have hrun := va_runI (rest := rest) (g := F0 m pc ls st0) (l := l) (e := e) (below := below) (meth := meth) (H := H) (locs := locs) (cells := cl) (slots := sl) ⟨hx, hb, hml, hown, hts⟩ (hM H.size) (cwI (R := R) n hts hG hw hrc.1 hrc.2 (hts _ hini) (hts _ hlk) (hts _ him) hy1 hdd hR) ⟨fun a U g' mk q => by obtain ⟨q0, q1, qP, qK, qD⟩ := q; exact ⟨q0, q1, qP, va_K.moved (u := U) (U := U.calling g' mk a) (Vm.Alike.refl U.vm) qK, qD⟩, fun U hU hW => ⟨rfl, by rw [hU], by rw [hU]; exact hPc, va_K.moved hW.alike hK, hDc.weaken (fun _ _ _ _ => trivial)⟩⟩ rfl hn hl.1 hst (lv_room hcat) hd hf
  intro T0 hT X0
  obtain ⟨v, st₀, t, T', L, h0, X', hL, e1, e2, ⟨⟨v2, u, hv, hp, hPu, hKu, hDu⟩, hz, hk⟩, st⟩ := hrun T0 hT X0
  cases hv
  rw [h0] at hz hk
  rw [← e1] at hPu hz hk
  obtain ⟨hP2, hD2⟩ := va_join hP hD isC isR hC hRr hnR hdis hk hFc hPu hDu
  have hS2 : va_S A s.heap T'.heap (locs ++ L) := ⟨Nat.le_trans hS.1 hz, fun q h1 h2 => by rw [hk q (Nat.lt_of_lt_of_le h1 hS.1) (fun z => h2 (hFc q z))]; exact hS.2.1 q h1 h2, fun q hq => by
    rcases List.mem_append.mp hq with h | h
    · exact hS.2.2 q h
    · exact hFc _ (hL q h)⟩
  obtain ⟨t2, a1, b1⟩ := kk v u hp T'.heap (locs ++ L) ls hP2 hD2 hS2 hl T' rfl X'
  exact ⟨t2, st t2 a1, b1⟩
theorem x_mmin (C : Cx l g E R own nm cc Ts nL) {a b : Int} {i : Nat} (hd : decode cc pc = .ok (.invokestatic i, 3)) (hlk : Cond.methodLink own i Lib.Math.min.name ∈ Ts) (hst : Cond.static Lib.Math.min.name ∈ Ts) (hini : Cond.initialized "java/lang/Math" ∈ Ts) (hco : Cond.code Lib.Math.min.name Lib.Math.min.code 2 (some .int) ∈ Ts) (hfr : 1 ≤ R.frames) (hlo : (rest.map fun v => v.category).sum + 13 ≤ R.locals) (hcc : cl ≤ R.cells) (hss : sl ≤ R.slots) (ha : Rg a) (hb2 : Rg b) (k : X l g E R nL ws cl sl lv (pc + 3) (jv (if b < a then b else a) :: rest)) : X l g E R nL ws cl sl lv pc (jv b :: jv a :: rest) := by
  obtain ⟨p, e, s, m, args, below, meth, c, A, Q⟩ := E
  obtain ⟨hx, hb, hml, hown, hts, hK, hlck, hA, hnm⟩ := C
  intro H locs ls hP hD hS hl
  have k := k H locs ls hP hD hS hl
  refine va_mmin hx hb (hml.trans hl.1.symm) hown (hts _ hlk) (hts _ hst) (hts _ hini) (hts _ hco) hfr hlo hcc hss hd ?_
  have e1 : (if iI b < iI a then iI b else iI a) = iI (if b < a then b else a) := by
    by_cases h : b < a
    · rw [if_pos h, if_pos ((iI_lt hb2 ha).mpr h)]
    · rw [if_neg h, if_neg (fun q => h ((iI_lt hb2 ha).mp q))]
  rw [e1]
  exact k
theorem x_mmax (C : Cx l g E R own nm cc Ts nL) {a b : Int} {i : Nat} (hd : decode cc pc = .ok (.invokestatic i, 3)) (hlk : Cond.methodLink own i Lib.Math.max.name ∈ Ts) (hst : Cond.static Lib.Math.max.name ∈ Ts) (hini : Cond.initialized "java/lang/Math" ∈ Ts) (hco : Cond.code Lib.Math.max.name Lib.Math.max.code 2 (some .int) ∈ Ts) (hfr : 1 ≤ R.frames) (hlo : (rest.map fun v => v.category).sum + 13 ≤ R.locals) (hcc : cl ≤ R.cells) (hss : sl ≤ R.slots) (ha : Rg a) (hb2 : Rg b) (k : X l g E R nL ws cl sl lv (pc + 3) (jv (if a < b then b else a) :: rest)) : X l g E R nL ws cl sl lv pc (jv b :: jv a :: rest) := by
  obtain ⟨p, e, s, m, args, below, meth, c, A, Q⟩ := E
  obtain ⟨hx, hb, hml, hown, hts, hK, hlck, hA, hnm⟩ := C
  intro H locs ls hP hD hS hl
  have k := k H locs ls hP hD hS hl
  refine va_mmax hx hb (hml.trans hl.1.symm) hown (hts _ hlk) (hts _ hst) (hts _ hini) (hts _ hco) hfr hlo hcc hss hd ?_
  have e1 : (if iI a < iI b then iI b else iI a) = iI (if a < b then b else a) := by
    by_cases h : a < b
    · rw [if_pos h, if_pos ((iI_lt ha hb2).mpr h)]
    · rw [if_neg h, if_neg (fun q => h ((iI_lt ha hb2).mp q))]
  rw [e1]
  exact k
end XR
end
section
/-! ===== plain facts: rows of keys ===== -/
theorem al_0 {P : Int → Prop} : ∀ i : Int, 0 ≤ i → i < 0 → P i := fun i h0 h1 => absurd h1 (by omega)
theorem al_s {P : Int → Prop} {k : Int} (h : ∀ i : Int, 0 ≤ i → i < k → P i) (hk : P k) : ∀ i : Int, 0 ≤ i → i < k + 1 → P i := fun i h0 h1 => if e : i = k then e ▸ hk else h i h0 (by omega)
/-- f holds n keys, rising, each a number of the document -/
def Kr (n : Int) (f : Int → Int) : Prop := 0 ≤ n ∧ n ≤ 60 ∧ (∀ i : Int, 0 ≤ i → i < n → 0 ≤ f i ∧ f i ≤ 1000000) ∧ ∀ i j : Int, 0 ≤ i → i < j → j < n → f i < f j
def Inr (n : Int) (f : Int → Int) (x : Int) : Prop := ∃ i : Int, 0 ≤ i ∧ i < n ∧ f i = x
/-- k of the n are below x -/
def Bel (n : Int) (f : Int → Int) (x k : Int) : Prop := 0 ≤ k ∧ k ≤ n ∧ (∀ i : Int, 0 ≤ i → i < k → f i < x) ∧ ∀ i : Int, k ≤ i → i < n → x ≤ f i
def Agr (n : Int) (f h : Int → Int) : Prop := ∀ i : Int, 0 ≤ i → i < n → f i = h i
theorem Kr.le {n : Int} {f : Int → Int} (h : Kr n f) {i j : Int} (h0 : 0 ≤ i) (h1 : i ≤ j) (h2 : j < n) : f i ≤ f j := by
  rcases Int.lt_or_eq_of_le h1 with q | q
  · exact Int.le_of_lt (h.2.2.2 i j h0 q h2)
  · rw [q]; exact Int.le_refl _
theorem Bel.of {n : Int} {f : Int → Int} {x k : Int} (h : Kr n f) (h0 : 0 ≤ k ∧ k ≤ n) (h1 : ∀ i : Int, 0 ≤ i → i < k → f i < x) (h2 : k < n → x ≤ f k) : Bel n f x k :=
  ⟨h0.1, h0.2, h1, fun i hi hn => Int.le_trans (h2 (by omega)) (h.le h0.1 hi hn)⟩
/-- how many / the sum of those below n that p picks -/
def cnt (p : Int → Bool) : Nat → Int
  | 0 => 0
  | n + 1 => cnt p n + (if p (n : Int) then 1 else 0)
def smm (p : Int → Bool) (f : Int → Int) : Nat → Int
  | 0 => 0
  | n + 1 => smm p f n + (if p (n : Int) then f (n : Int) else 0)
theorem cnt_s (p : Int → Bool) {k : Int} (h : 0 ≤ k) : cnt p (k + 1).toNat = cnt p k.toNat + (if p k then 1 else 0) := by
  rw [show (k + 1).toNat = k.toNat + 1 by omega, cnt, Int.toNat_of_nonneg h]
theorem smm_s (p : Int → Bool) (f : Int → Int) {k : Int} (h : 0 ≤ k) : smm p f (k + 1).toNat = smm p f k.toNat + (if p k then f k else 0) := by
  rw [show (k + 1).toNat = k.toNat + 1 by omega, smm, Int.toNat_of_nonneg h]
theorem cnt_rg (p : Int → Bool) (n : Nat) : 0 ≤ cnt p n ∧ cnt p n ≤ n := by
  induction n with
  | zero => simp [cnt]
  | succ n ih => rw [cnt]; split <;> omega
theorem smm_rg (p : Int → Bool) (f : Int → Int) (n : Nat) (hf : ∀ i : Int, 0 ≤ i → i < n → 0 ≤ f i ∧ f i ≤ 1000000) : 0 ≤ smm p f n ∧ smm p f n ≤ 1000000 * n := by
  induction n with
  | zero => simp [smm]
  | succ n ih =>
    have h1 := ih (fun i h0 h1 => hf i h0 (by omega))
    have h2 := hf (n : Int) (by omega) (by omega)
    rw [smm]; split <;> omega
/-- the numbers from a to b -/
def inab (f : Int → Int) (a b : Int) : Int → Bool := fun i => decide (a ≤ f i ∧ f i ≤ b)
theorem cnt_bel {n : Int} {f : Int → Int} {a b k1 k2 : Int} (h1 : Bel n f a k1) (h2 : Bel n f (b + 1) k2) (hab : a ≤ b) : k2 - k1 = cnt (inab f a b) n.toNat := by
  obtain ⟨a0, a1, a2, a3⟩ := h1
  obtain ⟨b0, b1, b2, b3⟩ := h2
  have h12 : k1 ≤ k2 := by
    rcases Int.lt_or_le k2 k1 with q | q
    · have := a2 k2 b0 q
      have := b3 k2 (Int.le_refl _) (by omega)
      omega
    · exact q
  have key : ∀ m : Nat, (m : Int) ≤ n → cnt (inab f a b) m = min (m : Int) k2 - min (m : Int) k1 := by
    intro m
    induction m with
    | zero => intro _; simp [cnt]; omega
    | succ m ih =>
      intro hm
      rw [cnt, ih (by omega)]
      by_cases c1 : (m : Int) < k1
      · have := a2 m (by omega) c1
        rw [if_neg (by simp [inab]; omega)]
        omega
      · by_cases c2 : (m : Int) < k2
        · have := a3 m (by omega) (by omega)
          have := b2 m (by omega) c2
          rw [if_pos (by simp [inab]; omega)]
          omega
        · have := b3 m (by omega) (by omega)
          rw [if_neg (by simp [inab]; omega)]
          omega
  rw [key n.toNat (by omega)]
  omega
/-- the sum from k1 to k2 -/
theorem smm_bel {n : Int} {f : Int → Int} {a b k1 k2 : Int} (h1 : Bel n f a k1) (h2 : Bel n f (b + 1) k2) (hab : a ≤ b) : k1 ≤ k2 ∧ ∀ m : Nat, (m : Int) ≤ n → ((m : Int) ≤ k1 → smm (inab f a b) f m = 0) ∧ (k2 ≤ (m : Int) → smm (inab f a b) f m = smm (inab f a b) f k2.toNat) ∧ (k1 ≤ (m : Int) → (m : Int) < k2 → smm (inab f a b) f (m + 1) = smm (inab f a b) f m + f m) := by
  obtain ⟨a0, a1, a2, a3⟩ := h1
  obtain ⟨b0, b1, b2, b3⟩ := h2
  have h12 : k1 ≤ k2 := by
    rcases Int.lt_or_le k2 k1 with q | q
    · have := a2 k2 b0 q
      have := b3 k2 (Int.le_refl _) (by omega)
      omega
    · exact q
  have third : ∀ m : Nat, k1 ≤ (m : Int) → (m : Int) < k2 → smm (inab f a b) f (m + 1) = smm (inab f a b) f m + f m := by
    intro m h h'
    have q1 := a3 (m : Int) h (by omega)
    have q2 := b2 (m : Int) (by omega) h'
    show smm (inab f a b) f m + (if inab f a b (m : Int) then f (m : Int) else 0) = _
    rw [if_pos (by simp only [inab, decide_eq_true_eq]; exact ⟨q1, by omega⟩)]
  refine ⟨h12, fun m hm => ⟨?_, ?_, third m⟩⟩
  · induction m with
    | zero => intro _; rfl
    | succ m ih =>
      intro h
      have q := a2 (m : Int) (by omega) (by omega)
      show smm (inab f a b) f m + (if inab f a b (m : Int) then f (m : Int) else 0) = _
      rw [ih (by omega) (by omega), if_neg (by simp only [inab, decide_eq_true_eq]; omega)]
      rfl
  · induction m with
    | zero => intro h; rw [show k2.toNat = 0 by omega]
    | succ m ih =>
      intro h
      by_cases c : k2 ≤ (m : Int)
      · have q := b3 (m : Int) c (by omega)
        show smm (inab f a b) f m + (if inab f a b (m : Int) then f (m : Int) else 0) = _
        rw [ih (by omega) c, if_neg (by simp only [inab, decide_eq_true_eq]; omega)]
        omega
      · rw [show m + 1 = k2.toNat by omega]
/-- x comes in at place k / the key of place k goes -/
def Ins (n : Int) (f : Int → Int) (x k : Int) (h : Int → Int) : Prop := Bel n f x k ∧ (∀ i : Int, 0 ≤ i → i < k → h i = f i) ∧ h k = x ∧ ∀ i : Int, k < i → i ≤ n → h i = f (i - 1)
def Del (n : Int) (f : Int → Int) (x k : Int) (h : Int → Int) : Prop := 0 ≤ k ∧ k < n ∧ f k = x ∧ (∀ i : Int, 0 ≤ i → i < k → h i = f i) ∧ ∀ i : Int, k ≤ i → i < n - 1 → h i = f (i + 1)
theorem Bel.at {n : Int} {f : Int → Int} {x k : Int} (hk : Kr n f) (h : Bel n f x k) (hi : Inr n f x) : k < n ∧ f k = x := by
  obtain ⟨i, h0, h1, h2⟩ := hi
  obtain ⟨a0, a1, a2, a3⟩ := h
  rcases Int.lt_or_le i k with q | q
  · have := a2 i h0 q
    omega
  · have h4 : k < n := by omega
    have := hk.le a0 q h1
    have := a3 k (Int.le_refl _) h4
    exact ⟨h4, by omega⟩
end
section
set_option maxRecDepth 100000 in
theorem hiX2_size_2 : ∀ w ∈ wsX20, w ∈ wsX2_size := by decide +kernel
set_option maxRecDepth 100000 in
theorem hfX2_size_15 : Cond.fieldLink RX2 15 "KeyGuess$Keys" "size" "I" ∈ wsX2_size := by decide +kernel
set_option maxHeartbeats 4000000 in
set_option maxRecDepth 100000 in
/-- Keys.size -/
theorem ctX2_size (l : Launch) (g : xG) (a : Nat) (b : Nat) (n : Int) (f : Int → Int) (hn : 0 ≤ n ∧ n ≤ 60) : Ct l g yX2_size wsX2_size ({ frames := 0, cells := 0, slots := 0, locals := 0 } : Room) 0 0 [(a, ob 2 [.ref b, jv n]), (b, ai g 60 f)] [.ref a] (fun v u => v = some (jv n) ∧ u = [(a, ob 2 [.ref b, jv n]), (b, ai g 60 f)] ∧ (True)) := by
  refine ct_of (cc := cX2_size) (nL := 1) (ret := (some .int)) (by decide) rfl (Nat.le_of_ble_eq_true rfl) ?_
  intro E C Rt0
  have C : Cx l g E ({ frames := 0, cells := 0, slots := 0, locals := 0 } : Room) RX2 "size" cX2_size wsX2_size 1 := C
  show X l g E ({ frames := 0, cells := 0, slots := 0, locals := 0 } : Room) 1 [(a, ob 2 [.ref b, jv n]), (b, ai g 60 f)] 0 0 [(0, .ref a)] 0 []
  refine x_aload_n (pc := 0) C 0 dX2_size_0 rfl ?_
  refine x_get (pc := 1) C 0 1 dX2_size_1 hiX2_size_2 hfX2_size_15 rfl rfl rfl (by decide) rfl ?_
  refine x_iret (pc := 4) C Rt0 dX2_size_4 rfl ?_
  refine ⟨rfl, rfl, ?_⟩
  trivial

set_option maxRecDepth 100000 in
theorem hiX2_key_2 : ∀ w ∈ wsX20, w ∈ wsX2_key := by decide +kernel
set_option maxRecDepth 100000 in
theorem hfX2_key_15 : Cond.fieldLink RX2 15 "KeyGuess$Keys" "size" "I" ∈ wsX2_key := by decide +kernel
set_option maxRecDepth 100000 in
theorem hfX2_key_9 : Cond.fieldLink RX2 9 "KeyGuess$Keys" "cells" "[I" ∈ wsX2_key := by decide +kernel
set_option maxHeartbeats 4000000 in
set_option maxRecDepth 100000 in
/-- Keys.key -/
theorem ctX2_key (l : Launch) (g : xG) (a : Nat) (b : Nat) (n : Int) (f : Int → Int) (k : Int) (hn : 0 ≤ n ∧ n ≤ 60) (hr : Rg k) : Ct l g yX2_key wsX2_key ({ frames := 0, cells := 0, slots := 0, locals := 0 } : Room) 0 0 [(a, ob 2 [.ref b, jv n]), (b, ai g 60 f)] [.ref a, jv k] (fun v u => (v = some (jv (f k)) ∧ u = [(a, ob 2 [.ref b, jv n]), (b, ai g 60 f)] ∧ (0 ≤ k ∧ k < n)) ∨ (v = some (jv (-1)) ∧ u = [(a, ob 2 [.ref b, jv n]), (b, ai g 60 f)] ∧ (k < 0 ∨ n ≤ k))) := by
  refine ct_of (cc := cX2_key) (nL := 2) (ret := (some .int)) (by decide) rfl (Nat.le_of_ble_eq_true rfl) ?_
  intro E C Rt0
  have C : Cx l g E ({ frames := 0, cells := 0, slots := 0, locals := 0 } : Room) RX2 "key" cX2_key wsX2_key 2 := C
  show X l g E ({ frames := 0, cells := 0, slots := 0, locals := 0 } : Room) 2 [(a, ob 2 [.ref b, jv n]), (b, ai g 60 f)] 0 0 [(0, .ref a), (1, jv k)] 0 []
  have hr1 := hr.1
  have hr2 := hr.2
  refine x_iload_n (pc := 0) C 1 dX2_key_0 rfl ?_
  refine x_if_lt (pc := 1) C 21 dX2_key_1 rfl ⟨by omega, by omega⟩ (fun c_1 => ?_) (fun c_1 => ?_)
  · refine x_iconst (pc := 21) C dX2_key_21 ?_
    refine x_iret (pc := 22) C Rt0 dX2_key_22 rfl ?_
    refine Or.inr (⟨rfl, rfl, ?_⟩)
    omega
  · refine x_iload_n (pc := 4) C 1 dX2_key_4 rfl ?_
    refine x_aload_n (pc := 5) C 0 dX2_key_5 rfl ?_
    refine x_get (pc := 6) C 0 1 dX2_key_6 hiX2_key_2 hfX2_key_15 rfl rfl rfl (by decide) rfl ?_
    refine x_icmp_ge (pc := 9) C 21 dX2_key_9 rfl ⟨by omega, by omega⟩ ⟨by omega, by omega⟩ (fun c_9 => ?_) (fun c_9 => ?_)
    · refine x_iconst (pc := 21) C dX2_key_21 ?_
      refine x_iret (pc := 22) C Rt0 dX2_key_22 rfl ?_
      refine Or.inr (⟨rfl, rfl, ?_⟩)
      omega
    · refine x_aload_n (pc := 12) C 0 dX2_key_12 rfl ?_
      refine x_get (pc := 13) C 0 0 dX2_key_13 hiX2_key_2 hfX2_key_9 rfl rfl rfl (by decide) rfl ?_
      refine x_iload_n (pc := 16) C 1 dX2_key_16 rfl ?_
      refine x_iald (pc := 17) C 1 dX2_key_17 rfl (by omega) (by omega) (by decide) ?_
      refine x_goto (pc := 18) C 22 dX2_key_18 rfl ?_
      refine x_iret (pc := 22) C Rt0 dX2_key_22 rfl ?_
      refine Or.inl ⟨rfl, rfl, ?_⟩
      omega

set_option maxRecDepth 100000 in
theorem hiX2_below_2 : ∀ w ∈ wsX20, w ∈ wsX2_below := by decide +kernel
set_option maxRecDepth 100000 in
theorem hfX2_below_15 : Cond.fieldLink RX2 15 "KeyGuess$Keys" "size" "I" ∈ wsX2_below := by decide +kernel
set_option maxRecDepth 100000 in
theorem hfX2_below_9 : Cond.fieldLink RX2 9 "KeyGuess$Keys" "cells" "[I" ∈ wsX2_below := by decide +kernel
set_option maxHeartbeats 4000000 in
set_option maxRecDepth 100000 in
/-- Keys.below -/
theorem ctX2_below (l : Launch) (g : xG) (a : Nat) (b : Nat) (n : Int) (f : Int → Int) (x : Int) (hk : Kr n f) (hr : Rg x) : Ct l g yX2_below wsX2_below ({ frames := 0, cells := 0, slots := 0, locals := 0 } : Room) 0 0 [(a, ob 2 [.ref b, jv n]), (b, ai g 60 f)] [.ref a, jv x] (fun v u => ∃ (k : Int), v = some (jv k) ∧ u = [(a, ob 2 [.ref b, jv n]), (b, ai g 60 f)] ∧ (Bel n f x k)) := by
  refine ct_of (cc := cX2_below) (nL := 3) (ret := (some .int)) (by decide) rfl (Nat.le_of_ble_eq_true rfl) ?_
  intro E C Rt0
  have C : Cx l g E ({ frames := 0, cells := 0, slots := 0, locals := 0 } : Room) RX2 "below" cX2_below wsX2_below 3 := C
  show X l g E ({ frames := 0, cells := 0, slots := 0, locals := 0 } : Room) 3 [(a, ob 2 [.ref b, jv n]), (b, ai g 60 f)] 0 0 [(0, .ref a), (1, jv x)] 0 []
  have hn0 := hk.1
  have hn1 := hk.2.1
  refine x_iconst (pc := 0) C dX2_below_0 ?_
  refine x_istore_n (pc := 1) C (lv' := [(2, jv 0), (0, .ref a), (1, jv x)]) dX2_below_1 (by decide) rfl ?_
  have L2 : ∀ (nn : Nat) (k : Int), (n - k).toNat < nn → (0 ≤ k ∧ k ≤ n) → (∀ i : Int, 0 ≤ i → i < k → f i < x) → X l g E ({ frames := 0, cells := 0, slots := 0, locals := 0 } : Room) 3 [(a, ob 2 [.ref b, jv n]), (b, ai g 60 f)] 0 0 [(0, .ref a), (1, jv x), (2, jv k)] 2 [] := by
    intro nn
    induction nn with
    | zero => intro k hμ; exact absurd hμ (Nat.not_lt_zero _)
    | succ nn ih2 =>
      intro k hμ hi hlo
      refine x_iload_n (pc := 2) C 2 dX2_below_2 rfl ?_
      refine x_aload_n (pc := 3) C 0 dX2_below_3 rfl ?_
      refine x_get (pc := 4) C 0 1 dX2_below_4 hiX2_below_2 hfX2_below_15 rfl rfl rfl (by decide) rfl ?_
      refine x_icmp_ge (pc := 7) C 26 dX2_below_7 rfl ⟨by omega, by omega⟩ ⟨by omega, by omega⟩ (fun c_7 => ?_) (fun c_7 => ?_)
      · refine x_iload_n (pc := 26) C 2 dX2_below_26 rfl ?_
        refine x_iret (pc := 27) C Rt0 dX2_below_27 rfl ?_
        refine ⟨_, rfl, rfl, ?_⟩
        exact Bel.of hk hi hlo (fun h => absurd h (by omega))
      · refine x_aload_n (pc := 10) C 0 dX2_below_10 rfl ?_
        refine x_get (pc := 11) C 0 0 dX2_below_11 hiX2_below_2 hfX2_below_9 rfl rfl rfl (by decide) rfl ?_
        refine x_iload_n (pc := 14) C 2 dX2_below_14 rfl ?_
        refine x_iald (pc := 15) C 1 dX2_below_15 rfl (by omega) (by omega) (by decide) ?_
        have hb := hk.2.2.1 k (by omega) (by omega)
        refine x_iload_n (pc := 16) C 1 dX2_below_16 rfl ?_
        refine x_icmp_ge (pc := 17) C 26 dX2_below_17 rfl ⟨by omega, by omega⟩ hr (fun c_17 => ?_) (fun c_17 => ?_)
        · refine x_iload_n (pc := 26) C 2 dX2_below_26 rfl ?_
          refine x_iret (pc := 27) C Rt0 dX2_below_27 rfl ?_
          refine ⟨_, rfl, rfl, ?_⟩
          exact Bel.of hk hi hlo (fun _ => by omega)
        · refine x_iinc (pc := 20) C (lv' := [(2, jv (k + 1)), (0, .ref a), (1, jv x)]) 2 dX2_below_20 rfl (by decide) rfl ?_
          refine x_goto (pc := 23) C 2 dX2_below_23 rfl ?_
          refine x_locals (lv' := [(0, .ref a), (1, jv x), (2, jv (k + 1))]) [1, 2, 0] rfl ?_
          refine ih2 _ ?_ ?_ ?_
          · omega
          · omega
          · exact al_s hlo (by omega)
  refine x_locals (lv' := [(0, .ref a), (1, jv x), (2, jv 0)]) [1, 2, 0] rfl ?_
  refine L2 _ _ (Nat.lt_succ_self _) ?_ ?_
  · omega
  · exact al_0

set_option maxRecDepth 100000 in
theorem hiX2_has_2 : ∀ w ∈ wsX20, w ∈ wsX2_has := by decide +kernel
set_option maxRecDepth 100000 in
theorem hfX2_has_15 : Cond.fieldLink RX2 15 "KeyGuess$Keys" "size" "I" ∈ wsX2_has := by decide +kernel
set_option maxRecDepth 100000 in
theorem hfX2_has_9 : Cond.fieldLink RX2 9 "KeyGuess$Keys" "cells" "[I" ∈ wsX2_has := by decide +kernel
set_option maxHeartbeats 4000000 in
set_option maxRecDepth 100000 in
/-- Keys.has -/
theorem ctX2_has (l : Launch) (g : xG) (a : Nat) (b : Nat) (n : Int) (f : Int → Int) (x : Int) (hk : Kr n f) (hr : Rg x) : Ct l g yX2_has wsX2_has ({ frames := 1, cells := 0, slots := 0, locals := 22 } : Room) 0 0 [(a, ob 2 [.ref b, jv n]), (b, ai g 60 f)] [.ref a, jv x] (fun v u => (v = some (jv 1) ∧ u = [(a, ob 2 [.ref b, jv n]), (b, ai g 60 f)] ∧ (Inr n f x)) ∨ (v = some (jv 0) ∧ u = [(a, ob 2 [.ref b, jv n]), (b, ai g 60 f)] ∧ (¬ Inr n f x))) := by
  refine ct_of (cc := cX2_has) (nL := 3) (ret := (some .boolean)) (by decide) rfl (Nat.le_of_ble_eq_true rfl) ?_
  intro E C Rt0
  have C : Cx l g E ({ frames := 1, cells := 0, slots := 0, locals := 22 } : Room) RX2 "has" cX2_has wsX2_has 3 := C
  show X l g E ({ frames := 1, cells := 0, slots := 0, locals := 22 } : Room) 3 [(a, ob 2 [.ref b, jv n]), (b, ai g 60 f)] 0 0 [(0, .ref a), (1, jv x)] 0 []
  have hn0 := hk.1
  have hn1 := hk.2.1
  refine x_aload_n (pc := 0) C 0 dX2_has_0 rfl ?_
  refine x_iload_n (pc := 1) C 1 dX2_has_1 rfl ?_
  refine x_callV (pc := 2) C (n := 1) (q0 := 0) (rest := []) (wr := []) [0, 1] [] (ctX2_below l g a b n f x hk hr) gX2_has_X2_below rfl ⟨rfl, rfl⟩ (by decide +kernel) ⟨by decide, by decide⟩ rfl rfl rfl rfl rfl (by decide) (by decide) (by decide) rfl (Nat.le_of_ble_eq_true rfl) dX2_has_2 ⟨by decide, by decide⟩ (fun v_2 u_2 h_2 => ?_)
  rcases h_2 with ⟨k, rfl, rfl, f_2⟩
  refine x_world (ws' := [(a, ob 2 [.ref b, jv n]), (b, ai g 60 f)]) [0, 1] (by decide) rfl ?_
  show X l g E ({ frames := 1, cells := 0, slots := 0, locals := 22 } : Room) 3 [(a, ob 2 [.ref b, jv n]), (b, ai g 60 f)] 0 0 [(0, .ref a), (1, jv x)] 5 [jv k]
  have hk0 := f_2.1
  have hk1 := f_2.2.1
  refine x_istore_n (pc := 5) C (lv' := [(2, jv k), (0, .ref a), (1, jv x)]) dX2_has_5 (by decide) rfl ?_
  refine x_iload_n (pc := 6) C 0 dX2_has_6 rfl ?_
  refine x_aload_n (pc := 7) C 1 dX2_has_7 rfl ?_
  refine x_get (pc := 8) C 0 1 dX2_has_8 hiX2_has_2 hfX2_has_15 rfl rfl rfl (by decide) rfl ?_
  refine x_icmp_ge (pc := 11) C 28 dX2_has_11 rfl ⟨by omega, by omega⟩ ⟨by omega, by omega⟩ (fun c_11 => ?_) (fun c_11 => ?_)
  · refine x_iconst (pc := 28) C dX2_has_28 ?_
    refine x_zret (pc := 29) C Rt0 dX2_has_29 rfl rfl ?_
    refine Or.inr (⟨rfl, rfl, ?_⟩)
    intro hh
    obtain ⟨i, h0, h1, h2⟩ := hh
    rcases Int.lt_or_le i k with q | q
    · have := f_2.2.2.1 i h0 q
      omega
    · have := f_2.2.2.2 i q h1
      first | omega | (have := hk.le hk0 q h1; have := f_2.2.2.2 k (Int.le_refl _) (by omega); omega)
  · refine x_aload_n (pc := 14) C 1 dX2_has_14 rfl ?_
    refine x_get (pc := 15) C 0 0 dX2_has_15 hiX2_has_2 hfX2_has_9 rfl rfl rfl (by decide) rfl ?_
    refine x_iload_n (pc := 18) C 0 dX2_has_18 rfl ?_
    refine x_iald (pc := 19) C 1 dX2_has_19 rfl (by omega) (by omega) (by decide) ?_
    have hb := hk.2.2.1 k (by omega) (by omega)
    refine x_iload_n (pc := 20) C 2 dX2_has_20 rfl ?_
    refine x_icmp_ne (pc := 21) C 28 dX2_has_21 rfl ⟨by omega, by omega⟩ hr (fun c_21 => ?_) (fun c_21 => ?_)
    · refine x_iconst (pc := 28) C dX2_has_28 ?_
      refine x_zret (pc := 29) C Rt0 dX2_has_29 rfl rfl ?_
      refine Or.inr (⟨rfl, rfl, ?_⟩)
      intro hh
      obtain ⟨i, h0, h1, h2⟩ := hh
      rcases Int.lt_or_le i k with q | q
      · have := f_2.2.2.1 i h0 q
        omega
      · have := f_2.2.2.2 i q h1
        first | omega | (have := hk.le hk0 q h1; have := f_2.2.2.2 k (Int.le_refl _) (by omega); omega)
    · refine x_iconst (pc := 24) C dX2_has_24 ?_
      refine x_goto (pc := 25) C 29 dX2_has_25 rfl ?_
      refine x_zret (pc := 29) C Rt0 dX2_has_29 rfl rfl ?_
      refine Or.inl ⟨rfl, rfl, ?_⟩
      exact ⟨k, hk0, by omega, by omega⟩

set_option maxHeartbeats 4000000 in
set_option maxRecDepth 100000 in
/-- Keys.within -/
theorem ctX2_within (l : Launch) (g : xG) (a : Nat) (b : Nat) (n : Int) (f : Int → Int) (x : Int) (z : Int) (hk : Kr n f) (hx : 0 ≤ x ∧ x ≤ z ∧ z ≤ 1000000) : Ct l g yX2_within wsX2_within ({ frames := 1, cells := 0, slots := 0, locals := 22 } : Room) 0 0 [(a, ob 2 [.ref b, jv n]), (b, ai g 60 f)] [.ref a, jv x, jv z] (fun v u => ∃ (r : Int), v = some (jv r) ∧ u = [(a, ob 2 [.ref b, jv n]), (b, ai g 60 f)] ∧ (r = cnt (inab f x z) n.toNat)) := by
  refine ct_of (cc := cX2_within) (nL := 3) (ret := (some .int)) (by decide) rfl (Nat.le_of_ble_eq_true rfl) ?_
  intro E C Rt0
  have C : Cx l g E ({ frames := 1, cells := 0, slots := 0, locals := 22 } : Room) RX2 "within" cX2_within wsX2_within 3 := C
  show X l g E ({ frames := 1, cells := 0, slots := 0, locals := 22 } : Room) 3 [(a, ob 2 [.ref b, jv n]), (b, ai g 60 f)] 0 0 [(0, .ref a), (1, jv x), (2, jv z)] 0 []
  refine x_aload_n (pc := 0) C 0 dX2_within_0 rfl ?_
  refine x_iload_n (pc := 1) C 2 dX2_within_1 rfl ?_
  refine x_iconst (pc := 2) C dX2_within_2 ?_
  refine x_iadd (pc := 3) C dX2_within_3 ?_
  refine x_callV (pc := 4) C (n := 1) (q0 := 0) (rest := []) (wr := []) [0, 1] [] (ctX2_below l g a b n f (z + 1) hk ⟨by omega, by omega⟩) gX2_within_X2_below rfl ⟨rfl, rfl⟩ (by decide +kernel) ⟨by decide, by decide⟩ rfl rfl rfl rfl rfl (by decide) (by decide) (by decide) rfl (Nat.le_of_ble_eq_true rfl) dX2_within_4 ⟨by decide, by decide⟩ (fun v_4 u_4 h_4 => ?_)
  rcases h_4 with ⟨k2, rfl, rfl, f_4⟩
  refine x_world (ws' := [(a, ob 2 [.ref b, jv n]), (b, ai g 60 f)]) [0, 1] (by decide) rfl ?_
  show X l g E ({ frames := 1, cells := 0, slots := 0, locals := 22 } : Room) 3 [(a, ob 2 [.ref b, jv n]), (b, ai g 60 f)] 0 0 [(0, .ref a), (1, jv x), (2, jv z)] 7 [jv k2]
  refine x_aload_n (pc := 7) C 0 dX2_within_7 rfl ?_
  refine x_iload_n (pc := 8) C 1 dX2_within_8 rfl ?_
  refine x_callV (pc := 9) C (n := 1) (q0 := 0) (rest := [jv k2]) (wr := []) [0, 1] [] (ctX2_below l g a b n f x hk ⟨by omega, by omega⟩) gX2_within_X2_below rfl ⟨rfl, rfl⟩ (by decide +kernel) ⟨by decide, by decide⟩ rfl rfl rfl rfl rfl (by decide) (by decide) (by decide) rfl (Nat.le_of_ble_eq_true rfl) dX2_within_9 ⟨by decide, by decide⟩ (fun v_9 u_9 h_9 => ?_)
  rcases h_9 with ⟨k1, rfl, rfl, f_9⟩
  refine x_world (ws' := [(a, ob 2 [.ref b, jv n]), (b, ai g 60 f)]) [0, 1] (by decide) rfl ?_
  show X l g E ({ frames := 1, cells := 0, slots := 0, locals := 22 } : Room) 3 [(a, ob 2 [.ref b, jv n]), (b, ai g 60 f)] 0 0 [(0, .ref a), (1, jv x), (2, jv z)] 12 [jv k1, jv k2]
  refine x_isub (pc := 12) C dX2_within_12 ?_
  refine x_iret (pc := 13) C Rt0 dX2_within_13 rfl ?_
  refine ⟨_, rfl, rfl, ?_⟩
  exact cnt_bel f_9 f_4 hx.2.1

set_option maxHeartbeats 4000000 in
set_option maxRecDepth 100000 in
/-- Keys.total -/
theorem ctX2_total (l : Launch) (g : xG) (a : Nat) (b : Nat) (n : Int) (f : Int → Int) (x : Int) (z : Int) (hk : Kr n f) (hx : 0 ≤ x ∧ x ≤ z ∧ z ≤ 1000000) : Ct l g yX2_total wsX2_total ({ frames := 1, cells := 0, slots := 0, locals := 22 } : Room) 0 0 [(a, ob 2 [.ref b, jv n]), (b, ai g 60 f)] [.ref a, jv x, jv z] (fun v u => ∃ (s : Int), v = some (Jv s) ∧ u = [(a, ob 2 [.ref b, jv n]), (b, ai g 60 f)] ∧ (s = smm (inab f x z) f n.toNat)) := by
  refine ct_of (cc := cX2_total) (nL := 7) (ret := (some .long)) (by decide) rfl (Nat.le_of_ble_eq_true rfl) ?_
  intro E C Rt0
  have C : Cx l g E ({ frames := 1, cells := 0, slots := 0, locals := 22 } : Room) RX2 "total" cX2_total wsX2_total 7 := C
  show X l g E ({ frames := 1, cells := 0, slots := 0, locals := 22 } : Room) 7 [(a, ob 2 [.ref b, jv n]), (b, ai g 60 f)] 0 0 [(0, .ref a), (1, jv x), (2, jv z)] 0 []
  have hn0 := hk.1
  have hn1 := hk.2.1
  refine x_lconst (pc := 0) C (z := 0) dX2_total_0 rfl ?_
  refine x_lstore_n (pc := 1) C (lv' := [(3, Jv 0), (0, .ref a), (1, jv x), (2, jv z)]) dX2_total_1 (by decide) rfl ?_
  refine x_aload_n (pc := 2) C 1 dX2_total_2 rfl ?_
  refine x_iload_n (pc := 3) C 3 dX2_total_3 rfl ?_
  refine x_iconst (pc := 4) C dX2_total_4 ?_
  refine x_iadd (pc := 5) C dX2_total_5 ?_
  refine x_callV (pc := 6) C (n := 1) (q0 := 0) (rest := []) (wr := []) [0, 1] [] (ctX2_below l g a b n f (z + 1) hk ⟨by omega, by omega⟩) gX2_total_X2_below rfl ⟨rfl, rfl⟩ (by decide +kernel) ⟨by decide, by decide⟩ rfl rfl rfl rfl rfl (by decide) (by decide) (by decide) rfl (Nat.le_of_ble_eq_true rfl) dX2_total_6 ⟨by decide, by decide⟩ (fun v_6 u_6 h_6 => ?_)
  rcases h_6 with ⟨k2, rfl, rfl, f_6⟩
  refine x_world (ws' := [(a, ob 2 [.ref b, jv n]), (b, ai g 60 f)]) [0, 1] (by decide) rfl ?_
  show X l g E ({ frames := 1, cells := 0, slots := 0, locals := 22 } : Room) 7 [(a, ob 2 [.ref b, jv n]), (b, ai g 60 f)] 0 0 [(3, Jv 0), (0, .ref a), (1, jv x), (2, jv z)] 9 [jv k2]
  refine x_istore (pc := 9) C (lv' := [(5, jv k2), (3, Jv 0), (0, .ref a), (1, jv x), (2, jv z)]) dX2_total_9 (by decide) rfl ?_
  refine x_aload_n (pc := 11) C 2 dX2_total_11 rfl ?_
  refine x_iload_n (pc := 12) C 3 dX2_total_12 rfl ?_
  refine x_callV (pc := 13) C (n := 1) (q0 := 0) (rest := []) (wr := []) [0, 1] [] (ctX2_below l g a b n f x hk ⟨by omega, by omega⟩) gX2_total_X2_below rfl ⟨rfl, rfl⟩ (by decide +kernel) ⟨by decide, by decide⟩ rfl rfl rfl rfl rfl (by decide) (by decide) (by decide) rfl (Nat.le_of_ble_eq_true rfl) dX2_total_13 ⟨by decide, by decide⟩ (fun v_13 u_13 h_13 => ?_)
  rcases h_13 with ⟨k1, rfl, rfl, f_13⟩
  refine x_world (ws' := [(a, ob 2 [.ref b, jv n]), (b, ai g 60 f)]) [0, 1] (by decide) rfl ?_
  show X l g E ({ frames := 1, cells := 0, slots := 0, locals := 22 } : Room) 7 [(a, ob 2 [.ref b, jv n]), (b, ai g 60 f)] 0 0 [(5, jv k2), (3, Jv 0), (0, .ref a), (1, jv x), (2, jv z)] 16 [jv k1]
  have a0 := f_13.1
  have a1 := f_13.2.1
  have b0 := f_6.1
  have b1 := f_6.2.1
  have hsm := smm_bel f_13 f_6 hx.2.1
  have h12 := hsm.1
  refine x_istore (pc := 16) C (lv' := [(6, jv k1), (5, jv k2), (3, Jv 0), (0, .ref a), (1, jv x), (2, jv z)]) dX2_total_16 (by decide) rfl ?_
  have L18 : ∀ (nn : Nat) (k : Int) (s : Int), (k2 - k).toNat < nn → (k1 ≤ k ∧ k ≤ k2) → (s = smm (inab f x z) f k.toNat) → X l g E ({ frames := 1, cells := 0, slots := 0, locals := 22 } : Room) 7 [(a, ob 2 [.ref b, jv n]), (b, ai g 60 f)] 0 0 [(0, .ref a), (3, Jv s), (5, jv k2), (6, jv k)] 18 [] := by
    intro nn
    induction nn with
    | zero => intro k s hμ; exact absurd hμ (Nat.not_lt_zero _)
    | succ nn ih18 =>
      intro k s hμ hi hs
      refine x_iload (pc := 18) C 3 dX2_total_18 rfl ?_
      refine x_iload (pc := 20) C 2 dX2_total_20 rfl ?_
      refine x_icmp_ge (pc := 22) C 41 dX2_total_22 rfl ⟨by omega, by omega⟩ ⟨by omega, by omega⟩ (fun c_22 => ?_) (fun c_22 => ?_)
      · refine x_lload_n (pc := 41) C 1 dX2_total_41 rfl ?_
        show X l g E ({ frames := 1, cells := 0, slots := 0, locals := 22 } : Room) 7 [(a, ob 2 [.ref b, jv n]), (b, ai g 60 f)] 0 0 [(0, .ref a), (3, Jv s), (5, jv k2), (6, jv k)] 42 [.long (lI s)]
        refine x_lret (pc := 42) C Rt0 dX2_total_42 rfl ?_
        refine ⟨_, rfl, rfl, ?_⟩
        rw [hs]; rw [show k = k2 by omega]; exact ((hsm.2 n.toNat (by omega)).2.1 (by omega)).symm
      · refine x_lload_n (pc := 25) C 1 dX2_total_25 rfl ?_
        refine x_aload_n (pc := 26) C 0 dX2_total_26 rfl ?_
        refine x_iload (pc := 27) C 3 dX2_total_27 rfl ?_
        refine x_callV (pc := 29) C (n := 1) (q0 := 0) (rest := [Jv s]) (wr := []) [0, 1] [] (ctX2_key l g a b n f k ⟨hn0, hn1⟩ ⟨by omega, by omega⟩) gX2_total_X2_key rfl ⟨rfl, rfl⟩ (by decide +kernel) ⟨by decide, by decide⟩ rfl rfl rfl rfl rfl (by decide) (by decide) (by decide) rfl (Nat.le_of_ble_eq_true rfl) dX2_total_29 ⟨by decide, by decide⟩ (fun v_29 u_29 h_29 => ?_)
        rcases h_29 with ⟨rfl, rfl, f_29⟩ | ⟨rfl, rfl, f_29⟩
        · refine x_world (ws' := [(a, ob 2 [.ref b, jv n]), (b, ai g 60 f)]) [0, 1] (by decide) rfl ?_
          show X l g E ({ frames := 1, cells := 0, slots := 0, locals := 22 } : Room) 7 [(a, ob 2 [.ref b, jv n]), (b, ai g 60 f)] 0 0 [(0, .ref a), (3, Jv s), (5, jv k2), (6, jv k)] 32 [jv (f k), Jv s]
          have hb := hk.2.2.1 k (by omega) (by omega)
          refine x_i2l (pc := 32) C dX2_total_32 ⟨by omega, by omega⟩ ?_
          refine x_ladd (pc := 33) C dX2_total_33 ?_
          refine x_lstore_n (pc := 34) C (lv' := [(3, Jv (s + (f k))), (0, .ref a), (5, jv k2), (6, jv k)]) dX2_total_34 (by decide) rfl ?_
          refine x_iinc (pc := 35) C (lv' := [(6, jv (k + 1)), (3, Jv (s + (f k))), (0, .ref a), (5, jv k2)]) 3 dX2_total_35 rfl (by decide) rfl ?_
          refine x_goto (pc := 38) C 18 dX2_total_38 rfl ?_
          refine x_locals (lv' := [(0, .ref a), (3, Jv (s + (f k))), (5, jv k2), (6, jv (k + 1))]) [2, 1, 3, 0] rfl ?_
          refine ih18 _ _ ?_ ?_ ?_
          · omega
          · omega
          · have h := (hsm.2 k.toNat (by omega)).2.2 (by omega) (by omega)
            rw [show (k + 1).toNat = k.toNat + 1 by omega, h, Int.toNat_of_nonneg (by omega), hs]
        · refine x_world (ws' := [(a, ob 2 [.ref b, jv n]), (b, ai g 60 f)]) [0, 1] (by decide) rfl ?_
          show X l g E ({ frames := 1, cells := 0, slots := 0, locals := 22 } : Room) 7 [(a, ob 2 [.ref b, jv n]), (b, ai g 60 f)] 0 0 [(0, .ref a), (3, Jv s), (5, jv k2), (6, jv k)] 32 [jv (-1), Jv s]
          exact absurd f_29 (by omega)
  refine x_locals (lv' := [(0, .ref a), (3, Jv 0), (5, jv k2), (6, jv k1)]) [3, 2, 1, 0] rfl ?_
  refine L18 _ _ _ (Nat.lt_succ_self _) ?_ ?_
  · omega
  · exact ((hsm.2 k1.toNat (by omega)).1 (by omega)).symm

set_option maxRecDepth 100000 in
theorem hiX2_clear_2 : ∀ w ∈ wsX20, w ∈ wsX2_clear := by decide +kernel
set_option maxRecDepth 100000 in
theorem hfX2_clear_15 : Cond.fieldLink RX2 15 "KeyGuess$Keys" "size" "I" ∈ wsX2_clear := by decide +kernel
set_option maxHeartbeats 4000000 in
set_option maxRecDepth 100000 in
/-- Keys.clear -/
theorem ctX2_clear (l : Launch) (g : xG) (a : Nat) (b : Nat) (n : Int) (f : Int → Int) (hn : 0 ≤ n ∧ n ≤ 60) : Ct l g yX2_clear wsX2_clear ({ frames := 0, cells := 0, slots := 0, locals := 0 } : Room) 0 0 [(a, ob 2 [.ref b, jv n]), (b, ai g 60 f)] [.ref a] (fun v u => v = none ∧ u = [(a, ob 2 [.ref b, jv 0]), (b, ai g 60 f)] ∧ (True)) := by
  refine ct_of (cc := cX2_clear) (nL := 1) (ret := none) (by decide) rfl (Nat.le_of_ble_eq_true rfl) ?_
  intro E C Rt0
  have C : Cx l g E ({ frames := 0, cells := 0, slots := 0, locals := 0 } : Room) RX2 "clear" cX2_clear wsX2_clear 1 := C
  show X l g E ({ frames := 0, cells := 0, slots := 0, locals := 0 } : Room) 1 [(a, ob 2 [.ref b, jv n]), (b, ai g 60 f)] 0 0 [(0, .ref a)] 0 []
  refine x_aload_n (pc := 0) C 0 dX2_clear_0 rfl ?_
  refine x_iconst (pc := 1) C dX2_clear_1 ?_
  refine x_put (pc := 2) C (ty := .int) (ws' := [(a, ob 2 [.ref b, jv 0]), (b, ai g 60 f)]) tyX2 0 1 dX2_clear_2 hiX2_clear_2 tyX2_ok nmX2 hfX2_clear_15 rfl rfl rfl (by decide) rfl (by decide +kernel) rfl rfl (Nat.le_of_ble_eq_true rfl) rfl ?_
  refine x_vret (pc := 5) C Rt0 dX2_clear_5 rfl ?_
  refine ⟨rfl, rfl, ?_⟩
  trivial

set_option maxRecDepth 100000 in
theorem hiX2_append_2 : ∀ w ∈ wsX20, w ∈ wsX2_append := by decide +kernel
set_option maxRecDepth 100000 in
theorem hfX2_append_15 : Cond.fieldLink RX2 15 "KeyGuess$Keys" "size" "I" ∈ wsX2_append := by decide +kernel
set_option maxRecDepth 100000 in
theorem hfX2_append_9 : Cond.fieldLink RX2 9 "KeyGuess$Keys" "cells" "[I" ∈ wsX2_append := by decide +kernel
set_option maxHeartbeats 4000000 in
set_option maxRecDepth 100000 in
/-- Keys.append -/
theorem ctX2_append (l : Launch) (g : xG) (a : Nat) (b : Nat) (n : Int) (f : Int → Int) (x : Int) (hn : 0 ≤ n ∧ n < 60) : Ct l g yX2_append wsX2_append ({ frames := 0, cells := 0, slots := 0, locals := 0 } : Room) 0 0 [(a, ob 2 [.ref b, jv n]), (b, ai g 60 f)] [.ref a, jv x] (fun v u => v = none ∧ u = [(a, ob 2 [.ref b, jv (n + 1)]), (b, ai g 60 (up f n x))] ∧ (True)) := by
  refine ct_of (cc := cX2_append) (nL := 2) (ret := none) (by decide) rfl (Nat.le_of_ble_eq_true rfl) ?_
  intro E C Rt0
  have C : Cx l g E ({ frames := 0, cells := 0, slots := 0, locals := 0 } : Room) RX2 "append" cX2_append wsX2_append 2 := C
  show X l g E ({ frames := 0, cells := 0, slots := 0, locals := 0 } : Room) 2 [(a, ob 2 [.ref b, jv n]), (b, ai g 60 f)] 0 0 [(0, .ref a), (1, jv x)] 0 []
  refine x_aload_n (pc := 0) C 0 dX2_append_0 rfl ?_
  refine x_get (pc := 1) C 0 1 dX2_append_1 hiX2_append_2 hfX2_append_15 rfl rfl rfl (by decide) rfl ?_
  refine x_aload_n (pc := 4) C 0 dX2_append_4 rfl ?_
  refine x_get (pc := 5) C 0 0 dX2_append_5 hiX2_append_2 hfX2_append_9 rfl rfl rfl (by decide) rfl ?_
  refine x_alen (pc := 8) C 1 dX2_append_8 rfl ?_
  rw [show ((60 : Nat) : Int) = 60 from rfl]
  refine x_icmp_ge (pc := 9) C 32 dX2_append_9 rfl ⟨by omega, by omega⟩ ⟨by omega, by omega⟩ (fun c_9 => ?_) (fun c_9 => ?_)
  · exact absurd c_9 (by omega)
  · refine x_aload_n (pc := 12) C 0 dX2_append_12 rfl ?_
    refine x_get (pc := 13) C 0 0 dX2_append_13 hiX2_append_2 hfX2_append_9 rfl rfl rfl (by decide) rfl ?_
    refine x_aload_n (pc := 16) C 0 dX2_append_16 rfl ?_
    refine x_get (pc := 17) C 0 1 dX2_append_17 hiX2_append_2 hfX2_append_15 rfl rfl rfl (by decide) rfl ?_
    refine x_iload_n (pc := 20) C 1 dX2_append_20 rfl ?_
    refine x_iast (pc := 21) C (ws' := [(a, ob 2 [.ref b, jv n]), (b, ai g 60 (up f n x))]) 1 dX2_append_21 rfl (by omega) (by omega) (by decide) rfl ?_
    refine x_aload_n (pc := 22) C 0 dX2_append_22 rfl ?_
    refine x_dup (pc := 23) C dX2_append_23 rfl ?_
    refine x_get (pc := 24) C 0 1 dX2_append_24 hiX2_append_2 hfX2_append_15 rfl rfl rfl (by decide) rfl ?_
    refine x_iconst (pc := 27) C dX2_append_27 ?_
    refine x_iadd (pc := 28) C dX2_append_28 ?_
    refine x_put (pc := 29) C (ty := .int) (ws' := [(a, ob 2 [.ref b, jv (n + 1)]), (b, ai g 60 (up f n x))]) tyX2 0 1 dX2_append_29 hiX2_append_2 tyX2_ok nmX2 hfX2_append_15 rfl rfl rfl (by decide) rfl (by decide +kernel) rfl rfl (Nat.le_of_ble_eq_true rfl) rfl ?_
    refine x_vret (pc := 32) C Rt0 dX2_append_32 rfl ?_
    refine ⟨rfl, rfl, ?_⟩
    trivial

set_option maxRecDepth 100000 in
theorem hiX2_copy_2 : ∀ w ∈ wsX20, w ∈ wsX2_copy := by decide +kernel
set_option maxRecDepth 100000 in
theorem hfX2_copy_15 : Cond.fieldLink RX2 15 "KeyGuess$Keys" "size" "I" ∈ wsX2_copy := by decide +kernel
set_option maxHeartbeats 4000000 in
set_option maxRecDepth 100000 in
/-- Keys.copy -/
theorem ctX2_copy (l : Launch) (g : xG) (a : Nat) (b : Nat) (n : Int) (f : Int → Int) (c : Nat) (d : Nat) (p : Int) (h : Int → Int) (hp : 0 ≤ p ∧ p ≤ 60) : Ct l g yX2_copy wsX2_copy ({ frames := 1, cells := 0, slots := 0, locals := 21 } : Room) 0 0 [(a, ob 2 [.ref b, jv n]), (b, ai g 60 f), (c, ob 2 [.ref d, jv p]), (d, ai g 60 h)] [.ref a, .ref c] (fun v u => ∃ (f' : Int → Int), v = none ∧ u = [(a, ob 2 [.ref b, jv p]), (b, ai g 60 f'), (c, ob 2 [.ref d, jv p]), (d, ai g 60 h)] ∧ (Agr p f' h)) := by
  refine ct_of (cc := cX2_copy) (nL := 3) (ret := none) (by decide) rfl (Nat.le_of_ble_eq_true rfl) ?_
  intro E C Rt0
  have C : Cx l g E ({ frames := 1, cells := 0, slots := 0, locals := 21 } : Room) RX2 "copy" cX2_copy wsX2_copy 3 := C
  show X l g E ({ frames := 1, cells := 0, slots := 0, locals := 21 } : Room) 3 [(a, ob 2 [.ref b, jv n]), (b, ai g 60 f), (c, ob 2 [.ref d, jv p]), (d, ai g 60 h)] 0 0 [(0, .ref a), (1, .ref c)] 0 []
  refine x_aload_n (pc := 0) C 0 dX2_copy_0 rfl ?_
  refine x_iconst (pc := 1) C dX2_copy_1 ?_
  refine x_put (pc := 2) C (ty := .int) (ws' := [(a, ob 2 [.ref b, jv 0]), (b, ai g 60 f), (c, ob 2 [.ref d, jv p]), (d, ai g 60 h)]) tyX2 0 1 dX2_copy_2 hiX2_copy_2 tyX2_ok nmX2 hfX2_copy_15 rfl rfl rfl (by decide) rfl (by decide +kernel) rfl rfl (Nat.le_of_ble_eq_true rfl) rfl ?_
  refine x_iconst (pc := 5) C dX2_copy_5 ?_
  refine x_istore_n (pc := 6) C (lv' := [(2, jv 0), (0, .ref a), (1, .ref c)]) dX2_copy_6 (by decide) rfl ?_
  have L7 : ∀ (nn : Nat) (k : Int) (f' : Int → Int), (p - k).toNat < nn → (0 ≤ k ∧ k ≤ p) → (Agr k f' h) → X l g E ({ frames := 1, cells := 0, slots := 0, locals := 21 } : Room) 3 [(a, ob 2 [.ref b, jv k]), (b, ai g 60 f'), (c, ob 2 [.ref d, jv p]), (d, ai g 60 h)] 0 0 [(0, .ref a), (1, .ref c), (2, jv k)] 7 [] := by
    intro nn
    induction nn with
    | zero => intro k f' hμ; exact absurd hμ (Nat.not_lt_zero _)
    | succ nn ih7 =>
      intro k f' hμ hi hc
      refine x_iload_n (pc := 7) C 2 dX2_copy_7 rfl ?_
      refine x_aload_n (pc := 8) C 1 dX2_copy_8 rfl ?_
      refine x_callV (pc := 9) C (n := 0) (q0 := 0) (rest := [jv k]) (wr := [(a, ob 2 [.ref b, jv k]), (b, ai g 60 f')]) [2, 3] [0, 1] (ctX2_size l g c d p h hp) gX2_copy_X2_size rfl ⟨rfl, rfl⟩ (by decide +kernel) ⟨by decide, by decide⟩ rfl rfl rfl rfl rfl (by decide) (by decide) (by decide) rfl (Nat.le_of_ble_eq_true rfl) dX2_copy_9 ⟨by decide, by decide⟩ (fun v_9 u_9 h_9 => ?_)
      rcases h_9 with ⟨rfl, rfl, f_9⟩
      refine x_world (ws' := [(a, ob 2 [.ref b, jv k]), (b, ai g 60 f'), (c, ob 2 [.ref d, jv p]), (d, ai g 60 h)]) [0, 1, 2, 3] (by decide) rfl ?_
      show X l g E ({ frames := 1, cells := 0, slots := 0, locals := 21 } : Room) 3 [(a, ob 2 [.ref b, jv k]), (b, ai g 60 f'), (c, ob 2 [.ref d, jv p]), (d, ai g 60 h)] 0 0 [(0, .ref a), (1, .ref c), (2, jv k)] 12 [jv p, jv k]
      refine x_icmp_ge (pc := 12) C 30 dX2_copy_12 rfl ⟨by omega, by omega⟩ ⟨by omega, by omega⟩ (fun c_12 => ?_) (fun c_12 => ?_)
      · obtain rfl : k = p := by omega
        refine x_vret (pc := 30) C Rt0 dX2_copy_30 rfl ?_
        refine ⟨_, rfl, rfl, ?_⟩
        exact hc
      · refine x_aload_n (pc := 15) C 0 dX2_copy_15 rfl ?_
        refine x_aload_n (pc := 16) C 1 dX2_copy_16 rfl ?_
        refine x_iload_n (pc := 17) C 2 dX2_copy_17 rfl ?_
        refine x_callV (pc := 18) C (n := 1) (q0 := 0) (rest := [.ref a]) (wr := [(a, ob 2 [.ref b, jv k]), (b, ai g 60 f')]) [2, 3] [0, 1] (ctX2_key l g c d p h k hp ⟨by omega, by omega⟩) gX2_copy_X2_key rfl ⟨rfl, rfl⟩ (by decide +kernel) ⟨by decide, by decide⟩ rfl rfl rfl rfl rfl (by decide) (by decide) (by decide) rfl (Nat.le_of_ble_eq_true rfl) dX2_copy_18 ⟨by decide, by decide⟩ (fun v_18 u_18 h_18 => ?_)
        rcases h_18 with ⟨rfl, rfl, f_18⟩ | ⟨rfl, rfl, f_18⟩
        · refine x_world (ws' := [(a, ob 2 [.ref b, jv k]), (b, ai g 60 f'), (c, ob 2 [.ref d, jv p]), (d, ai g 60 h)]) [0, 1, 2, 3] (by decide) rfl ?_
          show X l g E ({ frames := 1, cells := 0, slots := 0, locals := 21 } : Room) 3 [(a, ob 2 [.ref b, jv k]), (b, ai g 60 f'), (c, ob 2 [.ref d, jv p]), (d, ai g 60 h)] 0 0 [(0, .ref a), (1, .ref c), (2, jv k)] 21 [jv (h k), .ref a]
          refine x_callV (pc := 21) C (n := 1) (q0 := 0) (rest := []) (wr := [(c, ob 2 [.ref d, jv p]), (d, ai g 60 h)]) [0, 1] [2, 3] (ctX2_append l g a b k f' (h k) ⟨by omega, by omega⟩) gX2_copy_X2_append rfl ⟨rfl, rfl⟩ (by decide +kernel) ⟨by decide, by decide⟩ rfl rfl rfl rfl rfl (by decide) (by decide) (by decide) rfl (Nat.le_of_ble_eq_true rfl) dX2_copy_21 ⟨by decide, by decide⟩ (fun v_21 u_21 h_21 => ?_)
          rcases h_21 with ⟨rfl, rfl, f_21⟩
          refine x_world (ws' := [(a, ob 2 [.ref b, jv (k + 1)]), (b, ai g 60 (up f' k (h k))), (c, ob 2 [.ref d, jv p]), (d, ai g 60 h)]) [2, 3, 0, 1] (by decide) rfl ?_
          show X l g E ({ frames := 1, cells := 0, slots := 0, locals := 21 } : Room) 3 [(a, ob 2 [.ref b, jv (k + 1)]), (b, ai g 60 (up f' k (h k))), (c, ob 2 [.ref d, jv p]), (d, ai g 60 h)] 0 0 [(0, .ref a), (1, .ref c), (2, jv k)] 24 []
          refine x_iinc (pc := 24) C (lv' := [(2, jv (k + 1)), (0, .ref a), (1, .ref c)]) 2 dX2_copy_24 rfl (by decide) rfl ?_
          refine x_goto (pc := 27) C 7 dX2_copy_27 rfl ?_
          refine x_locals (lv' := [(0, .ref a), (1, .ref c), (2, jv (k + 1))]) [1, 2, 0] rfl ?_
          refine ih7 _ _ ?_ ?_ ?_
          · omega
          · omega
          · exact al_s (fun i h0 h1 => by rw [up_ne _ _ (by omega)]; exact hc i h0 h1) (up_eq _ _ _)
        · refine x_world (ws' := [(a, ob 2 [.ref b, jv k]), (b, ai g 60 f'), (c, ob 2 [.ref d, jv p]), (d, ai g 60 h)]) [0, 1, 2, 3] (by decide) rfl ?_
          show X l g E ({ frames := 1, cells := 0, slots := 0, locals := 21 } : Room) 3 [(a, ob 2 [.ref b, jv k]), (b, ai g 60 f'), (c, ob 2 [.ref d, jv p]), (d, ai g 60 h)] 0 0 [(0, .ref a), (1, .ref c), (2, jv k)] 21 [jv (-1), .ref a]
          exact absurd f_18 (by omega)
  refine x_locals (lv' := [(0, .ref a), (1, .ref c), (2, jv 0)]) [1, 2, 0] rfl ?_
  refine L7 _ _ _ (Nat.lt_succ_self _) ?_ ?_
  · omega
  · exact al_0

set_option maxRecDepth 100000 in
theorem hiX2_add_2 : ∀ w ∈ wsX20, w ∈ wsX2_add := by decide +kernel
set_option maxRecDepth 100000 in
theorem hfX2_add_15 : Cond.fieldLink RX2 15 "KeyGuess$Keys" "size" "I" ∈ wsX2_add := by decide +kernel
set_option maxRecDepth 100000 in
theorem hfX2_add_9 : Cond.fieldLink RX2 9 "KeyGuess$Keys" "cells" "[I" ∈ wsX2_add := by decide +kernel
set_option maxHeartbeats 4000000 in
set_option maxRecDepth 100000 in
/-- Keys.add -/
theorem ctX2_add (l : Launch) (g : xG) (a : Nat) (b : Nat) (n : Int) (f : Int → Int) (x : Int) (hk : Kr n f) (hn : n < 60) (hx : 0 ≤ x ∧ x ≤ 1000000) (hni : ¬ Inr n f x) : Ct l g yX2_add wsX2_add ({ frames := 2, cells := 0, slots := 0, locals := 44 } : Room) 0 0 [(a, ob 2 [.ref b, jv n]), (b, ai g 60 f)] [.ref a, jv x] (fun v u => ∃ (k : Int) (f' : Int → Int), v = none ∧ u = [(a, ob 2 [.ref b, jv (n + 1)]), (b, ai g 60 f')] ∧ (Ins n f x k f')) := by
  refine ct_of (cc := cX2_add) (nL := 4) (ret := none) (by decide) rfl (Nat.le_of_ble_eq_true rfl) ?_
  intro E C Rt0
  have C : Cx l g E ({ frames := 2, cells := 0, slots := 0, locals := 44 } : Room) RX2 "add" cX2_add wsX2_add 4 := C
  show X l g E ({ frames := 2, cells := 0, slots := 0, locals := 44 } : Room) 4 [(a, ob 2 [.ref b, jv n]), (b, ai g 60 f)] 0 0 [(0, .ref a), (1, jv x)] 0 []
  have hn0 := hk.1
  refine x_aload_n (pc := 0) C 0 dX2_add_0 rfl ?_
  refine x_get (pc := 1) C 0 1 dX2_add_1 hiX2_add_2 hfX2_add_15 rfl rfl rfl (by decide) rfl ?_
  refine x_aload_n (pc := 4) C 0 dX2_add_4 rfl ?_
  refine x_get (pc := 5) C 0 0 dX2_add_5 hiX2_add_2 hfX2_add_9 rfl rfl rfl (by decide) rfl ?_
  refine x_alen (pc := 8) C 1 dX2_add_8 rfl ?_
  rw [show ((60 : Nat) : Int) = 60 from rfl]
  refine x_icmp_ge (pc := 9) C 20 dX2_add_9 rfl ⟨by omega, by omega⟩ ⟨by omega, by omega⟩ (fun c_9 => ?_) (fun c_9 => ?_)
  · exact absurd c_9 (by omega)
  · refine x_aload_n (pc := 12) C 0 dX2_add_12 rfl ?_
    refine x_iload_n (pc := 13) C 1 dX2_add_13 rfl ?_
    refine x_callV (pc := 14) C (n := 1) (q0 := 0) (rest := []) (wr := []) [0, 1] [] (ctX2_has l g a b n f x hk ⟨by omega, by omega⟩) gX2_add_X2_has rfl ⟨rfl, rfl⟩ (by decide +kernel) ⟨by decide, by decide⟩ rfl rfl rfl rfl rfl (by decide) (by decide) (by decide) rfl (Nat.le_of_ble_eq_true rfl) dX2_add_14 ⟨by decide, by decide⟩ (fun v_14 u_14 h_14 => ?_)
    rcases h_14 with ⟨rfl, rfl, f_14⟩ | ⟨rfl, rfl, f_14⟩
    · refine x_world (ws' := [(a, ob 2 [.ref b, jv n]), (b, ai g 60 f)]) [0, 1] (by decide) rfl ?_
      show X l g E ({ frames := 2, cells := 0, slots := 0, locals := 44 } : Room) 4 [(a, ob 2 [.ref b, jv n]), (b, ai g 60 f)] 0 0 [(0, .ref a), (1, jv x)] 17 [jv 1]
      exact absurd f_14 hni
    · refine x_world (ws' := [(a, ob 2 [.ref b, jv n]), (b, ai g 60 f)]) [0, 1] (by decide) rfl ?_
      show X l g E ({ frames := 2, cells := 0, slots := 0, locals := 44 } : Room) 4 [(a, ob 2 [.ref b, jv n]), (b, ai g 60 f)] 0 0 [(0, .ref a), (1, jv x)] 17 [jv 0]
      refine x_if_eq (pc := 17) C 21 dX2_add_17 rfl ⟨by decide, by decide⟩ (fun _ => ?_) (fun h => absurd h (by decide))
      refine x_aload_n (pc := 21) C 0 dX2_add_21 rfl ?_
      refine x_iload_n (pc := 22) C 1 dX2_add_22 rfl ?_
      refine x_callV (pc := 23) C (n := 1) (q0 := 0) (rest := []) (wr := []) [0, 1] [] (ctX2_below l g a b n f x hk ⟨by omega, by omega⟩) gX2_add_X2_below rfl ⟨rfl, rfl⟩ (by decide +kernel) ⟨by decide, by decide⟩ rfl rfl rfl rfl rfl (by decide) (by decide) (by decide) rfl (Nat.le_of_ble_eq_true rfl) dX2_add_23 ⟨by decide, by decide⟩ (fun v_23 u_23 h_23 => ?_)
      rcases h_23 with ⟨k, rfl, rfl, f_23⟩
      refine x_world (ws' := [(a, ob 2 [.ref b, jv n]), (b, ai g 60 f)]) [0, 1] (by decide) rfl ?_
      show X l g E ({ frames := 2, cells := 0, slots := 0, locals := 44 } : Room) 4 [(a, ob 2 [.ref b, jv n]), (b, ai g 60 f)] 0 0 [(0, .ref a), (1, jv x)] 26 [jv k]
      have hk0 := f_23.1
      have hk1 := f_23.2.1
      refine x_istore_n (pc := 26) C (lv' := [(2, jv k), (0, .ref a), (1, jv x)]) dX2_add_26 (by decide) rfl ?_
      refine x_aload_n (pc := 27) C 1 dX2_add_27 rfl ?_
      refine x_get (pc := 28) C 0 1 dX2_add_28 hiX2_add_2 hfX2_add_15 rfl rfl rfl (by decide) rfl ?_
      refine x_istore_n (pc := 31) C (lv' := [(3, jv n), (2, jv k), (0, .ref a), (1, jv x)]) dX2_add_31 (by decide) rfl ?_
      have L32 : ∀ (nn : Nat) (m : Int) (h : Int → Int), (m).toNat < nn → (k ≤ m ∧ m ≤ n) → (∀ i : Int, 0 ≤ i → i ≤ m → i < n → h i = f i) → (∀ i : Int, m < i → i ≤ n → h i = f (i - 1)) → X l g E ({ frames := 2, cells := 0, slots := 0, locals := 44 } : Room) 4 [(a, ob 2 [.ref b, jv n]), (b, ai g 60 h)] 0 0 [(0, .ref a), (1, jv x), (2, jv k), (3, jv m)] 32 [] := by
        intro nn
        induction nn with
        | zero => intro m h hμ; exact absurd hμ (Nat.not_lt_zero _)
        | succ nn ih32 =>
          intro m h hμ hi ha hb
          refine x_iload_n (pc := 32) C 3 dX2_add_32 rfl ?_
          refine x_iload_n (pc := 33) C 2 dX2_add_33 rfl ?_
          refine x_icmp_le (pc := 34) C 57 dX2_add_34 rfl ⟨by omega, by omega⟩ ⟨by omega, by omega⟩ (fun c_34 => ?_) (fun c_34 => ?_)
          · refine x_aload_n (pc := 57) C 0 dX2_add_57 rfl ?_
            refine x_get (pc := 58) C 0 0 dX2_add_58 hiX2_add_2 hfX2_add_9 rfl rfl rfl (by decide) rfl ?_
            refine x_iload_n (pc := 61) C 2 dX2_add_61 rfl ?_
            refine x_iload_n (pc := 62) C 1 dX2_add_62 rfl ?_
            refine x_iast (pc := 63) C (ws' := [(a, ob 2 [.ref b, jv n]), (b, ai g 60 (up h k x))]) 1 dX2_add_63 rfl (by omega) (by omega) (by decide) rfl ?_
            refine x_aload_n (pc := 64) C 0 dX2_add_64 rfl ?_
            refine x_dup (pc := 65) C dX2_add_65 rfl ?_
            refine x_get (pc := 66) C 0 1 dX2_add_66 hiX2_add_2 hfX2_add_15 rfl rfl rfl (by decide) rfl ?_
            refine x_iconst (pc := 69) C dX2_add_69 ?_
            refine x_iadd (pc := 70) C dX2_add_70 ?_
            refine x_put (pc := 71) C (ty := .int) (ws' := [(a, ob 2 [.ref b, jv (n + 1)]), (b, ai g 60 (up h k x))]) tyX2 0 1 dX2_add_71 hiX2_add_2 tyX2_ok nmX2 hfX2_add_15 rfl rfl rfl (by decide) rfl (by decide +kernel) rfl rfl (Nat.le_of_ble_eq_true rfl) rfl ?_
            refine x_vret (pc := 74) C Rt0 dX2_add_74 rfl ?_
            refine ⟨k, _, rfl, rfl, ?_⟩
            exact ⟨f_23, fun i h0 h1 => by rw [up_ne _ _ (by omega)]; exact ha i h0 (by omega) (by omega), up_eq _ _ _, fun i h1 h2 => by rw [up_ne _ _ (by omega)]; exact hb i (by omega) h2⟩
          · refine x_aload_n (pc := 37) C 0 dX2_add_37 rfl ?_
            refine x_get (pc := 38) C 0 0 dX2_add_38 hiX2_add_2 hfX2_add_9 rfl rfl rfl (by decide) rfl ?_
            refine x_iload_n (pc := 41) C 3 dX2_add_41 rfl ?_
            refine x_aload_n (pc := 42) C 0 dX2_add_42 rfl ?_
            refine x_get (pc := 43) C 0 0 dX2_add_43 hiX2_add_2 hfX2_add_9 rfl rfl rfl (by decide) rfl ?_
            refine x_iload_n (pc := 46) C 3 dX2_add_46 rfl ?_
            refine x_iconst (pc := 47) C dX2_add_47 ?_
            refine x_isub (pc := 48) C dX2_add_48 ?_
            refine x_iald (pc := 49) C 1 dX2_add_49 rfl (by omega) (by omega) (by decide) ?_
            refine x_iast (pc := 50) C (ws' := [(a, ob 2 [.ref b, jv n]), (b, ai g 60 (up h m (h (m - 1))))]) 1 dX2_add_50 rfl (by omega) (by omega) (by decide) rfl ?_
            refine x_iinc (pc := 51) C (lv' := [(3, jv (m + (-1))), (0, .ref a), (1, jv x), (2, jv k)]) 3 dX2_add_51 rfl (by decide) rfl ?_
            refine x_goto (pc := 54) C 32 dX2_add_54 rfl ?_
            refine x_locals (lv' := [(0, .ref a), (1, jv x), (2, jv k), (3, jv (m + (-1)))]) [1, 2, 3, 0] rfl ?_
            refine ih32 _ _ ?_ ?_ ?_ ?_
            · omega
            · omega
            · exact fun i h0 h1 h2 => by rw [up_ne _ _ (by omega)]; exact ha i h0 (by omega) h2
            · intro i h1 h2
              by_cases q : i = m
              · rw [q, up_eq]; exact ha _ (by omega) (by omega) (by omega)
              · rw [up_ne _ _ q]; exact hb i (by omega) h2
      refine x_locals (lv' := [(0, .ref a), (1, jv x), (2, jv k), (3, jv n)]) [2, 3, 1, 0] rfl ?_
      refine L32 _ _ _ (Nat.lt_succ_self _) ?_ ?_ ?_
      · omega
      · exact fun i _ _ _ => rfl
      · exact fun i h1 h2 => absurd h1 (by omega)

set_option maxRecDepth 100000 in
theorem hiX2_drop_2 : ∀ w ∈ wsX20, w ∈ wsX2_drop := by decide +kernel
set_option maxRecDepth 100000 in
theorem hfX2_drop_15 : Cond.fieldLink RX2 15 "KeyGuess$Keys" "size" "I" ∈ wsX2_drop := by decide +kernel
set_option maxRecDepth 100000 in
theorem hfX2_drop_9 : Cond.fieldLink RX2 9 "KeyGuess$Keys" "cells" "[I" ∈ wsX2_drop := by decide +kernel
set_option maxHeartbeats 4000000 in
set_option maxRecDepth 100000 in
/-- Keys.drop -/
theorem ctX2_drop (l : Launch) (g : xG) (a : Nat) (b : Nat) (n : Int) (f : Int → Int) (x : Int) (hk : Kr n f) (hr : Rg x) (hni : Inr n f x) : Ct l g yX2_drop wsX2_drop ({ frames := 2, cells := 0, slots := 0, locals := 44 } : Room) 0 0 [(a, ob 2 [.ref b, jv n]), (b, ai g 60 f)] [.ref a, jv x] (fun v u => ∃ (k : Int) (f' : Int → Int), v = none ∧ u = [(a, ob 2 [.ref b, jv (n - 1)]), (b, ai g 60 f')] ∧ (Del n f x k f')) := by
  refine ct_of (cc := cX2_drop) (nL := 3) (ret := none) (by decide) rfl (Nat.le_of_ble_eq_true rfl) ?_
  intro E C Rt0
  have C : Cx l g E ({ frames := 2, cells := 0, slots := 0, locals := 44 } : Room) RX2 "drop" cX2_drop wsX2_drop 3 := C
  show X l g E ({ frames := 2, cells := 0, slots := 0, locals := 44 } : Room) 3 [(a, ob 2 [.ref b, jv n]), (b, ai g 60 f)] 0 0 [(0, .ref a), (1, jv x)] 0 []
  have hn0 := hk.1
  have hn1 := hk.2.1
  refine x_aload_n (pc := 0) C 0 dX2_drop_0 rfl ?_
  refine x_iload_n (pc := 1) C 1 dX2_drop_1 rfl ?_
  refine x_callV (pc := 2) C (n := 1) (q0 := 0) (rest := []) (wr := []) [0, 1] [] (ctX2_has l g a b n f x hk hr) gX2_drop_X2_has rfl ⟨rfl, rfl⟩ (by decide +kernel) ⟨by decide, by decide⟩ rfl rfl rfl rfl rfl (by decide) (by decide) (by decide) rfl (Nat.le_of_ble_eq_true rfl) dX2_drop_2 ⟨by decide, by decide⟩ (fun v_2 u_2 h_2 => ?_)
  rcases h_2 with ⟨rfl, rfl, f_2⟩ | ⟨rfl, rfl, f_2⟩
  · refine x_world (ws' := [(a, ob 2 [.ref b, jv n]), (b, ai g 60 f)]) [0, 1] (by decide) rfl ?_
    show X l g E ({ frames := 2, cells := 0, slots := 0, locals := 44 } : Room) 3 [(a, ob 2 [.ref b, jv n]), (b, ai g 60 f)] 0 0 [(0, .ref a), (1, jv x)] 5 [jv 1]
    refine x_if_ne (pc := 5) C 9 dX2_drop_5 rfl ⟨by decide, by decide⟩ (fun _ => ?_) (fun h => absurd h (by decide))
    refine x_aload_n (pc := 9) C 0 dX2_drop_9 rfl ?_
    refine x_iload_n (pc := 10) C 1 dX2_drop_10 rfl ?_
    refine x_callV (pc := 11) C (n := 1) (q0 := 0) (rest := []) (wr := []) [0, 1] [] (ctX2_below l g a b n f x hk hr) gX2_drop_X2_below rfl ⟨rfl, rfl⟩ (by decide +kernel) ⟨by decide, by decide⟩ rfl rfl rfl rfl rfl (by decide) (by decide) (by decide) rfl (Nat.le_of_ble_eq_true rfl) dX2_drop_11 ⟨by decide, by decide⟩ (fun v_11 u_11 h_11 => ?_)
    rcases h_11 with ⟨k, rfl, rfl, f_11⟩
    refine x_world (ws' := [(a, ob 2 [.ref b, jv n]), (b, ai g 60 f)]) [0, 1] (by decide) rfl ?_
    show X l g E ({ frames := 2, cells := 0, slots := 0, locals := 44 } : Room) 3 [(a, ob 2 [.ref b, jv n]), (b, ai g 60 f)] 0 0 [(0, .ref a), (1, jv x)] 14 [jv k]
    have hk0 := f_11.1
    have hk1 := f_11.2.1
    have hkx := Bel.at hk f_11 hni
    have hk2 := hkx.1
    refine x_iconst (pc := 14) C dX2_drop_14 ?_
    refine x_iadd (pc := 15) C dX2_drop_15 ?_
    refine x_istore_n (pc := 16) C (lv' := [(2, jv (k + 1)), (0, .ref a), (1, jv x)]) dX2_drop_16 (by decide) rfl ?_
    have L17 : ∀ (nn : Nat) (j : Int) (h : Int → Int), (n - j).toNat < nn → (k + 1 ≤ j ∧ j ≤ n) → (∀ i : Int, 0 ≤ i → i < k → h i = f i) → (∀ i : Int, k ≤ i → i < j - 1 → h i = f (i + 1)) → (∀ i : Int, j - 1 ≤ i → i < n → h i = f i) → X l g E ({ frames := 2, cells := 0, slots := 0, locals := 44 } : Room) 3 [(a, ob 2 [.ref b, jv n]), (b, ai g 60 h)] 0 0 [(0, .ref a), (2, jv j)] 17 [] := by
      intro nn
      induction nn with
      | zero => intro j h hμ; exact absurd hμ (Nat.not_lt_zero _)
      | succ nn ih17 =>
        intro j h hμ hi ha hb hc
        refine x_iload_n (pc := 17) C 1 dX2_drop_17 rfl ?_
        refine x_aload_n (pc := 18) C 0 dX2_drop_18 rfl ?_
        refine x_get (pc := 19) C 0 1 dX2_drop_19 hiX2_drop_2 hfX2_drop_15 rfl rfl rfl (by decide) rfl ?_
        refine x_icmp_ge (pc := 22) C 45 dX2_drop_22 rfl ⟨by omega, by omega⟩ ⟨by omega, by omega⟩ (fun c_22 => ?_) (fun c_22 => ?_)
        · refine x_aload_n (pc := 45) C 0 dX2_drop_45 rfl ?_
          refine x_dup (pc := 46) C dX2_drop_46 rfl ?_
          refine x_get (pc := 47) C 0 1 dX2_drop_47 hiX2_drop_2 hfX2_drop_15 rfl rfl rfl (by decide) rfl ?_
          refine x_iconst (pc := 50) C dX2_drop_50 ?_
          refine x_isub (pc := 51) C dX2_drop_51 ?_
          refine x_put (pc := 52) C (ty := .int) (ws' := [(a, ob 2 [.ref b, jv (n - 1)]), (b, ai g 60 h)]) tyX2 0 1 dX2_drop_52 hiX2_drop_2 tyX2_ok nmX2 hfX2_drop_15 rfl rfl rfl (by decide) rfl (by decide +kernel) rfl rfl (Nat.le_of_ble_eq_true rfl) rfl ?_
          refine x_vret (pc := 55) C Rt0 dX2_drop_55 rfl ?_
          refine ⟨k, _, rfl, rfl, ?_⟩
          exact ⟨hk0, hk2, hkx.2, ha, fun i h1 h2 => hb i h1 (by omega)⟩
        · refine x_aload_n (pc := 25) C 0 dX2_drop_25 rfl ?_
          refine x_get (pc := 26) C 0 0 dX2_drop_26 hiX2_drop_2 hfX2_drop_9 rfl rfl rfl (by decide) rfl ?_
          refine x_iload_n (pc := 29) C 1 dX2_drop_29 rfl ?_
          refine x_iconst (pc := 30) C dX2_drop_30 ?_
          refine x_isub (pc := 31) C dX2_drop_31 ?_
          refine x_aload_n (pc := 32) C 0 dX2_drop_32 rfl ?_
          refine x_get (pc := 33) C 0 0 dX2_drop_33 hiX2_drop_2 hfX2_drop_9 rfl rfl rfl (by decide) rfl ?_
          refine x_iload_n (pc := 36) C 1 dX2_drop_36 rfl ?_
          refine x_iald (pc := 37) C 1 dX2_drop_37 rfl (by omega) (by omega) (by decide) ?_
          refine x_iast (pc := 38) C (ws' := [(a, ob 2 [.ref b, jv n]), (b, ai g 60 (up h (j - 1) (h j)))]) 1 dX2_drop_38 rfl (by omega) (by omega) (by decide) rfl ?_
          refine x_iinc (pc := 39) C (lv' := [(2, jv (j + 1)), (0, .ref a)]) 1 dX2_drop_39 rfl (by decide) rfl ?_
          refine x_goto (pc := 42) C 17 dX2_drop_42 rfl ?_
          refine x_locals (lv' := [(0, .ref a), (2, jv (j + 1))]) [1, 0] rfl ?_
          refine ih17 _ _ ?_ ?_ ?_ ?_ ?_
          · omega
          · omega
          · exact fun i h0 h1 => by rw [up_ne _ _ (by omega)]; exact ha i h0 (by omega)
          · intro i h1 h2
            by_cases q : i = j - 1
            · rw [q, up_eq, show j - 1 + 1 = j by omega]; exact hc _ (by omega) (by omega)
            · rw [up_ne _ _ q]; exact hb i h1 (by omega)
          · exact fun i h0 h1 => by rw [up_ne _ _ (by omega)]; exact hc i (by omega) h1
    refine x_locals (lv' := [(0, .ref a), (2, jv (k + 1))]) [1, 0] rfl ?_
    refine L17 _ _ _ (Nat.lt_succ_self _) ?_ ?_ ?_ ?_
    · omega
    · exact fun i _ _ => rfl
    · exact fun i h1 h2 => absurd h1 (by omega)
    · exact fun i _ _ => rfl
  · refine x_world (ws' := [(a, ob 2 [.ref b, jv n]), (b, ai g 60 f)]) [0, 1] (by decide) rfl ?_
    show X l g E ({ frames := 2, cells := 0, slots := 0, locals := 44 } : Room) 3 [(a, ob 2 [.ref b, jv n]), (b, ai g 60 f)] 0 0 [(0, .ref a), (1, jv x)] 5 [jv 0]
    exact absurd hni f_2
end
section
/-! ===== pieces: the least slope, what keeps it, the fewest ===== -/
theorem mrg {a b : Int} (ha : -100 ≤ a ∧ a ≤ 100) (hb : 0 ≤ b ∧ b ≤ 1000000) : -100000000 ≤ a * b ∧ a * b ≤ 100000000 := by
  have h1 : a * b ≤ 100 * b := Int.mul_le_mul_of_nonneg_right ha.2 hb.1
  have h2 : (-100) * b ≤ a * b := Int.mul_le_mul_of_nonneg_right ha.1 hb.1
  omega
theorem mrgR {a b : Int} (ha : -100 ≤ a ∧ a ≤ 100) (hb : 0 ≤ b ∧ b ≤ 1000000) : Rg (a * b) := by
  have h := mrg ha hb
  exact ⟨by omega, by omega⟩
theorem mrgL {a b : Int} (ha : -100 ≤ a ∧ a ≤ 100) (hb : 0 ≤ b ∧ b ≤ 1000000) : Rl (a * b) := by
  have h := mrg ha hb
  exact ⟨by omega, by omega⟩
/-- the greatest of the lower bounds of d ranks behind i, as a fraction -/
def lw (x : Int → Int) (e i : Int) : Nat → Int × Int
  | 0 => (0, 1)
  | d + 1 => if (lw x e i d).1 * (x (i + (d : Int) + 1) - x i) < ((d : Int) + 1 - e) * (lw x e i d).2 then ((d : Int) + 1 - e, x (i + (d : Int) + 1) - x i) else lw x e i d
def kp (x : Int → Int) (e i : Int) (d : Nat) : Prop := ∀ m : Nat, 1 ≤ m → m ≤ d → (lw x e i d).1 * (x (i + (m : Int)) - x i) ≤ ((m : Int) + e) * (lw x e i d).2
def okd (x : Int → Int) (e i : Int) (d : Nat) : Prop := ∀ m : Nat, 1 ≤ m → m ≤ d → kp x e i m
/-- F, the last rank and the slope of rank i are as the document asks, of n keys x with slack e -/
def Cs (x : Int → Int) (e n : Int) (F : Int → Int) (i Li Ni Di : Int) : Prop := ∃ d : Nat, i + (d : Int) < n ∧ okd x e i d ∧ Li = i + (d : Int) ∧ F i = F (i + (d : Int) + 1) + 1 ∧ (∀ d' : Nat, okd x e i d' → i + (d' : Int) < n → F i ≤ F (i + (d' : Int) + 1) + 1) ∧ (∀ d' : Nat, d < d' → okd x e i d' → i + (d' : Int) < n → F i < F (i + (d' : Int) + 1) + 1) ∧ Ni = (lw x e i d).1 ∧ Di = (lw x e i d).2
theorem lw_t {x : Int → Int} {e i j : Int} {d : Nat} (hj : j = i + (d : Int) + 1) (h : (lw x e i d).1 * (x j - x i) < (j - i - e) * (lw x e i d).2) : lw x e i (d + 1) = (j - i - e, x j - x i) := by
  subst hj
  have e1 : i + (d : Int) + 1 - i - e = (d : Int) + 1 - e := by omega
  rw [e1] at h ⊢
  rw [lw, if_pos h]
theorem lw_f {x : Int → Int} {e i j : Int} {d : Nat} (hj : j = i + (d : Int) + 1) (h : ¬ (lw x e i d).1 * (x j - x i) < (j - i - e) * (lw x e i d).2) : lw x e i (d + 1) = lw x e i d := by
  subst hj
  have e1 : i + (d : Int) + 1 - i - e = (d : Int) + 1 - e := by omega
  rw [e1] at h
  rw [lw, if_neg h]
theorem Kr.gap {n : Int} {x : Int → Int} (h : Kr n x) {i j : Int} (h0 : 0 ≤ i) (h1 : i < j) (h2 : j < n) : 1 ≤ x j - x i ∧ x j - x i ≤ 1000000 := by
  have a := h.2.2.2 i j h0 h1 h2
  have b := h.2.2.1 i h0 (by omega)
  have c := h.2.2.1 j (by omega) h2
  omega
theorem lw_rg {n : Int} {x : Int → Int} (h : Kr n x) {e i : Int} (he : 0 ≤ e) (h0 : 0 ≤ i) (d : Nat) (hd : i + (d : Int) < n) : 0 ≤ (lw x e i d).1 ∧ (lw x e i d).1 ≤ 60 ∧ 1 ≤ (lw x e i d).2 ∧ (lw x e i d).2 ≤ 1000000 := by
  induction d with
  | zero => simp [lw]
  | succ d ih =>
    have q := ih (by omega)
    have w := h.gap h0 (j := i + (d : Int) + 1) (by omega) (by omega)
    have n60 := h.2.1
    rw [lw]
    split
    · rename_i c
      refine ⟨?_, by show (d : Int) + 1 - e ≤ 60; omega, w.1, w.2⟩
      show 0 ≤ (d : Int) + 1 - e
      rcases Int.lt_or_le ((d : Int) + 1 - e) 0 with z | z
      · have a1 : 0 ≤ (lw x e i d).1 * (x (i + (d : Int) + 1) - x i) := Int.mul_nonneg q.1 (by omega)
        have a2 : ((d : Int) + 1 - e) * (lw x e i d).2 ≤ 0 := Int.mul_nonpos_of_nonpos_of_nonneg (by omega) (by omega)
        omega
      · exact z
    · exact q
/-- two fractions by a third between them -/
theorem fr_le {a b c d u v : Int} (hb : 0 < d) (hu : 0 ≤ v) (hv : 0 ≤ b) (h1 : a * d ≤ c * b) (h2 : c * v ≤ u * d) : a * v ≤ u * b := by
  have q1 : a * d * v ≤ c * b * v := Int.mul_le_mul_of_nonneg_right h1 hu
  have q2 : c * v * b ≤ u * d * b := Int.mul_le_mul_of_nonneg_right h2 hv
  have q3 : d * (a * v) ≤ d * (u * b) := by
    have e1 : d * (a * v) = a * d * v := by rw [← Int.mul_assoc, Int.mul_comm d a]
    have e2 : c * b * v = c * v * b := by rw [Int.mul_assoc, Int.mul_comm b v, ← Int.mul_assoc]
    have e3 : d * (u * b) = u * d * b := by rw [← Int.mul_assoc, Int.mul_comm d u]
    rw [e1, e3]
    rw [e2] at q1
    exact Int.le_trans q1 q2
  exact Int.le_of_mul_le_mul_left q3 hb
/-- the least of the upper bounds of d ranks behind i -/
def hgh (x : Int → Int) (e i : Int) (d : Nat) (hn hd : Int) : Prop := (d = 0 ∧ hn = 1 ∧ hd = 0) ∨ ((∃ m : Nat, 1 ≤ m ∧ m ≤ d ∧ hn = (m : Int) + e ∧ hd = x (i + (m : Int)) - x i) ∧ ∀ m : Nat, 1 ≤ m → m ≤ d → hn * (x (i + (m : Int)) - x i) ≤ ((m : Int) + e) * hd)
theorem hgh_rg {n : Int} {x : Int → Int} (h : Kr n x) {e i hn hd : Int} (he : 0 ≤ e ∧ e ≤ 8) (h0 : 0 ≤ i) {d : Nat} (hdn : i + (d : Int) < n) (q : hgh x e i d hn hd) : 1 ≤ hn ∧ hn ≤ 68 ∧ 0 ≤ hd ∧ hd ≤ 1000000 := by
  have n60 := h.2.1
  rcases q with ⟨_, rfl, rfl⟩ | ⟨⟨m, m1, m2, rfl, rfl⟩, _⟩
  · omega
  · have w := h.gap h0 (j := i + (m : Int)) (by omega) (by omega)
    omega
theorem hgh_pos {n : Int} {x : Int → Int} (h : Kr n x) {e i hn hd : Int} (he : 0 ≤ e ∧ e ≤ 8) (h0 : 0 ≤ i) {d : Nat} (hdn : i + (d : Int) < n) (hd1 : 1 ≤ d) (q : hgh x e i d hn hd) : 1 ≤ hd := by
  rcases q with ⟨rfl, _, _⟩ | ⟨⟨m, m1, m2, rfl, rfl⟩, _⟩
  · omega
  · have w := h.gap h0 (j := i + (m : Int)) (by omega) (by omega)
    omega
theorem hgh_t {n : Int} {x : Int → Int} (h : Kr n x) {e i j hn hd : Int} (he : 0 ≤ e ∧ e ≤ 8) (h0 : 0 ≤ i) {d : Nat} (hj : j = i + (d : Int) + 1) (hjn : j < n) (q : hgh x e i d hn hd) (c : (j - i + e) * hd < hn * (x j - x i)) : hgh x e i (d + 1) (j - i + e) (x j - x i) := by
  subst hj
  have e1 : i + (d : Int) + 1 - i + e = ((d + 1 : Nat) : Int) + e := by omega
  have e2 : i + (d : Int) + 1 = i + ((d + 1 : Nat) : Int) := by omega
  rw [e1] at c ⊢
  rw [e2] at c ⊢
  have w := h.gap h0 (j := i + ((d + 1 : Nat) : Int)) (by omega) (by omega)
  refine Or.inr ⟨⟨d + 1, by omega, Nat.le_refl _, rfl, rfl⟩, fun m m1 m2 => ?_⟩
  by_cases hm : m = d + 1
  · subst hm; exact Int.le_refl _
  · rcases q with ⟨rfl, _, _⟩ | ⟨⟨k, k1, k2, rfl, rfl⟩, q2⟩
    · omega
    · have wk := h.gap h0 (j := i + (k : Int)) (by omega) (by omega)
      have wm := h.gap h0 (j := i + (m : Int)) (by omega) (by omega)
      exact fr_le (d := x (i + (k : Int)) - x i) (c := (k : Int) + e) (by omega) (by omega) (by omega) (Int.le_of_lt c) (q2 m m1 (by omega))
theorem hgh_f {n : Int} {x : Int → Int} (h : Kr n x) {e i j hn hd : Int} (he : 0 ≤ e ∧ e ≤ 8) (h0 : 0 ≤ i) {d : Nat} (hj : j = i + (d : Int) + 1) (hjn : j < n) (q : hgh x e i d hn hd) (c : ¬ (j - i + e) * hd < hn * (x j - x i)) : hgh x e i (d + 1) hn hd := by
  subst hj
  have e1 : i + (d : Int) + 1 - i + e = ((d + 1 : Nat) : Int) + e := by omega
  have e2 : i + (d : Int) + 1 = i + ((d + 1 : Nat) : Int) := by omega
  rw [e1] at c
  rw [e2] at c
  have w := h.gap h0 (j := i + ((d + 1 : Nat) : Int)) (by omega) (by omega)
  rcases q with ⟨rfl, rfl, rfl⟩ | ⟨⟨k, k1, k2, hk1, hk2⟩, q2⟩
  · exfalso
    apply c
    rw [Int.mul_zero, Int.one_mul]
    omega
  · refine Or.inr ⟨⟨k, k1, by omega, hk1, hk2⟩, fun m m1 m2 => ?_⟩
    by_cases hm : m = d + 1
    · subst hm; exact Int.not_lt.mp c
    · exact q2 m m1 (by omega)
theorem hgh_kp {n : Int} {x : Int → Int} (h : Kr n x) {e i hn hd : Int} (he : 0 ≤ e ∧ e ≤ 8) (h0 : 0 ≤ i) {d : Nat} (hdn : i + ((d + 1 : Nat) : Int) < n) (q : hgh x e i (d + 1) hn hd) : (lw x e i (d + 1)).1 * hd ≤ hn * (lw x e i (d + 1)).2 ↔ kp x e i (d + 1) := by
  have l := lw_rg h he.1 h0 (d + 1) hdn
  rcases q with ⟨q, _, _⟩ | ⟨⟨k, k1, k2, rfl, rfl⟩, q2⟩
  · exact absurd q (by omega)
  · constructor
    · intro c m m1 m2
      have wk := h.gap h0 (j := i + (k : Int)) (by omega) (by omega)
      have wm := h.gap h0 (j := i + (m : Int)) (by omega) (by omega)
      exact fr_le (d := x (i + (k : Int)) - x i) (c := (k : Int) + e) (by omega) (by omega) (by omega) c (q2 m m1 m2)
    · intro c
      exact c k k1 k2
theorem okd_0 (x : Int → Int) (e i : Int) : okd x e i 0 := fun m h1 h2 => absurd h1 (by omega)
theorem okd_s {x : Int → Int} {e i : Int} {d : Nat} (h : okd x e i d) (hk : kp x e i (d + 1)) : okd x e i (d + 1) := fun m h1 h2 => if q : m = d + 1 then q ▸ hk else h m h1 (by omega)
theorem okd_le {x : Int → Int} {e i : Int} {d d' : Nat} (h : okd x e i d) (hd : d' ≤ d) : okd x e i d' := fun m h1 h2 => h m h1 (by omega)
theorem lw_congr {n : Int} {x y : Int → Int} (h : Agr n x y) {e i : Int} (h0 : 0 ≤ i) (d : Nat) (hd : i + (d : Int) < n) : lw x e i d = lw y e i d := by
  induction d with
  | zero => rfl
  | succ d ih =>
    rw [lw, lw, ih (by omega), h (i + (d : Int) + 1) (by omega) (by omega), h i h0 (by omega)]
theorem kp_congr {n : Int} {x y : Int → Int} (h : Agr n x y) {e i : Int} (h0 : 0 ≤ i) {d : Nat} (hd : i + (d : Int) < n) (k : kp x e i d) : kp y e i d := by
  intro m m1 m2
  have q := k m m1 m2
  rw [lw_congr h h0 d hd, h (i + (m : Int)) (by omega) (by omega), h i h0 (by omega)] at q
  exact q
theorem okd_congr {n : Int} {x y : Int → Int} (h : Agr n x y) {e i : Int} (h0 : 0 ≤ i) {d : Nat} (hd : i + (d : Int) < n) (k : okd x e i d) : okd y e i d := fun m m1 m2 => kp_congr h h0 (by omega) (k m m1 m2)
theorem Agr.symm {n : Int} {x y : Int → Int} (h : Agr n x y) : Agr n y x := fun i h0 h1 => (h i h0 h1).symm
theorem Agr.trans {n : Int} {x y z : Int → Int} (h : Agr n x y) (h2 : Agr n y z) : Agr n x z := fun i h0 h1 => (h i h0 h1).trans (h2 i h0 h1)
theorem Agr.le {n m : Int} {x y : Int → Int} (h : Agr n x y) (hm : m ≤ n) : Agr m x y := fun i h0 h1 => h i h0 (by omega)
theorem Kr.congr {n : Int} {x y : Int → Int} (h : Agr n x y) (k : Kr n x) : Kr n y := ⟨k.1, k.2.1, fun i h0 h1 => by rw [← h i h0 h1]; exact k.2.2.1 i h0 h1, fun i j h0 h1 h2 => by rw [← h i h0 (by omega), ← h j (by omega) h2]; exact k.2.2.2 i j h0 h1 h2⟩
theorem Cs.congr {n : Int} {x y : Int → Int} (h : Agr n x y) {e i Li Ni Di : Int} {F G : Int → Int} (h0 : 0 ≤ i) (hF : ∀ k : Int, i ≤ k → k ≤ n → F k = G k) (k : Cs x e n F i Li Ni Di) : Cs y e n G i Li Ni Di := by
  obtain ⟨d, d1, d2, d3, d4, d5, d6, d7, d8⟩ := k
  refine ⟨d, d1, okd_congr h h0 d1 d2, d3, ?_, fun d' q1 q2 => ?_, fun d' q0 q1 q2 => ?_, ?_, ?_⟩
  · rw [← hF i (by omega) (by omega), ← hF _ (by omega) (by omega)]; exact d4
  · rw [← hF i (by omega) (by omega), ← hF _ (by omega) (by omega)]; exact d5 d' (okd_congr h.symm h0 q2 q1) q2
  · rw [← hF i (by omega) (by omega), ← hF _ (by omega) (by omega)]; exact d6 d' q0 (okd_congr h.symm h0 q2 q1) q2
  · rw [d7, lw_congr h h0 d d1]
  · rw [d8, lw_congr h h0 d d1]
/-- all ranks of n keys, with what each has -/
def Cut4 (x : Int → Int) (e n : Int) (F Ls Nm Dn : Int → Int) : Prop := F n = 0 ∧ ∀ i : Int, 0 ≤ i → i < n → Cs x e n F i (Ls i) (Nm i) (Dn i)
theorem Cut4.uniq {x : Int → Int} {e n : Int} {F Ls Nm Dn F' Ls' Nm' Dn' : Int → Int} (h : Cut4 x e n F Ls Nm Dn) (h' : Cut4 x e n F' Ls' Nm' Dn') : (∀ i : Int, 0 ≤ i → i ≤ n → F i = F' i) ∧ ∀ i : Int, 0 ≤ i → i < n → Ls i = Ls' i ∧ Nm i = Nm' i ∧ Dn i = Dn' i := by
  have key : ∀ k : Nat, ∀ i : Int, 0 ≤ i → i ≤ n → n - i ≤ (k : Int) → F i = F' i := by
    intro k
    induction k with
    | zero =>
      intro i h0 h1 h2
      rw [show i = n by omega, h.1, h'.1]
    | succ k ih =>
      intro i h0 h1 h2
      by_cases q : i = n
      · rw [q, h.1, h'.1]
      · obtain ⟨d, d1, d2, d3, d4, d5, d6, d7, d8⟩ := h.2 i h0 (by omega)
        obtain ⟨c, c1, c2, c3, c4, c5, c6, c7, c8⟩ := h'.2 i h0 (by omega)
        have a1 := d5 c c2 c1
        have a2 := c5 d d2 d1
        have a3 := ih (i + (d : Int) + 1) (by omega) (by omega) (by omega)
        have a4 := ih (i + (c : Int) + 1) (by omega) (by omega) (by omega)
        omega
  have kF : ∀ i : Int, 0 ≤ i → i ≤ n → F i = F' i := fun i h0 h1 => key (n - i).toNat i h0 h1 (by omega)
  refine ⟨kF, fun i h0 h1 => ?_⟩
  obtain ⟨d, d1, d2, d3, d4, d5, d6, d7, d8⟩ := h.2 i h0 h1
  obtain ⟨c, c1, c2, c3, c4, c5, c6, c7, c8⟩ := h'.2 i h0 h1
  have b0 := kF i h0 (by omega)
  have a3 := kF (i + (d : Int) + 1) (by omega) (by omega)
  have a4 := kF (i + (c : Int) + 1) (by omega) (by omega)
  have hdc : d = c := by
    rcases Nat.lt_trichotomy d c with q | q | q
    · have := d6 c q c2 c1
      omega
    · exact q
    · have := c6 d q d2 d1
      omega
  subst hdc
  exact ⟨by rw [d3, c3], by rw [d7, c7], by rw [d8, c8]⟩
end
section
set_option maxHeartbeats 4000000 in
set_option maxRecDepth 100000 in
/-- Cuts.isRank -/
theorem ctX0_isRank (l : Launch) (g : xG) (i : Int) (hr : Rg i) : Ct l g yX0_isRank wsX0_isRank ({ frames := 0, cells := 0, slots := 0, locals := 0 } : Room) 0 0 [] [jv i] (fun v u => (v = some (jv 1) ∧ u = [] ∧ (0 ≤ i ∧ i < 60)) ∨ (v = some (jv 0) ∧ u = [] ∧ (i < 0 ∨ 60 ≤ i))) := by
  refine ct_of (cc := cX0_isRank) (nL := 1) (ret := (some .boolean)) (by decide) rfl (Nat.le_of_ble_eq_true rfl) ?_
  intro E C Rt0
  have C : Cx l g E ({ frames := 0, cells := 0, slots := 0, locals := 0 } : Room) RX0 "isRank" cX0_isRank wsX0_isRank 1 := C
  show X l g E ({ frames := 0, cells := 0, slots := 0, locals := 0 } : Room) 1 [] 0 0 [(0, jv i)] 0 []
  have hr1 := hr.1
  have hr2 := hr.2
  refine x_iload_n (pc := 0) C 0 dX0_isRank_0 rfl ?_
  refine x_if_lt (pc := 1) C 14 dX0_isRank_1 rfl ⟨by omega, by omega⟩ (fun c_1 => ?_) (fun c_1 => ?_)
  · refine x_iconst (pc := 14) C dX0_isRank_14 ?_
    refine x_zret (pc := 15) C Rt0 dX0_isRank_15 rfl rfl ?_
    refine Or.inr (⟨rfl, rfl, ?_⟩)
    omega
  · refine x_iload_n (pc := 4) C 0 dX0_isRank_4 rfl ?_
    refine x_bipush (pc := 5) C dX0_isRank_5 rfl ?_
    refine x_icmp_ge (pc := 7) C 14 dX0_isRank_7 rfl ⟨by omega, by omega⟩ ⟨by omega, by omega⟩ (fun c_7 => ?_) (fun c_7 => ?_)
    · refine x_iconst (pc := 14) C dX0_isRank_14 ?_
      refine x_zret (pc := 15) C Rt0 dX0_isRank_15 rfl rfl ?_
      refine Or.inr (⟨rfl, rfl, ?_⟩)
      omega
    · refine x_iconst (pc := 10) C dX0_isRank_10 ?_
      refine x_goto (pc := 11) C 15 dX0_isRank_11 rfl ?_
      refine x_zret (pc := 15) C Rt0 dX0_isRank_15 rfl rfl ?_
      refine Or.inl ⟨rfl, rfl, ?_⟩
      omega

set_option maxRecDepth 100000 in
theorem hiX0_fewestFrom_0 : ∀ w ∈ wsX00, w ∈ wsX0_fewestFrom := by decide +kernel
set_option maxRecDepth 100000 in
theorem hfX0_fewestFrom_15 : Cond.fieldLink RX0 15 "KeyGuess$Cuts" "fewest" "[I" ∈ wsX0_fewestFrom := by decide +kernel
set_option maxHeartbeats 4000000 in
set_option maxRecDepth 100000 in
/-- Cuts.fewestFrom -/
theorem ctX0_fewestFrom (l : Launch) (g : xG) (a : Nat) (c1 : Nat) (c2 : Nat) (c3 : Nat) (c4 : Nat) (c5 : Nat) (x : Int → Int) (F : Int → Int) (Ls : Int → Int) (Nm : Int → Int) (Dn : Int → Int) (i : Int) (hi : 0 ≤ i ∧ i < 60) : Ct l g yX0_fewestFrom wsX0_fewestFrom ({ frames := 1, cells := 0, slots := 0, locals := 20 } : Room) 0 0 [(a, ob 0 [.ref c1, .ref c2, .ref c3, .ref c4, .ref c5]), (c1, ai g 60 x), (c2, ai g 61 F), (c3, ai g 60 Ls), (c4, ai g 60 Nm), (c5, ai g 60 Dn)] [.ref a, jv i] (fun v u => v = some (jv (F i)) ∧ u = [(a, ob 0 [.ref c1, .ref c2, .ref c3, .ref c4, .ref c5]), (c1, ai g 60 x), (c2, ai g 61 F), (c3, ai g 60 Ls), (c4, ai g 60 Nm), (c5, ai g 60 Dn)] ∧ (True)) := by
  refine ct_of (cc := cX0_fewestFrom) (nL := 2) (ret := (some .int)) (by decide) rfl (Nat.le_of_ble_eq_true rfl) ?_
  intro E C Rt0
  have C : Cx l g E ({ frames := 1, cells := 0, slots := 0, locals := 20 } : Room) RX0 "fewestFrom" cX0_fewestFrom wsX0_fewestFrom 2 := C
  show X l g E ({ frames := 1, cells := 0, slots := 0, locals := 20 } : Room) 2 [(a, ob 0 [.ref c1, .ref c2, .ref c3, .ref c4, .ref c5]), (c1, ai g 60 x), (c2, ai g 61 F), (c3, ai g 60 Ls), (c4, ai g 60 Nm), (c5, ai g 60 Dn)] 0 0 [(0, .ref a), (1, jv i)] 0 []
  refine x_iload_n (pc := 0) C 1 dX0_fewestFrom_0 rfl ?_
  refine x_callS (pc := 1) C (n := 1) (rest := []) (wr := [(a, ob 0 [.ref c1, .ref c2, .ref c3, .ref c4, .ref c5]), (c1, ai g 60 x), (c2, ai g 61 F), (c3, ai g 60 Ls), (c4, ai g 60 Nm), (c5, ai g 60 Dn)]) [] [0, 1, 2, 3, 4, 5] (ctX0_isRank l g i ⟨by omega, by omega⟩) gX0_fewestFrom_X0_isRank rfl (by decide +kernel) ⟨rfl, rfl⟩ ⟨by decide, by decide⟩ rfl rfl rfl (by decide) (by decide) (by decide) rfl (Nat.le_of_ble_eq_true rfl) dX0_fewestFrom_1 ⟨by decide, by decide⟩ (fun v_1 u_1 h_1 => ?_)
  rcases h_1 with ⟨rfl, rfl, f_1⟩ | ⟨rfl, rfl, f_1⟩
  · refine x_world (ws' := [(a, ob 0 [.ref c1, .ref c2, .ref c3, .ref c4, .ref c5]), (c1, ai g 60 x), (c2, ai g 61 F), (c3, ai g 60 Ls), (c4, ai g 60 Nm), (c5, ai g 60 Dn)]) [0, 1, 2, 3, 4, 5] (by decide) rfl ?_
    show X l g E ({ frames := 1, cells := 0, slots := 0, locals := 20 } : Room) 2 [(a, ob 0 [.ref c1, .ref c2, .ref c3, .ref c4, .ref c5]), (c1, ai g 60 x), (c2, ai g 61 F), (c3, ai g 60 Ls), (c4, ai g 60 Nm), (c5, ai g 60 Dn)] 0 0 [(0, .ref a), (1, jv i)] 4 [jv 1]
    refine x_if_eq (pc := 4) C 16 dX0_fewestFrom_4 rfl ⟨by decide, by decide⟩ (fun h => absurd h (by decide)) (fun _ => ?_)
    refine x_aload_n (pc := 7) C 0 dX0_fewestFrom_7 rfl ?_
    refine x_get (pc := 8) C 0 1 dX0_fewestFrom_8 hiX0_fewestFrom_0 hfX0_fewestFrom_15 rfl rfl rfl (by decide) rfl ?_
    refine x_iload_n (pc := 11) C 1 dX0_fewestFrom_11 rfl ?_
    refine x_iald (pc := 12) C 2 dX0_fewestFrom_12 rfl (by omega) (by omega) (by decide) ?_
    refine x_goto (pc := 13) C 17 dX0_fewestFrom_13 rfl ?_
    refine x_iret (pc := 17) C Rt0 dX0_fewestFrom_17 rfl ?_
    refine ⟨rfl, rfl, ?_⟩
    trivial
  · refine x_world (ws' := [(a, ob 0 [.ref c1, .ref c2, .ref c3, .ref c4, .ref c5]), (c1, ai g 60 x), (c2, ai g 61 F), (c3, ai g 60 Ls), (c4, ai g 60 Nm), (c5, ai g 60 Dn)]) [0, 1, 2, 3, 4, 5] (by decide) rfl ?_
    show X l g E ({ frames := 1, cells := 0, slots := 0, locals := 20 } : Room) 2 [(a, ob 0 [.ref c1, .ref c2, .ref c3, .ref c4, .ref c5]), (c1, ai g 60 x), (c2, ai g 61 F), (c3, ai g 60 Ls), (c4, ai g 60 Nm), (c5, ai g 60 Dn)] 0 0 [(0, .ref a), (1, jv i)] 4 [jv 0]
    exact absurd f_1 (by omega)

set_option maxRecDepth 100000 in
theorem hiX0_lastOf_0 : ∀ w ∈ wsX00, w ∈ wsX0_lastOf := by decide +kernel
set_option maxRecDepth 100000 in
theorem hfX0_lastOf_18 : Cond.fieldLink RX0 18 "KeyGuess$Cuts" "lasts" "[I" ∈ wsX0_lastOf := by decide +kernel
set_option maxHeartbeats 4000000 in
set_option maxRecDepth 100000 in
/-- Cuts.lastOf -/
theorem ctX0_lastOf (l : Launch) (g : xG) (a : Nat) (c1 : Nat) (c2 : Nat) (c3 : Nat) (c4 : Nat) (c5 : Nat) (x : Int → Int) (F : Int → Int) (Ls : Int → Int) (Nm : Int → Int) (Dn : Int → Int) (i : Int) (hi : 0 ≤ i ∧ i < 60) : Ct l g yX0_lastOf wsX0_lastOf ({ frames := 1, cells := 0, slots := 0, locals := 20 } : Room) 0 0 [(a, ob 0 [.ref c1, .ref c2, .ref c3, .ref c4, .ref c5]), (c1, ai g 60 x), (c2, ai g 61 F), (c3, ai g 60 Ls), (c4, ai g 60 Nm), (c5, ai g 60 Dn)] [.ref a, jv i] (fun v u => v = some (jv (Ls i)) ∧ u = [(a, ob 0 [.ref c1, .ref c2, .ref c3, .ref c4, .ref c5]), (c1, ai g 60 x), (c2, ai g 61 F), (c3, ai g 60 Ls), (c4, ai g 60 Nm), (c5, ai g 60 Dn)] ∧ (True)) := by
  refine ct_of (cc := cX0_lastOf) (nL := 2) (ret := (some .int)) (by decide) rfl (Nat.le_of_ble_eq_true rfl) ?_
  intro E C Rt0
  have C : Cx l g E ({ frames := 1, cells := 0, slots := 0, locals := 20 } : Room) RX0 "lastOf" cX0_lastOf wsX0_lastOf 2 := C
  show X l g E ({ frames := 1, cells := 0, slots := 0, locals := 20 } : Room) 2 [(a, ob 0 [.ref c1, .ref c2, .ref c3, .ref c4, .ref c5]), (c1, ai g 60 x), (c2, ai g 61 F), (c3, ai g 60 Ls), (c4, ai g 60 Nm), (c5, ai g 60 Dn)] 0 0 [(0, .ref a), (1, jv i)] 0 []
  refine x_iload_n (pc := 0) C 1 dX0_lastOf_0 rfl ?_
  refine x_callS (pc := 1) C (n := 1) (rest := []) (wr := [(a, ob 0 [.ref c1, .ref c2, .ref c3, .ref c4, .ref c5]), (c1, ai g 60 x), (c2, ai g 61 F), (c3, ai g 60 Ls), (c4, ai g 60 Nm), (c5, ai g 60 Dn)]) [] [0, 1, 2, 3, 4, 5] (ctX0_isRank l g i ⟨by omega, by omega⟩) gX0_lastOf_X0_isRank rfl (by decide +kernel) ⟨rfl, rfl⟩ ⟨by decide, by decide⟩ rfl rfl rfl (by decide) (by decide) (by decide) rfl (Nat.le_of_ble_eq_true rfl) dX0_lastOf_1 ⟨by decide, by decide⟩ (fun v_1 u_1 h_1 => ?_)
  rcases h_1 with ⟨rfl, rfl, f_1⟩ | ⟨rfl, rfl, f_1⟩
  · refine x_world (ws' := [(a, ob 0 [.ref c1, .ref c2, .ref c3, .ref c4, .ref c5]), (c1, ai g 60 x), (c2, ai g 61 F), (c3, ai g 60 Ls), (c4, ai g 60 Nm), (c5, ai g 60 Dn)]) [0, 1, 2, 3, 4, 5] (by decide) rfl ?_
    show X l g E ({ frames := 1, cells := 0, slots := 0, locals := 20 } : Room) 2 [(a, ob 0 [.ref c1, .ref c2, .ref c3, .ref c4, .ref c5]), (c1, ai g 60 x), (c2, ai g 61 F), (c3, ai g 60 Ls), (c4, ai g 60 Nm), (c5, ai g 60 Dn)] 0 0 [(0, .ref a), (1, jv i)] 4 [jv 1]
    refine x_if_eq (pc := 4) C 16 dX0_lastOf_4 rfl ⟨by decide, by decide⟩ (fun h => absurd h (by decide)) (fun _ => ?_)
    refine x_aload_n (pc := 7) C 0 dX0_lastOf_7 rfl ?_
    refine x_get (pc := 8) C 0 2 dX0_lastOf_8 hiX0_lastOf_0 hfX0_lastOf_18 rfl rfl rfl (by decide) rfl ?_
    refine x_iload_n (pc := 11) C 1 dX0_lastOf_11 rfl ?_
    refine x_iald (pc := 12) C 3 dX0_lastOf_12 rfl (by omega) (by omega) (by decide) ?_
    refine x_goto (pc := 13) C 17 dX0_lastOf_13 rfl ?_
    refine x_iret (pc := 17) C Rt0 dX0_lastOf_17 rfl ?_
    refine ⟨rfl, rfl, ?_⟩
    trivial
  · refine x_world (ws' := [(a, ob 0 [.ref c1, .ref c2, .ref c3, .ref c4, .ref c5]), (c1, ai g 60 x), (c2, ai g 61 F), (c3, ai g 60 Ls), (c4, ai g 60 Nm), (c5, ai g 60 Dn)]) [0, 1, 2, 3, 4, 5] (by decide) rfl ?_
    show X l g E ({ frames := 1, cells := 0, slots := 0, locals := 20 } : Room) 2 [(a, ob 0 [.ref c1, .ref c2, .ref c3, .ref c4, .ref c5]), (c1, ai g 60 x), (c2, ai g 61 F), (c3, ai g 60 Ls), (c4, ai g 60 Nm), (c5, ai g 60 Dn)] 0 0 [(0, .ref a), (1, jv i)] 4 [jv 0]
    exact absurd f_1 (by omega)

set_option maxRecDepth 100000 in
theorem hiX0_slopeNum_0 : ∀ w ∈ wsX00, w ∈ wsX0_slopeNum := by decide +kernel
set_option maxRecDepth 100000 in
theorem hfX0_slopeNum_21 : Cond.fieldLink RX0 21 "KeyGuess$Cuts" "slopeNums" "[I" ∈ wsX0_slopeNum := by decide +kernel
set_option maxHeartbeats 4000000 in
set_option maxRecDepth 100000 in
/-- Cuts.slopeNum -/
theorem ctX0_slopeNum (l : Launch) (g : xG) (a : Nat) (c1 : Nat) (c2 : Nat) (c3 : Nat) (c4 : Nat) (c5 : Nat) (x : Int → Int) (F : Int → Int) (Ls : Int → Int) (Nm : Int → Int) (Dn : Int → Int) (i : Int) (hi : 0 ≤ i ∧ i < 60) : Ct l g yX0_slopeNum wsX0_slopeNum ({ frames := 1, cells := 0, slots := 0, locals := 20 } : Room) 0 0 [(a, ob 0 [.ref c1, .ref c2, .ref c3, .ref c4, .ref c5]), (c1, ai g 60 x), (c2, ai g 61 F), (c3, ai g 60 Ls), (c4, ai g 60 Nm), (c5, ai g 60 Dn)] [.ref a, jv i] (fun v u => v = some (jv (Nm i)) ∧ u = [(a, ob 0 [.ref c1, .ref c2, .ref c3, .ref c4, .ref c5]), (c1, ai g 60 x), (c2, ai g 61 F), (c3, ai g 60 Ls), (c4, ai g 60 Nm), (c5, ai g 60 Dn)] ∧ (True)) := by
  refine ct_of (cc := cX0_slopeNum) (nL := 2) (ret := (some .int)) (by decide) rfl (Nat.le_of_ble_eq_true rfl) ?_
  intro E C Rt0
  have C : Cx l g E ({ frames := 1, cells := 0, slots := 0, locals := 20 } : Room) RX0 "slopeNum" cX0_slopeNum wsX0_slopeNum 2 := C
  show X l g E ({ frames := 1, cells := 0, slots := 0, locals := 20 } : Room) 2 [(a, ob 0 [.ref c1, .ref c2, .ref c3, .ref c4, .ref c5]), (c1, ai g 60 x), (c2, ai g 61 F), (c3, ai g 60 Ls), (c4, ai g 60 Nm), (c5, ai g 60 Dn)] 0 0 [(0, .ref a), (1, jv i)] 0 []
  refine x_iload_n (pc := 0) C 1 dX0_slopeNum_0 rfl ?_
  refine x_callS (pc := 1) C (n := 1) (rest := []) (wr := [(a, ob 0 [.ref c1, .ref c2, .ref c3, .ref c4, .ref c5]), (c1, ai g 60 x), (c2, ai g 61 F), (c3, ai g 60 Ls), (c4, ai g 60 Nm), (c5, ai g 60 Dn)]) [] [0, 1, 2, 3, 4, 5] (ctX0_isRank l g i ⟨by omega, by omega⟩) gX0_slopeNum_X0_isRank rfl (by decide +kernel) ⟨rfl, rfl⟩ ⟨by decide, by decide⟩ rfl rfl rfl (by decide) (by decide) (by decide) rfl (Nat.le_of_ble_eq_true rfl) dX0_slopeNum_1 ⟨by decide, by decide⟩ (fun v_1 u_1 h_1 => ?_)
  rcases h_1 with ⟨rfl, rfl, f_1⟩ | ⟨rfl, rfl, f_1⟩
  · refine x_world (ws' := [(a, ob 0 [.ref c1, .ref c2, .ref c3, .ref c4, .ref c5]), (c1, ai g 60 x), (c2, ai g 61 F), (c3, ai g 60 Ls), (c4, ai g 60 Nm), (c5, ai g 60 Dn)]) [0, 1, 2, 3, 4, 5] (by decide) rfl ?_
    show X l g E ({ frames := 1, cells := 0, slots := 0, locals := 20 } : Room) 2 [(a, ob 0 [.ref c1, .ref c2, .ref c3, .ref c4, .ref c5]), (c1, ai g 60 x), (c2, ai g 61 F), (c3, ai g 60 Ls), (c4, ai g 60 Nm), (c5, ai g 60 Dn)] 0 0 [(0, .ref a), (1, jv i)] 4 [jv 1]
    refine x_if_eq (pc := 4) C 16 dX0_slopeNum_4 rfl ⟨by decide, by decide⟩ (fun h => absurd h (by decide)) (fun _ => ?_)
    refine x_aload_n (pc := 7) C 0 dX0_slopeNum_7 rfl ?_
    refine x_get (pc := 8) C 0 3 dX0_slopeNum_8 hiX0_slopeNum_0 hfX0_slopeNum_21 rfl rfl rfl (by decide) rfl ?_
    refine x_iload_n (pc := 11) C 1 dX0_slopeNum_11 rfl ?_
    refine x_iald (pc := 12) C 4 dX0_slopeNum_12 rfl (by omega) (by omega) (by decide) ?_
    refine x_goto (pc := 13) C 17 dX0_slopeNum_13 rfl ?_
    refine x_iret (pc := 17) C Rt0 dX0_slopeNum_17 rfl ?_
    refine ⟨rfl, rfl, ?_⟩
    trivial
  · refine x_world (ws' := [(a, ob 0 [.ref c1, .ref c2, .ref c3, .ref c4, .ref c5]), (c1, ai g 60 x), (c2, ai g 61 F), (c3, ai g 60 Ls), (c4, ai g 60 Nm), (c5, ai g 60 Dn)]) [0, 1, 2, 3, 4, 5] (by decide) rfl ?_
    show X l g E ({ frames := 1, cells := 0, slots := 0, locals := 20 } : Room) 2 [(a, ob 0 [.ref c1, .ref c2, .ref c3, .ref c4, .ref c5]), (c1, ai g 60 x), (c2, ai g 61 F), (c3, ai g 60 Ls), (c4, ai g 60 Nm), (c5, ai g 60 Dn)] 0 0 [(0, .ref a), (1, jv i)] 4 [jv 0]
    exact absurd f_1 (by omega)

set_option maxRecDepth 100000 in
theorem hiX0_slopeDen_0 : ∀ w ∈ wsX00, w ∈ wsX0_slopeDen := by decide +kernel
set_option maxRecDepth 100000 in
theorem hfX0_slopeDen_24 : Cond.fieldLink RX0 24 "KeyGuess$Cuts" "slopeDens" "[I" ∈ wsX0_slopeDen := by decide +kernel
set_option maxHeartbeats 4000000 in
set_option maxRecDepth 100000 in
/-- Cuts.slopeDen -/
theorem ctX0_slopeDen (l : Launch) (g : xG) (a : Nat) (c1 : Nat) (c2 : Nat) (c3 : Nat) (c4 : Nat) (c5 : Nat) (x : Int → Int) (F : Int → Int) (Ls : Int → Int) (Nm : Int → Int) (Dn : Int → Int) (i : Int) (hi : 0 ≤ i ∧ i < 60) : Ct l g yX0_slopeDen wsX0_slopeDen ({ frames := 1, cells := 0, slots := 0, locals := 20 } : Room) 0 0 [(a, ob 0 [.ref c1, .ref c2, .ref c3, .ref c4, .ref c5]), (c1, ai g 60 x), (c2, ai g 61 F), (c3, ai g 60 Ls), (c4, ai g 60 Nm), (c5, ai g 60 Dn)] [.ref a, jv i] (fun v u => v = some (jv (Dn i)) ∧ u = [(a, ob 0 [.ref c1, .ref c2, .ref c3, .ref c4, .ref c5]), (c1, ai g 60 x), (c2, ai g 61 F), (c3, ai g 60 Ls), (c4, ai g 60 Nm), (c5, ai g 60 Dn)] ∧ (True)) := by
  refine ct_of (cc := cX0_slopeDen) (nL := 2) (ret := (some .int)) (by decide) rfl (Nat.le_of_ble_eq_true rfl) ?_
  intro E C Rt0
  have C : Cx l g E ({ frames := 1, cells := 0, slots := 0, locals := 20 } : Room) RX0 "slopeDen" cX0_slopeDen wsX0_slopeDen 2 := C
  show X l g E ({ frames := 1, cells := 0, slots := 0, locals := 20 } : Room) 2 [(a, ob 0 [.ref c1, .ref c2, .ref c3, .ref c4, .ref c5]), (c1, ai g 60 x), (c2, ai g 61 F), (c3, ai g 60 Ls), (c4, ai g 60 Nm), (c5, ai g 60 Dn)] 0 0 [(0, .ref a), (1, jv i)] 0 []
  refine x_iload_n (pc := 0) C 1 dX0_slopeDen_0 rfl ?_
  refine x_callS (pc := 1) C (n := 1) (rest := []) (wr := [(a, ob 0 [.ref c1, .ref c2, .ref c3, .ref c4, .ref c5]), (c1, ai g 60 x), (c2, ai g 61 F), (c3, ai g 60 Ls), (c4, ai g 60 Nm), (c5, ai g 60 Dn)]) [] [0, 1, 2, 3, 4, 5] (ctX0_isRank l g i ⟨by omega, by omega⟩) gX0_slopeDen_X0_isRank rfl (by decide +kernel) ⟨rfl, rfl⟩ ⟨by decide, by decide⟩ rfl rfl rfl (by decide) (by decide) (by decide) rfl (Nat.le_of_ble_eq_true rfl) dX0_slopeDen_1 ⟨by decide, by decide⟩ (fun v_1 u_1 h_1 => ?_)
  rcases h_1 with ⟨rfl, rfl, f_1⟩ | ⟨rfl, rfl, f_1⟩
  · refine x_world (ws' := [(a, ob 0 [.ref c1, .ref c2, .ref c3, .ref c4, .ref c5]), (c1, ai g 60 x), (c2, ai g 61 F), (c3, ai g 60 Ls), (c4, ai g 60 Nm), (c5, ai g 60 Dn)]) [0, 1, 2, 3, 4, 5] (by decide) rfl ?_
    show X l g E ({ frames := 1, cells := 0, slots := 0, locals := 20 } : Room) 2 [(a, ob 0 [.ref c1, .ref c2, .ref c3, .ref c4, .ref c5]), (c1, ai g 60 x), (c2, ai g 61 F), (c3, ai g 60 Ls), (c4, ai g 60 Nm), (c5, ai g 60 Dn)] 0 0 [(0, .ref a), (1, jv i)] 4 [jv 1]
    refine x_if_eq (pc := 4) C 16 dX0_slopeDen_4 rfl ⟨by decide, by decide⟩ (fun h => absurd h (by decide)) (fun _ => ?_)
    refine x_aload_n (pc := 7) C 0 dX0_slopeDen_7 rfl ?_
    refine x_get (pc := 8) C 0 4 dX0_slopeDen_8 hiX0_slopeDen_0 hfX0_slopeDen_24 rfl rfl rfl (by decide) rfl ?_
    refine x_iload_n (pc := 11) C 1 dX0_slopeDen_11 rfl ?_
    refine x_iald (pc := 12) C 5 dX0_slopeDen_12 rfl (by omega) (by omega) (by decide) ?_
    refine x_goto (pc := 13) C 17 dX0_slopeDen_13 rfl ?_
    refine x_iret (pc := 17) C Rt0 dX0_slopeDen_17 rfl ?_
    refine ⟨rfl, rfl, ?_⟩
    trivial
  · refine x_world (ws' := [(a, ob 0 [.ref c1, .ref c2, .ref c3, .ref c4, .ref c5]), (c1, ai g 60 x), (c2, ai g 61 F), (c3, ai g 60 Ls), (c4, ai g 60 Nm), (c5, ai g 60 Dn)]) [0, 1, 2, 3, 4, 5] (by decide) rfl ?_
    show X l g E ({ frames := 1, cells := 0, slots := 0, locals := 20 } : Room) 2 [(a, ob 0 [.ref c1, .ref c2, .ref c3, .ref c4, .ref c5]), (c1, ai g 60 x), (c2, ai g 61 F), (c3, ai g 60 Ls), (c4, ai g 60 Nm), (c5, ai g 60 Dn)] 0 0 [(0, .ref a), (1, jv i)] 4 [jv 0]
    exact absurd f_1 (by omega)

set_option maxRecDepth 100000 in
theorem hiX0_cutFrom_0 : ∀ w ∈ wsX00, w ∈ wsX0_cutFrom := by decide +kernel
set_option maxRecDepth 100000 in
theorem hfX0_cutFrom_15 : Cond.fieldLink RX0 15 "KeyGuess$Cuts" "fewest" "[I" ∈ wsX0_cutFrom := by decide +kernel
set_option maxRecDepth 100000 in
theorem hfX0_cutFrom_18 : Cond.fieldLink RX0 18 "KeyGuess$Cuts" "lasts" "[I" ∈ wsX0_cutFrom := by decide +kernel
set_option maxRecDepth 100000 in
theorem hfX0_cutFrom_21 : Cond.fieldLink RX0 21 "KeyGuess$Cuts" "slopeNums" "[I" ∈ wsX0_cutFrom := by decide +kernel
set_option maxRecDepth 100000 in
theorem hfX0_cutFrom_24 : Cond.fieldLink RX0 24 "KeyGuess$Cuts" "slopeDens" "[I" ∈ wsX0_cutFrom := by decide +kernel
set_option maxRecDepth 100000 in
theorem hfX0_cutFrom_9 : Cond.fieldLink RX0 9 "KeyGuess$Cuts" "cells" "[I" ∈ wsX0_cutFrom := by decide +kernel
set_option maxHeartbeats 4000000 in
set_option maxRecDepth 100000 in
/-- Cuts.cutFrom -/
theorem ctX0_cutFrom (l : Launch) (g : xG) (a : Nat) (c1 : Nat) (c2 : Nat) (c3 : Nat) (c4 : Nat) (c5 : Nat) (x : Int → Int) (F : Int → Int) (Ls : Int → Int) (Nm : Int → Int) (Dn : Int → Int) (i : Int) (n : Int) (e : Int) (hk : Kr n x) (he : 0 ≤ e ∧ e ≤ 8) (hi : 0 ≤ i ∧ i < n) (hF : ∀ k : Int, i < k → k ≤ n → 0 ≤ F k ∧ F k ≤ 60) : Ct l g yX0_cutFrom wsX0_cutFrom ({ frames := 0, cells := 0, slots := 0, locals := 0 } : Room) 0 0 [(a, ob 0 [.ref c1, .ref c2, .ref c3, .ref c4, .ref c5]), (c1, ai g 60 x), (c2, ai g 61 F), (c3, ai g 60 Ls), (c4, ai g 60 Nm), (c5, ai g 60 Dn)] [.ref a, jv i, jv n, jv e] (fun v u => ∃ (F' : Int → Int) (L' : Int → Int) (N' : Int → Int) (D' : Int → Int), v = none ∧ u = [(a, ob 0 [.ref c1, .ref c2, .ref c3, .ref c4, .ref c5]), (c1, ai g 60 x), (c2, ai g 61 F'), (c3, ai g 60 L'), (c4, ai g 60 N'), (c5, ai g 60 D')] ∧ ((∀ k : Int, k ≠ i → F' k = F k) ∧ (∀ k : Int, k ≠ i → L' k = Ls k) ∧ (∀ k : Int, k ≠ i → N' k = Nm k) ∧ (∀ k : Int, k ≠ i → D' k = Dn k) ∧ Cs x e n F' i (L' i) (N' i) (D' i))) := by
  refine ct_of (cc := cX0_cutFrom) (nL := 12) (ret := none) (by decide) rfl (Nat.le_of_ble_eq_true rfl) ?_
  intro E C Rt0
  have C : Cx l g E ({ frames := 0, cells := 0, slots := 0, locals := 0 } : Room) RX0 "cutFrom" cX0_cutFrom wsX0_cutFrom 12 := C
  show X l g E ({ frames := 0, cells := 0, slots := 0, locals := 0 } : Room) 12 [(a, ob 0 [.ref c1, .ref c2, .ref c3, .ref c4, .ref c5]), (c1, ai g 60 x), (c2, ai g 61 F), (c3, ai g 60 Ls), (c4, ai g 60 Nm), (c5, ai g 60 Dn)] 0 0 [(0, .ref a), (1, jv i), (2, jv n), (3, jv e)] 0 []
  have hn0 := hk.1
  have hn1 := hk.2.1
  refine x_iload_n (pc := 0) C 1 dX0_cutFrom_0 rfl ?_
  refine x_if_lt (pc := 1) C 15 dX0_cutFrom_1 rfl ⟨by omega, by omega⟩ (fun c_1 => ?_) (fun c_1 => ?_)
  · omega
  · refine x_iload_n (pc := 4) C 1 dX0_cutFrom_4 rfl ?_
    refine x_iload_n (pc := 5) C 2 dX0_cutFrom_5 rfl ?_
    refine x_icmp_ge (pc := 6) C 15 dX0_cutFrom_6 rfl ⟨by omega, by omega⟩ ⟨by omega, by omega⟩ (fun c_6 => ?_) (fun c_6 => ?_)
    · omega
    · refine x_iload_n (pc := 9) C 2 dX0_cutFrom_9 rfl ?_
      refine x_bipush (pc := 10) C dX0_cutFrom_10 rfl ?_
      refine x_icmp_le (pc := 12) C 16 dX0_cutFrom_12 rfl ⟨by omega, by omega⟩ ⟨by omega, by omega⟩ (fun c_12 => ?_) (fun c_12 => ?_)
      · refine x_iconst (pc := 16) C dX0_cutFrom_16 ?_
        refine x_istore (pc := 17) C (lv' := [(4, jv 0), (0, .ref a), (1, jv i), (2, jv n), (3, jv e)]) dX0_cutFrom_17 (by decide) rfl ?_
        refine x_iconst (pc := 19) C dX0_cutFrom_19 ?_
        refine x_istore (pc := 20) C (lv' := [(5, jv 1), (4, jv 0), (0, .ref a), (1, jv i), (2, jv n), (3, jv e)]) dX0_cutFrom_20 (by decide) rfl ?_
        refine x_iconst (pc := 22) C dX0_cutFrom_22 ?_
        refine x_istore (pc := 23) C (lv' := [(6, jv 1), (5, jv 1), (4, jv 0), (0, .ref a), (1, jv i), (2, jv n), (3, jv e)]) dX0_cutFrom_23 (by decide) rfl ?_
        refine x_iconst (pc := 25) C dX0_cutFrom_25 ?_
        refine x_istore (pc := 26) C (lv' := [(7, jv 0), (6, jv 1), (5, jv 1), (4, jv 0), (0, .ref a), (1, jv i), (2, jv n), (3, jv e)]) dX0_cutFrom_26 (by decide) rfl ?_
        refine x_aload_n (pc := 28) C 4 dX0_cutFrom_28 rfl ?_
        refine x_get (pc := 29) C 0 1 dX0_cutFrom_29 hiX0_cutFrom_0 hfX0_cutFrom_15 rfl rfl rfl (by decide) rfl ?_
        refine x_iload_n (pc := 32) C 5 dX0_cutFrom_32 rfl ?_
        refine x_aload_n (pc := 33) C 4 dX0_cutFrom_33 rfl ?_
        refine x_get (pc := 34) C 0 1 dX0_cutFrom_34 hiX0_cutFrom_0 hfX0_cutFrom_15 rfl rfl rfl (by decide) rfl ?_
        refine x_iload_n (pc := 37) C 5 dX0_cutFrom_37 rfl ?_
        refine x_iconst (pc := 38) C dX0_cutFrom_38 ?_
        refine x_iadd (pc := 39) C dX0_cutFrom_39 ?_
        have hF1 := hF (i + 1) (by omega) (by omega)
        refine x_iald (pc := 40) C 2 dX0_cutFrom_40 rfl (by omega) (by omega) (by decide) ?_
        refine x_iconst (pc := 41) C dX0_cutFrom_41 ?_
        refine x_iadd (pc := 42) C dX0_cutFrom_42 ?_
        refine x_iast (pc := 43) C (ws' := [(a, ob 0 [.ref c1, .ref c2, .ref c3, .ref c4, .ref c5]), (c1, ai g 60 x), (c2, ai g 61 (up F i ((F (i + 1)) + 1))), (c3, ai g 60 Ls), (c4, ai g 60 Nm), (c5, ai g 60 Dn)]) 2 dX0_cutFrom_43 rfl (by omega) (by omega) (by decide) rfl ?_
        refine x_aload_n (pc := 44) C 4 dX0_cutFrom_44 rfl ?_
        refine x_get (pc := 45) C 0 2 dX0_cutFrom_45 hiX0_cutFrom_0 hfX0_cutFrom_18 rfl rfl rfl (by decide) rfl ?_
        refine x_iload_n (pc := 48) C 5 dX0_cutFrom_48 rfl ?_
        refine x_iload_n (pc := 49) C 5 dX0_cutFrom_49 rfl ?_
        refine x_iast (pc := 50) C (ws' := [(a, ob 0 [.ref c1, .ref c2, .ref c3, .ref c4, .ref c5]), (c1, ai g 60 x), (c2, ai g 61 (up F i ((F (i + 1)) + 1))), (c3, ai g 60 (up Ls i i)), (c4, ai g 60 Nm), (c5, ai g 60 Dn)]) 3 dX0_cutFrom_50 rfl (by omega) (by omega) (by decide) rfl ?_
        refine x_aload_n (pc := 51) C 4 dX0_cutFrom_51 rfl ?_
        refine x_get (pc := 52) C 0 3 dX0_cutFrom_52 hiX0_cutFrom_0 hfX0_cutFrom_21 rfl rfl rfl (by decide) rfl ?_
        refine x_iload_n (pc := 55) C 5 dX0_cutFrom_55 rfl ?_
        refine x_iload (pc := 56) C 3 dX0_cutFrom_56 rfl ?_
        refine x_iast (pc := 58) C (ws' := [(a, ob 0 [.ref c1, .ref c2, .ref c3, .ref c4, .ref c5]), (c1, ai g 60 x), (c2, ai g 61 (up F i ((F (i + 1)) + 1))), (c3, ai g 60 (up Ls i i)), (c4, ai g 60 (up Nm i 0)), (c5, ai g 60 Dn)]) 4 dX0_cutFrom_58 rfl (by omega) (by omega) (by decide) rfl ?_
        refine x_aload_n (pc := 59) C 4 dX0_cutFrom_59 rfl ?_
        refine x_get (pc := 60) C 0 4 dX0_cutFrom_60 hiX0_cutFrom_0 hfX0_cutFrom_24 rfl rfl rfl (by decide) rfl ?_
        refine x_iload_n (pc := 63) C 5 dX0_cutFrom_63 rfl ?_
        refine x_iload (pc := 64) C 2 dX0_cutFrom_64 rfl ?_
        refine x_iast (pc := 66) C (ws' := [(a, ob 0 [.ref c1, .ref c2, .ref c3, .ref c4, .ref c5]), (c1, ai g 60 x), (c2, ai g 61 (up F i ((F (i + 1)) + 1))), (c3, ai g 60 (up Ls i i)), (c4, ai g 60 (up Nm i 0)), (c5, ai g 60 (up Dn i 1))]) 5 dX0_cutFrom_66 rfl (by omega) (by omega) (by decide) rfl ?_
        refine x_iload_n (pc := 67) C 5 dX0_cutFrom_67 rfl ?_
        refine x_iconst (pc := 68) C dX0_cutFrom_68 ?_
        refine x_iadd (pc := 69) C dX0_cutFrom_69 ?_
        refine x_istore (pc := 70) C (lv' := [(8, jv (i + 1)), (7, jv 0), (6, jv 1), (5, jv 1), (4, jv 0), (0, .ref a), (1, jv i), (2, jv n), (3, jv e)]) dX0_cutFrom_70 (by decide) rfl ?_
        have L72 : ∀ (nn : Nat) (j : Int) (d : Nat) (ln : Int) (ld : Int) (hn : Int) (hd : Int) (F' : Int → Int) (L' : Int → Int) (N' : Int → Int) (D' : Int → Int), (n - j).toNat < nn → (j = i + (d : Int) + 1 ∧ j ≤ n) → (ln = (lw x e i d).1 ∧ ld = (lw x e i d).2) → (hgh x e i d hn hd) → (okd x e i d) → ((∀ k : Int, k ≠ i → F' k = F k) ∧ (∀ k : Int, k ≠ i → L' k = Ls k) ∧ (∀ k : Int, k ≠ i → N' k = Nm k) ∧ (∀ k : Int, k ≠ i → D' k = Dn k)) → (∃ b : Nat, b ≤ d ∧ L' i = i + (b : Int) ∧ F' i = F (i + (b : Int) + 1) + 1 ∧ (∀ d' : Nat, d' ≤ d → F' i ≤ F (i + (d' : Int) + 1) + 1) ∧ (∀ d' : Nat, b < d' → d' ≤ d → F' i < F (i + (d' : Int) + 1) + 1) ∧ N' i = (lw x e i b).1 ∧ D' i = (lw x e i b).2) → X l g E ({ frames := 0, cells := 0, slots := 0, locals := 0 } : Room) 12 [(a, ob 0 [.ref c1, .ref c2, .ref c3, .ref c4, .ref c5]), (c1, ai g 60 x), (c2, ai g 61 F'), (c3, ai g 60 L'), (c4, ai g 60 N'), (c5, ai g 60 D')] 0 0 [(0, .ref a), (1, jv i), (2, jv n), (3, jv e), (4, jv ln), (5, jv ld), (6, jv hn), (7, jv hd), (8, jv j)] 72 [] := by
          intro nn
          induction nn with
          | zero => intro j d ln ld hn hd F' L' N' D' hμ; exact absurd hμ (Nat.not_lt_zero _)
          | succ nn ih72 =>
            intro j d ln ld hn hd F' L' N' D' hμ hj hl hh hok hoff hbest
            refine x_iload (pc := 72) C 8 dX0_cutFrom_72 rfl ?_
            refine x_iload_n (pc := 74) C 2 dX0_cutFrom_74 rfl ?_
            refine x_icmp_ge (pc := 75) C 235 dX0_cutFrom_75 rfl ⟨by omega, by omega⟩ ⟨by omega, by omega⟩ (fun c_75 => ?_) (fun c_75 => ?_)
            · refine x_vret (pc := 235) C Rt0 dX0_cutFrom_235 rfl ?_
              refine ⟨_, _, _, _, rfl, rfl, ?_⟩
              obtain ⟨b, b1, b2, b3, b4, b5, b6, b7⟩ := hbest
              refine ⟨hoff.1, hoff.2.1, hoff.2.2.1, hoff.2.2.2, b, by omega, okd_le hok b1, b2, by rw [hoff.1 (i + (b : Int) + 1) (by omega)]; exact b3, fun d' q1 q2 => ?_, fun d' q0 q1 q2 => ?_, b6, b7⟩
              · rw [hoff.1 (i + (d' : Int) + 1) (by omega)]; exact b4 d' (by omega)
              · rw [hoff.1 (i + (d' : Int) + 1) (by omega)]; exact b5 d' q0 (by omega)
            · have hlr := lw_rg hk he.1 hi.1 d (by omega)
              have hhr := hgh_rg hk he hi.1 (d := d) (by omega) hh
              have hgp := hk.gap hi.1 (j := j) (by omega) (by omega)
              refine x_aload_n (pc := 78) C 0 dX0_cutFrom_78 rfl ?_
              refine x_get (pc := 79) C 0 0 dX0_cutFrom_79 hiX0_cutFrom_0 hfX0_cutFrom_9 rfl rfl rfl (by decide) rfl ?_
              refine x_iload (pc := 82) C 8 dX0_cutFrom_82 rfl ?_
              refine x_iald (pc := 84) C 1 dX0_cutFrom_84 rfl (by omega) (by omega) (by decide) ?_
              refine x_aload_n (pc := 85) C 0 dX0_cutFrom_85 rfl ?_
              refine x_get (pc := 86) C 0 0 dX0_cutFrom_86 hiX0_cutFrom_0 hfX0_cutFrom_9 rfl rfl rfl (by decide) rfl ?_
              refine x_iload_n (pc := 89) C 1 dX0_cutFrom_89 rfl ?_
              refine x_iald (pc := 90) C 1 dX0_cutFrom_90 rfl (by omega) (by omega) (by decide) ?_
              refine x_isub (pc := 91) C dX0_cutFrom_91 ?_
              refine x_istore (pc := 92) C (lv' := [(9, jv ((x j) - (x i))), (0, .ref a), (1, jv i), (2, jv n), (3, jv e), (4, jv ln), (5, jv ld), (6, jv hn), (7, jv hd), (8, jv j)]) dX0_cutFrom_92 (by decide) rfl ?_
              refine x_iload (pc := 94) C 9 dX0_cutFrom_94 rfl ?_
              refine x_iload_n (pc := 96) C 2 dX0_cutFrom_96 rfl ?_
              refine x_isub (pc := 97) C dX0_cutFrom_97 ?_
              refine x_iload_n (pc := 98) C 4 dX0_cutFrom_98 rfl ?_
              refine x_isub (pc := 99) C dX0_cutFrom_99 ?_
              refine x_istore (pc := 100) C (lv' := [(10, jv ((j - i) - e)), (9, jv ((x j) - (x i))), (0, .ref a), (1, jv i), (2, jv n), (3, jv e), (4, jv ln), (5, jv ld), (6, jv hn), (7, jv hd), (8, jv j)]) dX0_cutFrom_100 (by decide) rfl ?_
              refine x_iload (pc := 102) C 10 dX0_cutFrom_102 rfl ?_
              refine x_iload_n (pc := 104) C 3 dX0_cutFrom_104 rfl ?_
              refine x_isub (pc := 105) C dX0_cutFrom_105 ?_
              refine x_iload_n (pc := 106) C 5 dX0_cutFrom_106 rfl ?_
              refine x_iadd (pc := 107) C dX0_cutFrom_107 ?_
              refine x_istore (pc := 108) C (lv' := [(11, jv ((j - i) + e)), (10, jv ((j - i) - e)), (9, jv ((x j) - (x i))), (0, .ref a), (1, jv i), (2, jv n), (3, jv e), (4, jv ln), (5, jv ld), (6, jv hn), (7, jv hd), (8, jv j)]) dX0_cutFrom_108 (by decide) rfl ?_
              have L131 : ∀ (ln2 : Int) (ld2 : Int), (ln2 = (lw x e i (d + 1)).1 ∧ ld2 = (lw x e i (d + 1)).2) → X l g E ({ frames := 0, cells := 0, slots := 0, locals := 0 } : Room) 12 [(a, ob 0 [.ref c1, .ref c2, .ref c3, .ref c4, .ref c5]), (c1, ai g 60 x), (c2, ai g 61 F'), (c3, ai g 60 L'), (c4, ai g 60 N'), (c5, ai g 60 D')] 0 0 [(0, .ref a), (1, jv i), (2, jv n), (3, jv e), (4, jv ln2), (5, jv ld2), (6, jv hn), (7, jv hd), (8, jv j), (9, jv ((x j) - (x i))), (11, jv ((j - i) + e))] 131 [] := by
                intro ln2 ld2 hl2
                have L152 : ∀ (hn2 : Int) (hd2 : Int), (hgh x e i (d + 1) hn2 hd2) → X l g E ({ frames := 0, cells := 0, slots := 0, locals := 0 } : Room) 12 [(a, ob 0 [.ref c1, .ref c2, .ref c3, .ref c4, .ref c5]), (c1, ai g 60 x), (c2, ai g 61 F'), (c3, ai g 60 L'), (c4, ai g 60 N'), (c5, ai g 60 D')] 0 0 [(0, .ref a), (1, jv i), (2, jv n), (3, jv e), (4, jv ln2), (5, jv ld2), (6, jv hn2), (7, jv hd2), (8, jv j), (9, jv ((x j) - (x i)))] 152 [] := by
                  intro hn2 hd2 hh2
                  have hlr2 := lw_rg hk he.1 hi.1 (d + 1) (by omega)
                  have hhr2 := hgh_rg hk he hi.1 (d := d + 1) (by omega) hh2
                  have hpr1 := mrg (a := ln2) (b := hd2) (by omega) (by omega)
                  have hpr2 := mrg (a := hn2) (b := ld2) (by omega) (by omega)
                  refine x_iload (pc := 152) C 4 dX0_cutFrom_152 rfl ?_
                  refine x_iload (pc := 154) C 7 dX0_cutFrom_154 rfl ?_
                  refine x_imul (pc := 156) C dX0_cutFrom_156 ?_
                  refine x_iload (pc := 157) C 6 dX0_cutFrom_157 rfl ?_
                  refine x_iload (pc := 159) C 5 dX0_cutFrom_159 rfl ?_
                  refine x_imul (pc := 161) C dX0_cutFrom_161 ?_
                  refine x_icmp_le (pc := 162) C 168 dX0_cutFrom_162 rfl ⟨by omega, by omega⟩ ⟨by omega, by omega⟩ (fun c_162 => ?_) (fun c_162 => ?_)
                  · refine x_aload_n (pc := 168) C 0 dX0_cutFrom_168 rfl ?_
                    refine x_get (pc := 169) C 0 1 dX0_cutFrom_169 hiX0_cutFrom_0 hfX0_cutFrom_15 rfl rfl rfl (by decide) rfl ?_
                    refine x_iload (pc := 172) C 8 dX0_cutFrom_172 rfl ?_
                    refine x_iconst (pc := 174) C dX0_cutFrom_174 ?_
                    refine x_iadd (pc := 175) C dX0_cutFrom_175 ?_
                    refine x_iald (pc := 176) C 2 dX0_cutFrom_176 rfl (by omega) (by omega) (by decide) ?_
                    refine x_iconst (pc := 177) C dX0_cutFrom_177 ?_
                    refine x_iadd (pc := 178) C dX0_cutFrom_178 ?_
                    refine x_aload_n (pc := 179) C 0 dX0_cutFrom_179 rfl ?_
                    refine x_get (pc := 180) C 0 1 dX0_cutFrom_180 hiX0_cutFrom_0 hfX0_cutFrom_15 rfl rfl rfl (by decide) rfl ?_
                    refine x_iload_n (pc := 183) C 1 dX0_cutFrom_183 rfl ?_
                    refine x_iald (pc := 184) C 2 dX0_cutFrom_184 rfl (by omega) (by omega) (by decide) ?_
                    have hFj := hF (j + 1) (by omega) (by omega)
                    have hFj' := hoff.1 (j + 1) (by omega)
                    have hFi : 0 ≤ F' i ∧ F' i ≤ 61 := by
                      obtain ⟨b, b1, b2, b3, _⟩ := hbest
                      have := hF (i + (b : Int) + 1) (by omega) (by omega)
                      omega
                    refine x_icmp_gt (pc := 185) C 229 dX0_cutFrom_185 rfl ⟨by omega, by omega⟩ ⟨by omega, by omega⟩ (fun c_185 => ?_) (fun c_185 => ?_)
                    · refine x_iinc (pc := 229) C (lv' := [(8, jv (j + 1)), (0, .ref a), (1, jv i), (2, jv n), (3, jv e), (4, jv ln2), (5, jv ld2), (6, jv hn2), (7, jv hd2), (9, jv ((x j) - (x i)))]) 8 dX0_cutFrom_229 rfl (by decide) rfl ?_
                      refine x_goto (pc := 232) C 72 dX0_cutFrom_232 rfl ?_
                      refine x_locals (lv' := [(0, .ref a), (1, jv i), (2, jv n), (3, jv e), (4, jv ln2), (5, jv ld2), (6, jv hn2), (7, jv hd2), (8, jv (j + 1))]) [1, 2, 3, 4, 5, 6, 7, 8, 0] rfl ?_
                      refine ih72 _ (d + 1) _ _ _ _ _ _ _ _ ?_ ?_ ?_ ?_ ?_ ?_ ?_
                      · omega
                      · omega
                      · exact hl2
                      · exact hh2
                      · exact okd_s hok ((hgh_kp hk he hi.1 (by omega) hh2).mp (by rw [← hl2.1, ← hl2.2]; omega))
                      · exact hoff
                      · obtain ⟨b, b1, b2, b3, b4, b5, b6, b7⟩ := hbest
                        rw [hoff.1 (j + 1) (by omega)] at c_185
                        have hj2 : F (j + 1) = F (i + ((d + 1 : Nat) : Int) + 1) := by rw [show j + 1 = i + ((d + 1 : Nat) : Int) + 1 by omega]
                        refine ⟨b, by omega, b2, b3, fun d' hd' => ?_, fun d' h1 h2 => ?_, b6, b7⟩
                        · by_cases q : d' = d + 1
                          · rw [q]; omega
                          · exact b4 d' (by omega)
                        · by_cases q : d' = d + 1
                          · rw [q]; omega
                          · exact b5 d' h1 (by omega)
                    · refine x_aload_n (pc := 188) C 0 dX0_cutFrom_188 rfl ?_
                      refine x_get (pc := 189) C 0 1 dX0_cutFrom_189 hiX0_cutFrom_0 hfX0_cutFrom_15 rfl rfl rfl (by decide) rfl ?_
                      refine x_iload_n (pc := 192) C 1 dX0_cutFrom_192 rfl ?_
                      refine x_aload_n (pc := 193) C 0 dX0_cutFrom_193 rfl ?_
                      refine x_get (pc := 194) C 0 1 dX0_cutFrom_194 hiX0_cutFrom_0 hfX0_cutFrom_15 rfl rfl rfl (by decide) rfl ?_
                      refine x_iload (pc := 197) C 8 dX0_cutFrom_197 rfl ?_
                      refine x_iconst (pc := 199) C dX0_cutFrom_199 ?_
                      refine x_iadd (pc := 200) C dX0_cutFrom_200 ?_
                      refine x_iald (pc := 201) C 2 dX0_cutFrom_201 rfl (by omega) (by omega) (by decide) ?_
                      refine x_iconst (pc := 202) C dX0_cutFrom_202 ?_
                      refine x_iadd (pc := 203) C dX0_cutFrom_203 ?_
                      refine x_iast (pc := 204) C (ws' := [(a, ob 0 [.ref c1, .ref c2, .ref c3, .ref c4, .ref c5]), (c1, ai g 60 x), (c2, ai g 61 (up F' i ((F' (j + 1)) + 1))), (c3, ai g 60 L'), (c4, ai g 60 N'), (c5, ai g 60 D')]) 2 dX0_cutFrom_204 rfl (by omega) (by omega) (by decide) rfl ?_
                      refine x_aload_n (pc := 205) C 0 dX0_cutFrom_205 rfl ?_
                      refine x_get (pc := 206) C 0 2 dX0_cutFrom_206 hiX0_cutFrom_0 hfX0_cutFrom_18 rfl rfl rfl (by decide) rfl ?_
                      refine x_iload_n (pc := 209) C 1 dX0_cutFrom_209 rfl ?_
                      refine x_iload (pc := 210) C 8 dX0_cutFrom_210 rfl ?_
                      refine x_iast (pc := 212) C (ws' := [(a, ob 0 [.ref c1, .ref c2, .ref c3, .ref c4, .ref c5]), (c1, ai g 60 x), (c2, ai g 61 (up F' i ((F' (j + 1)) + 1))), (c3, ai g 60 (up L' i j)), (c4, ai g 60 N'), (c5, ai g 60 D')]) 3 dX0_cutFrom_212 rfl (by omega) (by omega) (by decide) rfl ?_
                      refine x_aload_n (pc := 213) C 0 dX0_cutFrom_213 rfl ?_
                      refine x_get (pc := 214) C 0 3 dX0_cutFrom_214 hiX0_cutFrom_0 hfX0_cutFrom_21 rfl rfl rfl (by decide) rfl ?_
                      refine x_iload_n (pc := 217) C 1 dX0_cutFrom_217 rfl ?_
                      refine x_iload (pc := 218) C 4 dX0_cutFrom_218 rfl ?_
                      refine x_iast (pc := 220) C (ws' := [(a, ob 0 [.ref c1, .ref c2, .ref c3, .ref c4, .ref c5]), (c1, ai g 60 x), (c2, ai g 61 (up F' i ((F' (j + 1)) + 1))), (c3, ai g 60 (up L' i j)), (c4, ai g 60 (up N' i ln2)), (c5, ai g 60 D')]) 4 dX0_cutFrom_220 rfl (by omega) (by omega) (by decide) rfl ?_
                      refine x_aload_n (pc := 221) C 0 dX0_cutFrom_221 rfl ?_
                      refine x_get (pc := 222) C 0 4 dX0_cutFrom_222 hiX0_cutFrom_0 hfX0_cutFrom_24 rfl rfl rfl (by decide) rfl ?_
                      refine x_iload_n (pc := 225) C 1 dX0_cutFrom_225 rfl ?_
                      refine x_iload (pc := 226) C 5 dX0_cutFrom_226 rfl ?_
                      refine x_iast (pc := 228) C (ws' := [(a, ob 0 [.ref c1, .ref c2, .ref c3, .ref c4, .ref c5]), (c1, ai g 60 x), (c2, ai g 61 (up F' i ((F' (j + 1)) + 1))), (c3, ai g 60 (up L' i j)), (c4, ai g 60 (up N' i ln2)), (c5, ai g 60 (up D' i ld2))]) 5 dX0_cutFrom_228 rfl (by omega) (by omega) (by decide) rfl ?_
                      refine x_iinc (pc := 229) C (lv' := [(8, jv (j + 1)), (0, .ref a), (1, jv i), (2, jv n), (3, jv e), (4, jv ln2), (5, jv ld2), (6, jv hn2), (7, jv hd2), (9, jv ((x j) - (x i)))]) 8 dX0_cutFrom_229 rfl (by decide) rfl ?_
                      refine x_goto (pc := 232) C 72 dX0_cutFrom_232 rfl ?_
                      refine x_locals (lv' := [(0, .ref a), (1, jv i), (2, jv n), (3, jv e), (4, jv ln2), (5, jv ld2), (6, jv hn2), (7, jv hd2), (8, jv (j + 1))]) [1, 2, 3, 4, 5, 6, 7, 8, 0] rfl ?_
                      refine ih72 _ (d + 1) _ _ _ _ _ _ _ _ ?_ ?_ ?_ ?_ ?_ ?_ ?_
                      · omega
                      · omega
                      · exact hl2
                      · exact hh2
                      · exact okd_s hok ((hgh_kp hk he hi.1 (by omega) hh2).mp (by rw [← hl2.1, ← hl2.2]; omega))
                      · exact ⟨fun k h => by rw [up_ne _ _ h]; exact hoff.1 k h, fun k h => by rw [up_ne _ _ h]; exact hoff.2.1 k h, fun k h => by rw [up_ne _ _ h]; exact hoff.2.2.1 k h, fun k h => by rw [up_ne _ _ h]; exact hoff.2.2.2 k h⟩
                      · obtain ⟨b, b1, b2, b3, b4, b5, b6, b7⟩ := hbest
                        rw [hoff.1 (j + 1) (by omega)] at c_185 ⊢
                        have hj2 : F (j + 1) = F (i + ((d + 1 : Nat) : Int) + 1) := by rw [show j + 1 = i + ((d + 1 : Nat) : Int) + 1 by omega]
                        refine ⟨d + 1, Nat.le_refl _, by rw [up_eq]; omega, by rw [up_eq, hj2], fun d' hd' => ?_, fun d' h1 h2 => absurd h1 (by omega), by rw [up_eq]; exact hl2.1, by rw [up_eq]; exact hl2.2⟩
                        rw [up_eq]
                        by_cases q : d' = d + 1
                        · rw [q]; omega
                        · have := b4 d' (by omega)
                          omega
                  · refine x_goto (pc := 165) C 235 dX0_cutFrom_165 rfl ?_
                    refine x_vret (pc := 235) C Rt0 dX0_cutFrom_235 rfl ?_
                    refine ⟨_, _, _, _, rfl, rfl, ?_⟩
                    obtain ⟨b, b1, b2, b3, b4, b5, b6, b7⟩ := hbest
                    refine ⟨hoff.1, hoff.2.1, hoff.2.2.1, hoff.2.2.2, b, by omega, okd_le hok b1, b2, by rw [hoff.1 (i + (b : Int) + 1) (by omega)]; exact b3, fun d' q1 q2 => ?_, fun d' q0 q1 q2 => ?_, b6, b7⟩
                    · rw [hoff.1 (i + (d' : Int) + 1) (by omega)]
                      rcases Nat.lt_or_ge d d' with z | z
                      · exact absurd ((hgh_kp hk he hi.1 (by omega) hh2).mpr (q1 (d + 1) (by omega) (by omega))) (by rw [← hl2.1, ← hl2.2]; omega)
                      · exact b4 d' z
                    · rw [hoff.1 (i + (d' : Int) + 1) (by omega)]
                      rcases Nat.lt_or_ge d d' with z | z
                      · exact absurd ((hgh_kp hk he hi.1 (by omega) hh2).mpr (q1 (d + 1) (by omega) (by omega))) (by rw [← hl2.1, ← hl2.2]; omega)
                      · exact b5 d' q0 z
                refine x_iload (pc := 131) C 10 dX0_cutFrom_131 rfl ?_
                refine x_iload (pc := 133) C 7 dX0_cutFrom_133 rfl ?_
                refine x_imul (pc := 135) C dX0_cutFrom_135 ?_
                refine x_iload (pc := 136) C 6 dX0_cutFrom_136 rfl ?_
                refine x_iload (pc := 138) C 9 dX0_cutFrom_138 rfl ?_
                refine x_imul (pc := 140) C dX0_cutFrom_140 ?_
                refine x_icmp_ge (pc := 141) C 152 dX0_cutFrom_141 rfl (mrgR (by omega) (by omega)) (mrgR (by omega) (by omega)) (fun c_141 => ?_) (fun c_141 => ?_)
                · refine x_locals (lv' := [(0, .ref a), (1, jv i), (2, jv n), (3, jv e), (4, jv ln2), (5, jv ld2), (6, jv hn), (7, jv hd), (8, jv j), (9, jv ((x j) - (x i)))]) [0, 1, 2, 3, 4, 5, 6, 7, 8, 9] rfl ?_
                  refine L152 _ _ ?_
                  · exact hgh_f hk he hi.1 hj.1 (by omega) hh (Int.not_lt.mpr c_141)
                · refine x_iload (pc := 144) C 10 dX0_cutFrom_144 rfl ?_
                  refine x_istore (pc := 146) C (lv' := [(6, jv ((j - i) + e)), (0, .ref a), (1, jv i), (2, jv n), (3, jv e), (4, jv ln2), (5, jv ld2), (7, jv hd), (8, jv j), (9, jv ((x j) - (x i))), (11, jv ((j - i) + e))]) dX0_cutFrom_146 (by decide) rfl ?_
                  refine x_iload (pc := 148) C 9 dX0_cutFrom_148 rfl ?_
                  refine x_istore (pc := 150) C (lv' := [(7, jv ((x j) - (x i))), (6, jv ((j - i) + e)), (0, .ref a), (1, jv i), (2, jv n), (3, jv e), (4, jv ln2), (5, jv ld2), (8, jv j), (9, jv ((x j) - (x i))), (11, jv ((j - i) + e))]) dX0_cutFrom_150 (by decide) rfl ?_
                  refine x_locals (lv' := [(0, .ref a), (1, jv i), (2, jv n), (3, jv e), (4, jv ln2), (5, jv ld2), (6, jv ((j - i) + e)), (7, jv ((x j) - (x i))), (8, jv j), (9, jv ((x j) - (x i)))]) [2, 3, 4, 5, 6, 7, 1, 0, 8, 9] rfl ?_
                  refine L152 _ _ ?_
                  · exact hgh_t hk he hi.1 hj.1 (by omega) hh (Int.not_le.mp c_141)
              refine x_iload (pc := 110) C 1 dX0_cutFrom_110 rfl ?_
              refine x_iload (pc := 112) C 8 dX0_cutFrom_112 rfl ?_
              refine x_imul (pc := 114) C dX0_cutFrom_114 ?_
              refine x_iload (pc := 115) C 7 dX0_cutFrom_115 rfl ?_
              refine x_iload (pc := 117) C 2 dX0_cutFrom_117 rfl ?_
              refine x_imul (pc := 119) C dX0_cutFrom_119 ?_
              refine x_icmp_le (pc := 120) C 131 dX0_cutFrom_120 rfl (mrgR (by omega) (by omega)) (mrgR (by omega) (by omega)) (fun c_120 => ?_) (fun c_120 => ?_)
              · refine x_locals (lv' := [(0, .ref a), (1, jv i), (2, jv n), (3, jv e), (4, jv ln), (5, jv ld), (6, jv hn), (7, jv hd), (8, jv j), (9, jv ((x j) - (x i))), (11, jv ((j - i) + e))]) [3, 4, 5, 6, 7, 8, 9, 10, 11, 2, 0] rfl ?_
                refine L131 _ _ ?_
                · have q := lw_f (x := x) hj.1 (by rw [← hl.1, ← hl.2]; exact Int.not_lt.mpr c_120)
                  rw [q]; exact hl
              · refine x_iload (pc := 123) C 1 dX0_cutFrom_123 rfl ?_
                refine x_istore (pc := 125) C (lv' := [(4, jv ((j - i) - e)), (11, jv ((j - i) + e)), (10, jv ((j - i) - e)), (9, jv ((x j) - (x i))), (0, .ref a), (1, jv i), (2, jv n), (3, jv e), (5, jv ld), (6, jv hn), (7, jv hd), (8, jv j)]) dX0_cutFrom_125 (by decide) rfl ?_
                refine x_iload (pc := 127) C 3 dX0_cutFrom_127 rfl ?_
                refine x_istore (pc := 129) C (lv' := [(5, jv ((x j) - (x i))), (4, jv ((j - i) - e)), (11, jv ((j - i) + e)), (10, jv ((j - i) - e)), (9, jv ((x j) - (x i))), (0, .ref a), (1, jv i), (2, jv n), (3, jv e), (6, jv hn), (7, jv hd), (8, jv j)]) dX0_cutFrom_129 (by decide) rfl ?_
                refine x_locals (lv' := [(0, .ref a), (1, jv i), (2, jv n), (3, jv e), (4, jv ((j - i) - e)), (5, jv ((x j) - (x i))), (6, jv hn), (7, jv hd), (8, jv j), (9, jv ((x j) - (x i))), (11, jv ((j - i) + e))]) [5, 6, 7, 8, 1, 0, 9, 10, 11, 4, 2] rfl ?_
                refine L131 _ _ ?_
                · have q := lw_t (x := x) hj.1 (by rw [← hl.1, ← hl.2]; exact Int.not_le.mp c_120)
                  rw [q]; exact ⟨rfl, rfl⟩
        refine x_locals (lv' := [(0, .ref a), (1, jv i), (2, jv n), (3, jv e), (4, jv 0), (5, jv 1), (6, jv 1), (7, jv 0), (8, jv (i + 1))]) [5, 6, 7, 8, 4, 3, 2, 1, 0] rfl ?_
        refine L72 _ _ 0 _ _ _ _ _ _ _ _ (Nat.lt_succ_self _) ?_ ?_ ?_ ?_ ?_ ?_
        · omega
        · exact ⟨rfl, rfl⟩
        · exact Or.inl ⟨rfl, rfl, rfl⟩
        · exact okd_0 _ _ _
        · exact ⟨fun k h => up_ne _ _ h, fun k h => up_ne _ _ h, fun k h => up_ne _ _ h, fun k h => up_ne _ _ h⟩
        · refine ⟨0, Nat.le_refl _, by rw [up_eq]; omega, by rw [up_eq]; rw [show i + ((0 : Nat) : Int) + 1 = i + 1 by omega], fun d' hd' => ?_, fun d' h1 h2 => absurd h1 (by omega), by rw [up_eq]; rfl, by rw [up_eq]; rfl⟩
          rw [up_eq, show d' = 0 by omega, show i + ((0 : Nat) : Int) + 1 = i + 1 by omega]
          omega
      · omega

set_option maxRecDepth 100000 in
theorem hiX0_cut_0 : ∀ w ∈ wsX00, w ∈ wsX0_cut := by decide +kernel
set_option maxRecDepth 100000 in
theorem hfX0_cut_15 : Cond.fieldLink RX0 15 "KeyGuess$Cuts" "fewest" "[I" ∈ wsX0_cut := by decide +kernel
set_option maxRecDepth 100000 in
theorem hfX0_cut_9 : Cond.fieldLink RX0 9 "KeyGuess$Cuts" "cells" "[I" ∈ wsX0_cut := by decide +kernel
set_option maxHeartbeats 4000000 in
set_option maxRecDepth 100000 in
/-- Cuts.cut -/
theorem ctX0_cut (l : Launch) (g : xG) (a : Nat) (c1 : Nat) (c2 : Nat) (c3 : Nat) (c4 : Nat) (c5 : Nat) (x : Int → Int) (F : Int → Int) (Ls : Int → Int) (Nm : Int → Int) (Dn : Int → Int) (ka : Nat) (kb : Nat) (n : Int) (f : Int → Int) (e : Int) (hk : Kr n f) (he : 0 ≤ e ∧ e ≤ 8) : Ct l g yX0_cut wsX0_cut ({ frames := 1, cells := 0, slots := 0, locals := 31 } : Room) 0 0 [(a, ob 0 [.ref c1, .ref c2, .ref c3, .ref c4, .ref c5]), (c1, ai g 60 x), (c2, ai g 61 F), (c3, ai g 60 Ls), (c4, ai g 60 Nm), (c5, ai g 60 Dn), (ka, ob 2 [.ref kb, jv n]), (kb, ai g 60 f)] [.ref a, .ref ka, jv e] (fun v u => ∃ (x' : Int → Int) (F' : Int → Int) (L' : Int → Int) (N' : Int → Int) (D' : Int → Int), v = none ∧ u = [(a, ob 0 [.ref c1, .ref c2, .ref c3, .ref c4, .ref c5]), (c1, ai g 60 x'), (c2, ai g 61 F'), (c3, ai g 60 L'), (c4, ai g 60 N'), (c5, ai g 60 D'), (ka, ob 2 [.ref kb, jv n]), (kb, ai g 60 f)] ∧ (Cut4 f e n F' L' N' D' ∧ ∀ k : Int, 0 ≤ k → k ≤ n → 0 ≤ F' k ∧ F' k ≤ n - k)) := by
  refine ct_of (cc := cX0_cut) (nL := 5) (ret := none) (by decide) rfl (Nat.le_of_ble_eq_true rfl) ?_
  intro E C Rt0
  have C : Cx l g E ({ frames := 1, cells := 0, slots := 0, locals := 31 } : Room) RX0 "cut" cX0_cut wsX0_cut 5 := C
  show X l g E ({ frames := 1, cells := 0, slots := 0, locals := 31 } : Room) 5 [(a, ob 0 [.ref c1, .ref c2, .ref c3, .ref c4, .ref c5]), (c1, ai g 60 x), (c2, ai g 61 F), (c3, ai g 60 Ls), (c4, ai g 60 Nm), (c5, ai g 60 Dn), (ka, ob 2 [.ref kb, jv n]), (kb, ai g 60 f)] 0 0 [(0, .ref a), (1, .ref ka), (2, jv e)] 0 []
  have hn0 := hk.1
  have hn1 := hk.2.1
  refine x_aload_n (pc := 0) C 1 dX0_cut_0 rfl ?_
  refine x_callV (pc := 1) C (n := 0) (q0 := 0) (rest := []) (wr := [(a, ob 0 [.ref c1, .ref c2, .ref c3, .ref c4, .ref c5]), (c1, ai g 60 x), (c2, ai g 61 F), (c3, ai g 60 Ls), (c4, ai g 60 Nm), (c5, ai g 60 Dn)]) [6, 7] [0, 1, 2, 3, 4, 5] (ctX2_size l g ka kb n f ⟨hn0, hn1⟩) gX0_cut_X2_size rfl ⟨rfl, rfl⟩ (by decide +kernel) ⟨by decide, by decide⟩ rfl rfl rfl rfl rfl (by decide) (by decide) (by decide) rfl (Nat.le_of_ble_eq_true rfl) dX0_cut_1 ⟨by decide, by decide⟩ (fun v_1 u_1 h_1 => ?_)
  rcases h_1 with ⟨rfl, rfl, f_1⟩
  refine x_world (ws' := [(a, ob 0 [.ref c1, .ref c2, .ref c3, .ref c4, .ref c5]), (c1, ai g 60 x), (c2, ai g 61 F), (c3, ai g 60 Ls), (c4, ai g 60 Nm), (c5, ai g 60 Dn), (ka, ob 2 [.ref kb, jv n]), (kb, ai g 60 f)]) [0, 1, 2, 3, 4, 5, 6, 7] (by decide) rfl ?_
  show X l g E ({ frames := 1, cells := 0, slots := 0, locals := 31 } : Room) 5 [(a, ob 0 [.ref c1, .ref c2, .ref c3, .ref c4, .ref c5]), (c1, ai g 60 x), (c2, ai g 61 F), (c3, ai g 60 Ls), (c4, ai g 60 Nm), (c5, ai g 60 Dn), (ka, ob 2 [.ref kb, jv n]), (kb, ai g 60 f)] 0 0 [(0, .ref a), (1, .ref ka), (2, jv e)] 4 [jv n]
  refine x_bipush (pc := 4) C dX0_cut_4 rfl ?_
  refine x_mmin (pc := 6) C dX0_cut_6 (by decide +kernel) (by decide +kernel) (by decide +kernel) (by decide +kernel) (by decide) (by decide) (by decide) (by decide) ⟨by omega, by omega⟩ ⟨by omega, by omega⟩ ?_
  rw [show (if 60 < n then 60 else n) = n from (if_neg (by omega))]
  refine x_istore_n (pc := 9) C (lv' := [(3, jv n), (0, .ref a), (1, .ref ka), (2, jv e)]) dX0_cut_9 (by decide) rfl ?_
  refine x_iconst (pc := 10) C dX0_cut_10 ?_
  refine x_istore (pc := 11) C (lv' := [(4, jv 0), (3, jv n), (0, .ref a), (1, .ref ka), (2, jv e)]) dX0_cut_11 (by decide) rfl ?_
  have L13 : ∀ (nn : Nat) (k : Int) (x' : Int → Int), (n - k).toNat < nn → (0 ≤ k ∧ k ≤ n) → (Agr k x' f) → X l g E ({ frames := 1, cells := 0, slots := 0, locals := 31 } : Room) 5 [(a, ob 0 [.ref c1, .ref c2, .ref c3, .ref c4, .ref c5]), (c1, ai g 60 x'), (c2, ai g 61 F), (c3, ai g 60 Ls), (c4, ai g 60 Nm), (c5, ai g 60 Dn), (ka, ob 2 [.ref kb, jv n]), (kb, ai g 60 f)] 0 0 [(0, .ref a), (1, .ref ka), (2, jv e), (3, jv n), (4, jv k)] 13 [] := by
    intro nn
    induction nn with
    | zero => intro k x' hμ; exact absurd hμ (Nat.not_lt_zero _)
    | succ nn ih13 =>
      intro k x' hμ hi hc
      refine x_iload (pc := 13) C 4 dX0_cut_13 rfl ?_
      refine x_iload_n (pc := 15) C 3 dX0_cut_15 rfl ?_
      refine x_icmp_ge (pc := 16) C 38 dX0_cut_16 rfl ⟨by omega, by omega⟩ ⟨by omega, by omega⟩ (fun c_16 => ?_) (fun c_16 => ?_)
      · have hc : Agr n x' f := by rw [show n = k by omega]; exact hc
        have hk2 : Kr n x' := hk.congr hc.symm
        refine x_aload_n (pc := 38) C 0 dX0_cut_38 rfl ?_
        refine x_get (pc := 39) C 0 1 dX0_cut_39 hiX0_cut_0 hfX0_cut_15 rfl rfl rfl (by decide) rfl ?_
        refine x_iload_n (pc := 42) C 3 dX0_cut_42 rfl ?_
        refine x_iconst (pc := 43) C dX0_cut_43 ?_
        refine x_iast (pc := 44) C (ws' := [(a, ob 0 [.ref c1, .ref c2, .ref c3, .ref c4, .ref c5]), (c1, ai g 60 x'), (c2, ai g 61 (up F n 0)), (c3, ai g 60 Ls), (c4, ai g 60 Nm), (c5, ai g 60 Dn), (ka, ob 2 [.ref kb, jv n]), (kb, ai g 60 f)]) 2 dX0_cut_44 rfl (by omega) (by omega) (by decide) rfl ?_
        refine x_iload_n (pc := 45) C 3 dX0_cut_45 rfl ?_
        refine x_iconst (pc := 46) C dX0_cut_46 ?_
        refine x_isub (pc := 47) C dX0_cut_47 ?_
        refine x_istore (pc := 48) C (lv' := [(4, jv (n - 1)), (0, .ref a), (1, .ref ka), (2, jv e), (3, jv n)]) dX0_cut_48 (by decide) rfl ?_
        have L50 : ∀ (nn : Nat) (i : Int) (F'' : Int → Int) (L'' : Int → Int) (N'' : Int → Int) (D'' : Int → Int), (i + 1).toNat < nn → (-1 ≤ i ∧ i < n) → (F'' n = 0 ∧ (∀ k : Int, i < k → k < n → Cs x' e n F'' k (L'' k) (N'' k) (D'' k)) ∧ ∀ k : Int, i < k → k ≤ n → 0 ≤ F'' k ∧ F'' k ≤ n - k) → X l g E ({ frames := 1, cells := 0, slots := 0, locals := 31 } : Room) 5 [(a, ob 0 [.ref c1, .ref c2, .ref c3, .ref c4, .ref c5]), (c1, ai g 60 x'), (c2, ai g 61 F''), (c3, ai g 60 L''), (c4, ai g 60 N''), (c5, ai g 60 D''), (ka, ob 2 [.ref kb, jv n]), (kb, ai g 60 f)] 0 0 [(0, .ref a), (2, jv e), (3, jv n), (4, jv i)] 50 [] := by
          intro nn
          induction nn with
          | zero => intro i F'' L'' N'' D'' hμ; exact absurd hμ (Nat.not_lt_zero _)
          | succ nn ih50 =>
            intro i F'' L'' N'' D'' hμ hi2 hdone
            refine x_iload (pc := 50) C 3 dX0_cut_50 rfl ?_
            refine x_if_lt (pc := 52) C 69 dX0_cut_52 rfl ⟨by omega, by omega⟩ (fun c_52 => ?_) (fun c_52 => ?_)
            · refine x_vret (pc := 69) C Rt0 dX0_cut_69 rfl ?_
              refine ⟨_, _, _, _, _, rfl, rfl, ?_⟩
              exact ⟨⟨hdone.1, fun k h0 h1 => (hdone.2.1 k (by omega) h1).congr hc h0 (fun _ _ _ => rfl)⟩, fun k h0 h1 => hdone.2.2 k (by omega) h1⟩
            · refine x_aload_n (pc := 55) C 0 dX0_cut_55 rfl ?_
              refine x_iload (pc := 56) C 3 dX0_cut_56 rfl ?_
              refine x_iload_n (pc := 58) C 2 dX0_cut_58 rfl ?_
              refine x_iload_n (pc := 59) C 1 dX0_cut_59 rfl ?_
              refine x_callV (pc := 60) C (n := 3) (q0 := 0) (rest := []) (wr := [(ka, ob 2 [.ref kb, jv n]), (kb, ai g 60 f)]) [0, 1, 2, 3, 4, 5] [6, 7] (ctX0_cutFrom l g a c1 c2 c3 c4 c5 x' F'' L'' N'' D'' i n e hk2 he ⟨by omega, by omega⟩ (fun k h1 h2 => by have := hdone.2.2 k h1 h2; omega)) gX0_cut_X0_cutFrom rfl ⟨rfl, rfl⟩ (by decide +kernel) ⟨by decide, by decide⟩ rfl rfl rfl rfl rfl (by decide) (by decide) (by decide) rfl (Nat.le_of_ble_eq_true rfl) dX0_cut_60 ⟨by decide, by decide⟩ (fun v_60 u_60 h_60 => ?_)
              rcases h_60 with ⟨F3, L3, N3, D3, rfl, rfl, f_60⟩
              refine x_world (ws' := [(a, ob 0 [.ref c1, .ref c2, .ref c3, .ref c4, .ref c5]), (c1, ai g 60 x'), (c2, ai g 61 F3), (c3, ai g 60 L3), (c4, ai g 60 N3), (c5, ai g 60 D3), (ka, ob 2 [.ref kb, jv n]), (kb, ai g 60 f)]) [2, 3, 4, 5, 6, 7, 0, 1] (by decide) rfl ?_
              show X l g E ({ frames := 1, cells := 0, slots := 0, locals := 31 } : Room) 5 [(a, ob 0 [.ref c1, .ref c2, .ref c3, .ref c4, .ref c5]), (c1, ai g 60 x'), (c2, ai g 61 F3), (c3, ai g 60 L3), (c4, ai g 60 N3), (c5, ai g 60 D3), (ka, ob 2 [.ref kb, jv n]), (kb, ai g 60 f)] 0 0 [(0, .ref a), (2, jv e), (3, jv n), (4, jv i)] 63 []
              refine x_iinc (pc := 63) C (lv' := [(4, jv (i + (-1))), (0, .ref a), (2, jv e), (3, jv n)]) 3 dX0_cut_63 rfl (by decide) rfl ?_
              refine x_goto (pc := 66) C 50 dX0_cut_66 rfl ?_
              refine x_locals (lv' := [(0, .ref a), (2, jv e), (3, jv n), (4, jv (i + (-1)))]) [1, 2, 3, 0] rfl ?_
              refine ih50 _ _ _ _ _ ?_ ?_ ?_
              · omega
              · omega
              · obtain ⟨o1, o2, o3, o4, hcs⟩ := f_60
                obtain ⟨d1, d2, d3⟩ := hdone
                refine ⟨by rw [o1 n (by omega)]; exact d1, fun k h1 h2 => ?_, fun k h1 h2 => ?_⟩
                · by_cases q : k = i
                  · rw [q]; exact hcs
                  · rw [o2 k q, o3 k q, o4 k q]
                    exact (d2 k (by omega) h2).congr (fun _ _ _ => rfl) (by omega) (fun m m1 m2 => (o1 m (by omega)).symm)
                · by_cases q : k = i
                  · obtain ⟨d, q1, q2, q3, q4, _⟩ := hcs
                    have := d3 (i + (d : Int) + 1) (by omega) (by omega)
                    rw [o1 (i + (d : Int) + 1) (by omega)] at q4
                    rw [q]; omega
                  · rw [o1 k q]; exact d3 k (by omega) h2
        refine x_locals (lv' := [(0, .ref a), (2, jv e), (3, jv n), (4, jv (n - 1))]) [1, 3, 4, 0] rfl ?_
        refine L50 _ _ _ _ _ _ (Nat.lt_succ_self _) ?_ ?_
        · omega
        · exact ⟨up_eq _ _ _, fun k h1 h2 => absurd h1 (by omega), fun k h1 h2 => by rw [show k = n by omega, up_eq]; omega⟩
      · refine x_aload_n (pc := 19) C 0 dX0_cut_19 rfl ?_
        refine x_get (pc := 20) C 0 0 dX0_cut_20 hiX0_cut_0 hfX0_cut_9 rfl rfl rfl (by decide) rfl ?_
        refine x_iload (pc := 23) C 4 dX0_cut_23 rfl ?_
        refine x_aload_n (pc := 25) C 1 dX0_cut_25 rfl ?_
        refine x_iload (pc := 26) C 4 dX0_cut_26 rfl ?_
        refine x_callV (pc := 28) C (n := 1) (q0 := 0) (rest := [jv k, .ref c1]) (wr := [(a, ob 0 [.ref c1, .ref c2, .ref c3, .ref c4, .ref c5]), (c1, ai g 60 x'), (c2, ai g 61 F), (c3, ai g 60 Ls), (c4, ai g 60 Nm), (c5, ai g 60 Dn)]) [6, 7] [0, 1, 2, 3, 4, 5] (ctX2_key l g ka kb n f k ⟨hn0, hn1⟩ ⟨by omega, by omega⟩) gX0_cut_X2_key rfl ⟨rfl, rfl⟩ (by decide +kernel) ⟨by decide, by decide⟩ rfl rfl rfl rfl rfl (by decide) (by decide) (by decide) rfl (Nat.le_of_ble_eq_true rfl) dX0_cut_28 ⟨by decide, by decide⟩ (fun v_28 u_28 h_28 => ?_)
        rcases h_28 with ⟨rfl, rfl, f_28⟩ | ⟨rfl, rfl, f_28⟩
        · refine x_world (ws' := [(a, ob 0 [.ref c1, .ref c2, .ref c3, .ref c4, .ref c5]), (c1, ai g 60 x'), (c2, ai g 61 F), (c3, ai g 60 Ls), (c4, ai g 60 Nm), (c5, ai g 60 Dn), (ka, ob 2 [.ref kb, jv n]), (kb, ai g 60 f)]) [0, 1, 2, 3, 4, 5, 6, 7] (by decide) rfl ?_
          show X l g E ({ frames := 1, cells := 0, slots := 0, locals := 31 } : Room) 5 [(a, ob 0 [.ref c1, .ref c2, .ref c3, .ref c4, .ref c5]), (c1, ai g 60 x'), (c2, ai g 61 F), (c3, ai g 60 Ls), (c4, ai g 60 Nm), (c5, ai g 60 Dn), (ka, ob 2 [.ref kb, jv n]), (kb, ai g 60 f)] 0 0 [(0, .ref a), (1, .ref ka), (2, jv e), (3, jv n), (4, jv k)] 31 [jv (f k), jv k, .ref c1]
          refine x_iast (pc := 31) C (ws' := [(a, ob 0 [.ref c1, .ref c2, .ref c3, .ref c4, .ref c5]), (c1, ai g 60 (up x' k (f k))), (c2, ai g 61 F), (c3, ai g 60 Ls), (c4, ai g 60 Nm), (c5, ai g 60 Dn), (ka, ob 2 [.ref kb, jv n]), (kb, ai g 60 f)]) 1 dX0_cut_31 rfl (by omega) (by omega) (by decide) rfl ?_
          refine x_iinc (pc := 32) C (lv' := [(4, jv (k + 1)), (0, .ref a), (1, .ref ka), (2, jv e), (3, jv n)]) 4 dX0_cut_32 rfl (by decide) rfl ?_
          refine x_goto (pc := 35) C 13 dX0_cut_35 rfl ?_
          refine x_locals (lv' := [(0, .ref a), (1, .ref ka), (2, jv e), (3, jv n), (4, jv (k + 1))]) [1, 2, 3, 4, 0] rfl ?_
          refine ih13 _ _ ?_ ?_ ?_
          · omega
          · omega
          · exact al_s (fun i h0 h1 => by rw [up_ne _ _ (by omega)]; exact hc i h0 h1) (up_eq _ _ _)
        · refine x_world (ws' := [(a, ob 0 [.ref c1, .ref c2, .ref c3, .ref c4, .ref c5]), (c1, ai g 60 x'), (c2, ai g 61 F), (c3, ai g 60 Ls), (c4, ai g 60 Nm), (c5, ai g 60 Dn), (ka, ob 2 [.ref kb, jv n]), (kb, ai g 60 f)]) [0, 1, 2, 3, 4, 5, 6, 7] (by decide) rfl ?_
          show X l g E ({ frames := 1, cells := 0, slots := 0, locals := 31 } : Room) 5 [(a, ob 0 [.ref c1, .ref c2, .ref c3, .ref c4, .ref c5]), (c1, ai g 60 x'), (c2, ai g 61 F), (c3, ai g 60 Ls), (c4, ai g 60 Nm), (c5, ai g 60 Dn), (ka, ob 2 [.ref kb, jv n]), (kb, ai g 60 f)] 0 0 [(0, .ref a), (1, .ref ka), (2, jv e), (3, jv n), (4, jv k)] 31 [jv (-1), jv k, .ref c1]
          exact absurd f_28 (by omega)
  refine x_locals (lv' := [(0, .ref a), (1, .ref ka), (2, jv e), (3, jv n), (4, jv 0)]) [2, 3, 4, 1, 0] rfl ?_
  refine L13 _ _ _ (Nat.lt_succ_self _) ?_ ?_
  · omega
  · exact al_0
end
section
/-! ===== levels of pieces over pieces: one mathematical value ===== -/
/-- what the ranks of n keys have, by the fewest pieces: fewest from a rank, last rank, slope -/
noncomputable def cQ (x : Int → Int) (e n : Int) : (Int → Int) × (Int → Int) × (Int → Int) × (Int → Int) := Classical.epsilon (fun q : (Int → Int) × (Int → Int) × (Int → Int) × (Int → Int) => Cut4 x e n q.1 q.2.1 q.2.2.1 q.2.2.2)
def CutC (x : Int → Int) (e n : Int) : Prop := Cut4 x e n (cQ x e n).1 (cQ x e n).2.1 (cQ x e n).2.2.1 (cQ x e n).2.2.2
theorem cQ_cut {x : Int → Int} {e n : Int} {F L N D : Int → Int} (h : Cut4 x e n F L N D) : CutC x e n := Classical.epsilon_spec (p := fun q : (Int → Int) × (Int → Int) × (Int → Int) × (Int → Int) => Cut4 x e n q.1 q.2.1 q.2.2.1 q.2.2.2) ⟨(F, L, N, D), h⟩
theorem cQ_of {x : Int → Int} {e n : Int} {F L N D : Int → Int} (h : Cut4 x e n F L N D) : (∀ i : Int, 0 ≤ i → i ≤ n → F i = (cQ x e n).1 i) ∧ ∀ i : Int, 0 ≤ i → i < n → L i = (cQ x e n).2.1 i ∧ N i = (cQ x e n).2.2.1 i ∧ D i = (cQ x e n).2.2.2 i := Cut4.uniq h (cQ_cut h)
theorem Cut4.congr {x y : Int → Int} {e n : Int} {F L N D : Int → Int} (h : Agr n x y) (k : Cut4 x e n F L N D) : Cut4 y e n F L N D := ⟨k.1, fun i h0 h1 => (k.2 i h0 h1).congr h h0 (fun _ _ _ => rfl)⟩
theorem cQ_congr {x y : Int → Int} {e n : Int} (h : Agr n x y) : cQ x e n = cQ y e n := by
  unfold cQ
  congr 1
  funext q
  exact propext ⟨fun k => k.congr h, fun k => k.congr h.symm⟩
def frm (L : Int → Int) : Nat → Int
  | 0 => 0
  | k + 1 => L (frm L k) + 1
theorem Cut4.at {x : Int → Int} {e n : Int} {F L N D : Int → Int} (h : Cut4 x e n F L N D) {i : Int} (h0 : 0 ≤ i) (h1 : i < n) : i ≤ L i ∧ L i < n ∧ F i = F (L i + 1) + 1 := by
  obtain ⟨d, d1, d2, d3, d4, _⟩ := h.2 i h0 h1
  rw [d3]
  exact ⟨by omega, d1, d4⟩
theorem Cut4.sl {x : Int → Int} {e n : Int} {F L N D : Int → Int} (hk : Kr n x) (he : 0 ≤ e) (h : Cut4 x e n F L N D) {i : Int} (h0 : 0 ≤ i) (h1 : i < n) : 0 ≤ N i ∧ N i ≤ 60 ∧ 1 ≤ D i ∧ D i ≤ 1000000 := by
  obtain ⟨d, d1, d2, d3, d4, _, _, d7, d8⟩ := h.2 i h0 h1
  rw [d7, d8]
  exact lw_rg hk he h0 d d1
theorem Cut4.fb {x : Int → Int} {e n : Int} {F L N D : Int → Int} (h : Cut4 x e n F L N D) : ∀ i : Int, 0 ≤ i → i ≤ n → 0 ≤ F i ∧ F i ≤ n - i ∧ (i < n → 1 ≤ F i) := by
  have key : ∀ k : Nat, ∀ i : Int, 0 ≤ i → i ≤ n → n - i ≤ (k : Int) → 0 ≤ F i ∧ F i ≤ n - i ∧ (i < n → 1 ≤ F i) := by
    intro k
    induction k with
    | zero =>
      intro i h0 h1 h2
      rw [show i = n by omega, h.1]
      omega
    | succ k ih =>
      intro i h0 h1 h2
      by_cases q : i = n
      · rw [q, h.1]; omega
      · have a := h.at h0 (by omega)
        have b := ih (L i + 1) (by omega) (by omega) (by omega)
        omega
  exact fun i h0 h1 => key (n - i).toNat i h0 h1 (by omega)
theorem okd_1 {n : Int} {x : Int → Int} (hk : Kr n x) {e i : Int} (he : 0 ≤ e) (h0 : 0 ≤ i) (h1 : i + 1 < n) : okd x e i 1 := by
  intro m m1 m2
  have hm : m = 1 := by omega
  subst hm
  intro k k1 k2
  have hkk : k = 1 := by omega
  subst hkk
  have w := hk.gap h0 (j := i + 1) (by omega) h1
  show (lw x e i 1).1 * (x (i + ((1 : Nat) : Int)) - x i) ≤ (((1 : Nat) : Int) + e) * (lw x e i 1).2
  rw [show i + ((1 : Nat) : Int) = i + 1 by omega]
  by_cases q : e = 0
  · have e1 := lw_t (x := x) (e := e) (i := i) (d := 0) (j := i + 1) (by omega) (by show (0 : Int) * (x (i + 1) - x i) < (i + 1 - i - e) * 1; rw [Int.zero_mul]; omega)
    rw [e1]
    show (i + 1 - i - e) * (x (i + 1) - x i) ≤ (((1 : Nat) : Int) + e) * (x (i + 1) - x i)
    rw [show i + 1 - i - e = ((1 : Nat) : Int) + e by omega]
    exact Int.le_refl _
  · have e1 := lw_f (x := x) (e := e) (i := i) (d := 0) (j := i + 1) (by omega) (by show ¬ (0 : Int) * (x (i + 1) - x i) < (i + 1 - i - e) * 1; rw [Int.zero_mul]; omega)
    rw [e1]
    show (0 : Int) * (x (i + 1) - x i) ≤ (((1 : Nat) : Int) + e) * 1
    rw [Int.zero_mul]
    omega
theorem Cut4.half {x : Int → Int} {e n : Int} {F L N D : Int → Int} (hk : Kr n x) (he : 0 ≤ e) (h : Cut4 x e n F L N D) : ∀ i : Int, 0 ≤ i → i ≤ n → 2 * F i ≤ n - i + 1 := by
  have key : ∀ k : Nat, ∀ i : Int, 0 ≤ i → i ≤ n → n - i ≤ (k : Int) → 2 * F i ≤ n - i + 1 := by
    intro k
    induction k with
    | zero =>
      intro i h0 h1 h2
      rw [show i = n by omega, h.1]
      omega
    | succ k ih =>
      intro i h0 h1 h2
      by_cases q : i = n
      · rw [q, h.1]; omega
      · obtain ⟨d, d1, d2, d3, d4, d5, _⟩ := h.2 i h0 (by omega)
        by_cases q2 : i + 1 = n
        · have a := d5 0 (okd_0 _ _ _) (by omega)
          rw [show i + ((0 : Nat) : Int) + 1 = n by omega, h.1] at a
          omega
        · have a := d5 1 (okd_1 hk he h0 (by omega)) (by omega)
          rw [show i + ((1 : Nat) : Int) + 1 = i + 2 by omega] at a
          have b := ih (i + 2) (by omega) (by omega) (by omega)
          omega
  exact fun i h0 h1 => key (n - i).toNat i h0 h1 (by omega)
/-- the pieces one behind the other -/
theorem Cut4.chain {x : Int → Int} {e n : Int} {F L N D : Int → Int} (hn : 0 ≤ n) (h : Cut4 x e n F L N D) (k : Nat) : (k : Int) ≤ F 0 → 0 ≤ frm L k ∧ frm L k ≤ n ∧ F (frm L k) = F 0 - (k : Int) := by
  induction k with
  | zero => intro _; exact ⟨Int.le_refl _, hn, by show F 0 = _; omega⟩
  | succ k ih =>
    intro hk
    obtain ⟨a1, a2, a3⟩ := ih (by omega)
    have b := h.fb _ a1 a2
    have hlt : frm L k < n := by
      rcases Int.lt_or_le (frm L k) n with q | q
      · exact q
      · rw [show frm L k = n by omega, h.1] at a3
        omega
    have c := h.at a1 hlt
    show 0 ≤ L (frm L k) + 1 ∧ L (frm L k) + 1 ≤ n ∧ F (L (frm L k) + 1) = _
    omega
theorem Cut4.lt {x : Int → Int} {e n : Int} {F L N D : Int → Int} (hn : 0 ≤ n) (h : Cut4 x e n F L N D) {k : Nat} (hk : (k : Int) < F 0) : 0 ≤ frm L k ∧ frm L k < n := by
  obtain ⟨a1, a2, a3⟩ := h.chain hn k (by omega)
  refine ⟨a1, ?_⟩
  rcases Int.lt_or_le (frm L k) n with q | q
  · exact q
  · rw [show frm L k = n by omega, h.1] at a3
    omega
theorem Cut4.end {x : Int → Int} {e n : Int} {F L N D : Int → Int} (hn : 0 ≤ n) (h : Cut4 x e n F L N D) {k : Nat} (hk : (k : Int) = F 0) : frm L k = n := by
  obtain ⟨a1, a2, a3⟩ := h.chain hn k (by omega)
  rcases Int.lt_or_le (frm L k) n with q | q
  · have := (h.fb _ a1 a2).2.2 q
    omega
  · omega
theorem Cut4.mono {x : Int → Int} {e n : Int} {F L N D : Int → Int} (hn : 0 ≤ n) (h : Cut4 x e n F L N D) {j : Nat} : ∀ k : Nat, j < k → (k : Int) < F 0 → frm L j < frm L k := by
  intro k
  induction k with
  | zero => intro q; exact absurd q (by omega)
  | succ k ih =>
    intro q1 q2
    have a := h.lt hn (k := k) (by omega)
    have b := h.at a.1 a.2
    show frm L j < L (frm L k) + 1
    by_cases q : j = k
    · rw [q]; omega
    · have := ih (by omega) (by omega)
      omega
theorem frm_congr {x : Int → Int} {e n : Int} {F L N D L' : Int → Int} (hn : 0 ≤ n) (h : Cut4 x e n F L N D) (hL : ∀ i : Int, 0 ≤ i → i < n → L i = L' i) (k : Nat) : (k : Int) ≤ F 0 → frm L k = frm L' k := by
  induction k with
  | zero => intro _; rfl
  | succ k ih =>
    intro hk
    have a := h.lt hn (k := k) (by omega)
    show L (frm L k) + 1 = L' (frm L' k) + 1
    rw [← ih (by omega), hL _ a.1 a.2]
/-- the greatest common divisor -/
def gcdI (a b : Int) : Int := ((Nat.gcd a.toNat b.toNat : Nat) : Int)
theorem gcdI_0 {a : Int} (h : 0 ≤ a) : gcdI a 0 = a := by
  show ((Nat.gcd a.toNat 0 : Nat) : Int) = a
  rw [Nat.gcd_zero_right]
  omega
theorem gcdI_s {a b : Int} (h : 0 ≤ a) (hb : 0 < b) : gcdI b (a.tmod b) = gcdI a b := by
  unfold gcdI
  rw [Int.tmod_eq_emod_of_nonneg h]
  have e1 : (a % b).toNat = a.toNat % b.toNat := by
    have := Int.toNat_emod h (Int.le_of_lt hb)
    exact this
  rw [e1, Nat.gcd_comm b.toNat, ← Nat.gcd_rec, Nat.gcd_comm]
theorem gcdI_pos {a b : Int} (hb : 1 ≤ b) : 1 ≤ gcdI a b := by
  have : 0 < Nat.gcd a.toNat b.toNat := Nat.gcd_pos_of_pos_right _ (by omega)
  show 1 ≤ ((Nat.gcd a.toNat b.toNat : Nat) : Int)
  omega
theorem gcdI_le {a b : Int} (hb : 1 ≤ b) : gcdI a b ≤ b := by
  have : Nat.gcd a.toNat b.toNat ≤ b.toNat := Nat.gcd_le_right _ (by omega)
  show ((Nat.gcd a.toNat b.toNat : Nat) : Int) ≤ b
  omega
/-- the pieces of n keys x: how many; of piece k its first rank, last rank, first key, slope -/
noncomputable def PM (x : Int → Int) (e n : Int) : Int := (cQ x e n).1 0
noncomputable def P0 (x : Int → Int) (e n : Int) (k : Int) : Int := frm (cQ x e n).2.1 k.toNat
noncomputable def P1 (x : Int → Int) (e n : Int) (k : Int) : Int := (cQ x e n).2.1 (P0 x e n k)
noncomputable def P2 (x : Int → Int) (e n : Int) (k : Int) : Int := x (P0 x e n k)
noncomputable def P3 (x : Int → Int) (e n : Int) (k : Int) : Int := (cQ x e n).2.2.1 (P0 x e n k) / gcdI ((cQ x e n).2.2.1 (P0 x e n k)) ((cQ x e n).2.2.2 (P0 x e n k))
noncomputable def P4 (x : Int → Int) (e n : Int) (k : Int) : Int := (cQ x e n).2.2.2 (P0 x e n k) / gcdI ((cQ x e n).2.2.1 (P0 x e n k)) ((cQ x e n).2.2.2 (P0 x e n k))
/-- a level of keys on which pieces can be laid -/
def LvOK (x : Int → Int) (e n : Int) : Prop := Kr n x ∧ 1 ≤ n ∧ CutC x e n
theorem LvOK.pm {x : Int → Int} {e n : Int} (h : LvOK x e n) (he : 0 ≤ e) : 1 ≤ PM x e n ∧ 2 * PM x e n ≤ n + 1 := by
  have a := (h.2.2.fb 0 (Int.le_refl _) (by have := h.2.1; omega)).2.2 (by have := h.2.1; omega)
  have b := h.2.2.half h.1 he 0 (Int.le_refl _) (by have := h.2.1; omega)
  exact ⟨a, by show 2 * (cQ x e n).1 0 ≤ n + 1; omega⟩
theorem LvOK.p {x : Int → Int} {e n k : Int} (h : LvOK x e n) (he : 0 ≤ e) (h0 : 0 ≤ k) (hk : k < PM x e n) : 0 ≤ P0 x e n k ∧ P0 x e n k ≤ P1 x e n k ∧ P1 x e n k < n ∧ 0 ≤ P2 x e n k ∧ P2 x e n k ≤ 1000000 ∧ 0 ≤ P3 x e n k ∧ P3 x e n k ≤ 60 ∧ 1 ≤ P4 x e n k ∧ P4 x e n k ≤ 1000000 := by
  have n1 := h.2.1
  have a : 0 ≤ P0 x e n k ∧ P0 x e n k < n := h.2.2.lt (by omega) (k := k.toNat) (by show (k.toNat : Int) < PM x e n; omega)
  have b := h.2.2.at a.1 a.2
  have c := h.1.2.2.1 _ a.1 a.2
  have d := h.2.2.sl h.1 he a.1 a.2
  have g1 := gcdI_pos (a := (cQ x e n).2.2.1 (P0 x e n k)) d.2.2.1
  have g2 := gcdI_le (a := (cQ x e n).2.2.1 (P0 x e n k)) d.2.2.1
  refine ⟨a.1, b.1, b.2.1, c.1, c.2, ?_, ?_, ?_, ?_⟩
  · exact Int.ediv_nonneg d.1 (by omega)
  · exact Int.le_trans (Int.ediv_le_self _ d.1) d.2.1
  · have : 0 < (cQ x e n).2.2.2 (P0 x e n k) / gcdI ((cQ x e n).2.2.1 (P0 x e n k)) ((cQ x e n).2.2.2 (P0 x e n k)) := Int.ediv_pos_of_pos_of_dvd (by omega) (by omega) (by
      have : Nat.gcd ((cQ x e n).2.2.1 (P0 x e n k)).toNat ((cQ x e n).2.2.2 (P0 x e n k)).toNat ∣ ((cQ x e n).2.2.2 (P0 x e n k)).toNat := Nat.gcd_dvd_right _ _
      have q := Int.ofNat_dvd.mpr this
      rw [Int.toNat_of_nonneg (by omega)] at q
      exact q)
    exact this
  · exact Int.le_trans (Int.ediv_le_self _ (by omega)) d.2.2.2
/-- the keys of a level, and how many -/
noncomputable def lvl (x : Int → Int) (e n : Int) : Nat → (Int → Int) × Int
  | 0 => (x, n)
  | t + 1 => (P2 (lvl x e n t).1 e (lvl x e n t).2, PM (lvl x e n t).1 e (lvl x e n t).2)
theorem LvOK.next {x : Int → Int} {e n : Int} (h : LvOK x e n) (he : 0 ≤ e) : Kr (PM x e n) (P2 x e n) := by
  have a := h.pm he
  have n1 := h.2.1
  have n60 := h.1.2.1
  refine ⟨by omega, by omega, fun i h0 h1 => ?_, fun i j h0 h1 h2 => ?_⟩
  · have := h.p he h0 h1
    omega
  · have b := h.2.2.lt (by omega) (k := j.toNat) (by show (j.toNat : Int) < PM x e n; omega)
    have c := h.2.2.lt (by omega) (k := i.toNat) (by show (i.toNat : Int) < PM x e n; omega)
    exact h.1.2.2.2 _ _ c.1 (h.2.2.mono (by omega) j.toNat (by omega) (by show (j.toNat : Int) < PM x e n; omega)) b.2
/-- where a level's pieces begin, all levels in one row -/
noncomputable def St (x : Int → Int) (e n : Int) : Nat → Int
  | 0 => 0
  | t + 1 => St x e n t + PM (lvl x e n t).1 e (lvl x e n t).2
/-- t levels are laid -/
def TwP (x : Int → Int) (e n : Int) (t : Nat) (sz : Int) (S A0 A1 A2 A3 A4 : Int → Int) : Prop := sz = St x e n t ∧ (1 ≤ t → ∀ s : Nat, s ≤ t → S (s : Int) = St x e n s) ∧ ∀ s : Nat, s < t → LvOK (lvl x e n s).1 e (lvl x e n s).2 ∧ ∀ k : Int, 0 ≤ k → k < PM (lvl x e n s).1 e (lvl x e n s).2 → A0 (St x e n s + k) = P0 (lvl x e n s).1 e (lvl x e n s).2 k ∧ A1 (St x e n s + k) = P1 (lvl x e n s).1 e (lvl x e n s).2 k ∧ A2 (St x e n s + k) = P2 (lvl x e n s).1 e (lvl x e n s).2 k ∧ A3 (St x e n s + k) = P3 (lvl x e n s).1 e (lvl x e n s).2 k ∧ A4 (St x e n s + k) = P4 (lvl x e n s).1 e (lvl x e n s).2 k
/-- how many levels -/
def Ht (x : Int → Int) (e n h : Int) : Prop := (n = 0 ∧ h = 0) ∨ (1 ≤ n ∧ 1 ≤ h ∧ (∀ t : Nat, 1 ≤ t → (t : Int) < h → 1 < (lvl x e n t).2) ∧ (lvl x e n h.toNat).2 ≤ 1)
theorem Ht.uniq {x : Int → Int} {e n h h' : Int} (a : Ht x e n h) (b : Ht x e n h') : h = h' := by
  rcases a with ⟨a1, a2⟩ | ⟨a1, a2, a3, a4⟩ <;> rcases b with ⟨b1, b2⟩ | ⟨b1, b2, b3, b4⟩
  · omega
  · omega
  · omega
  · rcases Int.lt_trichotomy h h' with q | q | q
    · have := b3 h.toNat (by omega) (by omega)
      omega
    · exact q
    · have := a3 h'.toNat (by omega) (by omega)
      omega
def tb (n : Int) : Int := if n ≤ 2 then 1 else if n ≤ 4 then 3 else if n ≤ 8 then 7 else if n ≤ 16 then 15 else if n ≤ 30 then 30 else 60
def lb (n : Int) : Int := if n ≤ 2 then 1 else if n ≤ 4 then 2 else if n ≤ 8 then 3 else if n ≤ 16 then 4 else if n ≤ 30 then 5 else 6
theorem tb_s {n m : Int} (hn : n ≤ 60) (h1 : 1 < m) (h2 : 2 * m ≤ n + 1) : m + tb m ≤ tb n ∧ lb m + 1 ≤ lb n := by
  unfold tb lb
  repeat' split
  all_goals omega
theorem tb_1 {n m : Int} (h1 : 1 ≤ n) (h2 : 2 * m ≤ n + 1) (hn : n ≤ 60) : m ≤ tb n ∧ 1 ≤ lb n := by
  unfold tb lb
  repeat' split
  all_goals omega
/-- a tower as the class holds it -/
def TwR (x : Int → Int) (e n h sz : Int) (S A0 A1 A2 A3 A4 : Int → Int) : Prop := Ht x e n h ∧ 0 ≤ h ∧ h ≤ 6 ∧ sz ≤ 60 ∧ TwP x e n h.toNat sz S A0 A1 A2 A3 A4
theorem St_mono {x : Int → Int} {e n : Int} (he : 0 ≤ e) {t : Nat} (h : ∀ s : Nat, s < t → LvOK (lvl x e n s).1 e (lvl x e n s).2) : ∀ s : Nat, s ≤ t → 0 ≤ St x e n s ∧ St x e n s ≤ St x e n t := by
  induction t with
  | zero => intro s hs; rw [show s = 0 by omega]; exact ⟨Int.le_refl _, Int.le_refl _⟩
  | succ t ih =>
    intro s hs
    have a := ih (fun s q => h s (by omega))
    have b := (h t (by omega)).pm he
    by_cases q : s = t + 1
    · rw [q]
      have := a t (Nat.le_refl _)
      show 0 ≤ St x e n t + PM (lvl x e n t).1 e (lvl x e n t).2 ∧ _
      exact ⟨by omega, Int.le_refl _⟩
    · have := a s (by omega)
      show _ ∧ St x e n s ≤ St x e n t + PM (lvl x e n t).1 e (lvl x e n t).2
      omega
end
section
theorem dJ13_bitCount_95d88_0 : decode cJ13_bitCount_95d88 0 = .ok (.lload_n 0, 1) := by decide +kernel
theorem dJ13_bitCount_95d88_1 : decode cJ13_bitCount_95d88 1 = .ok (.lload_n 0, 1) := by decide +kernel
theorem dJ13_bitCount_95d88_2 : decode cJ13_bitCount_95d88 2 = .ok (.iconst 1, 1) := by decide +kernel
theorem dJ13_bitCount_95d88_3 : decode cJ13_bitCount_95d88 3 = .ok (.lushr, 1) := by decide +kernel
theorem dJ13_bitCount_95d88_4 : decode cJ13_bitCount_95d88 4 = .ok (.ldc2_w 314, 3) := by decide +kernel
theorem dJ13_bitCount_95d88_7 : decode cJ13_bitCount_95d88 7 = .ok (.land, 1) := by decide +kernel
theorem dJ13_bitCount_95d88_8 : decode cJ13_bitCount_95d88 8 = .ok (.lsub, 1) := by decide +kernel
theorem dJ13_bitCount_95d88_9 : decode cJ13_bitCount_95d88 9 = .ok (.lstore_n 0, 1) := by decide +kernel
theorem dJ13_bitCount_95d88_10 : decode cJ13_bitCount_95d88 10 = .ok (.lload_n 0, 1) := by decide +kernel
theorem dJ13_bitCount_95d88_11 : decode cJ13_bitCount_95d88 11 = .ok (.ldc2_w 316, 3) := by decide +kernel
theorem dJ13_bitCount_95d88_14 : decode cJ13_bitCount_95d88 14 = .ok (.land, 1) := by decide +kernel
theorem dJ13_bitCount_95d88_15 : decode cJ13_bitCount_95d88 15 = .ok (.lload_n 0, 1) := by decide +kernel
theorem dJ13_bitCount_95d88_16 : decode cJ13_bitCount_95d88 16 = .ok (.iconst 2, 1) := by decide +kernel
theorem dJ13_bitCount_95d88_17 : decode cJ13_bitCount_95d88 17 = .ok (.lushr, 1) := by decide +kernel
theorem dJ13_bitCount_95d88_18 : decode cJ13_bitCount_95d88 18 = .ok (.ldc2_w 316, 3) := by decide +kernel
theorem dJ13_bitCount_95d88_21 : decode cJ13_bitCount_95d88 21 = .ok (.land, 1) := by decide +kernel
theorem dJ13_bitCount_95d88_22 : decode cJ13_bitCount_95d88 22 = .ok (.ladd, 1) := by decide +kernel
theorem dJ13_bitCount_95d88_23 : decode cJ13_bitCount_95d88 23 = .ok (.lstore_n 0, 1) := by decide +kernel
theorem dJ13_bitCount_95d88_24 : decode cJ13_bitCount_95d88 24 = .ok (.lload_n 0, 1) := by decide +kernel
theorem dJ13_bitCount_95d88_25 : decode cJ13_bitCount_95d88 25 = .ok (.lload_n 0, 1) := by decide +kernel
theorem dJ13_bitCount_95d88_26 : decode cJ13_bitCount_95d88 26 = .ok (.iconst 4, 1) := by decide +kernel
theorem dJ13_bitCount_95d88_27 : decode cJ13_bitCount_95d88 27 = .ok (.lushr, 1) := by decide +kernel
theorem dJ13_bitCount_95d88_28 : decode cJ13_bitCount_95d88 28 = .ok (.ladd, 1) := by decide +kernel
theorem dJ13_bitCount_95d88_29 : decode cJ13_bitCount_95d88 29 = .ok (.ldc2_w 318, 3) := by decide +kernel
theorem dJ13_bitCount_95d88_32 : decode cJ13_bitCount_95d88 32 = .ok (.land, 1) := by decide +kernel
theorem dJ13_bitCount_95d88_33 : decode cJ13_bitCount_95d88 33 = .ok (.lstore_n 0, 1) := by decide +kernel
theorem dJ13_bitCount_95d88_34 : decode cJ13_bitCount_95d88 34 = .ok (.lload_n 0, 1) := by decide +kernel
theorem dJ13_bitCount_95d88_35 : decode cJ13_bitCount_95d88 35 = .ok (.lload_n 0, 1) := by decide +kernel
theorem dJ13_bitCount_95d88_36 : decode cJ13_bitCount_95d88 36 = .ok (.bipush 8, 2) := by decide +kernel
theorem dJ13_bitCount_95d88_38 : decode cJ13_bitCount_95d88 38 = .ok (.lushr, 1) := by decide +kernel
theorem dJ13_bitCount_95d88_39 : decode cJ13_bitCount_95d88 39 = .ok (.ladd, 1) := by decide +kernel
theorem dJ13_bitCount_95d88_40 : decode cJ13_bitCount_95d88 40 = .ok (.lstore_n 0, 1) := by decide +kernel
theorem dJ13_bitCount_95d88_41 : decode cJ13_bitCount_95d88 41 = .ok (.lload_n 0, 1) := by decide +kernel
theorem dJ13_bitCount_95d88_42 : decode cJ13_bitCount_95d88 42 = .ok (.lload_n 0, 1) := by decide +kernel
theorem dJ13_bitCount_95d88_43 : decode cJ13_bitCount_95d88 43 = .ok (.bipush 16, 2) := by decide +kernel
theorem dJ13_bitCount_95d88_45 : decode cJ13_bitCount_95d88 45 = .ok (.lushr, 1) := by decide +kernel
theorem dJ13_bitCount_95d88_46 : decode cJ13_bitCount_95d88 46 = .ok (.ladd, 1) := by decide +kernel
theorem dJ13_bitCount_95d88_47 : decode cJ13_bitCount_95d88 47 = .ok (.lstore_n 0, 1) := by decide +kernel
theorem dJ13_bitCount_95d88_48 : decode cJ13_bitCount_95d88 48 = .ok (.lload_n 0, 1) := by decide +kernel
theorem dJ13_bitCount_95d88_49 : decode cJ13_bitCount_95d88 49 = .ok (.lload_n 0, 1) := by decide +kernel
theorem dJ13_bitCount_95d88_50 : decode cJ13_bitCount_95d88 50 = .ok (.bipush 32, 2) := by decide +kernel
theorem dJ13_bitCount_95d88_52 : decode cJ13_bitCount_95d88 52 = .ok (.lushr, 1) := by decide +kernel
theorem dJ13_bitCount_95d88_53 : decode cJ13_bitCount_95d88 53 = .ok (.ladd, 1) := by decide +kernel
theorem dJ13_bitCount_95d88_54 : decode cJ13_bitCount_95d88 54 = .ok (.lstore_n 0, 1) := by decide +kernel
theorem dJ13_bitCount_95d88_55 : decode cJ13_bitCount_95d88 55 = .ok (.lload_n 0, 1) := by decide +kernel
theorem dJ13_bitCount_95d88_56 : decode cJ13_bitCount_95d88 56 = .ok (.l2i, 1) := by decide +kernel
theorem dJ13_bitCount_95d88_57 : decode cJ13_bitCount_95d88 57 = .ok (.bipush 127, 2) := by decide +kernel
theorem dJ13_bitCount_95d88_59 : decode cJ13_bitCount_95d88 59 = .ok (.iand, 1) := by decide +kernel
theorem dJ13_bitCount_95d88_60 : decode cJ13_bitCount_95d88 60 = .ok (.ireturn, 1) := by decide +kernel
theorem dJ9_floorDiv_7cf53_0 : decode cJ9_floorDiv_7cf53 0 = .ok (.iload_n 0, 1) := by decide +kernel
theorem dJ9_floorDiv_7cf53_1 : decode cJ9_floorDiv_7cf53 1 = .ok (.iload_n 1, 1) := by decide +kernel
theorem dJ9_floorDiv_7cf53_2 : decode cJ9_floorDiv_7cf53 2 = .ok (.idiv, 1) := by decide +kernel
theorem dJ9_floorDiv_7cf53_3 : decode cJ9_floorDiv_7cf53 3 = .ok (.istore_n 2, 1) := by decide +kernel
theorem dJ9_floorDiv_7cf53_4 : decode cJ9_floorDiv_7cf53 4 = .ok (.iload_n 0, 1) := by decide +kernel
theorem dJ9_floorDiv_7cf53_5 : decode cJ9_floorDiv_7cf53 5 = .ok (.iload_n 1, 1) := by decide +kernel
theorem dJ9_floorDiv_7cf53_6 : decode cJ9_floorDiv_7cf53 6 = .ok (.ixor, 1) := by decide +kernel
theorem dJ9_floorDiv_7cf53_7 : decode cJ9_floorDiv_7cf53 7 = .ok (.ifCond .ge 14, 3) := by decide +kernel
theorem dJ9_floorDiv_7cf53_10 : decode cJ9_floorDiv_7cf53 10 = .ok (.iload_n 2, 1) := by decide +kernel
theorem dJ9_floorDiv_7cf53_11 : decode cJ9_floorDiv_7cf53 11 = .ok (.iload_n 1, 1) := by decide +kernel
theorem dJ9_floorDiv_7cf53_12 : decode cJ9_floorDiv_7cf53 12 = .ok (.imul, 1) := by decide +kernel
theorem dJ9_floorDiv_7cf53_13 : decode cJ9_floorDiv_7cf53 13 = .ok (.iload_n 0, 1) := by decide +kernel
theorem dJ9_floorDiv_7cf53_14 : decode cJ9_floorDiv_7cf53 14 = .ok (.if_icmp .eq 7, 3) := by decide +kernel
theorem dJ9_floorDiv_7cf53_17 : decode cJ9_floorDiv_7cf53 17 = .ok (.iload_n 2, 1) := by decide +kernel
theorem dJ9_floorDiv_7cf53_18 : decode cJ9_floorDiv_7cf53 18 = .ok (.iconst 1, 1) := by decide +kernel
theorem dJ9_floorDiv_7cf53_19 : decode cJ9_floorDiv_7cf53 19 = .ok (.isub, 1) := by decide +kernel
theorem dJ9_floorDiv_7cf53_20 : decode cJ9_floorDiv_7cf53 20 = .ok (.ireturn, 1) := by decide +kernel
theorem dJ9_floorDiv_7cf53_21 : decode cJ9_floorDiv_7cf53 21 = .ok (.iload_n 2, 1) := by decide +kernel
theorem dJ9_floorDiv_7cf53_22 : decode cJ9_floorDiv_7cf53 22 = .ok (.ireturn, 1) := by decide +kernel
theorem dJ9_max_7cf53_0 : decode cJ9_max_7cf53 0 = .ok (.iload_n 0, 1) := by decide +kernel
theorem dJ9_max_7cf53_1 : decode cJ9_max_7cf53 1 = .ok (.iload_n 1, 1) := by decide +kernel
theorem dJ9_max_7cf53_2 : decode cJ9_max_7cf53 2 = .ok (.if_icmp .lt 7, 3) := by decide +kernel
theorem dJ9_max_7cf53_5 : decode cJ9_max_7cf53 5 = .ok (.iload_n 0, 1) := by decide +kernel
theorem dJ9_max_7cf53_6 : decode cJ9_max_7cf53 6 = .ok (.goto 4, 3) := by decide +kernel
theorem dJ9_max_7cf53_9 : decode cJ9_max_7cf53 9 = .ok (.iload_n 1, 1) := by decide +kernel
theorem dJ9_max_7cf53_10 : decode cJ9_max_7cf53 10 = .ok (.ireturn, 1) := by decide +kernel
theorem dJ9_min_7cf53_0 : decode cJ9_min_7cf53 0 = .ok (.iload_n 0, 1) := by decide +kernel
theorem dJ9_min_7cf53_1 : decode cJ9_min_7cf53 1 = .ok (.iload_n 1, 1) := by decide +kernel
theorem dJ9_min_7cf53_2 : decode cJ9_min_7cf53 2 = .ok (.if_icmp .gt 7, 3) := by decide +kernel
theorem dJ9_min_7cf53_5 : decode cJ9_min_7cf53 5 = .ok (.iload_n 0, 1) := by decide +kernel
theorem dJ9_min_7cf53_6 : decode cJ9_min_7cf53 6 = .ok (.goto 4, 3) := by decide +kernel
theorem dJ9_min_7cf53_9 : decode cJ9_min_7cf53 9 = .ok (.iload_n 1, 1) := by decide +kernel
theorem dJ9_min_7cf53_10 : decode cJ9_min_7cf53 10 = .ok (.ireturn, 1) := by decide +kernel
end
section
/-! ===== more rows of the layer ===== -/
theorem xor_sign {a b : Int} (ha : Rg a) (hb : 0 ≤ b ∧ b < 2147483648) : 0 ≤ iI a ^^^ iI b ↔ 0 ≤ a := by
  have hb' : Rg b := ⟨by omega, by omega⟩
  have h1 : (iI a ^^^ iI b).toInt < 0 ↔ a < 0 := by
    have e0 : ∀ v : Int32, v.toInt < 0 ↔ v.toBitVec.msb = true := fun v => by
      show v.toBitVec.toInt < 0 ↔ _
      rw [BitVec.msb_eq_toInt]
      exact decide_eq_true_iff.symm
    rw [e0]
    have m1 : (iI a).toBitVec.msb = decide (a < 0) := by
      have := e0 (iI a)
      rw [iI_toInt ha] at this
      by_cases q : a < 0
      · rw [this.mp q]; simp [q]
      · cases hm : (iI a).toBitVec.msb with
        | true => exact absurd (this.mpr hm) q
        | false => simp [q]
    have m2 : (iI b).toBitVec.msb = false := by
      have := e0 (iI b)
      rw [iI_toInt hb'] at this
      cases hm : (iI b).toBitVec.msb with
      | true => exact absurd (this.mpr hm) (by omega)
      | false => rfl
    rw [Int32.toBitVec_xor, BitVec.msb_xor, m1, m2]
    simp
  rw [Int32.le_iff_toInt_le]
  show (0 : Int) ≤ _ ↔ _
  omega
section XM
variable {l : Launch} {g : xG} {E : xE} {R : Room} {own nm : String} {cc : ByteArray} {Ts : List Cond} {nL : Nat} {ws : va_W} {cl sl pc : Nat} {lv lv' : List (Nat × Value)} {rest : List Value}
theorem x_ixge (C : Cx l g E R own nm cc Ts nL) {a b off : Int} (tgt : Nat) (hd : decode cc pc = .ok (.ixor, 1)) (hd2 : decode cc (pc + 1) = .ok (.ifCond .ge off, 3)) (ht : ((pc + 1 : Nat) : Int) + off = (tgt : Int)) (ha : Rg a) (hb2 : 0 ≤ b ∧ b < 2147483648) (kt : 0 ≤ a → X l g E R nL ws cl sl lv tgt rest) (kf : ¬ 0 ≤ a → X l g E R nL ws cl sl lv (pc + 1 + 3) rest) : X l g E R nL ws cl sl lv pc (jv b :: jv a :: rest) := by
  obtain ⟨p, e, s, m, args, below, meth, c, A, Q⟩ := E
  obtain ⟨hx, hb, hml, hown, hts, hK, hlck, hA, hnm⟩ := C
  intro H locs ls hP hD hS hl
  refine lv_ixor hx hb hd ?_
  exact lv_if_ge hx hb hd2 ht (fun h => kt ((xor_sign ha hb2).mp h) H locs ls hP hD hS hl) (fun h => kf (fun q => h ((xor_sign ha hb2).mpr q)) H locs ls hP hD hS hl)
/-- longs that are bits: equal or not -/
theorem x_lcmpR (C : Cx l g E R own nm cc Ts nL) {a b : Int64} {off : Int} (tgt : Nat) (hd : decode cc pc = .ok (.lcmp, 1)) (hd2 : decode cc (pc + 1) = .ok (.ifCond .ne off, 3)) (ht : ((pc + 1 : Nat) : Int) + off = (tgt : Int)) (kt : ¬ a = b → X l g E R nL ws cl sl lv tgt rest) (kf : a = b → X l g E R nL ws cl sl lv (pc + 1 + 3) rest) : X l g E R nL ws cl sl lv pc (.long b :: .long a :: rest) := by
  obtain ⟨p, e, s, m, args, below, meth, c, A, Q⟩ := E
  obtain ⟨hx, hb, hml, hown, hts, hK, hlck, hA, hnm⟩ := C
  intro H locs ls hP hD hS hl
  refine W.lcmp hx hb hd ?_
  by_cases h : a = b
  · have e1 : lg_cmp a b = 0 := by
      subst h
      unfold lg_cmp
      have h2 : ¬ a < a := Int64.lt_irrefl
      simp [h2]
    rw [e1]
    exact lv_if_ne hx hb hd2 ht (fun q => absurd rfl q) (fun _ => kf h H locs ls hP hD hS hl)
  · have e1 : ¬ lg_cmp a b = 0 := by
      unfold lg_cmp
      by_cases h1 : b < a
      · rw [if_pos h1]; decide
      · rw [if_neg h1, if_neg h]; decide
    exact lv_if_ne hx hb hd2 ht (fun _ => kt h H locs ls hP hD hS hl) (fun q => absurd q e1)
theorem x_ldc2R (C : Cx l g E R own nm cc Ts nL) {i : Nat} {v : Int64} (hd : decode cc pc = .ok (.ldc2_w i, 3)) (hc : ∀ {args : Array Value} {s : State}, (∀ w ∈ Ts, w.before args s = true) → (Jvm.Cond.constantLong own i v).before args s = true) (k : X l g E R nL ws cl sl lv (pc + 3) (.long v :: rest)) : X l g E R nL ws cl sl lv pc rest := by
  obtain ⟨p, e, s, m, args, below, meth, c, A, Q⟩ := E
  obtain ⟨hx, hb, hml, hown, hts, hK, hlck, hA, hnm⟩ := C
  intro H locs ls hP hD hS hl
  exact lv_ldc2 hx hb hown (hc hts) hd (k H locs ls hP hD hS hl)
end XM
end
section
theorem ct_ofF {l : Launch} {g : xG} {y : MethodName} {wsy ws' : List Cond} {rm : Room} {mc ms : Nat} {w : va_W} {av : List Value} {Post : Option Value → va_W → Prop} {cc : ByteArray} {nL : Nat} {ret : Option FieldType} (hy : plainFor y = true) (hw : wsy = Cond.code y cc nL ret :: ws') (hlen : (lg_sl av).length ≤ nL)
    (body : ∀ E : xE, Cx l g E rm y.cls y.name cc wsy nL → Rt g E ret mc ms w Post → X l g E rm nL w 0 0 (lv_args 0 av) 0 []) : Ct l g y wsy rm mc ms w av Post := by
  intro sz
  refine va_MetF (cc := cc) (maxL := nL) (ret := ret) hy hw ?_
  intro p e s m args below meth c s₁ B hml hv
  obtain ⟨rfl, hsz, hP, hK, hD0⟩ := hv
  subst hsz
  have hin : meth.name = y.name := (name_of_methodNamed B.named B.method).1
  have hl := lv_entry av (n := nL) hlen
  rw [lg_entry_eq]
  exact body (p, e, s, m, av.toArray, below, meth, c, va_A w s.heap.size, _) ⟨B.exec, B.bytes, hml, findClass_of_methodNamed B.named, atoms_spec (ws := wsy) B.pre, hK, B.notSynchronized, fun q h => Or.inr h, hin⟩ ⟨rfl, B.returns, rfl⟩ s.heap [] _ hP hD0.self va_S.rf hl
/-- the rows of a tower fit one another -/
def TwF (h sz : Int) (S : Int → Int) : Prop := 0 ≤ h ∧ h ≤ 10 ∧ 0 ≤ sz ∧ sz ≤ 60 ∧ ∀ t : Int, 0 ≤ t → t < h → 0 ≤ S t ∧ S t ≤ S (t + 1) ∧ S (t + 1) ≤ sz
theorem tmf {a b : Int} (h : 0 ≤ a) (hb : 0 < b) : 0 ≤ a.tmod b ∧ a.tmod b < b ∧ a.tmod b ≤ a := by
  rw [Int.tmod_eq_emod_of_nonneg h]
  have h1 := Int.mul_ediv_add_emod a b
  have h2 := Int.mul_nonneg (Int.le_of_lt hb) (Int.ediv_nonneg h (Int.le_of_lt hb))
  exact ⟨Int.emod_nonneg a (by omega), Int.emod_lt_of_pos a hb, by omega⟩
theorem fdv {x y : Int} (_ : Rg x) (hy : 0 < y) : (0 ≤ x ∧ x.tdiv y = x / y) ∨ (x < 0 ∧ x % y = 0 ∧ x.tdiv y = x / y) ∨ (x < 0 ∧ x % y ≠ 0 ∧ x.tdiv y = x / y + 1) := by
  rcases Int.lt_or_le x 0 with q | q
  · right
    have e1 := Int.tdiv_eq_ediv (a := x) (b := y)
    by_cases hd : x % y = 0
    · left
      refine ⟨q, hd, ?_⟩
      rw [e1, if_pos (Or.inr (Int.dvd_of_emod_eq_zero hd))]
      omega
    · right
      refine ⟨q, hd, ?_⟩
      rw [e1, if_neg (fun z => by rcases z with z | z; omega; exact hd (Int.emod_eq_zero_of_dvd z)), Int.sign_eq_one_of_pos hy]
  · left
    exact ⟨q, Int.tdiv_eq_ediv_of_nonneg q⟩
set_option maxHeartbeats 4000000 in
set_option maxRecDepth 100000 in
/-- Math.floorDiv -/
theorem ctJ9_floorDiv_7cf53 (l : Launch) (g : xG) (x : Int) (y : Int) (hx : Rg x) (hy : 1 ≤ y ∧ y < 2147483648) : Ct l g yJ9_floorDiv_7cf53 wsJ9_floorDiv_7cf53 ({ frames := 0, cells := 0, slots := 0, locals := 0 } : Room) 0 0 [] [jv x, jv y] (fun v u => ∃ (r : Int), v = some (jv r) ∧ u = [] ∧ (r = x / y)) := by
  refine ct_ofF (cc := cJ9_floorDiv_7cf53) (nL := 3) (ret := (some .int)) (by decide +kernel) rfl (Nat.le_of_ble_eq_true rfl) ?_
  intro E C Rt0
  have C : Cx l g E ({ frames := 0, cells := 0, slots := 0, locals := 0 } : Room) RJ9 "floorDiv" cJ9_floorDiv_7cf53 wsJ9_floorDiv_7cf53 3 := C
  show X l g E ({ frames := 0, cells := 0, slots := 0, locals := 0 } : Room) 3 [] 0 0 [(0, jv x), (1, jv y)] 0 []
  have hx1 := hx.1
  have hx2 := hx.2
  have hdm := Int.mul_ediv_add_emod x y
  have hm0 := Int.emod_nonneg x (show y ≠ 0 by omega)
  have hm1 := Int.emod_lt_of_pos x (show 0 < y by omega)
  have hq : (0 ≤ x ∧ x.tdiv y = x / y) ∨ (x < 0 ∧ x % y = 0 ∧ x.tdiv y = x / y) ∨ (x < 0 ∧ x % y ≠ 0 ∧ x.tdiv y = x / y + 1) := fdv hx (by omega)
  have hpr : 0 ≤ x ∨ (x % y = 0 ∧ x.tdiv y * y = x) ∨ (x % y ≠ 0 ∧ x.tdiv y * y = x - x % y + y) := by
    rcases hq with q | q | q
    · left; exact q.1
    · right; left; refine ⟨q.2.1, ?_⟩; rw [q.2.2, Int.mul_comm]; omega
    · right; right; refine ⟨q.2.1, ?_⟩; rw [q.2.2, Int.add_mul, Int.one_mul, Int.mul_comm]; omega
  refine x_iload_n (pc := 0) C 0 dJ9_floorDiv_7cf53_0 rfl ?_
  refine x_iload_n (pc := 1) C 1 dJ9_floorDiv_7cf53_1 rfl ?_
  refine x_idiv (pc := 2) C dJ9_floorDiv_7cf53_2 hx ⟨by omega, by omega⟩ (by first | decide | omega) ?_
  refine x_istore_n (pc := 3) C (lv' := [(2, jv ((x).tdiv y)), (0, jv x), (1, jv y)]) dJ9_floorDiv_7cf53_3 (by decide) rfl ?_
  refine x_iload_n (pc := 4) C 1 dJ9_floorDiv_7cf53_4 rfl ?_
  refine x_iload_n (pc := 5) C 2 dJ9_floorDiv_7cf53_5 rfl ?_
  refine x_ixge (pc := 6) C 21 dJ9_floorDiv_7cf53_6 dJ9_floorDiv_7cf53_7 rfl ⟨by omega, by omega⟩ ⟨by omega, by omega⟩ (fun c_6 => ?_) (fun c_6 => ?_)
  · refine x_iload_n (pc := 21) C 0 dJ9_floorDiv_7cf53_21 rfl ?_
    refine x_iret (pc := 22) C Rt0 dJ9_floorDiv_7cf53_22 rfl ?_
    refine ⟨_, rfl, rfl, ?_⟩
    omega
  · refine x_iload_n (pc := 10) C 0 dJ9_floorDiv_7cf53_10 rfl ?_
    refine x_iload_n (pc := 11) C 2 dJ9_floorDiv_7cf53_11 rfl ?_
    refine x_imul (pc := 12) C dJ9_floorDiv_7cf53_12 ?_
    refine x_iload_n (pc := 13) C 1 dJ9_floorDiv_7cf53_13 rfl ?_
    refine x_icmp_eq (pc := 14) C 21 dJ9_floorDiv_7cf53_14 rfl ⟨by omega, by omega⟩ hx (fun c_14 => ?_) (fun c_14 => ?_)
    · refine x_iload_n (pc := 21) C 0 dJ9_floorDiv_7cf53_21 rfl ?_
      refine x_iret (pc := 22) C Rt0 dJ9_floorDiv_7cf53_22 rfl ?_
      refine ⟨_, rfl, rfl, ?_⟩
      omega
    · refine x_iload_n (pc := 17) C 0 dJ9_floorDiv_7cf53_17 rfl ?_
      refine x_iconst (pc := 18) C dJ9_floorDiv_7cf53_18 ?_
      refine x_isub (pc := 19) C dJ9_floorDiv_7cf53_19 ?_
      refine x_iret (pc := 20) C Rt0 dJ9_floorDiv_7cf53_20 rfl ?_
      refine ⟨_, rfl, rfl, ?_⟩
      omega

set_option maxRecDepth 100000 in
theorem hiX4_height_4 : ∀ w ∈ wsX40, w ∈ wsX4_height := by decide +kernel
set_option maxRecDepth 100000 in
theorem hfX4_height_37 : Cond.fieldLink RX4 37 "KeyGuess$Tower" "height" "I" ∈ wsX4_height := by decide +kernel
set_option maxHeartbeats 4000000 in
set_option maxRecDepth 100000 in
/-- Tower.height -/
theorem ctX4_height (l : Launch) (g : xG) (a : Nat) (kb : Nat) (kc : Nat) (t1 : Nat) (t2 : Nat) (t3 : Nat) (t4 : Nat) (t5 : Nat) (t6 : Nat) (h : Int) (sz : Int) (bn : Int) (bf : Int → Int) (S : Int → Int) (A0 : Int → Int) (A1 : Int → Int) (A2 : Int → Int) (A3 : Int → Int) (A4 : Int → Int)  : Ct l g yX4_height wsX4_height ({ frames := 0, cells := 0, slots := 0, locals := 0 } : Room) 0 0 [(a, ob 4 [.ref kb, .ref t1, .ref t2, .ref t3, .ref t4, .ref t5, .ref t6, jv h, jv sz]), (kb, ob 2 [.ref kc, jv bn]), (kc, ai g 60 bf), (t1, ai g 11 S), (t2, ai g 60 A0), (t3, ai g 60 A1), (t4, ai g 60 A2), (t5, ai g 60 A3), (t6, ai g 60 A4)] [.ref a] (fun v u => v = some (jv h) ∧ u = [(a, ob 4 [.ref kb, .ref t1, .ref t2, .ref t3, .ref t4, .ref t5, .ref t6, jv h, jv sz]), (kb, ob 2 [.ref kc, jv bn]), (kc, ai g 60 bf), (t1, ai g 11 S), (t2, ai g 60 A0), (t3, ai g 60 A1), (t4, ai g 60 A2), (t5, ai g 60 A3), (t6, ai g 60 A4)] ∧ (True)) := by
  refine ct_of (cc := cX4_height) (nL := 1) (ret := (some .int)) (by decide) rfl (Nat.le_of_ble_eq_true rfl) ?_
  intro E C Rt0
  have C : Cx l g E ({ frames := 0, cells := 0, slots := 0, locals := 0 } : Room) RX4 "height" cX4_height wsX4_height 1 := C
  show X l g E ({ frames := 0, cells := 0, slots := 0, locals := 0 } : Room) 1 [(a, ob 4 [.ref kb, .ref t1, .ref t2, .ref t3, .ref t4, .ref t5, .ref t6, jv h, jv sz]), (kb, ob 2 [.ref kc, jv bn]), (kc, ai g 60 bf), (t1, ai g 11 S), (t2, ai g 60 A0), (t3, ai g 60 A1), (t4, ai g 60 A2), (t5, ai g 60 A3), (t6, ai g 60 A4)] 0 0 [(0, .ref a)] 0 []
  refine x_aload_n (pc := 0) C 0 dX4_height_0 rfl ?_
  refine x_get (pc := 1) C 0 7 dX4_height_1 hiX4_height_4 hfX4_height_37 rfl rfl rfl (by decide) rfl ?_
  refine x_iret (pc := 4) C Rt0 dX4_height_4 rfl ?_
  refine ⟨rfl, rfl, ?_⟩
  trivial

set_option maxRecDepth 100000 in
theorem hiX4_isPiece_4 : ∀ w ∈ wsX40, w ∈ wsX4_isPiece := by decide +kernel
set_option maxRecDepth 100000 in
theorem hfX4_isPiece_49 : Cond.fieldLink RX4 49 "KeyGuess$Tower" "size" "I" ∈ wsX4_isPiece := by decide +kernel
set_option maxHeartbeats 4000000 in
set_option maxRecDepth 100000 in
/-- Tower.isPiece -/
theorem ctX4_isPiece (l : Launch) (g : xG) (a : Nat) (kb : Nat) (kc : Nat) (t1 : Nat) (t2 : Nat) (t3 : Nat) (t4 : Nat) (t5 : Nat) (t6 : Nat) (h : Int) (sz : Int) (bn : Int) (bf : Int → Int) (S : Int → Int) (A0 : Int → Int) (A1 : Int → Int) (A2 : Int → Int) (A3 : Int → Int) (A4 : Int → Int) (p : Int) (hz : 0 ≤ sz ∧ sz ≤ 60) (hr : Rg p) : Ct l g yX4_isPiece wsX4_isPiece ({ frames := 0, cells := 0, slots := 0, locals := 0 } : Room) 0 0 [(a, ob 4 [.ref kb, .ref t1, .ref t2, .ref t3, .ref t4, .ref t5, .ref t6, jv h, jv sz]), (kb, ob 2 [.ref kc, jv bn]), (kc, ai g 60 bf), (t1, ai g 11 S), (t2, ai g 60 A0), (t3, ai g 60 A1), (t4, ai g 60 A2), (t5, ai g 60 A3), (t6, ai g 60 A4)] [.ref a, jv p] (fun v u => (v = some (jv 1) ∧ u = [(a, ob 4 [.ref kb, .ref t1, .ref t2, .ref t3, .ref t4, .ref t5, .ref t6, jv h, jv sz]), (kb, ob 2 [.ref kc, jv bn]), (kc, ai g 60 bf), (t1, ai g 11 S), (t2, ai g 60 A0), (t3, ai g 60 A1), (t4, ai g 60 A2), (t5, ai g 60 A3), (t6, ai g 60 A4)] ∧ (0 ≤ p ∧ p < sz ∧ p < 60)) ∨ (v = some (jv 0) ∧ u = [(a, ob 4 [.ref kb, .ref t1, .ref t2, .ref t3, .ref t4, .ref t5, .ref t6, jv h, jv sz]), (kb, ob 2 [.ref kc, jv bn]), (kc, ai g 60 bf), (t1, ai g 11 S), (t2, ai g 60 A0), (t3, ai g 60 A1), (t4, ai g 60 A2), (t5, ai g 60 A3), (t6, ai g 60 A4)] ∧ (p < 0 ∨ sz ≤ p))) := by
  refine ct_of (cc := cX4_isPiece) (nL := 2) (ret := (some .boolean)) (by decide) rfl (Nat.le_of_ble_eq_true rfl) ?_
  intro E C Rt0
  have C : Cx l g E ({ frames := 0, cells := 0, slots := 0, locals := 0 } : Room) RX4 "isPiece" cX4_isPiece wsX4_isPiece 2 := C
  show X l g E ({ frames := 0, cells := 0, slots := 0, locals := 0 } : Room) 2 [(a, ob 4 [.ref kb, .ref t1, .ref t2, .ref t3, .ref t4, .ref t5, .ref t6, jv h, jv sz]), (kb, ob 2 [.ref kc, jv bn]), (kc, ai g 60 bf), (t1, ai g 11 S), (t2, ai g 60 A0), (t3, ai g 60 A1), (t4, ai g 60 A2), (t5, ai g 60 A3), (t6, ai g 60 A4)] 0 0 [(0, .ref a), (1, jv p)] 0 []
  have hr1 := hr.1
  have hr2 := hr.2
  refine x_iload_n (pc := 0) C 1 dX4_isPiece_0 rfl ?_
  refine x_if_lt (pc := 1) C 22 dX4_isPiece_1 rfl ⟨by omega, by omega⟩ (fun c_1 => ?_) (fun c_1 => ?_)
  · refine x_iconst (pc := 22) C dX4_isPiece_22 ?_
    refine x_zret (pc := 23) C Rt0 dX4_isPiece_23 rfl rfl ?_
    refine Or.inr (⟨rfl, rfl, ?_⟩)
    omega
  · refine x_iload_n (pc := 4) C 1 dX4_isPiece_4 rfl ?_
    refine x_aload_n (pc := 5) C 0 dX4_isPiece_5 rfl ?_
    refine x_get (pc := 6) C 0 8 dX4_isPiece_6 hiX4_isPiece_4 hfX4_isPiece_49 rfl rfl rfl (by decide) rfl ?_
    refine x_icmp_ge (pc := 9) C 22 dX4_isPiece_9 rfl ⟨by omega, by omega⟩ ⟨by omega, by omega⟩ (fun c_9 => ?_) (fun c_9 => ?_)
    · refine x_iconst (pc := 22) C dX4_isPiece_22 ?_
      refine x_zret (pc := 23) C Rt0 dX4_isPiece_23 rfl rfl ?_
      refine Or.inr (⟨rfl, rfl, ?_⟩)
      omega
    · refine x_iload_n (pc := 12) C 1 dX4_isPiece_12 rfl ?_
      refine x_bipush (pc := 13) C dX4_isPiece_13 rfl ?_
      refine x_icmp_ge (pc := 15) C 22 dX4_isPiece_15 rfl ⟨by omega, by omega⟩ ⟨by omega, by omega⟩ (fun c_15 => ?_) (fun c_15 => ?_)
      · refine x_iconst (pc := 22) C dX4_isPiece_22 ?_
        refine x_zret (pc := 23) C Rt0 dX4_isPiece_23 rfl rfl ?_
        refine Or.inr (⟨rfl, rfl, ?_⟩)
        omega
      · refine x_iconst (pc := 18) C dX4_isPiece_18 ?_
        refine x_goto (pc := 19) C 23 dX4_isPiece_19 rfl ?_
        refine x_zret (pc := 23) C Rt0 dX4_isPiece_23 rfl rfl ?_
        refine Or.inl ⟨rfl, rfl, ?_⟩
        omega

set_option maxRecDepth 100000 in
theorem hiX4_width_4 : ∀ w ∈ wsX40, w ∈ wsX4_width := by decide +kernel
set_option maxRecDepth 100000 in
theorem hfX4_width_37 : Cond.fieldLink RX4 37 "KeyGuess$Tower" "height" "I" ∈ wsX4_width := by decide +kernel
set_option maxRecDepth 100000 in
theorem hfX4_width_18 : Cond.fieldLink RX4 18 "KeyGuess$Tower" "starts" "[I" ∈ wsX4_width := by decide +kernel
set_option maxHeartbeats 4000000 in
set_option maxRecDepth 100000 in
/-- Tower.width -/
theorem ctX4_width (l : Launch) (g : xG) (a : Nat) (kb : Nat) (kc : Nat) (t1 : Nat) (t2 : Nat) (t3 : Nat) (t4 : Nat) (t5 : Nat) (t6 : Nat) (h : Int) (sz : Int) (bn : Int) (bf : Int → Int) (S : Int → Int) (A0 : Int → Int) (A1 : Int → Int) (A2 : Int → Int) (A3 : Int → Int) (A4 : Int → Int) (t : Int) (hw : TwF h sz S) (hr : Rg t) : Ct l g yX4_width wsX4_width ({ frames := 0, cells := 0, slots := 0, locals := 0 } : Room) 0 0 [(a, ob 4 [.ref kb, .ref t1, .ref t2, .ref t3, .ref t4, .ref t5, .ref t6, jv h, jv sz]), (kb, ob 2 [.ref kc, jv bn]), (kc, ai g 60 bf), (t1, ai g 11 S), (t2, ai g 60 A0), (t3, ai g 60 A1), (t4, ai g 60 A2), (t5, ai g 60 A3), (t6, ai g 60 A4)] [.ref a, jv t] (fun v u => (v = some (jv (S (t + 1) - S t)) ∧ u = [(a, ob 4 [.ref kb, .ref t1, .ref t2, .ref t3, .ref t4, .ref t5, .ref t6, jv h, jv sz]), (kb, ob 2 [.ref kc, jv bn]), (kc, ai g 60 bf), (t1, ai g 11 S), (t2, ai g 60 A0), (t3, ai g 60 A1), (t4, ai g 60 A2), (t5, ai g 60 A3), (t6, ai g 60 A4)] ∧ (0 ≤ t ∧ t < h)) ∨ (v = some (jv 0) ∧ u = [(a, ob 4 [.ref kb, .ref t1, .ref t2, .ref t3, .ref t4, .ref t5, .ref t6, jv h, jv sz]), (kb, ob 2 [.ref kc, jv bn]), (kc, ai g 60 bf), (t1, ai g 11 S), (t2, ai g 60 A0), (t3, ai g 60 A1), (t4, ai g 60 A2), (t5, ai g 60 A3), (t6, ai g 60 A4)] ∧ (t < 0 ∨ h ≤ t))) := by
  refine ct_of (cc := cX4_width) (nL := 2) (ret := (some .int)) (by decide) rfl (Nat.le_of_ble_eq_true rfl) ?_
  intro E C Rt0
  have C : Cx l g E ({ frames := 0, cells := 0, slots := 0, locals := 0 } : Room) RX4 "width" cX4_width wsX4_width 2 := C
  show X l g E ({ frames := 0, cells := 0, slots := 0, locals := 0 } : Room) 2 [(a, ob 4 [.ref kb, .ref t1, .ref t2, .ref t3, .ref t4, .ref t5, .ref t6, jv h, jv sz]), (kb, ob 2 [.ref kc, jv bn]), (kc, ai g 60 bf), (t1, ai g 11 S), (t2, ai g 60 A0), (t3, ai g 60 A1), (t4, ai g 60 A2), (t5, ai g 60 A3), (t6, ai g 60 A4)] 0 0 [(0, .ref a), (1, jv t)] 0 []
  have hw1 := hw.1
  have hw2 := hw.2.1
  have hw3 := hw.2.2.1
  have hw4 := hw.2.2.2.1
  have hr1 := hr.1
  have hr2 := hr.2
  refine x_iload_n (pc := 0) C 1 dX4_width_0 rfl ?_
  refine x_if_lt (pc := 1) C 36 dX4_width_1 rfl ⟨by omega, by omega⟩ (fun c_1 => ?_) (fun c_1 => ?_)
  · refine x_iconst (pc := 36) C dX4_width_36 ?_
    refine x_iret (pc := 37) C Rt0 dX4_width_37 rfl ?_
    refine Or.inr (⟨rfl, rfl, ?_⟩)
    omega
  · refine x_iload_n (pc := 4) C 1 dX4_width_4 rfl ?_
    refine x_aload_n (pc := 5) C 0 dX4_width_5 rfl ?_
    refine x_get (pc := 6) C 0 7 dX4_width_6 hiX4_width_4 hfX4_width_37 rfl rfl rfl (by decide) rfl ?_
    refine x_icmp_ge (pc := 9) C 36 dX4_width_9 rfl ⟨by omega, by omega⟩ ⟨by omega, by omega⟩ (fun c_9 => ?_) (fun c_9 => ?_)
    · refine x_iconst (pc := 36) C dX4_width_36 ?_
      refine x_iret (pc := 37) C Rt0 dX4_width_37 rfl ?_
      refine Or.inr (⟨rfl, rfl, ?_⟩)
      omega
    · refine x_iload_n (pc := 12) C 1 dX4_width_12 rfl ?_
      refine x_bipush (pc := 13) C dX4_width_13 rfl ?_
      refine x_icmp_ge (pc := 15) C 36 dX4_width_15 rfl ⟨by omega, by omega⟩ ⟨by omega, by omega⟩ (fun c_15 => ?_) (fun c_15 => ?_)
      · refine x_iconst (pc := 36) C dX4_width_36 ?_
        refine x_iret (pc := 37) C Rt0 dX4_width_37 rfl ?_
        refine Or.inr (⟨rfl, rfl, ?_⟩)
        omega
      · refine x_aload_n (pc := 18) C 0 dX4_width_18 rfl ?_
        refine x_get (pc := 19) C 0 1 dX4_width_19 hiX4_width_4 hfX4_width_18 rfl rfl rfl (by decide) rfl ?_
        refine x_iload_n (pc := 22) C 1 dX4_width_22 rfl ?_
        refine x_iconst (pc := 23) C dX4_width_23 ?_
        refine x_iadd (pc := 24) C dX4_width_24 ?_
        refine x_iald (pc := 25) C 3 dX4_width_25 rfl (by omega) (by omega) (by decide) ?_
        refine x_aload_n (pc := 26) C 0 dX4_width_26 rfl ?_
        refine x_get (pc := 27) C 0 1 dX4_width_27 hiX4_width_4 hfX4_width_18 rfl rfl rfl (by decide) rfl ?_
        refine x_iload_n (pc := 30) C 1 dX4_width_30 rfl ?_
        refine x_iald (pc := 31) C 3 dX4_width_31 rfl (by omega) (by omega) (by decide) ?_
        refine x_isub (pc := 32) C dX4_width_32 ?_
        refine x_goto (pc := 33) C 37 dX4_width_33 rfl ?_
        refine x_iret (pc := 37) C Rt0 dX4_width_37 rfl ?_
        refine Or.inl ⟨rfl, rfl, ?_⟩
        omega

set_option maxRecDepth 100000 in
theorem hiX4_tell_4 : ∀ w ∈ wsX40, w ∈ wsX4_tell := by decide +kernel
set_option maxRecDepth 100000 in
theorem hfX4_tell_18 : Cond.fieldLink RX4 18 "KeyGuess$Tower" "starts" "[I" ∈ wsX4_tell := by decide +kernel
set_option maxRecDepth 100000 in
theorem hfX4_tell_22 : Cond.fieldLink RX4 22 "KeyGuess$Tower" "froms" "[I" ∈ wsX4_tell := by decide +kernel
set_option maxRecDepth 100000 in
theorem hfX4_tell_25 : Cond.fieldLink RX4 25 "KeyGuess$Tower" "lasts" "[I" ∈ wsX4_tell := by decide +kernel
set_option maxRecDepth 100000 in
theorem hfX4_tell_28 : Cond.fieldLink RX4 28 "KeyGuess$Tower" "firsts" "[I" ∈ wsX4_tell := by decide +kernel
set_option maxRecDepth 100000 in
theorem hfX4_tell_31 : Cond.fieldLink RX4 31 "KeyGuess$Tower" "slopeNums" "[I" ∈ wsX4_tell := by decide +kernel
set_option maxRecDepth 100000 in
theorem hfX4_tell_34 : Cond.fieldLink RX4 34 "KeyGuess$Tower" "slopeDens" "[I" ∈ wsX4_tell := by decide +kernel
set_option maxHeartbeats 4000000 in
set_option maxRecDepth 100000 in
/-- Tower.tell -/
theorem ctX4_tell (l : Launch) (g : xG) (a : Nat) (kb : Nat) (kc : Nat) (t1 : Nat) (t2 : Nat) (t3 : Nat) (t4 : Nat) (t5 : Nat) (t6 : Nat) (h : Int) (sz : Int) (bn : Int) (bf : Int → Int) (S : Int → Int) (A0 : Int → Int) (A1 : Int → Int) (A2 : Int → Int) (A3 : Int → Int) (A4 : Int → Int) (t : Int) (k : Int) (w : Int) (hw : TwF h sz S) (ht : Rg t) (hk : Rg k) (hv : Rg w) : Ct l g yX4_tell wsX4_tell ({ frames := 1, cells := 0, slots := 0, locals := 21 } : Room) 0 0 [(a, ob 4 [.ref kb, .ref t1, .ref t2, .ref t3, .ref t4, .ref t5, .ref t6, jv h, jv sz]), (kb, ob 2 [.ref kc, jv bn]), (kc, ai g 60 bf), (t1, ai g 11 S), (t2, ai g 60 A0), (t3, ai g 60 A1), (t4, ai g 60 A2), (t5, ai g 60 A3), (t6, ai g 60 A4)] [.ref a, jv t, jv k, jv w] (fun v u => (v = some (jv (-2)) ∧ u = [(a, ob 4 [.ref kb, .ref t1, .ref t2, .ref t3, .ref t4, .ref t5, .ref t6, jv h, jv sz]), (kb, ob 2 [.ref kc, jv bn]), (kc, ai g 60 bf), (t1, ai g 11 S), (t2, ai g 60 A0), (t3, ai g 60 A1), (t4, ai g 60 A2), (t5, ai g 60 A3), (t6, ai g 60 A4)] ∧ (k < 0 ∨ t < 0 ∨ h ≤ t ∨ S (t + 1) - S t ≤ k ∨ w < 0 ∨ 4 < w)) ∨ (v = some (jv (A0 (S t + k))) ∧ u = [(a, ob 4 [.ref kb, .ref t1, .ref t2, .ref t3, .ref t4, .ref t5, .ref t6, jv h, jv sz]), (kb, ob 2 [.ref kc, jv bn]), (kc, ai g 60 bf), (t1, ai g 11 S), (t2, ai g 60 A0), (t3, ai g 60 A1), (t4, ai g 60 A2), (t5, ai g 60 A3), (t6, ai g 60 A4)] ∧ (w = 0 ∧ 0 ≤ t ∧ t < h ∧ 0 ≤ k ∧ k < S (t + 1) - S t)) ∨ (v = some (jv (A1 (S t + k))) ∧ u = [(a, ob 4 [.ref kb, .ref t1, .ref t2, .ref t3, .ref t4, .ref t5, .ref t6, jv h, jv sz]), (kb, ob 2 [.ref kc, jv bn]), (kc, ai g 60 bf), (t1, ai g 11 S), (t2, ai g 60 A0), (t3, ai g 60 A1), (t4, ai g 60 A2), (t5, ai g 60 A3), (t6, ai g 60 A4)] ∧ (w = 1 ∧ 0 ≤ t ∧ t < h ∧ 0 ≤ k ∧ k < S (t + 1) - S t)) ∨ (v = some (jv (A2 (S t + k))) ∧ u = [(a, ob 4 [.ref kb, .ref t1, .ref t2, .ref t3, .ref t4, .ref t5, .ref t6, jv h, jv sz]), (kb, ob 2 [.ref kc, jv bn]), (kc, ai g 60 bf), (t1, ai g 11 S), (t2, ai g 60 A0), (t3, ai g 60 A1), (t4, ai g 60 A2), (t5, ai g 60 A3), (t6, ai g 60 A4)] ∧ (w = 2 ∧ 0 ≤ t ∧ t < h ∧ 0 ≤ k ∧ k < S (t + 1) - S t)) ∨ (v = some (jv (A3 (S t + k))) ∧ u = [(a, ob 4 [.ref kb, .ref t1, .ref t2, .ref t3, .ref t4, .ref t5, .ref t6, jv h, jv sz]), (kb, ob 2 [.ref kc, jv bn]), (kc, ai g 60 bf), (t1, ai g 11 S), (t2, ai g 60 A0), (t3, ai g 60 A1), (t4, ai g 60 A2), (t5, ai g 60 A3), (t6, ai g 60 A4)] ∧ (w = 3 ∧ 0 ≤ t ∧ t < h ∧ 0 ≤ k ∧ k < S (t + 1) - S t)) ∨ (v = some (jv (A4 (S t + k))) ∧ u = [(a, ob 4 [.ref kb, .ref t1, .ref t2, .ref t3, .ref t4, .ref t5, .ref t6, jv h, jv sz]), (kb, ob 2 [.ref kc, jv bn]), (kc, ai g 60 bf), (t1, ai g 11 S), (t2, ai g 60 A0), (t3, ai g 60 A1), (t4, ai g 60 A2), (t5, ai g 60 A3), (t6, ai g 60 A4)] ∧ (w = 4 ∧ 0 ≤ t ∧ t < h ∧ 0 ≤ k ∧ k < S (t + 1) - S t))) := by
  refine ct_of (cc := cX4_tell) (nL := 5) (ret := (some .int)) (by decide) rfl (Nat.le_of_ble_eq_true rfl) ?_
  intro E C Rt0
  have C : Cx l g E ({ frames := 1, cells := 0, slots := 0, locals := 21 } : Room) RX4 "tell" cX4_tell wsX4_tell 5 := C
  show X l g E ({ frames := 1, cells := 0, slots := 0, locals := 21 } : Room) 5 [(a, ob 4 [.ref kb, .ref t1, .ref t2, .ref t3, .ref t4, .ref t5, .ref t6, jv h, jv sz]), (kb, ob 2 [.ref kc, jv bn]), (kc, ai g 60 bf), (t1, ai g 11 S), (t2, ai g 60 A0), (t3, ai g 60 A1), (t4, ai g 60 A2), (t5, ai g 60 A3), (t6, ai g 60 A4)] 0 0 [(0, .ref a), (1, jv t), (2, jv k), (3, jv w)] 0 []
  have hw1 := hw.1
  have hw2 := hw.2.1
  have hw3 := hw.2.2.1
  have hw4 := hw.2.2.2.1
  have ht1 := ht.1
  have ht2 := ht.2
  have hk1 := hk.1
  have hk2 := hk.2
  have hv1 := hv.1
  have hv2 := hv.2
  refine x_iload_n (pc := 0) C 2 dX4_tell_0 rfl ?_
  refine x_if_lt (pc := 1) C 13 dX4_tell_1 rfl ⟨by omega, by omega⟩ (fun c_1 => ?_) (fun c_1 => ?_)
  · refine x_bipush (pc := 13) C dX4_tell_13 rfl ?_
    refine x_iret (pc := 15) C Rt0 dX4_tell_15 rfl ?_
    refine Or.inl ⟨rfl, rfl, ?_⟩
    omega
  · refine x_iload_n (pc := 4) C 2 dX4_tell_4 rfl ?_
    refine x_aload_n (pc := 5) C 0 dX4_tell_5 rfl ?_
    refine x_iload_n (pc := 6) C 1 dX4_tell_6 rfl ?_
    refine x_callV (pc := 7) C (n := 1) (q0 := 0) (rest := [jv k]) (wr := []) [0, 1, 2, 3, 4, 5, 6, 7, 8] [] (ctX4_width l g a kb kc t1 t2 t3 t4 t5 t6 h sz bn bf S A0 A1 A2 A3 A4 t hw ht) gX4_tell_X4_width rfl ⟨rfl, rfl⟩ (by decide +kernel) ⟨by decide, by decide⟩ rfl rfl rfl rfl rfl (by decide) (by decide) (by decide) rfl (Nat.le_of_ble_eq_true rfl) dX4_tell_7 ⟨by decide, by decide⟩ (fun v_7 u_7 h_7 => ?_)
    rcases h_7 with ⟨rfl, rfl, f_7⟩ | ⟨rfl, rfl, f_7⟩
    · refine x_world (ws' := [(a, ob 4 [.ref kb, .ref t1, .ref t2, .ref t3, .ref t4, .ref t5, .ref t6, jv h, jv sz]), (kb, ob 2 [.ref kc, jv bn]), (kc, ai g 60 bf), (t1, ai g 11 S), (t2, ai g 60 A0), (t3, ai g 60 A1), (t4, ai g 60 A2), (t5, ai g 60 A3), (t6, ai g 60 A4)]) [0, 1, 2, 3, 4, 5, 6, 7, 8] (by decide) rfl ?_
      show X l g E ({ frames := 1, cells := 0, slots := 0, locals := 21 } : Room) 5 [(a, ob 4 [.ref kb, .ref t1, .ref t2, .ref t3, .ref t4, .ref t5, .ref t6, jv h, jv sz]), (kb, ob 2 [.ref kc, jv bn]), (kc, ai g 60 bf), (t1, ai g 11 S), (t2, ai g 60 A0), (t3, ai g 60 A1), (t4, ai g 60 A2), (t5, ai g 60 A3), (t6, ai g 60 A4)] 0 0 [(0, .ref a), (1, jv t), (2, jv k), (3, jv w)] 10 [jv (S (t + 1) - S t), jv k]
      have hs := hw.2.2.2.2 t (by omega) (by omega)
      refine x_icmp_lt (pc := 10) C 16 dX4_tell_10 rfl ⟨by omega, by omega⟩ ⟨by omega, by omega⟩ (fun c_10 => ?_) (fun c_10 => ?_)
      · refine x_aload_n (pc := 16) C 0 dX4_tell_16 rfl ?_
        refine x_get (pc := 17) C 0 1 dX4_tell_17 hiX4_tell_4 hfX4_tell_18 rfl rfl rfl (by decide) rfl ?_
        refine x_iload_n (pc := 20) C 1 dX4_tell_20 rfl ?_
        refine x_iald (pc := 21) C 3 dX4_tell_21 rfl (by omega) (by omega) (by decide) ?_
        refine x_iload_n (pc := 22) C 2 dX4_tell_22 rfl ?_
        refine x_iadd (pc := 23) C dX4_tell_23 ?_
        refine x_istore (pc := 24) C (lv' := [(4, jv ((S t) + k)), (0, .ref a), (1, jv t), (2, jv k), (3, jv w)]) dX4_tell_24 (by decide) rfl ?_
        refine x_aload_n (pc := 26) C 1 dX4_tell_26 rfl ?_
        refine x_iload (pc := 27) C 0 dX4_tell_27 rfl ?_
        refine x_callV (pc := 29) C (n := 1) (q0 := 0) (rest := []) (wr := []) [0, 1, 2, 3, 4, 5, 6, 7, 8] [] (ctX4_isPiece l g a kb kc t1 t2 t3 t4 t5 t6 h sz bn bf S A0 A1 A2 A3 A4 (S t + k) ⟨hw3, hw4⟩ ⟨by omega, by omega⟩) gX4_tell_X4_isPiece rfl ⟨rfl, rfl⟩ (by decide +kernel) ⟨by decide, by decide⟩ rfl rfl rfl rfl rfl (by decide) (by decide) (by decide) rfl (Nat.le_of_ble_eq_true rfl) dX4_tell_29 ⟨by decide, by decide⟩ (fun v_29 u_29 h_29 => ?_)
        rcases h_29 with ⟨rfl, rfl, f_29⟩ | ⟨rfl, rfl, f_29⟩
        · refine x_world (ws' := [(a, ob 4 [.ref kb, .ref t1, .ref t2, .ref t3, .ref t4, .ref t5, .ref t6, jv h, jv sz]), (kb, ob 2 [.ref kc, jv bn]), (kc, ai g 60 bf), (t1, ai g 11 S), (t2, ai g 60 A0), (t3, ai g 60 A1), (t4, ai g 60 A2), (t5, ai g 60 A3), (t6, ai g 60 A4)]) [0, 1, 2, 3, 4, 5, 6, 7, 8] (by decide) rfl ?_
          show X l g E ({ frames := 1, cells := 0, slots := 0, locals := 21 } : Room) 5 [(a, ob 4 [.ref kb, .ref t1, .ref t2, .ref t3, .ref t4, .ref t5, .ref t6, jv h, jv sz]), (kb, ob 2 [.ref kc, jv bn]), (kc, ai g 60 bf), (t1, ai g 11 S), (t2, ai g 60 A0), (t3, ai g 60 A1), (t4, ai g 60 A2), (t5, ai g 60 A3), (t6, ai g 60 A4)] 0 0 [(4, jv ((S t) + k)), (0, .ref a), (1, jv t), (2, jv k), (3, jv w)] 32 [jv 1]
          refine x_if_ne (pc := 32) C 38 dX4_tell_32 rfl ⟨by decide, by decide⟩ (fun _ => ?_) (fun h => absurd h (by decide))
          refine x_iload_n (pc := 38) C 4 dX4_tell_38 rfl ?_
          by_cases sw_39 : w < 0 ∨ 4 < w
          · refine x_tableOut (pc := 39) C 112 dX4_tell_39 ⟨by omega, by omega⟩ sw_39 rfl ?_
            refine x_bipush (pc := 112) C dX4_tell_112 rfl ?_
            refine x_iret (pc := 114) C Rt0 dX4_tell_114 rfl ?_
            refine Or.inl ⟨rfl, rfl, ?_⟩
            omega
          have sv_39 : w = 0 ∨ w = 1 ∨ w = 2 ∨ w = 3 ∨ w = 4 := by omega
          rcases sv_39 with sv_39 | sv_39 | sv_39 | sv_39 | sv_39
          · refine x_tableIn (pc := 39) C 72 dX4_tell_39 ⟨by omega, by omega⟩ (by omega) (by omega) (by rw [sv_39]; rfl) rfl ?_
            refine x_aload_n (pc := 72) C 1 dX4_tell_72 rfl ?_
            refine x_get (pc := 73) C 0 2 dX4_tell_73 hiX4_tell_4 hfX4_tell_22 rfl rfl rfl (by decide) rfl ?_
            refine x_iload (pc := 76) C 0 dX4_tell_76 rfl ?_
            refine x_iald (pc := 78) C 4 dX4_tell_78 rfl (by omega) (by omega) (by decide) ?_
            refine x_iret (pc := 79) C Rt0 dX4_tell_79 rfl ?_
            refine Or.inr (Or.inl ⟨rfl, rfl, ?_⟩)
            omega
          · refine x_tableIn (pc := 39) C 80 dX4_tell_39 ⟨by omega, by omega⟩ (by omega) (by omega) (by rw [sv_39]; rfl) rfl ?_
            refine x_aload_n (pc := 80) C 1 dX4_tell_80 rfl ?_
            refine x_get (pc := 81) C 0 3 dX4_tell_81 hiX4_tell_4 hfX4_tell_25 rfl rfl rfl (by decide) rfl ?_
            refine x_iload (pc := 84) C 0 dX4_tell_84 rfl ?_
            refine x_iald (pc := 86) C 5 dX4_tell_86 rfl (by omega) (by omega) (by decide) ?_
            refine x_iret (pc := 87) C Rt0 dX4_tell_87 rfl ?_
            refine Or.inr (Or.inr (Or.inl ⟨rfl, rfl, ?_⟩))
            omega
          · refine x_tableIn (pc := 39) C 88 dX4_tell_39 ⟨by omega, by omega⟩ (by omega) (by omega) (by rw [sv_39]; rfl) rfl ?_
            refine x_aload_n (pc := 88) C 1 dX4_tell_88 rfl ?_
            refine x_get (pc := 89) C 0 4 dX4_tell_89 hiX4_tell_4 hfX4_tell_28 rfl rfl rfl (by decide) rfl ?_
            refine x_iload (pc := 92) C 0 dX4_tell_92 rfl ?_
            refine x_iald (pc := 94) C 6 dX4_tell_94 rfl (by omega) (by omega) (by decide) ?_
            refine x_iret (pc := 95) C Rt0 dX4_tell_95 rfl ?_
            refine Or.inr (Or.inr (Or.inr (Or.inl ⟨rfl, rfl, ?_⟩)))
            omega
          · refine x_tableIn (pc := 39) C 96 dX4_tell_39 ⟨by omega, by omega⟩ (by omega) (by omega) (by rw [sv_39]; rfl) rfl ?_
            refine x_aload_n (pc := 96) C 1 dX4_tell_96 rfl ?_
            refine x_get (pc := 97) C 0 5 dX4_tell_97 hiX4_tell_4 hfX4_tell_31 rfl rfl rfl (by decide) rfl ?_
            refine x_iload (pc := 100) C 0 dX4_tell_100 rfl ?_
            refine x_iald (pc := 102) C 7 dX4_tell_102 rfl (by omega) (by omega) (by decide) ?_
            refine x_iret (pc := 103) C Rt0 dX4_tell_103 rfl ?_
            refine Or.inr (Or.inr (Or.inr (Or.inr (Or.inl ⟨rfl, rfl, ?_⟩))))
            omega
          · refine x_tableIn (pc := 39) C 104 dX4_tell_39 ⟨by omega, by omega⟩ (by omega) (by omega) (by rw [sv_39]; rfl) rfl ?_
            refine x_aload_n (pc := 104) C 1 dX4_tell_104 rfl ?_
            refine x_get (pc := 105) C 0 6 dX4_tell_105 hiX4_tell_4 hfX4_tell_34 rfl rfl rfl (by decide) rfl ?_
            refine x_iload (pc := 108) C 0 dX4_tell_108 rfl ?_
            refine x_iald (pc := 110) C 8 dX4_tell_110 rfl (by omega) (by omega) (by decide) ?_
            refine x_iret (pc := 111) C Rt0 dX4_tell_111 rfl ?_
            refine Or.inr (Or.inr (Or.inr (Or.inr (Or.inr (⟨rfl, rfl, ?_⟩)))))
            omega
        · refine x_world (ws' := [(a, ob 4 [.ref kb, .ref t1, .ref t2, .ref t3, .ref t4, .ref t5, .ref t6, jv h, jv sz]), (kb, ob 2 [.ref kc, jv bn]), (kc, ai g 60 bf), (t1, ai g 11 S), (t2, ai g 60 A0), (t3, ai g 60 A1), (t4, ai g 60 A2), (t5, ai g 60 A3), (t6, ai g 60 A4)]) [0, 1, 2, 3, 4, 5, 6, 7, 8] (by decide) rfl ?_
          show X l g E ({ frames := 1, cells := 0, slots := 0, locals := 21 } : Room) 5 [(a, ob 4 [.ref kb, .ref t1, .ref t2, .ref t3, .ref t4, .ref t5, .ref t6, jv h, jv sz]), (kb, ob 2 [.ref kc, jv bn]), (kc, ai g 60 bf), (t1, ai g 11 S), (t2, ai g 60 A0), (t3, ai g 60 A1), (t4, ai g 60 A2), (t5, ai g 60 A3), (t6, ai g 60 A4)] 0 0 [(4, jv ((S t) + k)), (0, .ref a), (1, jv t), (2, jv k), (3, jv w)] 32 [jv 0]
          omega
      · refine x_bipush (pc := 13) C dX4_tell_13 rfl ?_
        refine x_iret (pc := 15) C Rt0 dX4_tell_15 rfl ?_
        refine Or.inl ⟨rfl, rfl, ?_⟩
        omega
    · refine x_world (ws' := [(a, ob 4 [.ref kb, .ref t1, .ref t2, .ref t3, .ref t4, .ref t5, .ref t6, jv h, jv sz]), (kb, ob 2 [.ref kc, jv bn]), (kc, ai g 60 bf), (t1, ai g 11 S), (t2, ai g 60 A0), (t3, ai g 60 A1), (t4, ai g 60 A2), (t5, ai g 60 A3), (t6, ai g 60 A4)]) [0, 1, 2, 3, 4, 5, 6, 7, 8] (by decide) rfl ?_
      show X l g E ({ frames := 1, cells := 0, slots := 0, locals := 21 } : Room) 5 [(a, ob 4 [.ref kb, .ref t1, .ref t2, .ref t3, .ref t4, .ref t5, .ref t6, jv h, jv sz]), (kb, ob 2 [.ref kc, jv bn]), (kc, ai g 60 bf), (t1, ai g 11 S), (t2, ai g 60 A0), (t3, ai g 60 A1), (t4, ai g 60 A2), (t5, ai g 60 A3), (t6, ai g 60 A4)] 0 0 [(0, .ref a), (1, jv t), (2, jv k), (3, jv w)] 10 [jv 0, jv k]
      refine x_icmp_lt (pc := 10) C 16 dX4_tell_10 rfl ⟨by omega, by omega⟩ ⟨by omega, by omega⟩ (fun c_10 => ?_) (fun c_10 => ?_)
      · omega
      · refine x_bipush (pc := 13) C dX4_tell_13 rfl ?_
        refine x_iret (pc := 15) C Rt0 dX4_tell_15 rfl ?_
        refine Or.inl ⟨rfl, rfl, ?_⟩
        omega

set_option maxHeartbeats 4000000 in
set_option maxRecDepth 100000 in
/-- Tower.commonDivisor -/
theorem ctX4_commonDivisor (l : Launch) (g : xG) (x : Int) (y : Int) (hx : 0 ≤ x ∧ x ≤ 60) (hy : 1 ≤ y ∧ y ≤ 1000000) : Ct l g yX4_commonDivisor wsX4_commonDivisor ({ frames := 0, cells := 0, slots := 0, locals := 0 } : Room) 0 0 [] [jv x, jv y] (fun v u => ∃ (r : Int), v = some (jv r) ∧ u = [] ∧ (r = gcdI x y)) := by
  refine ct_of (cc := cX4_commonDivisor) (nL := 4) (ret := (some .int)) (by decide) rfl (Nat.le_of_ble_eq_true rfl) ?_
  intro E C Rt0
  have C : Cx l g E ({ frames := 0, cells := 0, slots := 0, locals := 0 } : Room) RX4 "commonDivisor" cX4_commonDivisor wsX4_commonDivisor 4 := C
  show X l g E ({ frames := 0, cells := 0, slots := 0, locals := 0 } : Room) 4 [] 0 0 [(0, jv x), (1, jv y)] 0 []
  refine x_iconst (pc := 0) C dX4_commonDivisor_0 ?_
  refine x_istore_n (pc := 1) C (lv' := [(2, jv 0), (0, jv x), (1, jv y)]) dX4_commonDivisor_1 (by decide) rfl ?_
  have L2 : ∀ (nn : Nat) (u : Int) (v : Int) (j : Int), (v).toNat < nn → (0 ≤ u ∧ u ≤ 1000000 ∧ 0 ≤ v ∧ v ≤ 1000000) → ((j = 0 ∧ u ≤ 60 ∧ 1 ≤ v) ∨ (1 ≤ j ∧ j ≤ 62 ∧ v ≤ 61 - j)) → (gcdI u v = gcdI x y) → X l g E ({ frames := 0, cells := 0, slots := 0, locals := 0 } : Room) 4 [] 0 0 [(0, jv u), (1, jv v), (2, jv j)] 2 [] := by
    intro nn
    induction nn with
    | zero => intro u v j hμ; exact absurd hμ (Nat.not_lt_zero _)
    | succ nn ih2 =>
      intro u v j hμ hu hj hg
      refine x_iload_n (pc := 2) C 2 dX4_commonDivisor_2 rfl ?_
      refine x_bipush (pc := 3) C dX4_commonDivisor_3 rfl ?_
      refine x_icmp_ge (pc := 5) C 26 dX4_commonDivisor_5 rfl ⟨by omega, by omega⟩ ⟨by omega, by omega⟩ (fun c_5 => ?_) (fun c_5 => ?_)
      · omega
      · refine x_iload_n (pc := 8) C 1 dX4_commonDivisor_8 rfl ?_
        refine x_if_eq (pc := 9) C 26 dX4_commonDivisor_9 rfl ⟨by omega, by omega⟩ (fun c_9 => ?_) (fun c_9 => ?_)
        · refine x_iload_n (pc := 26) C 0 dX4_commonDivisor_26 rfl ?_
          refine x_iret (pc := 27) C Rt0 dX4_commonDivisor_27 rfl ?_
          refine ⟨_, rfl, rfl, ?_⟩
          rw [← hg, show v = 0 by omega, gcdI_0 (by omega)]
        · refine x_iload_n (pc := 12) C 0 dX4_commonDivisor_12 rfl ?_
          refine x_iload_n (pc := 13) C 1 dX4_commonDivisor_13 rfl ?_
          refine x_irem (pc := 14) C dX4_commonDivisor_14 ⟨by omega, by omega⟩ ⟨by omega, by omega⟩ (by first | decide | omega) ?_
          refine x_istore_n (pc := 15) C (lv' := [(3, jv ((u).tmod v)), (0, jv u), (1, jv v), (2, jv j)]) dX4_commonDivisor_15 (by decide) rfl ?_
          refine x_iload_n (pc := 16) C 2 dX4_commonDivisor_16 rfl ?_
          refine x_istore_n (pc := 17) C (lv' := [(0, jv v), (3, jv ((u).tmod v)), (1, jv v), (2, jv j)]) dX4_commonDivisor_17 (by decide) rfl ?_
          refine x_iload_n (pc := 18) C 1 dX4_commonDivisor_18 rfl ?_
          refine x_istore_n (pc := 19) C (lv' := [(1, jv ((u).tmod v)), (0, jv v), (3, jv ((u).tmod v)), (2, jv j)]) dX4_commonDivisor_19 (by decide) rfl ?_
          refine x_iinc (pc := 20) C (lv' := [(2, jv (j + 1)), (1, jv ((u).tmod v)), (0, jv v), (3, jv ((u).tmod v))]) 3 dX4_commonDivisor_20 rfl (by decide) rfl ?_
          refine x_goto (pc := 23) C 2 dX4_commonDivisor_23 rfl ?_
          refine x_locals (lv' := [(0, jv v), (1, jv ((u).tmod v)), (2, jv (j + 1))]) [2, 1, 0] rfl ?_
          refine ih2 _ _ _ ?_ ?_ ?_ ?_
          · have := tmf (a := u) (b := v) (by omega) (by omega); omega
          · have := tmf (a := u) (b := v) (by omega) (by omega); omega
          · have := tmf (a := u) (b := v) (by omega) (by omega); omega
          · rw [gcdI_s (by omega) (by omega)]; exact hg
  refine x_locals (lv' := [(0, jv x), (1, jv y), (2, jv 0)]) [1, 2, 0] rfl ?_
  refine L2 _ _ _ _ (Nat.lt_succ_self _) ?_ ?_ ?_
  · omega
  · omega
  · rfl

set_option maxRecDepth 100000 in
theorem hiX4_lay_4 : ∀ w ∈ wsX40, w ∈ wsX4_lay := by decide +kernel
set_option maxRecDepth 100000 in
theorem hfX4_lay_49 : Cond.fieldLink RX4 49 "KeyGuess$Tower" "size" "I" ∈ wsX4_lay := by decide +kernel
set_option maxRecDepth 100000 in
theorem hfX4_lay_22 : Cond.fieldLink RX4 22 "KeyGuess$Tower" "froms" "[I" ∈ wsX4_lay := by decide +kernel
set_option maxRecDepth 100000 in
theorem hfX4_lay_25 : Cond.fieldLink RX4 25 "KeyGuess$Tower" "lasts" "[I" ∈ wsX4_lay := by decide +kernel
set_option maxRecDepth 100000 in
theorem hfX4_lay_28 : Cond.fieldLink RX4 28 "KeyGuess$Tower" "firsts" "[I" ∈ wsX4_lay := by decide +kernel
set_option maxRecDepth 100000 in
theorem hfX4_lay_12 : Cond.fieldLink RX4 12 "KeyGuess$Tower" "base" "LKeyGuess$Keys;" ∈ wsX4_lay := by decide +kernel
set_option maxRecDepth 100000 in
theorem hfX4_lay_31 : Cond.fieldLink RX4 31 "KeyGuess$Tower" "slopeNums" "[I" ∈ wsX4_lay := by decide +kernel
set_option maxRecDepth 100000 in
theorem hfX4_lay_34 : Cond.fieldLink RX4 34 "KeyGuess$Tower" "slopeDens" "[I" ∈ wsX4_lay := by decide +kernel
set_option maxHeartbeats 4000000 in
set_option maxRecDepth 100000 in
/-- Tower.lay -/
theorem ctX4_lay (l : Launch) (g : xG) (a : Nat) (kb : Nat) (kc : Nat) (t1 : Nat) (t2 : Nat) (t3 : Nat) (t4 : Nat) (t5 : Nat) (t6 : Nat) (h : Int) (sz : Int) (bn : Int) (bf : Int → Int) (S : Int → Int) (A0 : Int → Int) (A1 : Int → Int) (A2 : Int → Int) (A3 : Int → Int) (A4 : Int → Int) (ca : Nat) (c1 : Nat) (c2 : Nat) (c3 : Nat) (c4 : Nat) (c5 : Nat) (x : Int → Int) (F : Int → Int) (Ls : Int → Int) (Nm : Int → Int) (Dn : Int → Int) (i : Int) (hz : 0 ≤ sz ∧ sz < 60) (hb : bn ≤ 60) (hi : 0 ≤ i ∧ i < bn) (hN : 0 ≤ Nm i ∧ Nm i ≤ 60 ∧ 1 ≤ Dn i ∧ Dn i ≤ 1000000) : Ct l g yX4_lay wsX4_lay ({ frames := 2, cells := 0, slots := 0, locals := 41 } : Room) 0 0 [(a, ob 4 [.ref kb, .ref t1, .ref t2, .ref t3, .ref t4, .ref t5, .ref t6, jv h, jv sz]), (kb, ob 2 [.ref kc, jv bn]), (kc, ai g 60 bf), (t1, ai g 11 S), (t2, ai g 60 A0), (t3, ai g 60 A1), (t4, ai g 60 A2), (t5, ai g 60 A3), (t6, ai g 60 A4), (ca, ob 0 [.ref c1, .ref c2, .ref c3, .ref c4, .ref c5]), (c1, ai g 60 x), (c2, ai g 61 F), (c3, ai g 60 Ls), (c4, ai g 60 Nm), (c5, ai g 60 Dn)] [.ref a, jv i, .ref ca] (fun v u => v = none ∧ u = [(a, ob 4 [.ref kb, .ref t1, .ref t2, .ref t3, .ref t4, .ref t5, .ref t6, jv h, jv (sz + 1)]), (kb, ob 2 [.ref kc, jv bn]), (kc, ai g 60 bf), (t1, ai g 11 S), (t2, ai g 60 (up A0 sz i)), (t3, ai g 60 (up A1 sz (Ls i))), (t4, ai g 60 (up A2 sz (bf i))), (t5, ai g 60 (up A3 sz (Nm i / gcdI (Nm i) (Dn i)))), (t6, ai g 60 (up A4 sz (Dn i / gcdI (Nm i) (Dn i)))), (ca, ob 0 [.ref c1, .ref c2, .ref c3, .ref c4, .ref c5]), (c1, ai g 60 x), (c2, ai g 61 F), (c3, ai g 60 Ls), (c4, ai g 60 Nm), (c5, ai g 60 Dn)] ∧ (True)) := by
  refine ct_of (cc := cX4_lay) (nL := 6) (ret := none) (by decide) rfl (Nat.le_of_ble_eq_true rfl) ?_
  intro E C Rt0
  have C : Cx l g E ({ frames := 2, cells := 0, slots := 0, locals := 41 } : Room) RX4 "lay" cX4_lay wsX4_lay 6 := C
  show X l g E ({ frames := 2, cells := 0, slots := 0, locals := 41 } : Room) 6 [(a, ob 4 [.ref kb, .ref t1, .ref t2, .ref t3, .ref t4, .ref t5, .ref t6, jv h, jv sz]), (kb, ob 2 [.ref kc, jv bn]), (kc, ai g 60 bf), (t1, ai g 11 S), (t2, ai g 60 A0), (t3, ai g 60 A1), (t4, ai g 60 A2), (t5, ai g 60 A3), (t6, ai g 60 A4), (ca, ob 0 [.ref c1, .ref c2, .ref c3, .ref c4, .ref c5]), (c1, ai g 60 x), (c2, ai g 61 F), (c3, ai g 60 Ls), (c4, ai g 60 Nm), (c5, ai g 60 Dn)] 0 0 [(0, .ref a), (1, jv i), (2, .ref ca)] 0 []
  refine x_aload_n (pc := 0) C 0 dX4_lay_0 rfl ?_
  refine x_get (pc := 1) C 0 8 dX4_lay_1 hiX4_lay_4 hfX4_lay_49 rfl rfl rfl (by decide) rfl ?_
  refine x_if_lt (pc := 4) C 16 dX4_lay_4 rfl ⟨by omega, by omega⟩ (fun c_4 => ?_) (fun c_4 => ?_)
  · omega
  · refine x_aload_n (pc := 7) C 0 dX4_lay_7 rfl ?_
    refine x_get (pc := 8) C 0 8 dX4_lay_8 hiX4_lay_4 hfX4_lay_49 rfl rfl rfl (by decide) rfl ?_
    refine x_bipush (pc := 11) C dX4_lay_11 rfl ?_
    refine x_icmp_lt (pc := 13) C 17 dX4_lay_13 rfl ⟨by omega, by omega⟩ ⟨by omega, by omega⟩ (fun c_13 => ?_) (fun c_13 => ?_)
    · refine x_aload_n (pc := 17) C 2 dX4_lay_17 rfl ?_
      refine x_iload_n (pc := 18) C 1 dX4_lay_18 rfl ?_
      refine x_callV (pc := 19) C (n := 1) (q0 := 0) (rest := []) (wr := [(a, ob 4 [.ref kb, .ref t1, .ref t2, .ref t3, .ref t4, .ref t5, .ref t6, jv h, jv sz]), (kb, ob 2 [.ref kc, jv bn]), (kc, ai g 60 bf), (t1, ai g 11 S), (t2, ai g 60 A0), (t3, ai g 60 A1), (t4, ai g 60 A2), (t5, ai g 60 A3), (t6, ai g 60 A4)]) [9, 10, 11, 12, 13, 14] [0, 1, 2, 3, 4, 5, 6, 7, 8] (ctX0_slopeNum l g ca c1 c2 c3 c4 c5 x F Ls Nm Dn i ⟨hi.1, by omega⟩) gX4_lay_X0_slopeNum rfl ⟨rfl, rfl⟩ (by decide +kernel) ⟨by decide, by decide⟩ rfl rfl rfl rfl rfl (by decide) (by decide) (by decide) rfl (Nat.le_of_ble_eq_true rfl) dX4_lay_19 ⟨by decide, by decide⟩ (fun v_19 u_19 h_19 => ?_)
      rcases h_19 with ⟨rfl, rfl, f_19⟩
      refine x_world (ws' := [(a, ob 4 [.ref kb, .ref t1, .ref t2, .ref t3, .ref t4, .ref t5, .ref t6, jv h, jv sz]), (kb, ob 2 [.ref kc, jv bn]), (kc, ai g 60 bf), (t1, ai g 11 S), (t2, ai g 60 A0), (t3, ai g 60 A1), (t4, ai g 60 A2), (t5, ai g 60 A3), (t6, ai g 60 A4), (ca, ob 0 [.ref c1, .ref c2, .ref c3, .ref c4, .ref c5]), (c1, ai g 60 x), (c2, ai g 61 F), (c3, ai g 60 Ls), (c4, ai g 60 Nm), (c5, ai g 60 Dn)]) [0, 1, 2, 3, 4, 5, 6, 7, 8, 9, 10, 11, 12, 13, 14] (by decide) rfl ?_
      show X l g E ({ frames := 2, cells := 0, slots := 0, locals := 41 } : Room) 6 [(a, ob 4 [.ref kb, .ref t1, .ref t2, .ref t3, .ref t4, .ref t5, .ref t6, jv h, jv sz]), (kb, ob 2 [.ref kc, jv bn]), (kc, ai g 60 bf), (t1, ai g 11 S), (t2, ai g 60 A0), (t3, ai g 60 A1), (t4, ai g 60 A2), (t5, ai g 60 A3), (t6, ai g 60 A4), (ca, ob 0 [.ref c1, .ref c2, .ref c3, .ref c4, .ref c5]), (c1, ai g 60 x), (c2, ai g 61 F), (c3, ai g 60 Ls), (c4, ai g 60 Nm), (c5, ai g 60 Dn)] 0 0 [(0, .ref a), (1, jv i), (2, .ref ca)] 22 [jv (Nm i)]
      refine x_istore_n (pc := 22) C (lv' := [(3, jv (Nm i)), (0, .ref a), (1, jv i), (2, .ref ca)]) dX4_lay_22 (by decide) rfl ?_
      refine x_aload_n (pc := 23) C 3 dX4_lay_23 rfl ?_
      refine x_iload_n (pc := 24) C 2 dX4_lay_24 rfl ?_
      refine x_callV (pc := 25) C (n := 1) (q0 := 0) (rest := []) (wr := [(a, ob 4 [.ref kb, .ref t1, .ref t2, .ref t3, .ref t4, .ref t5, .ref t6, jv h, jv sz]), (kb, ob 2 [.ref kc, jv bn]), (kc, ai g 60 bf), (t1, ai g 11 S), (t2, ai g 60 A0), (t3, ai g 60 A1), (t4, ai g 60 A2), (t5, ai g 60 A3), (t6, ai g 60 A4)]) [9, 10, 11, 12, 13, 14] [0, 1, 2, 3, 4, 5, 6, 7, 8] (ctX0_slopeDen l g ca c1 c2 c3 c4 c5 x F Ls Nm Dn i ⟨hi.1, by omega⟩) gX4_lay_X0_slopeDen rfl ⟨rfl, rfl⟩ (by decide +kernel) ⟨by decide, by decide⟩ rfl rfl rfl rfl rfl (by decide) (by decide) (by decide) rfl (Nat.le_of_ble_eq_true rfl) dX4_lay_25 ⟨by decide, by decide⟩ (fun v_25 u_25 h_25 => ?_)
      rcases h_25 with ⟨rfl, rfl, f_25⟩
      refine x_world (ws' := [(a, ob 4 [.ref kb, .ref t1, .ref t2, .ref t3, .ref t4, .ref t5, .ref t6, jv h, jv sz]), (kb, ob 2 [.ref kc, jv bn]), (kc, ai g 60 bf), (t1, ai g 11 S), (t2, ai g 60 A0), (t3, ai g 60 A1), (t4, ai g 60 A2), (t5, ai g 60 A3), (t6, ai g 60 A4), (ca, ob 0 [.ref c1, .ref c2, .ref c3, .ref c4, .ref c5]), (c1, ai g 60 x), (c2, ai g 61 F), (c3, ai g 60 Ls), (c4, ai g 60 Nm), (c5, ai g 60 Dn)]) [0, 1, 2, 3, 4, 5, 6, 7, 8, 9, 10, 11, 12, 13, 14] (by decide) rfl ?_
      show X l g E ({ frames := 2, cells := 0, slots := 0, locals := 41 } : Room) 6 [(a, ob 4 [.ref kb, .ref t1, .ref t2, .ref t3, .ref t4, .ref t5, .ref t6, jv h, jv sz]), (kb, ob 2 [.ref kc, jv bn]), (kc, ai g 60 bf), (t1, ai g 11 S), (t2, ai g 60 A0), (t3, ai g 60 A1), (t4, ai g 60 A2), (t5, ai g 60 A3), (t6, ai g 60 A4), (ca, ob 0 [.ref c1, .ref c2, .ref c3, .ref c4, .ref c5]), (c1, ai g 60 x), (c2, ai g 61 F), (c3, ai g 60 Ls), (c4, ai g 60 Nm), (c5, ai g 60 Dn)] 0 0 [(3, jv (Nm i)), (0, .ref a), (1, jv i), (2, .ref ca)] 28 [jv (Dn i)]
      refine x_istore (pc := 28) C (lv' := [(4, jv (Dn i)), (3, jv (Nm i)), (0, .ref a), (1, jv i), (2, .ref ca)]) dX4_lay_28 (by decide) rfl ?_
      refine x_iload_n (pc := 30) C 1 dX4_lay_30 rfl ?_
      refine x_iload (pc := 31) C 0 dX4_lay_31 rfl ?_
      refine x_callS (pc := 33) C (n := 2) (rest := []) (wr := [(a, ob 4 [.ref kb, .ref t1, .ref t2, .ref t3, .ref t4, .ref t5, .ref t6, jv h, jv sz]), (kb, ob 2 [.ref kc, jv bn]), (kc, ai g 60 bf), (t1, ai g 11 S), (t2, ai g 60 A0), (t3, ai g 60 A1), (t4, ai g 60 A2), (t5, ai g 60 A3), (t6, ai g 60 A4), (ca, ob 0 [.ref c1, .ref c2, .ref c3, .ref c4, .ref c5]), (c1, ai g 60 x), (c2, ai g 61 F), (c3, ai g 60 Ls), (c4, ai g 60 Nm), (c5, ai g 60 Dn)]) [] [0, 1, 2, 3, 4, 5, 6, 7, 8, 9, 10, 11, 12, 13, 14] (ctX4_commonDivisor l g (Nm i) (Dn i) ⟨hN.1, hN.2.1⟩ ⟨hN.2.2.1, hN.2.2.2⟩) gX4_lay_X4_commonDivisor rfl (by decide +kernel) ⟨rfl, rfl⟩ ⟨by decide, by decide⟩ rfl rfl rfl (by decide) (by decide) (by decide) rfl (Nat.le_of_ble_eq_true rfl) dX4_lay_33 ⟨by decide, by decide⟩ (fun v_33 u_33 h_33 => ?_)
      rcases h_33 with ⟨r, rfl, rfl, f_33⟩
      refine x_world (ws' := [(a, ob 4 [.ref kb, .ref t1, .ref t2, .ref t3, .ref t4, .ref t5, .ref t6, jv h, jv sz]), (kb, ob 2 [.ref kc, jv bn]), (kc, ai g 60 bf), (t1, ai g 11 S), (t2, ai g 60 A0), (t3, ai g 60 A1), (t4, ai g 60 A2), (t5, ai g 60 A3), (t6, ai g 60 A4), (ca, ob 0 [.ref c1, .ref c2, .ref c3, .ref c4, .ref c5]), (c1, ai g 60 x), (c2, ai g 61 F), (c3, ai g 60 Ls), (c4, ai g 60 Nm), (c5, ai g 60 Dn)]) [0, 1, 2, 3, 4, 5, 6, 7, 8, 9, 10, 11, 12, 13, 14] (by decide) rfl ?_
      show X l g E ({ frames := 2, cells := 0, slots := 0, locals := 41 } : Room) 6 [(a, ob 4 [.ref kb, .ref t1, .ref t2, .ref t3, .ref t4, .ref t5, .ref t6, jv h, jv sz]), (kb, ob 2 [.ref kc, jv bn]), (kc, ai g 60 bf), (t1, ai g 11 S), (t2, ai g 60 A0), (t3, ai g 60 A1), (t4, ai g 60 A2), (t5, ai g 60 A3), (t6, ai g 60 A4), (ca, ob 0 [.ref c1, .ref c2, .ref c3, .ref c4, .ref c5]), (c1, ai g 60 x), (c2, ai g 61 F), (c3, ai g 60 Ls), (c4, ai g 60 Nm), (c5, ai g 60 Dn)] 0 0 [(4, jv (Dn i)), (3, jv (Nm i)), (0, .ref a), (1, jv i), (2, .ref ca)] 36 [jv r]
      have g1 : 1 ≤ r := by rw [f_33]; exact gcdI_pos (a := Nm i) (b := Dn i) hN.2.2.1
      have g2 : r ≤ Dn i := by rw [f_33]; exact gcdI_le (a := Nm i) (b := Dn i) hN.2.2.1
      refine x_istore (pc := 36) C (lv' := [(5, jv r), (4, jv (Dn i)), (3, jv (Nm i)), (0, .ref a), (1, jv i), (2, .ref ca)]) dX4_lay_36 (by decide) rfl ?_
      refine x_aload_n (pc := 38) C 3 dX4_lay_38 rfl ?_
      refine x_get (pc := 39) C 0 2 dX4_lay_39 hiX4_lay_4 hfX4_lay_22 rfl rfl rfl (by decide) rfl ?_
      refine x_aload_n (pc := 42) C 3 dX4_lay_42 rfl ?_
      refine x_get (pc := 43) C 0 8 dX4_lay_43 hiX4_lay_4 hfX4_lay_49 rfl rfl rfl (by decide) rfl ?_
      refine x_iload_n (pc := 46) C 4 dX4_lay_46 rfl ?_
      refine x_iast (pc := 47) C (ws' := [(a, ob 4 [.ref kb, .ref t1, .ref t2, .ref t3, .ref t4, .ref t5, .ref t6, jv h, jv sz]), (kb, ob 2 [.ref kc, jv bn]), (kc, ai g 60 bf), (t1, ai g 11 S), (t2, ai g 60 (up A0 sz i)), (t3, ai g 60 A1), (t4, ai g 60 A2), (t5, ai g 60 A3), (t6, ai g 60 A4), (ca, ob 0 [.ref c1, .ref c2, .ref c3, .ref c4, .ref c5]), (c1, ai g 60 x), (c2, ai g 61 F), (c3, ai g 60 Ls), (c4, ai g 60 Nm), (c5, ai g 60 Dn)]) 4 dX4_lay_47 rfl (by omega) (by omega) (by decide) rfl ?_
      refine x_aload_n (pc := 48) C 3 dX4_lay_48 rfl ?_
      refine x_get (pc := 49) C 0 3 dX4_lay_49 hiX4_lay_4 hfX4_lay_25 rfl rfl rfl (by decide) rfl ?_
      refine x_aload_n (pc := 52) C 3 dX4_lay_52 rfl ?_
      refine x_get (pc := 53) C 0 8 dX4_lay_53 hiX4_lay_4 hfX4_lay_49 rfl rfl rfl (by decide) rfl ?_
      refine x_aload_n (pc := 56) C 5 dX4_lay_56 rfl ?_
      refine x_iload_n (pc := 57) C 4 dX4_lay_57 rfl ?_
      refine x_callV (pc := 58) C (n := 1) (q0 := 0) (rest := [jv sz, .ref t3]) (wr := [(a, ob 4 [.ref kb, .ref t1, .ref t2, .ref t3, .ref t4, .ref t5, .ref t6, jv h, jv sz]), (kb, ob 2 [.ref kc, jv bn]), (kc, ai g 60 bf), (t1, ai g 11 S), (t2, ai g 60 (up A0 sz i)), (t3, ai g 60 A1), (t4, ai g 60 A2), (t5, ai g 60 A3), (t6, ai g 60 A4)]) [9, 10, 11, 12, 13, 14] [0, 1, 2, 3, 4, 5, 6, 7, 8] (ctX0_lastOf l g ca c1 c2 c3 c4 c5 x F Ls Nm Dn i ⟨hi.1, by omega⟩) gX4_lay_X0_lastOf rfl ⟨rfl, rfl⟩ (by decide +kernel) ⟨by decide, by decide⟩ rfl rfl rfl rfl rfl (by decide) (by decide) (by decide) rfl (Nat.le_of_ble_eq_true rfl) dX4_lay_58 ⟨by decide, by decide⟩ (fun v_58 u_58 h_58 => ?_)
      rcases h_58 with ⟨rfl, rfl, f_58⟩
      refine x_world (ws' := [(a, ob 4 [.ref kb, .ref t1, .ref t2, .ref t3, .ref t4, .ref t5, .ref t6, jv h, jv sz]), (kb, ob 2 [.ref kc, jv bn]), (kc, ai g 60 bf), (t1, ai g 11 S), (t2, ai g 60 (up A0 sz i)), (t3, ai g 60 A1), (t4, ai g 60 A2), (t5, ai g 60 A3), (t6, ai g 60 A4), (ca, ob 0 [.ref c1, .ref c2, .ref c3, .ref c4, .ref c5]), (c1, ai g 60 x), (c2, ai g 61 F), (c3, ai g 60 Ls), (c4, ai g 60 Nm), (c5, ai g 60 Dn)]) [0, 1, 2, 3, 4, 5, 6, 7, 8, 9, 10, 11, 12, 13, 14] (by decide) rfl ?_
      show X l g E ({ frames := 2, cells := 0, slots := 0, locals := 41 } : Room) 6 [(a, ob 4 [.ref kb, .ref t1, .ref t2, .ref t3, .ref t4, .ref t5, .ref t6, jv h, jv sz]), (kb, ob 2 [.ref kc, jv bn]), (kc, ai g 60 bf), (t1, ai g 11 S), (t2, ai g 60 (up A0 sz i)), (t3, ai g 60 A1), (t4, ai g 60 A2), (t5, ai g 60 A3), (t6, ai g 60 A4), (ca, ob 0 [.ref c1, .ref c2, .ref c3, .ref c4, .ref c5]), (c1, ai g 60 x), (c2, ai g 61 F), (c3, ai g 60 Ls), (c4, ai g 60 Nm), (c5, ai g 60 Dn)] 0 0 [(5, jv r), (4, jv (Dn i)), (3, jv (Nm i)), (0, .ref a), (1, jv i), (2, .ref ca)] 61 [jv (Ls i), jv sz, .ref t3]
      refine x_iast (pc := 61) C (ws' := [(a, ob 4 [.ref kb, .ref t1, .ref t2, .ref t3, .ref t4, .ref t5, .ref t6, jv h, jv sz]), (kb, ob 2 [.ref kc, jv bn]), (kc, ai g 60 bf), (t1, ai g 11 S), (t2, ai g 60 (up A0 sz i)), (t3, ai g 60 (up A1 sz (Ls i))), (t4, ai g 60 A2), (t5, ai g 60 A3), (t6, ai g 60 A4), (ca, ob 0 [.ref c1, .ref c2, .ref c3, .ref c4, .ref c5]), (c1, ai g 60 x), (c2, ai g 61 F), (c3, ai g 60 Ls), (c4, ai g 60 Nm), (c5, ai g 60 Dn)]) 5 dX4_lay_61 rfl (by omega) (by omega) (by decide) rfl ?_
      refine x_aload_n (pc := 62) C 3 dX4_lay_62 rfl ?_
      refine x_get (pc := 63) C 0 4 dX4_lay_63 hiX4_lay_4 hfX4_lay_28 rfl rfl rfl (by decide) rfl ?_
      refine x_aload_n (pc := 66) C 3 dX4_lay_66 rfl ?_
      refine x_get (pc := 67) C 0 8 dX4_lay_67 hiX4_lay_4 hfX4_lay_49 rfl rfl rfl (by decide) rfl ?_
      refine x_aload_n (pc := 70) C 3 dX4_lay_70 rfl ?_
      refine x_get (pc := 71) C 0 0 dX4_lay_71 hiX4_lay_4 hfX4_lay_12 rfl rfl rfl (by decide) rfl ?_
      refine x_iload_n (pc := 74) C 4 dX4_lay_74 rfl ?_
      refine x_callV (pc := 75) C (n := 1) (q0 := 0) (rest := [jv sz, .ref t4]) (wr := [(a, ob 4 [.ref kb, .ref t1, .ref t2, .ref t3, .ref t4, .ref t5, .ref t6, jv h, jv sz]), (t1, ai g 11 S), (t2, ai g 60 (up A0 sz i)), (t3, ai g 60 (up A1 sz (Ls i))), (t4, ai g 60 A2), (t5, ai g 60 A3), (t6, ai g 60 A4), (ca, ob 0 [.ref c1, .ref c2, .ref c3, .ref c4, .ref c5]), (c1, ai g 60 x), (c2, ai g 61 F), (c3, ai g 60 Ls), (c4, ai g 60 Nm), (c5, ai g 60 Dn)]) [1, 2] [0, 3, 4, 5, 6, 7, 8, 9, 10, 11, 12, 13, 14] (ctX2_key l g kb kc bn bf i ⟨by omega, hb⟩ ⟨by omega, by omega⟩) gX4_lay_X2_key rfl ⟨rfl, rfl⟩ (by decide +kernel) ⟨by decide, by decide⟩ rfl rfl rfl rfl rfl (by decide) (by decide) (by decide) rfl (Nat.le_of_ble_eq_true rfl) dX4_lay_75 ⟨by decide, by decide⟩ (fun v_75 u_75 h_75 => ?_)
      rcases h_75 with ⟨rfl, rfl, f_75⟩ | ⟨rfl, rfl, f_75⟩
      · refine x_world (ws' := [(a, ob 4 [.ref kb, .ref t1, .ref t2, .ref t3, .ref t4, .ref t5, .ref t6, jv h, jv sz]), (kb, ob 2 [.ref kc, jv bn]), (kc, ai g 60 bf), (t1, ai g 11 S), (t2, ai g 60 (up A0 sz i)), (t3, ai g 60 (up A1 sz (Ls i))), (t4, ai g 60 A2), (t5, ai g 60 A3), (t6, ai g 60 A4), (ca, ob 0 [.ref c1, .ref c2, .ref c3, .ref c4, .ref c5]), (c1, ai g 60 x), (c2, ai g 61 F), (c3, ai g 60 Ls), (c4, ai g 60 Nm), (c5, ai g 60 Dn)]) [0, 13, 14, 1, 2, 3, 4, 5, 6, 7, 8, 9, 10, 11, 12] (by decide) rfl ?_
        show X l g E ({ frames := 2, cells := 0, slots := 0, locals := 41 } : Room) 6 [(a, ob 4 [.ref kb, .ref t1, .ref t2, .ref t3, .ref t4, .ref t5, .ref t6, jv h, jv sz]), (kb, ob 2 [.ref kc, jv bn]), (kc, ai g 60 bf), (t1, ai g 11 S), (t2, ai g 60 (up A0 sz i)), (t3, ai g 60 (up A1 sz (Ls i))), (t4, ai g 60 A2), (t5, ai g 60 A3), (t6, ai g 60 A4), (ca, ob 0 [.ref c1, .ref c2, .ref c3, .ref c4, .ref c5]), (c1, ai g 60 x), (c2, ai g 61 F), (c3, ai g 60 Ls), (c4, ai g 60 Nm), (c5, ai g 60 Dn)] 0 0 [(5, jv r), (4, jv (Dn i)), (3, jv (Nm i)), (0, .ref a), (1, jv i), (2, .ref ca)] 78 [jv (bf i), jv sz, .ref t4]
        refine x_iast (pc := 78) C (ws' := [(a, ob 4 [.ref kb, .ref t1, .ref t2, .ref t3, .ref t4, .ref t5, .ref t6, jv h, jv sz]), (kb, ob 2 [.ref kc, jv bn]), (kc, ai g 60 bf), (t1, ai g 11 S), (t2, ai g 60 (up A0 sz i)), (t3, ai g 60 (up A1 sz (Ls i))), (t4, ai g 60 (up A2 sz (bf i))), (t5, ai g 60 A3), (t6, ai g 60 A4), (ca, ob 0 [.ref c1, .ref c2, .ref c3, .ref c4, .ref c5]), (c1, ai g 60 x), (c2, ai g 61 F), (c3, ai g 60 Ls), (c4, ai g 60 Nm), (c5, ai g 60 Dn)]) 6 dX4_lay_78 rfl (by omega) (by omega) (by decide) rfl ?_
        refine x_aload_n (pc := 79) C 3 dX4_lay_79 rfl ?_
        refine x_get (pc := 80) C 0 5 dX4_lay_80 hiX4_lay_4 hfX4_lay_31 rfl rfl rfl (by decide) rfl ?_
        refine x_aload_n (pc := 83) C 3 dX4_lay_83 rfl ?_
        refine x_get (pc := 84) C 0 8 dX4_lay_84 hiX4_lay_4 hfX4_lay_49 rfl rfl rfl (by decide) rfl ?_
        refine x_iload (pc := 87) C 0 dX4_lay_87 rfl ?_
        refine x_if_le (pc := 89) C 99 dX4_lay_89 rfl ⟨by omega, by omega⟩ (fun c_89 => ?_) (fun c_89 => ?_)
        · omega
        · refine x_iload_n (pc := 92) C 2 dX4_lay_92 rfl ?_
          refine x_iload (pc := 93) C 0 dX4_lay_93 rfl ?_
          refine x_idiv (pc := 95) C dX4_lay_95 ⟨by omega, by omega⟩ ⟨by omega, by omega⟩ (by first | decide | omega) ?_
          rw [show (Nm i).tdiv r = Nm i / gcdI (Nm i) (Dn i) from (by rw [f_33]; exact Int.tdiv_eq_ediv_of_nonneg hN.1)]
          refine x_goto (pc := 96) C 100 dX4_lay_96 rfl ?_
          refine x_iast (pc := 100) C (ws' := [(a, ob 4 [.ref kb, .ref t1, .ref t2, .ref t3, .ref t4, .ref t5, .ref t6, jv h, jv sz]), (kb, ob 2 [.ref kc, jv bn]), (kc, ai g 60 bf), (t1, ai g 11 S), (t2, ai g 60 (up A0 sz i)), (t3, ai g 60 (up A1 sz (Ls i))), (t4, ai g 60 (up A2 sz (bf i))), (t5, ai g 60 (up A3 sz (Nm i / gcdI (Nm i) (Dn i)))), (t6, ai g 60 A4), (ca, ob 0 [.ref c1, .ref c2, .ref c3, .ref c4, .ref c5]), (c1, ai g 60 x), (c2, ai g 61 F), (c3, ai g 60 Ls), (c4, ai g 60 Nm), (c5, ai g 60 Dn)]) 7 dX4_lay_100 rfl (by omega) (by omega) (by decide) rfl ?_
          refine x_aload_n (pc := 101) C 3 dX4_lay_101 rfl ?_
          refine x_get (pc := 102) C 0 6 dX4_lay_102 hiX4_lay_4 hfX4_lay_34 rfl rfl rfl (by decide) rfl ?_
          refine x_aload_n (pc := 105) C 3 dX4_lay_105 rfl ?_
          refine x_get (pc := 106) C 0 8 dX4_lay_106 hiX4_lay_4 hfX4_lay_49 rfl rfl rfl (by decide) rfl ?_
          refine x_iload (pc := 109) C 0 dX4_lay_109 rfl ?_
          refine x_if_le (pc := 111) C 122 dX4_lay_111 rfl ⟨by omega, by omega⟩ (fun c_111 => ?_) (fun c_111 => ?_)
          · omega
          · refine x_iload (pc := 114) C 1 dX4_lay_114 rfl ?_
            refine x_iload (pc := 116) C 0 dX4_lay_116 rfl ?_
            refine x_idiv (pc := 118) C dX4_lay_118 ⟨by omega, by omega⟩ ⟨by omega, by omega⟩ (by first | decide | omega) ?_
            rw [show (Dn i).tdiv r = Dn i / gcdI (Nm i) (Dn i) from (by rw [f_33]; exact Int.tdiv_eq_ediv_of_nonneg (by omega))]
            refine x_goto (pc := 119) C 124 dX4_lay_119 rfl ?_
            refine x_iast (pc := 124) C (ws' := [(a, ob 4 [.ref kb, .ref t1, .ref t2, .ref t3, .ref t4, .ref t5, .ref t6, jv h, jv sz]), (kb, ob 2 [.ref kc, jv bn]), (kc, ai g 60 bf), (t1, ai g 11 S), (t2, ai g 60 (up A0 sz i)), (t3, ai g 60 (up A1 sz (Ls i))), (t4, ai g 60 (up A2 sz (bf i))), (t5, ai g 60 (up A3 sz (Nm i / gcdI (Nm i) (Dn i)))), (t6, ai g 60 (up A4 sz (Dn i / gcdI (Nm i) (Dn i)))), (ca, ob 0 [.ref c1, .ref c2, .ref c3, .ref c4, .ref c5]), (c1, ai g 60 x), (c2, ai g 61 F), (c3, ai g 60 Ls), (c4, ai g 60 Nm), (c5, ai g 60 Dn)]) 8 dX4_lay_124 rfl (by omega) (by omega) (by decide) rfl ?_
            refine x_aload_n (pc := 125) C 3 dX4_lay_125 rfl ?_
            refine x_dup (pc := 126) C dX4_lay_126 rfl ?_
            refine x_get (pc := 127) C 0 8 dX4_lay_127 hiX4_lay_4 hfX4_lay_49 rfl rfl rfl (by decide) rfl ?_
            refine x_iconst (pc := 130) C dX4_lay_130 ?_
            refine x_iadd (pc := 131) C dX4_lay_131 ?_
            refine x_put (pc := 132) C (ty := .int) (ws' := [(a, ob 4 [.ref kb, .ref t1, .ref t2, .ref t3, .ref t4, .ref t5, .ref t6, jv h, jv (sz + 1)]), (kb, ob 2 [.ref kc, jv bn]), (kc, ai g 60 bf), (t1, ai g 11 S), (t2, ai g 60 (up A0 sz i)), (t3, ai g 60 (up A1 sz (Ls i))), (t4, ai g 60 (up A2 sz (bf i))), (t5, ai g 60 (up A3 sz (Nm i / gcdI (Nm i) (Dn i)))), (t6, ai g 60 (up A4 sz (Dn i / gcdI (Nm i) (Dn i)))), (ca, ob 0 [.ref c1, .ref c2, .ref c3, .ref c4, .ref c5]), (c1, ai g 60 x), (c2, ai g 61 F), (c3, ai g 60 Ls), (c4, ai g 60 Nm), (c5, ai g 60 Dn)]) tyX4 0 8 dX4_lay_132 hiX4_lay_4 tyX4_ok nmX4 hfX4_lay_49 rfl rfl rfl (by decide) rfl (by decide +kernel) rfl rfl (Nat.le_of_ble_eq_true rfl) rfl ?_
            refine x_vret (pc := 135) C Rt0 dX4_lay_135 rfl ?_
            refine ⟨rfl, rfl, ?_⟩
            trivial
      · refine x_world (ws' := [(a, ob 4 [.ref kb, .ref t1, .ref t2, .ref t3, .ref t4, .ref t5, .ref t6, jv h, jv sz]), (kb, ob 2 [.ref kc, jv bn]), (kc, ai g 60 bf), (t1, ai g 11 S), (t2, ai g 60 (up A0 sz i)), (t3, ai g 60 (up A1 sz (Ls i))), (t4, ai g 60 A2), (t5, ai g 60 A3), (t6, ai g 60 A4), (ca, ob 0 [.ref c1, .ref c2, .ref c3, .ref c4, .ref c5]), (c1, ai g 60 x), (c2, ai g 61 F), (c3, ai g 60 Ls), (c4, ai g 60 Nm), (c5, ai g 60 Dn)]) [0, 13, 14, 1, 2, 3, 4, 5, 6, 7, 8, 9, 10, 11, 12] (by decide) rfl ?_
        show X l g E ({ frames := 2, cells := 0, slots := 0, locals := 41 } : Room) 6 [(a, ob 4 [.ref kb, .ref t1, .ref t2, .ref t3, .ref t4, .ref t5, .ref t6, jv h, jv sz]), (kb, ob 2 [.ref kc, jv bn]), (kc, ai g 60 bf), (t1, ai g 11 S), (t2, ai g 60 (up A0 sz i)), (t3, ai g 60 (up A1 sz (Ls i))), (t4, ai g 60 A2), (t5, ai g 60 A3), (t6, ai g 60 A4), (ca, ob 0 [.ref c1, .ref c2, .ref c3, .ref c4, .ref c5]), (c1, ai g 60 x), (c2, ai g 61 F), (c3, ai g 60 Ls), (c4, ai g 60 Nm), (c5, ai g 60 Dn)] 0 0 [(5, jv r), (4, jv (Dn i)), (3, jv (Nm i)), (0, .ref a), (1, jv i), (2, .ref ca)] 78 [jv (-1), jv sz, .ref t4]
        omega
    · omega

set_option maxRecDepth 100000 in
theorem hiX4_raise_4 : ∀ w ∈ wsX40, w ∈ wsX4_raise := by decide +kernel
set_option maxRecDepth 100000 in
theorem hfX4_raise_18 : Cond.fieldLink RX4 18 "KeyGuess$Tower" "starts" "[I" ∈ wsX4_raise := by decide +kernel
set_option maxRecDepth 100000 in
theorem hfX4_raise_49 : Cond.fieldLink RX4 49 "KeyGuess$Tower" "size" "I" ∈ wsX4_raise := by decide +kernel
set_option maxRecDepth 100000 in
theorem hfX4_raise_12 : Cond.fieldLink RX4 12 "KeyGuess$Tower" "base" "LKeyGuess$Keys;" ∈ wsX4_raise := by decide +kernel
set_option maxRecDepth 100000 in
theorem hfX4_raise_37 : Cond.fieldLink RX4 37 "KeyGuess$Tower" "height" "I" ∈ wsX4_raise := by decide +kernel
set_option maxHeartbeats 4000000 in
set_option maxRecDepth 100000 in
/-- Tower.raise -/
theorem ctX4_raise (l : Launch) (g : xG) (a : Nat) (kb : Nat) (kc : Nat) (t1 : Nat) (t2 : Nat) (t3 : Nat) (t4 : Nat) (t5 : Nat) (t6 : Nat) (h : Int) (sz : Int) (bn : Int) (bf : Int → Int) (S : Int → Int) (A0 : Int → Int) (A1 : Int → Int) (A2 : Int → Int) (A3 : Int → Int) (A4 : Int → Int) (ca : Nat) (c1 : Nat) (c2 : Nat) (c3 : Nat) (c4 : Nat) (c5 : Nat) (x : Int → Int) (F : Int → Int) (Ls : Int → Int) (Nm : Int → Int) (Dn : Int → Int) (t : Int) (e : Int) (ht : 0 ≤ t ∧ t < 10) (he : 0 ≤ e ∧ e ≤ 8) (hk : Kr bn bf) (hn : 1 ≤ bn) (hc : Cut4 bf e bn F Ls Nm Dn) (hz : 0 ≤ sz ∧ sz + F 0 ≤ 60) : Ct l g yX4_raise wsX4_raise ({ frames := 3, cells := 0, slots := 0, locals := 66 } : Room) 0 0 [(a, ob 4 [.ref kb, .ref t1, .ref t2, .ref t3, .ref t4, .ref t5, .ref t6, jv h, jv sz]), (kb, ob 2 [.ref kc, jv bn]), (kc, ai g 60 bf), (t1, ai g 11 S), (t2, ai g 60 A0), (t3, ai g 60 A1), (t4, ai g 60 A2), (t5, ai g 60 A3), (t6, ai g 60 A4), (ca, ob 0 [.ref c1, .ref c2, .ref c3, .ref c4, .ref c5]), (c1, ai g 60 x), (c2, ai g 61 F), (c3, ai g 60 Ls), (c4, ai g 60 Nm), (c5, ai g 60 Dn)] [.ref a, jv t, .ref ca] (fun v u => ∃ (z : Int) (B0 : Int → Int) (B1 : Int → Int) (B2 : Int → Int) (B3 : Int → Int) (B4 : Int → Int), v = none ∧ u = [(a, ob 4 [.ref kb, .ref t1, .ref t2, .ref t3, .ref t4, .ref t5, .ref t6, jv (t + 1), jv z]), (kb, ob 2 [.ref kc, jv bn]), (kc, ai g 60 bf), (t1, ai g 11 (up (up S t sz) (t + 1) z)), (t2, ai g 60 B0), (t3, ai g 60 B1), (t4, ai g 60 B2), (t5, ai g 60 B3), (t6, ai g 60 B4), (ca, ob 0 [.ref c1, .ref c2, .ref c3, .ref c4, .ref c5]), (c1, ai g 60 x), (c2, ai g 61 F), (c3, ai g 60 Ls), (c4, ai g 60 Nm), (c5, ai g 60 Dn)] ∧ (z = sz + F 0 ∧ (∀ j : Int, 0 ≤ j → j < sz → B0 j = A0 j) ∧ (∀ j : Int, 0 ≤ j → j < sz → B1 j = A1 j) ∧ (∀ j : Int, 0 ≤ j → j < sz → B2 j = A2 j) ∧ (∀ j : Int, 0 ≤ j → j < sz → B3 j = A3 j) ∧ (∀ j : Int, 0 ≤ j → j < sz → B4 j = A4 j) ∧ ∀ j : Int, 0 ≤ j → j < F 0 → B0 (sz + j) = frm Ls j.toNat ∧ B1 (sz + j) = Ls (frm Ls j.toNat) ∧ B2 (sz + j) = bf (frm Ls j.toNat) ∧ B3 (sz + j) = Nm (frm Ls j.toNat) / gcdI (Nm (frm Ls j.toNat)) (Dn (frm Ls j.toNat)) ∧ B4 (sz + j) = Dn (frm Ls j.toNat) / gcdI (Nm (frm Ls j.toNat)) (Dn (frm Ls j.toNat)))) := by
  refine ct_of (cc := cX4_raise) (nL := 5) (ret := none) (by decide) rfl (Nat.le_of_ble_eq_true rfl) ?_
  intro E C Rt0
  have C : Cx l g E ({ frames := 3, cells := 0, slots := 0, locals := 66 } : Room) RX4 "raise" cX4_raise wsX4_raise 5 := C
  show X l g E ({ frames := 3, cells := 0, slots := 0, locals := 66 } : Room) 5 [(a, ob 4 [.ref kb, .ref t1, .ref t2, .ref t3, .ref t4, .ref t5, .ref t6, jv h, jv sz]), (kb, ob 2 [.ref kc, jv bn]), (kc, ai g 60 bf), (t1, ai g 11 S), (t2, ai g 60 A0), (t3, ai g 60 A1), (t4, ai g 60 A2), (t5, ai g 60 A3), (t6, ai g 60 A4), (ca, ob 0 [.ref c1, .ref c2, .ref c3, .ref c4, .ref c5]), (c1, ai g 60 x), (c2, ai g 61 F), (c3, ai g 60 Ls), (c4, ai g 60 Nm), (c5, ai g 60 Dn)] 0 0 [(0, .ref a), (1, jv t), (2, .ref ca)] 0 []
  have hb1 := hk.2.1
  have hF1 := hc.fb 0 (by omega) (by omega)
  have hF2 := hc.half hk he.1 0 (by omega) (by omega)
  refine x_iload_n (pc := 0) C 1 dX4_raise_0 rfl ?_
  refine x_if_lt (pc := 1) C 10 dX4_raise_1 rfl ⟨by omega, by omega⟩ (fun c_1 => ?_) (fun c_1 => ?_)
  · omega
  · refine x_iload_n (pc := 4) C 1 dX4_raise_4 rfl ?_
    refine x_bipush (pc := 5) C dX4_raise_5 rfl ?_
    refine x_icmp_lt (pc := 7) C 11 dX4_raise_7 rfl ⟨by omega, by omega⟩ ⟨by omega, by omega⟩ (fun c_7 => ?_) (fun c_7 => ?_)
    · refine x_aload_n (pc := 11) C 0 dX4_raise_11 rfl ?_
      refine x_get (pc := 12) C 0 1 dX4_raise_12 hiX4_raise_4 hfX4_raise_18 rfl rfl rfl (by decide) rfl ?_
      refine x_iload_n (pc := 15) C 1 dX4_raise_15 rfl ?_
      refine x_aload_n (pc := 16) C 0 dX4_raise_16 rfl ?_
      refine x_get (pc := 17) C 0 8 dX4_raise_17 hiX4_raise_4 hfX4_raise_49 rfl rfl rfl (by decide) rfl ?_
      refine x_iast (pc := 20) C (ws' := [(a, ob 4 [.ref kb, .ref t1, .ref t2, .ref t3, .ref t4, .ref t5, .ref t6, jv h, jv sz]), (kb, ob 2 [.ref kc, jv bn]), (kc, ai g 60 bf), (t1, ai g 11 (up S t sz)), (t2, ai g 60 A0), (t3, ai g 60 A1), (t4, ai g 60 A2), (t5, ai g 60 A3), (t6, ai g 60 A4), (ca, ob 0 [.ref c1, .ref c2, .ref c3, .ref c4, .ref c5]), (c1, ai g 60 x), (c2, ai g 61 F), (c3, ai g 60 Ls), (c4, ai g 60 Nm), (c5, ai g 60 Dn)]) 3 dX4_raise_20 rfl (by omega) (by omega) (by decide) rfl ?_
      refine x_iconst (pc := 21) C dX4_raise_21 ?_
      refine x_istore_n (pc := 22) C (lv' := [(3, jv 0), (0, .ref a), (1, jv t), (2, .ref ca)]) dX4_raise_22 (by decide) rfl ?_
      refine x_iconst (pc := 23) C dX4_raise_23 ?_
      refine x_istore (pc := 24) C (lv' := [(4, jv 0), (3, jv 0), (0, .ref a), (1, jv t), (2, .ref ca)]) dX4_raise_24 (by decide) rfl ?_
      have L26 : ∀ (nn : Nat) (k : Int) (i : Int) (z : Int) (B0 : Int → Int) (B1 : Int → Int) (B2 : Int → Int) (B3 : Int → Int) (B4 : Int → Int), (F 0 - k).toNat < nn → (0 ≤ k ∧ k ≤ F 0) → (z = sz + k) → (i = frm Ls k.toNat) → ((∀ j : Int, 0 ≤ j → j < sz → B0 j = A0 j) ∧ (∀ j : Int, 0 ≤ j → j < sz → B1 j = A1 j) ∧ (∀ j : Int, 0 ≤ j → j < sz → B2 j = A2 j) ∧ (∀ j : Int, 0 ≤ j → j < sz → B3 j = A3 j) ∧ (∀ j : Int, 0 ≤ j → j < sz → B4 j = A4 j)) → (∀ j : Int, 0 ≤ j → j < k → B0 (sz + j) = frm Ls j.toNat ∧ B1 (sz + j) = Ls (frm Ls j.toNat) ∧ B2 (sz + j) = bf (frm Ls j.toNat) ∧ B3 (sz + j) = Nm (frm Ls j.toNat) / gcdI (Nm (frm Ls j.toNat)) (Dn (frm Ls j.toNat)) ∧ B4 (sz + j) = Dn (frm Ls j.toNat) / gcdI (Nm (frm Ls j.toNat)) (Dn (frm Ls j.toNat))) → X l g E ({ frames := 3, cells := 0, slots := 0, locals := 66 } : Room) 5 [(a, ob 4 [.ref kb, .ref t1, .ref t2, .ref t3, .ref t4, .ref t5, .ref t6, jv h, jv z]), (kb, ob 2 [.ref kc, jv bn]), (kc, ai g 60 bf), (t1, ai g 11 (up S t sz)), (t2, ai g 60 B0), (t3, ai g 60 B1), (t4, ai g 60 B2), (t5, ai g 60 B3), (t6, ai g 60 B4), (ca, ob 0 [.ref c1, .ref c2, .ref c3, .ref c4, .ref c5]), (c1, ai g 60 x), (c2, ai g 61 F), (c3, ai g 60 Ls), (c4, ai g 60 Nm), (c5, ai g 60 Dn)] 0 0 [(0, .ref a), (1, jv t), (2, .ref ca), (3, jv i), (4, jv k)] 26 [] := by
        intro nn
        induction nn with
        | zero => intro k i z B0 B1 B2 B3 B4 hμ; exact absurd hμ (Nat.not_lt_zero _)
        | succ nn ih26 =>
          intro k i z B0 B1 B2 B3 B4 hμ hk0 hzk hi hoff hlaid
          refine x_iload (pc := 26) C 4 dX4_raise_26 rfl ?_
          refine x_bipush (pc := 28) C dX4_raise_28 rfl ?_
          refine x_icmp_ge (pc := 30) C 64 dX4_raise_30 rfl ⟨by omega, by omega⟩ ⟨by omega, by omega⟩ (fun c_30 => ?_) (fun c_30 => ?_)
          · omega
          · refine x_iload_n (pc := 33) C 3 dX4_raise_33 rfl ?_
            refine x_aload_n (pc := 34) C 0 dX4_raise_34 rfl ?_
            refine x_get (pc := 35) C 0 0 dX4_raise_35 hiX4_raise_4 hfX4_raise_12 rfl rfl rfl (by decide) rfl ?_
            refine x_callV (pc := 38) C (n := 0) (q0 := 0) (rest := [jv i]) (wr := [(a, ob 4 [.ref kb, .ref t1, .ref t2, .ref t3, .ref t4, .ref t5, .ref t6, jv h, jv z]), (t1, ai g 11 (up S t sz)), (t2, ai g 60 B0), (t3, ai g 60 B1), (t4, ai g 60 B2), (t5, ai g 60 B3), (t6, ai g 60 B4), (ca, ob 0 [.ref c1, .ref c2, .ref c3, .ref c4, .ref c5]), (c1, ai g 60 x), (c2, ai g 61 F), (c3, ai g 60 Ls), (c4, ai g 60 Nm), (c5, ai g 60 Dn)]) [1, 2] [0, 3, 4, 5, 6, 7, 8, 9, 10, 11, 12, 13, 14] (ctX2_size l g kb kc bn bf ⟨by omega, hb1⟩) gX4_raise_X2_size rfl ⟨rfl, rfl⟩ (by decide +kernel) ⟨by decide, by decide⟩ rfl rfl rfl rfl rfl (by decide) (by decide) (by decide) rfl (Nat.le_of_ble_eq_true rfl) dX4_raise_38 ⟨by decide, by decide⟩ (fun v_38 u_38 h_38 => ?_)
            rcases h_38 with ⟨rfl, rfl, f_38⟩
            refine x_world (ws' := [(a, ob 4 [.ref kb, .ref t1, .ref t2, .ref t3, .ref t4, .ref t5, .ref t6, jv h, jv z]), (kb, ob 2 [.ref kc, jv bn]), (kc, ai g 60 bf), (t1, ai g 11 (up S t sz)), (t2, ai g 60 B0), (t3, ai g 60 B1), (t4, ai g 60 B2), (t5, ai g 60 B3), (t6, ai g 60 B4), (ca, ob 0 [.ref c1, .ref c2, .ref c3, .ref c4, .ref c5]), (c1, ai g 60 x), (c2, ai g 61 F), (c3, ai g 60 Ls), (c4, ai g 60 Nm), (c5, ai g 60 Dn)]) [0, 13, 14, 1, 2, 3, 4, 5, 6, 7, 8, 9, 10, 11, 12] (by decide) rfl ?_
            show X l g E ({ frames := 3, cells := 0, slots := 0, locals := 66 } : Room) 5 [(a, ob 4 [.ref kb, .ref t1, .ref t2, .ref t3, .ref t4, .ref t5, .ref t6, jv h, jv z]), (kb, ob 2 [.ref kc, jv bn]), (kc, ai g 60 bf), (t1, ai g 11 (up S t sz)), (t2, ai g 60 B0), (t3, ai g 60 B1), (t4, ai g 60 B2), (t5, ai g 60 B3), (t6, ai g 60 B4), (ca, ob 0 [.ref c1, .ref c2, .ref c3, .ref c4, .ref c5]), (c1, ai g 60 x), (c2, ai g 61 F), (c3, ai g 60 Ls), (c4, ai g 60 Nm), (c5, ai g 60 Dn)] 0 0 [(0, .ref a), (1, jv t), (2, .ref ca), (3, jv i), (4, jv k)] 41 [jv bn, jv i]
            have hil : 0 ≤ i ∧ (k < F 0 → i < bn) ∧ (k = F 0 → i = bn) := by
              rw [hi]
              exact ⟨(hc.chain (by omega) k.toNat (by omega)).1, fun q => (hc.lt (by omega) (k := k.toNat) (by omega)).2, fun q => hc.end (by omega) (by omega)⟩
            refine x_icmp_ge (pc := 41) C 64 dX4_raise_41 rfl ⟨by omega, by omega⟩ ⟨by omega, by omega⟩ (fun c_41 => ?_) (fun c_41 => ?_)
            · refine x_aload_n (pc := 64) C 0 dX4_raise_64 rfl ?_
              refine x_get (pc := 65) C 0 1 dX4_raise_65 hiX4_raise_4 hfX4_raise_18 rfl rfl rfl (by decide) rfl ?_
              refine x_iload_n (pc := 68) C 1 dX4_raise_68 rfl ?_
              refine x_iconst (pc := 69) C dX4_raise_69 ?_
              refine x_iadd (pc := 70) C dX4_raise_70 ?_
              refine x_aload_n (pc := 71) C 0 dX4_raise_71 rfl ?_
              refine x_get (pc := 72) C 0 8 dX4_raise_72 hiX4_raise_4 hfX4_raise_49 rfl rfl rfl (by decide) rfl ?_
              refine x_iast (pc := 75) C (ws' := [(a, ob 4 [.ref kb, .ref t1, .ref t2, .ref t3, .ref t4, .ref t5, .ref t6, jv h, jv z]), (kb, ob 2 [.ref kc, jv bn]), (kc, ai g 60 bf), (t1, ai g 11 (up (up S t sz) (t + 1) z)), (t2, ai g 60 B0), (t3, ai g 60 B1), (t4, ai g 60 B2), (t5, ai g 60 B3), (t6, ai g 60 B4), (ca, ob 0 [.ref c1, .ref c2, .ref c3, .ref c4, .ref c5]), (c1, ai g 60 x), (c2, ai g 61 F), (c3, ai g 60 Ls), (c4, ai g 60 Nm), (c5, ai g 60 Dn)]) 3 dX4_raise_75 rfl (by omega) (by omega) (by decide) rfl ?_
              refine x_aload_n (pc := 76) C 0 dX4_raise_76 rfl ?_
              refine x_iload_n (pc := 77) C 1 dX4_raise_77 rfl ?_
              refine x_iconst (pc := 78) C dX4_raise_78 ?_
              refine x_iadd (pc := 79) C dX4_raise_79 ?_
              refine x_put (pc := 80) C (ty := .int) (ws' := [(a, ob 4 [.ref kb, .ref t1, .ref t2, .ref t3, .ref t4, .ref t5, .ref t6, jv (t + 1), jv z]), (kb, ob 2 [.ref kc, jv bn]), (kc, ai g 60 bf), (t1, ai g 11 (up (up S t sz) (t + 1) z)), (t2, ai g 60 B0), (t3, ai g 60 B1), (t4, ai g 60 B2), (t5, ai g 60 B3), (t6, ai g 60 B4), (ca, ob 0 [.ref c1, .ref c2, .ref c3, .ref c4, .ref c5]), (c1, ai g 60 x), (c2, ai g 61 F), (c3, ai g 60 Ls), (c4, ai g 60 Nm), (c5, ai g 60 Dn)]) tyX4 0 7 dX4_raise_80 hiX4_raise_4 tyX4_ok nmX4 hfX4_raise_37 rfl rfl rfl (by decide) rfl (by decide +kernel) rfl rfl (Nat.le_of_ble_eq_true rfl) rfl ?_
              refine x_vret (pc := 83) C Rt0 dX4_raise_83 rfl ?_
              refine ⟨_, _, _, _, _, _, rfl, rfl, ?_⟩
              have hkF : k = F 0 := by
                rcases Int.lt_or_le k (F 0) with q | q
                · have := hil.2.1 q
                  omega
                · omega
              exact ⟨by omega, hoff.1, hoff.2.1, hoff.2.2.1, hoff.2.2.2.1, hoff.2.2.2.2, fun j h0 h1 => hlaid j h0 (by omega)⟩
            · have hkF : k < F 0 := by
                rcases Int.lt_or_le k (F 0) with q | q
                · exact q
                · have := hil.2.2 (by omega)
                  omega
              refine x_aload_n (pc := 44) C 0 dX4_raise_44 rfl ?_
              refine x_iload_n (pc := 45) C 3 dX4_raise_45 rfl ?_
              refine x_aload_n (pc := 46) C 2 dX4_raise_46 rfl ?_
              refine x_callV (pc := 47) C (n := 2) (q0 := 0) (rest := []) (wr := []) [0, 1, 2, 3, 4, 5, 6, 7, 8, 9, 10, 11, 12, 13, 14] [] (ctX4_lay l g a kb kc t1 t2 t3 t4 t5 t6 h z bn bf (up S t sz) B0 B1 B2 B3 B4 ca c1 c2 c3 c4 c5 x F Ls Nm Dn i ⟨by omega, by omega⟩ hb1 ⟨hil.1, by omega⟩ (hc.sl hk he.1 hil.1 (by omega))) gX4_raise_X4_lay rfl ⟨rfl, rfl⟩ (by decide +kernel) ⟨by decide, by decide⟩ rfl rfl rfl rfl rfl (by decide) (by decide) (by decide) rfl (Nat.le_of_ble_eq_true rfl) dX4_raise_47 ⟨by decide, by decide⟩ (fun v_47 u_47 h_47 => ?_)
              rcases h_47 with ⟨rfl, rfl, f_47⟩
              refine x_world (ws' := [(a, ob 4 [.ref kb, .ref t1, .ref t2, .ref t3, .ref t4, .ref t5, .ref t6, jv h, jv (z + 1)]), (kb, ob 2 [.ref kc, jv bn]), (kc, ai g 60 bf), (t1, ai g 11 (up S t sz)), (t2, ai g 60 (up B0 z i)), (t3, ai g 60 (up B1 z (Ls i))), (t4, ai g 60 (up B2 z (bf i))), (t5, ai g 60 (up B3 z (Nm i / gcdI (Nm i) (Dn i)))), (t6, ai g 60 (up B4 z (Dn i / gcdI (Nm i) (Dn i)))), (ca, ob 0 [.ref c1, .ref c2, .ref c3, .ref c4, .ref c5]), (c1, ai g 60 x), (c2, ai g 61 F), (c3, ai g 60 Ls), (c4, ai g 60 Nm), (c5, ai g 60 Dn)]) [0, 1, 2, 3, 4, 5, 6, 7, 8, 9, 10, 11, 12, 13, 14] (by decide) rfl ?_
              show X l g E ({ frames := 3, cells := 0, slots := 0, locals := 66 } : Room) 5 [(a, ob 4 [.ref kb, .ref t1, .ref t2, .ref t3, .ref t4, .ref t5, .ref t6, jv h, jv (z + 1)]), (kb, ob 2 [.ref kc, jv bn]), (kc, ai g 60 bf), (t1, ai g 11 (up S t sz)), (t2, ai g 60 (up B0 z i)), (t3, ai g 60 (up B1 z (Ls i))), (t4, ai g 60 (up B2 z (bf i))), (t5, ai g 60 (up B3 z (Nm i / gcdI (Nm i) (Dn i)))), (t6, ai g 60 (up B4 z (Dn i / gcdI (Nm i) (Dn i)))), (ca, ob 0 [.ref c1, .ref c2, .ref c3, .ref c4, .ref c5]), (c1, ai g 60 x), (c2, ai g 61 F), (c3, ai g 60 Ls), (c4, ai g 60 Nm), (c5, ai g 60 Dn)] 0 0 [(0, .ref a), (1, jv t), (2, .ref ca), (3, jv i), (4, jv k)] 50 []
              refine x_aload_n (pc := 50) C 2 dX4_raise_50 rfl ?_
              refine x_iload_n (pc := 51) C 3 dX4_raise_51 rfl ?_
              refine x_callV (pc := 52) C (n := 1) (q0 := 0) (rest := []) (wr := [(a, ob 4 [.ref kb, .ref t1, .ref t2, .ref t3, .ref t4, .ref t5, .ref t6, jv h, jv (z + 1)]), (kb, ob 2 [.ref kc, jv bn]), (kc, ai g 60 bf), (t1, ai g 11 (up S t sz)), (t2, ai g 60 (up B0 z i)), (t3, ai g 60 (up B1 z (Ls i))), (t4, ai g 60 (up B2 z (bf i))), (t5, ai g 60 (up B3 z (Nm i / gcdI (Nm i) (Dn i)))), (t6, ai g 60 (up B4 z (Dn i / gcdI (Nm i) (Dn i))))]) [9, 10, 11, 12, 13, 14] [0, 1, 2, 3, 4, 5, 6, 7, 8] (ctX0_lastOf l g ca c1 c2 c3 c4 c5 x F Ls Nm Dn i ⟨hil.1, by omega⟩) gX4_raise_X0_lastOf rfl ⟨rfl, rfl⟩ (by decide +kernel) ⟨by decide, by decide⟩ rfl rfl rfl rfl rfl (by decide) (by decide) (by decide) rfl (Nat.le_of_ble_eq_true rfl) dX4_raise_52 ⟨by decide, by decide⟩ (fun v_52 u_52 h_52 => ?_)
              rcases h_52 with ⟨rfl, rfl, f_52⟩
              refine x_world (ws' := [(a, ob 4 [.ref kb, .ref t1, .ref t2, .ref t3, .ref t4, .ref t5, .ref t6, jv h, jv (z + 1)]), (kb, ob 2 [.ref kc, jv bn]), (kc, ai g 60 bf), (t1, ai g 11 (up S t sz)), (t2, ai g 60 (up B0 z i)), (t3, ai g 60 (up B1 z (Ls i))), (t4, ai g 60 (up B2 z (bf i))), (t5, ai g 60 (up B3 z (Nm i / gcdI (Nm i) (Dn i)))), (t6, ai g 60 (up B4 z (Dn i / gcdI (Nm i) (Dn i)))), (ca, ob 0 [.ref c1, .ref c2, .ref c3, .ref c4, .ref c5]), (c1, ai g 60 x), (c2, ai g 61 F), (c3, ai g 60 Ls), (c4, ai g 60 Nm), (c5, ai g 60 Dn)]) [0, 1, 2, 3, 4, 5, 6, 7, 8, 9, 10, 11, 12, 13, 14] (by decide) rfl ?_
              show X l g E ({ frames := 3, cells := 0, slots := 0, locals := 66 } : Room) 5 [(a, ob 4 [.ref kb, .ref t1, .ref t2, .ref t3, .ref t4, .ref t5, .ref t6, jv h, jv (z + 1)]), (kb, ob 2 [.ref kc, jv bn]), (kc, ai g 60 bf), (t1, ai g 11 (up S t sz)), (t2, ai g 60 (up B0 z i)), (t3, ai g 60 (up B1 z (Ls i))), (t4, ai g 60 (up B2 z (bf i))), (t5, ai g 60 (up B3 z (Nm i / gcdI (Nm i) (Dn i)))), (t6, ai g 60 (up B4 z (Dn i / gcdI (Nm i) (Dn i)))), (ca, ob 0 [.ref c1, .ref c2, .ref c3, .ref c4, .ref c5]), (c1, ai g 60 x), (c2, ai g 61 F), (c3, ai g 60 Ls), (c4, ai g 60 Nm), (c5, ai g 60 Dn)] 0 0 [(0, .ref a), (1, jv t), (2, .ref ca), (3, jv i), (4, jv k)] 55 [jv (Ls i)]
              refine x_iconst (pc := 55) C dX4_raise_55 ?_
              refine x_iadd (pc := 56) C dX4_raise_56 ?_
              refine x_istore_n (pc := 57) C (lv' := [(3, jv ((Ls i) + 1)), (0, .ref a), (1, jv t), (2, .ref ca), (4, jv k)]) dX4_raise_57 (by decide) rfl ?_
              refine x_iinc (pc := 58) C (lv' := [(4, jv (k + 1)), (3, jv ((Ls i) + 1)), (0, .ref a), (1, jv t), (2, .ref ca)]) 4 dX4_raise_58 rfl (by decide) rfl ?_
              refine x_goto (pc := 61) C 26 dX4_raise_61 rfl ?_
              refine x_locals (lv' := [(0, .ref a), (1, jv t), (2, .ref ca), (3, jv ((Ls i) + 1)), (4, jv (k + 1))]) [2, 3, 4, 1, 0] rfl ?_
              refine ih26 _ _ _ _ _ _ _ _ ?_ ?_ ?_ ?_ ?_ ?_
              · omega
              · omega
              · omega
              · rw [show (k + 1).toNat = k.toNat + 1 by omega, frm, ← hi]
              · exact ⟨(fun j h0 h1 => by rw [up_ne _ _ (by omega)]; exact hoff.1 j h0 h1), (fun j h0 h1 => by rw [up_ne _ _ (by omega)]; exact hoff.2.1 j h0 h1), (fun j h0 h1 => by rw [up_ne _ _ (by omega)]; exact hoff.2.2.1 j h0 h1), (fun j h0 h1 => by rw [up_ne _ _ (by omega)]; exact hoff.2.2.2.1 j h0 h1), (fun j h0 h1 => by rw [up_ne _ _ (by omega)]; exact hoff.2.2.2.2 j h0 h1)⟩
              · intro j h0 h1
                by_cases q : j = k
                · rw [q, ← hzk, up_eq, up_eq, up_eq, up_eq, up_eq, ← hi]; exact ⟨rfl, rfl, rfl, rfl, rfl⟩
                · rw [up_ne _ _ (by omega), up_ne _ _ (by omega), up_ne _ _ (by omega), up_ne _ _ (by omega), up_ne _ _ (by omega)]; exact hlaid j h0 (by omega)
      refine x_locals (lv' := [(0, .ref a), (1, jv t), (2, .ref ca), (3, jv 0), (4, jv 0)]) [2, 3, 4, 1, 0] rfl ?_
      refine L26 _ _ _ _ _ _ _ _ _ (Nat.lt_succ_self _) ?_ ?_ ?_ ?_ ?_
      · omega
      · omega
      · rfl
      · exact ⟨fun _ _ _ => rfl, fun _ _ _ => rfl, fun _ _ _ => rfl, fun _ _ _ => rfl, fun _ _ _ => rfl⟩
      · exact fun j h0 h1 => absurd h1 (by omega)
    · omega

set_option maxRecDepth 100000 in
theorem hiX4_layBase_4 : ∀ w ∈ wsX40, w ∈ wsX4_layBase := by decide +kernel
set_option maxRecDepth 100000 in
theorem hfX4_layBase_12 : Cond.fieldLink RX4 12 "KeyGuess$Tower" "base" "LKeyGuess$Keys;" ∈ wsX4_layBase := by decide +kernel
set_option maxHeartbeats 4000000 in
set_option maxRecDepth 100000 in
/-- Tower.layBase -/
theorem ctX4_layBase (l : Launch) (g : xG) (a : Nat) (kb : Nat) (kc : Nat) (t1 : Nat) (t2 : Nat) (t3 : Nat) (t4 : Nat) (t5 : Nat) (t6 : Nat) (h : Int) (sz : Int) (bn : Int) (bf : Int → Int) (S : Int → Int) (A0 : Int → Int) (A1 : Int → Int) (A2 : Int → Int) (A3 : Int → Int) (A4 : Int → Int) (t : Int) (hw : TwF h sz S) (ht : 0 ≤ t ∧ t < h) (hb : 0 ≤ bn ∧ bn ≤ 60) : Ct l g yX4_layBase wsX4_layBase ({ frames := 2, cells := 0, slots := 0, locals := 45 } : Room) 0 0 [(a, ob 4 [.ref kb, .ref t1, .ref t2, .ref t3, .ref t4, .ref t5, .ref t6, jv h, jv sz]), (kb, ob 2 [.ref kc, jv bn]), (kc, ai g 60 bf), (t1, ai g 11 S), (t2, ai g 60 A0), (t3, ai g 60 A1), (t4, ai g 60 A2), (t5, ai g 60 A3), (t6, ai g 60 A4)] [.ref a, jv t] (fun v u => ∃ (w : Int) (f' : Int → Int), v = none ∧ u = [(a, ob 4 [.ref kb, .ref t1, .ref t2, .ref t3, .ref t4, .ref t5, .ref t6, jv h, jv sz]), (kb, ob 2 [.ref kc, jv w]), (kc, ai g 60 f'), (t1, ai g 11 S), (t2, ai g 60 A0), (t3, ai g 60 A1), (t4, ai g 60 A2), (t5, ai g 60 A3), (t6, ai g 60 A4)] ∧ (w = S (t + 1) - S t ∧ ∀ j : Int, 0 ≤ j → j < w → f' j = A2 (S t + j))) := by
  refine ct_of (cc := cX4_layBase) (nL := 3) (ret := none) (by decide) rfl (Nat.le_of_ble_eq_true rfl) ?_
  intro E C Rt0
  have C : Cx l g E ({ frames := 2, cells := 0, slots := 0, locals := 45 } : Room) RX4 "layBase" cX4_layBase wsX4_layBase 3 := C
  show X l g E ({ frames := 2, cells := 0, slots := 0, locals := 45 } : Room) 3 [(a, ob 4 [.ref kb, .ref t1, .ref t2, .ref t3, .ref t4, .ref t5, .ref t6, jv h, jv sz]), (kb, ob 2 [.ref kc, jv bn]), (kc, ai g 60 bf), (t1, ai g 11 S), (t2, ai g 60 A0), (t3, ai g 60 A1), (t4, ai g 60 A2), (t5, ai g 60 A3), (t6, ai g 60 A4)] 0 0 [(0, .ref a), (1, jv t)] 0 []
  have hw1 := hw.1
  have hw2 := hw.2.1
  have hw3 := hw.2.2.1
  have hw4 := hw.2.2.2.1
  have hs := hw.2.2.2.2 t ht.1 ht.2
  refine x_aload_n (pc := 0) C 0 dX4_layBase_0 rfl ?_
  refine x_get (pc := 1) C 0 0 dX4_layBase_1 hiX4_layBase_4 hfX4_layBase_12 rfl rfl rfl (by decide) rfl ?_
  refine x_callV (pc := 4) C (n := 0) (q0 := 0) (rest := []) (wr := [(a, ob 4 [.ref kb, .ref t1, .ref t2, .ref t3, .ref t4, .ref t5, .ref t6, jv h, jv sz]), (t1, ai g 11 S), (t2, ai g 60 A0), (t3, ai g 60 A1), (t4, ai g 60 A2), (t5, ai g 60 A3), (t6, ai g 60 A4)]) [1, 2] [0, 3, 4, 5, 6, 7, 8] (ctX2_clear l g kb kc bn bf hb) gX4_layBase_X2_clear rfl ⟨rfl, rfl⟩ (by decide +kernel) ⟨by decide, by decide⟩ rfl rfl rfl rfl rfl (by decide) (by decide) (by decide) rfl (Nat.le_of_ble_eq_true rfl) dX4_layBase_4 ⟨by decide, by decide⟩ (fun v_4 u_4 h_4 => ?_)
  rcases h_4 with ⟨rfl, rfl, f_4⟩
  refine x_world (ws' := [(a, ob 4 [.ref kb, .ref t1, .ref t2, .ref t3, .ref t4, .ref t5, .ref t6, jv h, jv sz]), (kb, ob 2 [.ref kc, jv 0]), (kc, ai g 60 bf), (t1, ai g 11 S), (t2, ai g 60 A0), (t3, ai g 60 A1), (t4, ai g 60 A2), (t5, ai g 60 A3), (t6, ai g 60 A4)]) [0, 7, 8, 1, 2, 3, 4, 5, 6] (by decide) rfl ?_
  show X l g E ({ frames := 2, cells := 0, slots := 0, locals := 45 } : Room) 3 [(a, ob 4 [.ref kb, .ref t1, .ref t2, .ref t3, .ref t4, .ref t5, .ref t6, jv h, jv sz]), (kb, ob 2 [.ref kc, jv 0]), (kc, ai g 60 bf), (t1, ai g 11 S), (t2, ai g 60 A0), (t3, ai g 60 A1), (t4, ai g 60 A2), (t5, ai g 60 A3), (t6, ai g 60 A4)] 0 0 [(0, .ref a), (1, jv t)] 7 []
  refine x_iconst (pc := 7) C dX4_layBase_7 ?_
  refine x_istore_n (pc := 8) C (lv' := [(2, jv 0), (0, .ref a), (1, jv t)]) dX4_layBase_8 (by decide) rfl ?_
  have L9 : ∀ (nn : Nat) (k : Int) (f' : Int → Int), (S (t + 1) - S t - k).toNat < nn → (0 ≤ k ∧ k ≤ S (t + 1) - S t) → (∀ j : Int, 0 ≤ j → j < k → f' j = A2 (S t + j)) → X l g E ({ frames := 2, cells := 0, slots := 0, locals := 45 } : Room) 3 [(a, ob 4 [.ref kb, .ref t1, .ref t2, .ref t3, .ref t4, .ref t5, .ref t6, jv h, jv sz]), (kb, ob 2 [.ref kc, jv k]), (kc, ai g 60 f'), (t1, ai g 11 S), (t2, ai g 60 A0), (t3, ai g 60 A1), (t4, ai g 60 A2), (t5, ai g 60 A3), (t6, ai g 60 A4)] 0 0 [(0, .ref a), (1, jv t), (2, jv k)] 9 [] := by
    intro nn
    induction nn with
    | zero => intro k f' hμ; exact absurd hμ (Nat.not_lt_zero _)
    | succ nn ih9 =>
      intro k f' hμ hk0 hf
      refine x_iload_n (pc := 9) C 2 dX4_layBase_9 rfl ?_
      refine x_aload_n (pc := 10) C 0 dX4_layBase_10 rfl ?_
      refine x_iload_n (pc := 11) C 1 dX4_layBase_11 rfl ?_
      refine x_callV (pc := 12) C (n := 1) (q0 := 0) (rest := [jv k]) (wr := []) [0, 1, 2, 3, 4, 5, 6, 7, 8] [] (ctX4_width l g a kb kc t1 t2 t3 t4 t5 t6 h sz k f' S A0 A1 A2 A3 A4 t hw ⟨by omega, by omega⟩) gX4_layBase_X4_width rfl ⟨rfl, rfl⟩ (by decide +kernel) ⟨by decide, by decide⟩ rfl rfl rfl rfl rfl (by decide) (by decide) (by decide) rfl (Nat.le_of_ble_eq_true rfl) dX4_layBase_12 ⟨by decide, by decide⟩ (fun v_12 u_12 h_12 => ?_)
      rcases h_12 with ⟨rfl, rfl, f_12⟩ | ⟨rfl, rfl, f_12⟩
      · refine x_world (ws' := [(a, ob 4 [.ref kb, .ref t1, .ref t2, .ref t3, .ref t4, .ref t5, .ref t6, jv h, jv sz]), (kb, ob 2 [.ref kc, jv k]), (kc, ai g 60 f'), (t1, ai g 11 S), (t2, ai g 60 A0), (t3, ai g 60 A1), (t4, ai g 60 A2), (t5, ai g 60 A3), (t6, ai g 60 A4)]) [0, 1, 2, 3, 4, 5, 6, 7, 8] (by decide) rfl ?_
        show X l g E ({ frames := 2, cells := 0, slots := 0, locals := 45 } : Room) 3 [(a, ob 4 [.ref kb, .ref t1, .ref t2, .ref t3, .ref t4, .ref t5, .ref t6, jv h, jv sz]), (kb, ob 2 [.ref kc, jv k]), (kc, ai g 60 f'), (t1, ai g 11 S), (t2, ai g 60 A0), (t3, ai g 60 A1), (t4, ai g 60 A2), (t5, ai g 60 A3), (t6, ai g 60 A4)] 0 0 [(0, .ref a), (1, jv t), (2, jv k)] 15 [jv (S (t + 1) - S t), jv k]
        refine x_icmp_ge (pc := 15) C 38 dX4_layBase_15 rfl ⟨by omega, by omega⟩ ⟨by omega, by omega⟩ (fun c_15 => ?_) (fun c_15 => ?_)
        · refine x_vret (pc := 38) C Rt0 dX4_layBase_38 rfl ?_
          refine ⟨_, _, rfl, rfl, ?_⟩
          exact ⟨by omega, hf⟩
        · refine x_aload_n (pc := 18) C 0 dX4_layBase_18 rfl ?_
          refine x_get (pc := 19) C 0 0 dX4_layBase_19 hiX4_layBase_4 hfX4_layBase_12 rfl rfl rfl (by decide) rfl ?_
          refine x_aload_n (pc := 22) C 0 dX4_layBase_22 rfl ?_
          refine x_iload_n (pc := 23) C 1 dX4_layBase_23 rfl ?_
          refine x_iload_n (pc := 24) C 2 dX4_layBase_24 rfl ?_
          refine x_iconst (pc := 25) C dX4_layBase_25 ?_
          refine x_callV (pc := 26) C (n := 3) (q0 := 0) (rest := [.ref kb]) (wr := []) [0, 1, 2, 3, 4, 5, 6, 7, 8] [] (ctX4_tell l g a kb kc t1 t2 t3 t4 t5 t6 h sz k f' S A0 A1 A2 A3 A4 t k 2 hw ⟨by omega, by omega⟩ ⟨by omega, by omega⟩ ⟨by omega, by omega⟩) gX4_layBase_X4_tell rfl ⟨rfl, rfl⟩ (by decide +kernel) ⟨by decide, by decide⟩ rfl rfl rfl rfl rfl (by decide) (by decide) (by decide) rfl (Nat.le_of_ble_eq_true rfl) dX4_layBase_26 ⟨by decide, by decide⟩ (fun v_26 u_26 h_26 => ?_)
          rcases h_26 with ⟨rfl, rfl, f_26⟩ | ⟨rfl, rfl, f_26⟩ | ⟨rfl, rfl, f_26⟩ | ⟨rfl, rfl, f_26⟩ | ⟨rfl, rfl, f_26⟩ | ⟨rfl, rfl, f_26⟩
          · refine x_world (ws' := [(a, ob 4 [.ref kb, .ref t1, .ref t2, .ref t3, .ref t4, .ref t5, .ref t6, jv h, jv sz]), (kb, ob 2 [.ref kc, jv k]), (kc, ai g 60 f'), (t1, ai g 11 S), (t2, ai g 60 A0), (t3, ai g 60 A1), (t4, ai g 60 A2), (t5, ai g 60 A3), (t6, ai g 60 A4)]) [0, 1, 2, 3, 4, 5, 6, 7, 8] (by decide) rfl ?_
            show X l g E ({ frames := 2, cells := 0, slots := 0, locals := 45 } : Room) 3 [(a, ob 4 [.ref kb, .ref t1, .ref t2, .ref t3, .ref t4, .ref t5, .ref t6, jv h, jv sz]), (kb, ob 2 [.ref kc, jv k]), (kc, ai g 60 f'), (t1, ai g 11 S), (t2, ai g 60 A0), (t3, ai g 60 A1), (t4, ai g 60 A2), (t5, ai g 60 A3), (t6, ai g 60 A4)] 0 0 [(0, .ref a), (1, jv t), (2, jv k)] 29 [jv (-2), .ref kb]
            omega
          · refine x_world (ws' := [(a, ob 4 [.ref kb, .ref t1, .ref t2, .ref t3, .ref t4, .ref t5, .ref t6, jv h, jv sz]), (kb, ob 2 [.ref kc, jv k]), (kc, ai g 60 f'), (t1, ai g 11 S), (t2, ai g 60 A0), (t3, ai g 60 A1), (t4, ai g 60 A2), (t5, ai g 60 A3), (t6, ai g 60 A4)]) [0, 1, 2, 3, 4, 5, 6, 7, 8] (by decide) rfl ?_
            show X l g E ({ frames := 2, cells := 0, slots := 0, locals := 45 } : Room) 3 [(a, ob 4 [.ref kb, .ref t1, .ref t2, .ref t3, .ref t4, .ref t5, .ref t6, jv h, jv sz]), (kb, ob 2 [.ref kc, jv k]), (kc, ai g 60 f'), (t1, ai g 11 S), (t2, ai g 60 A0), (t3, ai g 60 A1), (t4, ai g 60 A2), (t5, ai g 60 A3), (t6, ai g 60 A4)] 0 0 [(0, .ref a), (1, jv t), (2, jv k)] 29 [jv (A0 (S t + k)), .ref kb]
            omega
          · refine x_world (ws' := [(a, ob 4 [.ref kb, .ref t1, .ref t2, .ref t3, .ref t4, .ref t5, .ref t6, jv h, jv sz]), (kb, ob 2 [.ref kc, jv k]), (kc, ai g 60 f'), (t1, ai g 11 S), (t2, ai g 60 A0), (t3, ai g 60 A1), (t4, ai g 60 A2), (t5, ai g 60 A3), (t6, ai g 60 A4)]) [0, 1, 2, 3, 4, 5, 6, 7, 8] (by decide) rfl ?_
            show X l g E ({ frames := 2, cells := 0, slots := 0, locals := 45 } : Room) 3 [(a, ob 4 [.ref kb, .ref t1, .ref t2, .ref t3, .ref t4, .ref t5, .ref t6, jv h, jv sz]), (kb, ob 2 [.ref kc, jv k]), (kc, ai g 60 f'), (t1, ai g 11 S), (t2, ai g 60 A0), (t3, ai g 60 A1), (t4, ai g 60 A2), (t5, ai g 60 A3), (t6, ai g 60 A4)] 0 0 [(0, .ref a), (1, jv t), (2, jv k)] 29 [jv (A1 (S t + k)), .ref kb]
            omega
          · refine x_world (ws' := [(a, ob 4 [.ref kb, .ref t1, .ref t2, .ref t3, .ref t4, .ref t5, .ref t6, jv h, jv sz]), (kb, ob 2 [.ref kc, jv k]), (kc, ai g 60 f'), (t1, ai g 11 S), (t2, ai g 60 A0), (t3, ai g 60 A1), (t4, ai g 60 A2), (t5, ai g 60 A3), (t6, ai g 60 A4)]) [0, 1, 2, 3, 4, 5, 6, 7, 8] (by decide) rfl ?_
            show X l g E ({ frames := 2, cells := 0, slots := 0, locals := 45 } : Room) 3 [(a, ob 4 [.ref kb, .ref t1, .ref t2, .ref t3, .ref t4, .ref t5, .ref t6, jv h, jv sz]), (kb, ob 2 [.ref kc, jv k]), (kc, ai g 60 f'), (t1, ai g 11 S), (t2, ai g 60 A0), (t3, ai g 60 A1), (t4, ai g 60 A2), (t5, ai g 60 A3), (t6, ai g 60 A4)] 0 0 [(0, .ref a), (1, jv t), (2, jv k)] 29 [jv (A2 (S t + k)), .ref kb]
            refine x_callV (pc := 29) C (n := 1) (q0 := 0) (rest := []) (wr := [(a, ob 4 [.ref kb, .ref t1, .ref t2, .ref t3, .ref t4, .ref t5, .ref t6, jv h, jv sz]), (t1, ai g 11 S), (t2, ai g 60 A0), (t3, ai g 60 A1), (t4, ai g 60 A2), (t5, ai g 60 A3), (t6, ai g 60 A4)]) [1, 2] [0, 3, 4, 5, 6, 7, 8] (ctX2_append l g kb kc k f' (A2 (S t + k)) ⟨by omega, by omega⟩) gX4_layBase_X2_append rfl ⟨rfl, rfl⟩ (by decide +kernel) ⟨by decide, by decide⟩ rfl rfl rfl rfl rfl (by decide) (by decide) (by decide) rfl (Nat.le_of_ble_eq_true rfl) dX4_layBase_29 ⟨by decide, by decide⟩ (fun v_29 u_29 h_29 => ?_)
            rcases h_29 with ⟨rfl, rfl, f_29⟩
            refine x_world (ws' := [(a, ob 4 [.ref kb, .ref t1, .ref t2, .ref t3, .ref t4, .ref t5, .ref t6, jv h, jv sz]), (kb, ob 2 [.ref kc, jv (k + 1)]), (kc, ai g 60 (up f' k (A2 (S t + k)))), (t1, ai g 11 S), (t2, ai g 60 A0), (t3, ai g 60 A1), (t4, ai g 60 A2), (t5, ai g 60 A3), (t6, ai g 60 A4)]) [0, 7, 8, 1, 2, 3, 4, 5, 6] (by decide) rfl ?_
            show X l g E ({ frames := 2, cells := 0, slots := 0, locals := 45 } : Room) 3 [(a, ob 4 [.ref kb, .ref t1, .ref t2, .ref t3, .ref t4, .ref t5, .ref t6, jv h, jv sz]), (kb, ob 2 [.ref kc, jv (k + 1)]), (kc, ai g 60 (up f' k (A2 (S t + k)))), (t1, ai g 11 S), (t2, ai g 60 A0), (t3, ai g 60 A1), (t4, ai g 60 A2), (t5, ai g 60 A3), (t6, ai g 60 A4)] 0 0 [(0, .ref a), (1, jv t), (2, jv k)] 32 []
            refine x_iinc (pc := 32) C (lv' := [(2, jv (k + 1)), (0, .ref a), (1, jv t)]) 2 dX4_layBase_32 rfl (by decide) rfl ?_
            refine x_goto (pc := 35) C 9 dX4_layBase_35 rfl ?_
            refine x_locals (lv' := [(0, .ref a), (1, jv t), (2, jv (k + 1))]) [1, 2, 0] rfl ?_
            refine ih9 _ _ ?_ ?_ ?_
            · omega
            · omega
            · exact al_s (fun j h0 h1 => by rw [up_ne _ _ (by omega)]; exact hf j h0 h1) (up_eq _ _ _)
          · refine x_world (ws' := [(a, ob 4 [.ref kb, .ref t1, .ref t2, .ref t3, .ref t4, .ref t5, .ref t6, jv h, jv sz]), (kb, ob 2 [.ref kc, jv k]), (kc, ai g 60 f'), (t1, ai g 11 S), (t2, ai g 60 A0), (t3, ai g 60 A1), (t4, ai g 60 A2), (t5, ai g 60 A3), (t6, ai g 60 A4)]) [0, 1, 2, 3, 4, 5, 6, 7, 8] (by decide) rfl ?_
            show X l g E ({ frames := 2, cells := 0, slots := 0, locals := 45 } : Room) 3 [(a, ob 4 [.ref kb, .ref t1, .ref t2, .ref t3, .ref t4, .ref t5, .ref t6, jv h, jv sz]), (kb, ob 2 [.ref kc, jv k]), (kc, ai g 60 f'), (t1, ai g 11 S), (t2, ai g 60 A0), (t3, ai g 60 A1), (t4, ai g 60 A2), (t5, ai g 60 A3), (t6, ai g 60 A4)] 0 0 [(0, .ref a), (1, jv t), (2, jv k)] 29 [jv (A3 (S t + k)), .ref kb]
            omega
          · refine x_world (ws' := [(a, ob 4 [.ref kb, .ref t1, .ref t2, .ref t3, .ref t4, .ref t5, .ref t6, jv h, jv sz]), (kb, ob 2 [.ref kc, jv k]), (kc, ai g 60 f'), (t1, ai g 11 S), (t2, ai g 60 A0), (t3, ai g 60 A1), (t4, ai g 60 A2), (t5, ai g 60 A3), (t6, ai g 60 A4)]) [0, 1, 2, 3, 4, 5, 6, 7, 8] (by decide) rfl ?_
            show X l g E ({ frames := 2, cells := 0, slots := 0, locals := 45 } : Room) 3 [(a, ob 4 [.ref kb, .ref t1, .ref t2, .ref t3, .ref t4, .ref t5, .ref t6, jv h, jv sz]), (kb, ob 2 [.ref kc, jv k]), (kc, ai g 60 f'), (t1, ai g 11 S), (t2, ai g 60 A0), (t3, ai g 60 A1), (t4, ai g 60 A2), (t5, ai g 60 A3), (t6, ai g 60 A4)] 0 0 [(0, .ref a), (1, jv t), (2, jv k)] 29 [jv (A4 (S t + k)), .ref kb]
            omega
      · refine x_world (ws' := [(a, ob 4 [.ref kb, .ref t1, .ref t2, .ref t3, .ref t4, .ref t5, .ref t6, jv h, jv sz]), (kb, ob 2 [.ref kc, jv k]), (kc, ai g 60 f'), (t1, ai g 11 S), (t2, ai g 60 A0), (t3, ai g 60 A1), (t4, ai g 60 A2), (t5, ai g 60 A3), (t6, ai g 60 A4)]) [0, 1, 2, 3, 4, 5, 6, 7, 8] (by decide) rfl ?_
        show X l g E ({ frames := 2, cells := 0, slots := 0, locals := 45 } : Room) 3 [(a, ob 4 [.ref kb, .ref t1, .ref t2, .ref t3, .ref t4, .ref t5, .ref t6, jv h, jv sz]), (kb, ob 2 [.ref kc, jv k]), (kc, ai g 60 f'), (t1, ai g 11 S), (t2, ai g 60 A0), (t3, ai g 60 A1), (t4, ai g 60 A2), (t5, ai g 60 A3), (t6, ai g 60 A4)] 0 0 [(0, .ref a), (1, jv t), (2, jv k)] 15 [jv 0, jv k]
        omega
  refine x_locals (lv' := [(0, .ref a), (1, jv t), (2, jv 0)]) [1, 2, 0] rfl ?_
  refine L9 _ _ _ (Nat.lt_succ_self _) ?_ ?_
  · omega
  · exact al_0
end
section
/-! ===== a tower grows ===== -/
theorem pc_of {x bf : Int → Int} {e n : Int} {F L N D : Int → Int} (hn : 0 ≤ n) (h : Cut4 x e n F L N D) (ha : Agr n bf x) {j : Int} (h0 : 0 ≤ j) (h1 : j < F 0) : frm L j.toNat = P0 x e n j ∧ L (frm L j.toNat) = P1 x e n j ∧ bf (frm L j.toNat) = P2 x e n j ∧ N (frm L j.toNat) / gcdI (N (frm L j.toNat)) (D (frm L j.toNat)) = P3 x e n j ∧ D (frm L j.toNat) / gcdI (N (frm L j.toNat)) (D (frm L j.toNat)) = P4 x e n j := by
  have q := cQ_of h
  have a := h.lt hn (k := j.toNat) (by omega)
  have e0 : frm L j.toNat = P0 x e n j := frm_congr hn h (fun i i0 i1 => (q.2 i i0 i1).1) j.toNat (by omega)
  have b := q.2 _ a.1 a.2
  refine ⟨e0, ?_, ?_, ?_, ?_⟩
  · rw [b.1, e0]; rfl
  · rw [ha _ a.1 a.2, e0]; rfl
  · rw [b.2.1, b.2.2, e0]; rfl
  · rw [b.2.1, b.2.2, e0]; rfl
theorem pm_of {x : Int → Int} {e n : Int} {F L N D : Int → Int} (hn : 0 ≤ n) (h : Cut4 x e n F L N D) : F 0 = PM x e n := (cQ_of h).1 0 (Int.le_refl _) hn
theorem TwP.F {x : Int → Int} {e n z : Int} {t : Nat} {S A0 A1 A2 A3 A4 : Int → Int} (h : TwP x e n t z S A0 A1 A2 A3 A4) (he : 0 ≤ e) (hz : z ≤ 60) (ht : t ≤ 10) {v : Int} (hv : v = (t : Int)) : TwF v z S := by
  have m := St_mono (x := x) (n := n) he (t := t) (fun s q => (h.2.2 s q).1)
  have mt := m t (Nat.le_refl _)
  refine ⟨by omega, by omega, by rw [h.1]; exact mt.1, hz, fun s s0 s1 => ?_⟩
  have a := m s.toNat (by omega)
  have b := m (s.toNat + 1) (by omega)
  have a2 := h.2.1 (by omega) s.toNat (by omega)
  have b2 := h.2.1 (by omega) (s.toNat + 1) (by omega)
  have c := ((h.2.2 s.toNat (by omega)).1).pm he
  have d : St x e n (s.toNat + 1) = St x e n s.toNat + PM (lvl x e n s.toNat).1 e (lvl x e n s.toNat).2 := rfl
  rw [show ((s.toNat : Nat) : Int) = s by omega] at a2
  rw [show ((s.toNat + 1 : Nat) : Int) = s + 1 by omega] at b2
  rw [a2, b2, h.1]
  exact ⟨a.1, by omega, b.2⟩
theorem TwP.step {x : Int → Int} {e n z z' : Int} {t : Nat} {S A0 A1 A2 A3 A4 B0 B1 B2 B3 B4 : Int → Int} (he : 0 ≤ e) (h : TwP x e n t z S A0 A1 A2 A3 A4) (ho : LvOK (lvl x e n t).1 e (lvl x e n t).2) (hz : z' = z + PM (lvl x e n t).1 e (lvl x e n t).2)
    (o0 : ∀ j : Int, 0 ≤ j → j < z → B0 j = A0 j) (o1 : ∀ j : Int, 0 ≤ j → j < z → B1 j = A1 j) (o2 : ∀ j : Int, 0 ≤ j → j < z → B2 j = A2 j) (o3 : ∀ j : Int, 0 ≤ j → j < z → B3 j = A3 j) (o4 : ∀ j : Int, 0 ≤ j → j < z → B4 j = A4 j)
    (hp : ∀ j : Int, 0 ≤ j → j < PM (lvl x e n t).1 e (lvl x e n t).2 → B0 (z + j) = P0 (lvl x e n t).1 e (lvl x e n t).2 j ∧ B1 (z + j) = P1 (lvl x e n t).1 e (lvl x e n t).2 j ∧ B2 (z + j) = P2 (lvl x e n t).1 e (lvl x e n t).2 j ∧ B3 (z + j) = P3 (lvl x e n t).1 e (lvl x e n t).2 j ∧ B4 (z + j) = P4 (lvl x e n t).1 e (lvl x e n t).2 j) :
    TwP x e n (t + 1) z' (up (up S (t : Int) z) ((t : Int) + 1) z') B0 B1 B2 B3 B4 := by
  obtain ⟨h1, h2, h3⟩ := h
  have m := St_mono (x := x) (n := n) he (t := t) (fun s q => (h3 s q).1)
  have ez : St x e n (t + 1) = St x e n t + PM (lvl x e n t).1 e (lvl x e n t).2 := rfl
  refine ⟨by rw [hz, h1, ez], fun _ s hs => ?_, fun s hs => ?_⟩
  · by_cases q : s = t + 1
    · rw [q, show (((t + 1 : Nat)) : Int) = (t : Int) + 1 by omega, up_eq, hz, h1, ez]
    · rw [up_ne _ _ (by omega)]
      by_cases q2 : s = t
      · rw [q2, up_eq, h1]
      · rw [up_ne _ _ (by omega)]
        exact h2 (by omega) s (by omega)
  · by_cases q : s = t
    · rw [q]
      refine ⟨ho, fun k k0 k1 => ?_⟩
      rw [← h1]
      exact hp k k0 k1
    · have g := h3 s (by omega)
      have gp := g.1.pm he
      have a := m (s + 1) (by omega)
      have b := m s (by omega)
      have ea : St x e n (s + 1) = St x e n s + PM (lvl x e n s).1 e (lvl x e n s).2 := rfl
      refine ⟨g.1, fun k k0 k1 => ?_⟩
      have c := g.2 k k0 k1
      rw [o0 _ (by omega) (by omega), o1 _ (by omega) (by omega), o2 _ (by omega) (by omega), o3 _ (by omega) (by omega), o4 _ (by omega) (by omega)]
      exact c
/-- a level is to be laid: its keys stand in the base -/
def LvGo (x : Int → Int) (e n : Int) (t : Nat) (bn : Int) (bf : Int → Int) : Prop := 1 ≤ n ∧ bn = (lvl x e n t).2 ∧ 1 ≤ bn ∧ Kr bn (lvl x e n t).1 ∧ Agr bn bf (lvl x e n t).1 ∧ (∀ s : Nat, 1 ≤ s → s ≤ t → 1 < (lvl x e n s).2) ∧ St x e n t + tb bn ≤ 60 ∧ (t : Int) + lb bn ≤ 6
theorem LvGo.first {x bf : Int → Int} {e n : Int} (hk : Kr n x) (h1 : 1 ≤ n) (ha : Agr n bf x) : LvGo x e n 0 n bf := by
  have n60 := hk.2.1
  refine ⟨h1, rfl, h1, hk, ha, fun s s1 s2 => absurd s1 (by omega), ?_, ?_⟩
  · show (0 : Int) + tb n ≤ 60
    unfold tb
    repeat' split
    all_goals omega
  · unfold lb
    repeat' split
    all_goals omega
theorem LvGo.next {x bf bf' : Int → Int} {e n bn w : Int} {t : Nat} (he : 0 ≤ e) (h : LvGo x e n t bn bf) (ho : LvOK (lvl x e n t).1 e (lvl x e n t).2) (hw : w = PM (lvl x e n t).1 e (lvl x e n t).2) (h1 : 1 < w) (hf : ∀ j : Int, 0 ≤ j → j < w → bf' j = P2 (lvl x e n t).1 e (lvl x e n t).2 j) : LvGo x e n (t + 1) w bf' := by
  obtain ⟨a1, a2, a3, a4, a5, a6, a7, a8⟩ := h
  have p := ho.pm he
  have n60 := a4.2.1
  have tbs := tb_s (n := bn) (m := w) n60 h1 (by rw [hw, a2]; exact p.2)
  refine ⟨a1, hw, by omega, ?_, hf, fun s s1 s2 => ?_, ?_, ?_⟩
  · have := ho.next he
    rw [hw]
    exact this
  · by_cases q : s = t + 1
    · rw [q]
      show 1 < PM (lvl x e n t).1 e (lvl x e n t).2
      omega
    · exact a6 s s1 (by omega)
  · show St x e n t + PM (lvl x e n t).1 e (lvl x e n t).2 + tb w ≤ 60
    omega
  · omega
theorem LvGo.last {x bf : Int → Int} {e n bn w : Int} {t : Nat} (he : 0 ≤ e) (h : LvGo x e n t bn bf) (hw : w = PM (lvl x e n t).1 e (lvl x e n t).2) (h1 : w ≤ 1) : Ht x e n ((t : Int) + 1) := by
  obtain ⟨a1, a2, a3, a4, a5, a6, a7, a8⟩ := h
  refine Or.inr ⟨a1, by omega, fun s s1 s2 => a6 s s1 (by omega), ?_⟩
  rw [show ((t : Int) + 1).toNat = t + 1 by omega]
  show PM (lvl x e n t).1 e (lvl x e n t).2 ≤ 1
  omega
theorem LvGo.ok {x bf : Int → Int} {e n bn : Int} {t : Nat} {F L N D : Int → Int} (h : LvGo x e n t bn bf) (hc : Cut4 bf e bn F L N D) : LvOK (lvl x e n t).1 e (lvl x e n t).2 ∧ Cut4 (lvl x e n t).1 e bn F L N D := by
  obtain ⟨a1, a2, a3, a4, a5, a6, a7, a8⟩ := h
  have c := hc.congr a5
  refine ⟨?_, c⟩
  rw [← a2]
  exact ⟨a4, a3, cQ_cut c⟩
/-- the piece for a number -/
def Pf (m : Int) (f : Int → Int) (x p : Int) : Prop := 0 ≤ p ∧ p < m ∧ (∀ q : Int, 1 ≤ q → q ≤ p → f q ≤ x) ∧ ∀ q : Int, p < q → q < m → x < f q
theorem Pf.uniq {m : Int} {f : Int → Int} {x p p' : Int} (h : Pf m f x p) (h' : Pf m f x p') : p = p' := by
  rcases Int.lt_trichotomy p p' with q | q | q
  · have a := h.2.2.2 p' q h'.2.1
    have b := h'.2.2.1 p' (by have := h.1; omega) (Int.le_refl _)
    omega
  · exact q
  · have a := h'.2.2.2 p q h.2.1
    have b := h.2.2.1 p (by have := h'.1; omega) (Int.le_refl _)
    omega
/-- the guess by piece p -/
noncomputable def gs (f : Int → Int) (e n p x : Int) : Int := max (P0 f e n p) (min (P1 f e n p) (P0 f e n p + P3 f e n p * (x - P2 f e n p) / P4 f e n p))
theorem TwR.l0 {x : Int → Int} {e n h sz : Int} {S A0 A1 A2 A3 A4 : Int → Int} (he : 0 ≤ e) (H : TwR x e n h sz S A0 A1 A2 A3 A4) (h1 : 1 ≤ h) : LvOK x e n ∧ S 0 = 0 ∧ S 1 = PM x e n ∧ PM x e n ≤ sz ∧ ∀ k : Int, 0 ≤ k → k < PM x e n → A0 k = P0 x e n k ∧ A1 k = P1 x e n k ∧ A2 k = P2 x e n k ∧ A3 k = P3 x e n k ∧ A4 k = P4 x e n k := by
  obtain ⟨a1, a2, a3, a4, a5, a6, a7⟩ := H
  have b := a7 0 (by omega)
  have c0 := a6 (by omega) 0 (by omega)
  have c1 := a6 (by omega) 1 (by omega)
  have e1 : St x e n 1 = PM x e n := by show (0 : Int) + PM x e n = PM x e n; omega
  refine ⟨b.1, c0, by rw [← e1]; exact c1, ?_, fun k k0 k1 => ?_⟩
  · have m := St_mono (x := x) (n := n) he (t := h.toNat) (fun s q => (a7 s q).1) 1 (by omega)
    rw [a5, ← e1]
    exact m.2
  · have := b.2 k k0 k1
    have e0 : St x e n 0 + k = k := by show (0 : Int) + k = k; omega
    rw [e0] at this
    exact this
end
section
theorem mrs {a b : Int} (ha : 0 ≤ a ∧ a ≤ 60) (hb : -1000000 ≤ b ∧ b ≤ 1000000) : -100000000 ≤ a * b ∧ a * b ≤ 100000000 := by
  have h1 : a * b ≤ a * 1000000 := Int.mul_le_mul_of_nonneg_left hb.2 ha.1
  have h2 : a * (-1000000) ≤ a * b := Int.mul_le_mul_of_nonneg_left hb.1 ha.1
  omega
theorem dvb {a b : Int} (hb : 1 ≤ b) (ha : -100000000 ≤ a ∧ a ≤ 100000000) : -100000000 ≤ a / b ∧ a / b ≤ 100000000 := by
  refine ⟨?_, ?_⟩
  · rw [Int.le_ediv_iff_mul_le (by omega)]
    have : (-100000000) * b ≤ (-100000000) * 1 := Int.mul_le_mul_of_nonpos_left (by omega) (by omega)
    omega
  · rcases Int.lt_or_le a 0 with q | q
    · have := Int.ediv_neg_of_neg_of_pos q (show 0 < b by omega)
      omega
    · have := Int.ediv_le_self b q
      omega
theorem mnx (a b c : Int) : (if a < (if c < b then c else b) then (if c < b then c else b) else a) = max a (min b c) := by
  rw [Int.max_def, Int.min_def]
  repeat' split
  all_goals omega
set_option maxRecDepth 100000 in
theorem hiX4_build_4 : ∀ w ∈ wsX40, w ∈ wsX4_build := by decide +kernel
set_option maxRecDepth 100000 in
theorem hfX4_build_37 : Cond.fieldLink RX4 37 "KeyGuess$Tower" "height" "I" ∈ wsX4_build := by decide +kernel
set_option maxRecDepth 100000 in
theorem hfX4_build_49 : Cond.fieldLink RX4 49 "KeyGuess$Tower" "size" "I" ∈ wsX4_build := by decide +kernel
set_option maxRecDepth 100000 in
theorem hfX4_build_12 : Cond.fieldLink RX4 12 "KeyGuess$Tower" "base" "LKeyGuess$Keys;" ∈ wsX4_build := by decide +kernel
set_option maxHeartbeats 4000000 in
set_option maxRecDepth 100000 in
/-- Tower.build -/
theorem ctX4_build (l : Launch) (g : xG) (a : Nat) (kb : Nat) (kc : Nat) (t1 : Nat) (t2 : Nat) (t3 : Nat) (t4 : Nat) (t5 : Nat) (t6 : Nat) (h : Int) (sz : Int) (bn : Int) (bf : Int → Int) (S : Int → Int) (A0 : Int → Int) (A1 : Int → Int) (A2 : Int → Int) (A3 : Int → Int) (A4 : Int → Int) (ra : Nat) (rb : Nat) (n : Int) (f : Int → Int) (ca : Nat) (c1 : Nat) (c2 : Nat) (c3 : Nat) (c4 : Nat) (c5 : Nat) (x : Int → Int) (F : Int → Int) (Ls : Int → Int) (Nm : Int → Int) (Dn : Int → Int) (e : Int) (y : Int → Int) (hk : Kr n f) (he : 0 ≤ e ∧ e ≤ 8) (hy : Agr n f y) : Ct l g yX4_build wsX4_build ({ frames := 4, cells := 0, slots := 0, locals := 90 } : Room) 0 0 [(a, ob 4 [.ref kb, .ref t1, .ref t2, .ref t3, .ref t4, .ref t5, .ref t6, jv h, jv sz]), (kb, ob 2 [.ref kc, jv bn]), (kc, ai g 60 bf), (t1, ai g 11 S), (t2, ai g 60 A0), (t3, ai g 60 A1), (t4, ai g 60 A2), (t5, ai g 60 A3), (t6, ai g 60 A4), (ra, ob 2 [.ref rb, jv n]), (rb, ai g 60 f), (ca, ob 0 [.ref c1, .ref c2, .ref c3, .ref c4, .ref c5]), (c1, ai g 60 x), (c2, ai g 61 F), (c3, ai g 60 Ls), (c4, ai g 60 Nm), (c5, ai g 60 Dn)] [.ref a, .ref ra, .ref ca, jv e] (fun v u => ∃ (h1 : Int) (z1 : Int) (n1 : Int) (f1 : Int → Int) (S1 : Int → Int) (A0' : Int → Int) (A1' : Int → Int) (A2' : Int → Int) (A3' : Int → Int) (A4' : Int → Int) (x' : Int → Int) (F' : Int → Int) (L' : Int → Int) (N' : Int → Int) (D' : Int → Int), v = none ∧ u = [(a, ob 4 [.ref kb, .ref t1, .ref t2, .ref t3, .ref t4, .ref t5, .ref t6, jv h1, jv z1]), (kb, ob 2 [.ref kc, jv n1]), (kc, ai g 60 f1), (t1, ai g 11 S1), (t2, ai g 60 A0'), (t3, ai g 60 A1'), (t4, ai g 60 A2'), (t5, ai g 60 A3'), (t6, ai g 60 A4'), (ra, ob 2 [.ref rb, jv n]), (rb, ai g 60 f), (ca, ob 0 [.ref c1, .ref c2, .ref c3, .ref c4, .ref c5]), (c1, ai g 60 x'), (c2, ai g 61 F'), (c3, ai g 60 L'), (c4, ai g 60 N'), (c5, ai g 60 D')] ∧ (TwR y e n h1 z1 S1 A0' A1' A2' A3' A4')) := by
  refine ct_of (cc := cX4_build) (nL := 6) (ret := none) (by decide) rfl (Nat.le_of_ble_eq_true rfl) ?_
  intro E C Rt0
  have C : Cx l g E ({ frames := 4, cells := 0, slots := 0, locals := 90 } : Room) RX4 "build" cX4_build wsX4_build 6 := C
  show X l g E ({ frames := 4, cells := 0, slots := 0, locals := 90 } : Room) 6 [(a, ob 4 [.ref kb, .ref t1, .ref t2, .ref t3, .ref t4, .ref t5, .ref t6, jv h, jv sz]), (kb, ob 2 [.ref kc, jv bn]), (kc, ai g 60 bf), (t1, ai g 11 S), (t2, ai g 60 A0), (t3, ai g 60 A1), (t4, ai g 60 A2), (t5, ai g 60 A3), (t6, ai g 60 A4), (ra, ob 2 [.ref rb, jv n]), (rb, ai g 60 f), (ca, ob 0 [.ref c1, .ref c2, .ref c3, .ref c4, .ref c5]), (c1, ai g 60 x), (c2, ai g 61 F), (c3, ai g 60 Ls), (c4, ai g 60 Nm), (c5, ai g 60 Dn)] 0 0 [(0, .ref a), (1, .ref ra), (2, .ref ca), (3, jv e)] 0 []
  have hn0 := hk.1
  have hn1 := hk.2.1
  have hky : Kr n y := hk.congr hy
  refine x_aload_n (pc := 0) C 0 dX4_build_0 rfl ?_
  refine x_iconst (pc := 1) C dX4_build_1 ?_
  refine x_put (pc := 2) C (ty := .int) (ws' := [(a, ob 4 [.ref kb, .ref t1, .ref t2, .ref t3, .ref t4, .ref t5, .ref t6, jv 0, jv sz]), (kb, ob 2 [.ref kc, jv bn]), (kc, ai g 60 bf), (t1, ai g 11 S), (t2, ai g 60 A0), (t3, ai g 60 A1), (t4, ai g 60 A2), (t5, ai g 60 A3), (t6, ai g 60 A4), (ra, ob 2 [.ref rb, jv n]), (rb, ai g 60 f), (ca, ob 0 [.ref c1, .ref c2, .ref c3, .ref c4, .ref c5]), (c1, ai g 60 x), (c2, ai g 61 F), (c3, ai g 60 Ls), (c4, ai g 60 Nm), (c5, ai g 60 Dn)]) tyX4 0 7 dX4_build_2 hiX4_build_4 tyX4_ok nmX4 hfX4_build_37 rfl rfl rfl (by decide) rfl (by decide +kernel) rfl rfl (Nat.le_of_ble_eq_true rfl) rfl ?_
  refine x_aload_n (pc := 5) C 0 dX4_build_5 rfl ?_
  refine x_iconst (pc := 6) C dX4_build_6 ?_
  refine x_put (pc := 7) C (ty := .int) (ws' := [(a, ob 4 [.ref kb, .ref t1, .ref t2, .ref t3, .ref t4, .ref t5, .ref t6, jv 0, jv 0]), (kb, ob 2 [.ref kc, jv bn]), (kc, ai g 60 bf), (t1, ai g 11 S), (t2, ai g 60 A0), (t3, ai g 60 A1), (t4, ai g 60 A2), (t5, ai g 60 A3), (t6, ai g 60 A4), (ra, ob 2 [.ref rb, jv n]), (rb, ai g 60 f), (ca, ob 0 [.ref c1, .ref c2, .ref c3, .ref c4, .ref c5]), (c1, ai g 60 x), (c2, ai g 61 F), (c3, ai g 60 Ls), (c4, ai g 60 Nm), (c5, ai g 60 Dn)]) tyX4 0 8 dX4_build_7 hiX4_build_4 tyX4_ok nmX4 hfX4_build_49 rfl rfl rfl (by decide) rfl (by decide +kernel) rfl rfl (Nat.le_of_ble_eq_true rfl) rfl ?_
  refine x_aload_n (pc := 10) C 0 dX4_build_10 rfl ?_
  refine x_get (pc := 11) C 0 0 dX4_build_11 hiX4_build_4 hfX4_build_12 rfl rfl rfl (by decide) rfl ?_
  refine x_aload_n (pc := 14) C 1 dX4_build_14 rfl ?_
  refine x_callV (pc := 15) C (n := 1) (q0 := 0) (rest := []) (wr := [(a, ob 4 [.ref kb, .ref t1, .ref t2, .ref t3, .ref t4, .ref t5, .ref t6, jv 0, jv 0]), (t1, ai g 11 S), (t2, ai g 60 A0), (t3, ai g 60 A1), (t4, ai g 60 A2), (t5, ai g 60 A3), (t6, ai g 60 A4), (ca, ob 0 [.ref c1, .ref c2, .ref c3, .ref c4, .ref c5]), (c1, ai g 60 x), (c2, ai g 61 F), (c3, ai g 60 Ls), (c4, ai g 60 Nm), (c5, ai g 60 Dn)]) [1, 2, 9, 10] [0, 3, 4, 5, 6, 7, 8, 11, 12, 13, 14, 15, 16] (ctX2_copy l g kb kc bn bf ra rb n f ⟨hn0, hn1⟩) gX4_build_X2_copy rfl ⟨rfl, rfl⟩ (by decide +kernel) ⟨by decide, by decide⟩ rfl rfl rfl rfl rfl (by decide) (by decide) (by decide) rfl (Nat.le_of_ble_eq_true rfl) dX4_build_15 ⟨by decide, by decide⟩ (fun v_15 u_15 h_15 => ?_)
  rcases h_15 with ⟨g0, rfl, rfl, f_15⟩
  refine x_world (ws' := [(a, ob 4 [.ref kb, .ref t1, .ref t2, .ref t3, .ref t4, .ref t5, .ref t6, jv 0, jv 0]), (kb, ob 2 [.ref kc, jv n]), (kc, ai g 60 g0), (t1, ai g 11 S), (t2, ai g 60 A0), (t3, ai g 60 A1), (t4, ai g 60 A2), (t5, ai g 60 A3), (t6, ai g 60 A4), (ra, ob 2 [.ref rb, jv n]), (rb, ai g 60 f), (ca, ob 0 [.ref c1, .ref c2, .ref c3, .ref c4, .ref c5]), (c1, ai g 60 x), (c2, ai g 61 F), (c3, ai g 60 Ls), (c4, ai g 60 Nm), (c5, ai g 60 Dn)]) [0, 13, 14, 1, 2, 3, 4, 5, 6, 15, 16, 7, 8, 9, 10, 11, 12] (by decide) rfl ?_
  show X l g E ({ frames := 4, cells := 0, slots := 0, locals := 90 } : Room) 6 [(a, ob 4 [.ref kb, .ref t1, .ref t2, .ref t3, .ref t4, .ref t5, .ref t6, jv 0, jv 0]), (kb, ob 2 [.ref kc, jv n]), (kc, ai g 60 g0), (t1, ai g 11 S), (t2, ai g 60 A0), (t3, ai g 60 A1), (t4, ai g 60 A2), (t5, ai g 60 A3), (t6, ai g 60 A4), (ra, ob 2 [.ref rb, jv n]), (rb, ai g 60 f), (ca, ob 0 [.ref c1, .ref c2, .ref c3, .ref c4, .ref c5]), (c1, ai g 60 x), (c2, ai g 61 F), (c3, ai g 60 Ls), (c4, ai g 60 Nm), (c5, ai g 60 Dn)] 0 0 [(0, .ref a), (1, .ref ra), (2, .ref ca), (3, jv e)] 18 []
  refine x_aload_n (pc := 18) C 0 dX4_build_18 rfl ?_
  refine x_get (pc := 19) C 0 0 dX4_build_19 hiX4_build_4 hfX4_build_12 rfl rfl rfl (by decide) rfl ?_
  refine x_callV (pc := 22) C (n := 0) (q0 := 0) (rest := []) (wr := [(a, ob 4 [.ref kb, .ref t1, .ref t2, .ref t3, .ref t4, .ref t5, .ref t6, jv 0, jv 0]), (t1, ai g 11 S), (t2, ai g 60 A0), (t3, ai g 60 A1), (t4, ai g 60 A2), (t5, ai g 60 A3), (t6, ai g 60 A4), (ra, ob 2 [.ref rb, jv n]), (rb, ai g 60 f), (ca, ob 0 [.ref c1, .ref c2, .ref c3, .ref c4, .ref c5]), (c1, ai g 60 x), (c2, ai g 61 F), (c3, ai g 60 Ls), (c4, ai g 60 Nm), (c5, ai g 60 Dn)]) [1, 2] [0, 3, 4, 5, 6, 7, 8, 9, 10, 11, 12, 13, 14, 15, 16] (ctX2_size l g kb kc n g0 ⟨hn0, hn1⟩) gX4_build_X2_size rfl ⟨rfl, rfl⟩ (by decide +kernel) ⟨by decide, by decide⟩ rfl rfl rfl rfl rfl (by decide) (by decide) (by decide) rfl (Nat.le_of_ble_eq_true rfl) dX4_build_22 ⟨by decide, by decide⟩ (fun v_22 u_22 h_22 => ?_)
  rcases h_22 with ⟨rfl, rfl, f_22⟩
  refine x_world (ws' := [(a, ob 4 [.ref kb, .ref t1, .ref t2, .ref t3, .ref t4, .ref t5, .ref t6, jv 0, jv 0]), (kb, ob 2 [.ref kc, jv n]), (kc, ai g 60 g0), (t1, ai g 11 S), (t2, ai g 60 A0), (t3, ai g 60 A1), (t4, ai g 60 A2), (t5, ai g 60 A3), (t6, ai g 60 A4), (ra, ob 2 [.ref rb, jv n]), (rb, ai g 60 f), (ca, ob 0 [.ref c1, .ref c2, .ref c3, .ref c4, .ref c5]), (c1, ai g 60 x), (c2, ai g 61 F), (c3, ai g 60 Ls), (c4, ai g 60 Nm), (c5, ai g 60 Dn)]) [0, 15, 16, 1, 2, 3, 4, 5, 6, 7, 8, 9, 10, 11, 12, 13, 14] (by decide) rfl ?_
  show X l g E ({ frames := 4, cells := 0, slots := 0, locals := 90 } : Room) 6 [(a, ob 4 [.ref kb, .ref t1, .ref t2, .ref t3, .ref t4, .ref t5, .ref t6, jv 0, jv 0]), (kb, ob 2 [.ref kc, jv n]), (kc, ai g 60 g0), (t1, ai g 11 S), (t2, ai g 60 A0), (t3, ai g 60 A1), (t4, ai g 60 A2), (t5, ai g 60 A3), (t6, ai g 60 A4), (ra, ob 2 [.ref rb, jv n]), (rb, ai g 60 f), (ca, ob 0 [.ref c1, .ref c2, .ref c3, .ref c4, .ref c5]), (c1, ai g 60 x), (c2, ai g 61 F), (c3, ai g 60 Ls), (c4, ai g 60 Nm), (c5, ai g 60 Dn)] 0 0 [(0, .ref a), (1, .ref ra), (2, .ref ca), (3, jv e)] 25 [jv n]
  have L38 : ∀ (nn : Nat) (mo : Int) (v : Int) (t : Nat) (z : Int) (bm : Int) (bg : Int → Int) (S1 : Int → Int) (B0 : Int → Int) (B1 : Int → Int) (B2 : Int → Int) (B3 : Int → Int) (B4 : Int → Int) (x' : Int → Int) (F' : Int → Int) (L' : Int → Int) (N' : Int → Int) (D' : Int → Int), (10 - v).toNat < nn → (v = (t : Int) ∧ v ≤ 6) → ((mo = 1 ∧ LvGo y e n t bm bg) ∨ (mo = 0 ∧ Ht y e n v)) → (TwP y e n t z S1 B0 B1 B2 B3 B4) → (z ≤ 60) → X l g E ({ frames := 4, cells := 0, slots := 0, locals := 90 } : Room) 6 [(a, ob 4 [.ref kb, .ref t1, .ref t2, .ref t3, .ref t4, .ref t5, .ref t6, jv v, jv z]), (kb, ob 2 [.ref kc, jv bm]), (kc, ai g 60 bg), (t1, ai g 11 S1), (t2, ai g 60 B0), (t3, ai g 60 B1), (t4, ai g 60 B2), (t5, ai g 60 B3), (t6, ai g 60 B4), (ra, ob 2 [.ref rb, jv n]), (rb, ai g 60 f), (ca, ob 0 [.ref c1, .ref c2, .ref c3, .ref c4, .ref c5]), (c1, ai g 60 x'), (c2, ai g 61 F'), (c3, ai g 60 L'), (c4, ai g 60 N'), (c5, ai g 60 D')] 0 0 [(0, .ref a), (1, .ref ra), (2, .ref ca), (3, jv e), (4, jv mo), (5, jv v)] 38 [] := by
    intro nn
    induction nn with
    | zero => intro mo v t z bm bg S1 B0 B1 B2 B3 B4 x' F' L' N' D' hμ; exact absurd hμ (Nat.not_lt_zero _)
    | succ nn ih38 =>
      intro mo v t z bm bg S1 B0 B1 B2 B3 B4 x' F' L' N' D' hμ hv hmo hT hz
      refine x_iload (pc := 38) C 5 dX4_build_38 rfl ?_
      refine x_bipush (pc := 40) C dX4_build_40 rfl ?_
      refine x_icmp_ge (pc := 42) C 95 dX4_build_42 rfl ⟨by omega, by omega⟩ ⟨by omega, by omega⟩ (fun c_42 => ?_) (fun c_42 => ?_)
      · omega
      · refine x_iload (pc := 45) C 4 dX4_build_45 rfl ?_
        refine x_if_eq (pc := 47) C 95 dX4_build_47 rfl ⟨by omega, by omega⟩ (fun c_47 => ?_) (fun c_47 => ?_)
        · refine x_vret (pc := 95) C Rt0 dX4_build_95 rfl ?_
          refine ⟨_, _, _, _, _, _, _, _, _, _, _, _, _, _, _, rfl, rfl, ?_⟩
          refine ⟨?_, by omega, by omega, hz, ?_⟩
          · rcases hmo with q | q
            · omega
            · exact q.2
          · rw [show v.toNat = t by omega]; exact hT
        · have hgo : LvGo y e n t bm bg := by
            rcases hmo with q | q
            · exact q.2
            · omega
          have hkb : Kr bm bg := hgo.2.2.2.1.congr hgo.2.2.2.2.1.symm
          have hg3 := hgo.2.2.1
          have hg6 := hgo.2.2.2.2.2.2.1
          have hg7 := hgo.2.2.2.2.2.2.2
          have hlb := tb_1 (n := bm) (m := 0) hg3 (by omega) hkb.2.1
          have hst := St_mono (x := y) (n := n) he.1 (t := t) (fun s q => (hT.2.2 s q).1) t (Nat.le_refl _)
          refine x_aload_n (pc := 50) C 2 dX4_build_50 rfl ?_
          refine x_aload_n (pc := 51) C 0 dX4_build_51 rfl ?_
          refine x_get (pc := 52) C 0 0 dX4_build_52 hiX4_build_4 hfX4_build_12 rfl rfl rfl (by decide) rfl ?_
          refine x_iload_n (pc := 55) C 3 dX4_build_55 rfl ?_
          refine x_callV (pc := 56) C (n := 2) (q0 := 0) (rest := []) (wr := [(a, ob 4 [.ref kb, .ref t1, .ref t2, .ref t3, .ref t4, .ref t5, .ref t6, jv v, jv z]), (t1, ai g 11 S1), (t2, ai g 60 B0), (t3, ai g 60 B1), (t4, ai g 60 B2), (t5, ai g 60 B3), (t6, ai g 60 B4), (ra, ob 2 [.ref rb, jv n]), (rb, ai g 60 f)]) [11, 12, 13, 14, 15, 16, 1, 2] [0, 3, 4, 5, 6, 7, 8, 9, 10] (ctX0_cut l g ca c1 c2 c3 c4 c5 x' F' L' N' D' kb kc bm bg e hkb he) gX4_build_X0_cut rfl ⟨rfl, rfl⟩ (by decide +kernel) ⟨by decide, by decide⟩ rfl rfl rfl rfl rfl (by decide) (by decide) (by decide) rfl (Nat.le_of_ble_eq_true rfl) dX4_build_56 ⟨by decide, by decide⟩ (fun v_56 u_56 h_56 => ?_)
          rcases h_56 with ⟨x2, F2, L2, N2, D2, rfl, rfl, f_56⟩
          refine x_world (ws' := [(a, ob 4 [.ref kb, .ref t1, .ref t2, .ref t3, .ref t4, .ref t5, .ref t6, jv v, jv z]), (kb, ob 2 [.ref kc, jv bm]), (kc, ai g 60 bg), (t1, ai g 11 S1), (t2, ai g 60 B0), (t3, ai g 60 B1), (t4, ai g 60 B2), (t5, ai g 60 B3), (t6, ai g 60 B4), (ra, ob 2 [.ref rb, jv n]), (rb, ai g 60 f), (ca, ob 0 [.ref c1, .ref c2, .ref c3, .ref c4, .ref c5]), (c1, ai g 60 x2), (c2, ai g 61 F2), (c3, ai g 60 L2), (c4, ai g 60 N2), (c5, ai g 60 D2)]) [0, 15, 16, 1, 2, 3, 4, 5, 6, 7, 8, 9, 10, 11, 12, 13, 14] (by decide) rfl ?_
          show X l g E ({ frames := 4, cells := 0, slots := 0, locals := 90 } : Room) 6 [(a, ob 4 [.ref kb, .ref t1, .ref t2, .ref t3, .ref t4, .ref t5, .ref t6, jv v, jv z]), (kb, ob 2 [.ref kc, jv bm]), (kc, ai g 60 bg), (t1, ai g 11 S1), (t2, ai g 60 B0), (t3, ai g 60 B1), (t4, ai g 60 B2), (t5, ai g 60 B3), (t6, ai g 60 B4), (ra, ob 2 [.ref rb, jv n]), (rb, ai g 60 f), (ca, ob 0 [.ref c1, .ref c2, .ref c3, .ref c4, .ref c5]), (c1, ai g 60 x2), (c2, ai g 61 F2), (c3, ai g 60 L2), (c4, ai g 60 N2), (c5, ai g 60 D2)] 0 0 [(0, .ref a), (1, .ref ra), (2, .ref ca), (3, jv e), (4, jv mo), (5, jv v)] 59 []
          have hok := hgo.ok f_56.1
          have hpm : F2 0 = PM (lvl y e n t).1 e (lvl y e n t).2 := by
            rw [pm_of (by omega) hok.2, ← hgo.2.1]
          have hpb := hok.1.pm he.1
          have hptb := tb_1 (n := bm) (m := F2 0) hg3 (by rw [hpm, hgo.2.1]; exact hpb.2) hkb.2.1
          refine x_aload_n (pc := 59) C 0 dX4_build_59 rfl ?_
          refine x_iload (pc := 60) C 5 dX4_build_60 rfl ?_
          refine x_aload_n (pc := 62) C 2 dX4_build_62 rfl ?_
          refine x_callV (pc := 63) C (n := 2) (q0 := 0) (rest := []) (wr := [(ra, ob 2 [.ref rb, jv n]), (rb, ai g 60 f)]) [0, 1, 2, 3, 4, 5, 6, 7, 8, 11, 12, 13, 14, 15, 16] [9, 10] (ctX4_raise l g a kb kc t1 t2 t3 t4 t5 t6 v z bm bg S1 B0 B1 B2 B3 B4 ca c1 c2 c3 c4 c5 x2 F2 L2 N2 D2 v e ⟨by omega, by omega⟩ he hkb hgo.2.2.1 f_56.1 ⟨by rw [hT.1]; exact hst.1, by rw [hpm, hT.1]; omega⟩) gX4_build_X4_raise rfl ⟨rfl, rfl⟩ (by decide +kernel) ⟨by decide, by decide⟩ rfl rfl rfl rfl rfl (by decide) (by decide) (by decide) rfl (Nat.le_of_ble_eq_true rfl) dX4_build_63 ⟨by decide, by decide⟩ (fun v_63 u_63 h_63 => ?_)
          rcases h_63 with ⟨z2, E0, E1, E2, E3, E4, rfl, rfl, f_63⟩
          refine x_world (ws' := [(a, ob 4 [.ref kb, .ref t1, .ref t2, .ref t3, .ref t4, .ref t5, .ref t6, jv (v + 1), jv z2]), (kb, ob 2 [.ref kc, jv bm]), (kc, ai g 60 bg), (t1, ai g 11 (up (up S1 v z) (v + 1) z2)), (t2, ai g 60 E0), (t3, ai g 60 E1), (t4, ai g 60 E2), (t5, ai g 60 E3), (t6, ai g 60 E4), (ra, ob 2 [.ref rb, jv n]), (rb, ai g 60 f), (ca, ob 0 [.ref c1, .ref c2, .ref c3, .ref c4, .ref c5]), (c1, ai g 60 x2), (c2, ai g 61 F2), (c3, ai g 60 L2), (c4, ai g 60 N2), (c5, ai g 60 D2)]) [2, 3, 4, 5, 6, 7, 8, 9, 10, 0, 1, 11, 12, 13, 14, 15, 16] (by decide) rfl ?_
          show X l g E ({ frames := 4, cells := 0, slots := 0, locals := 90 } : Room) 6 [(a, ob 4 [.ref kb, .ref t1, .ref t2, .ref t3, .ref t4, .ref t5, .ref t6, jv (v + 1), jv z2]), (kb, ob 2 [.ref kc, jv bm]), (kc, ai g 60 bg), (t1, ai g 11 (up (up S1 v z) (v + 1) z2)), (t2, ai g 60 E0), (t3, ai g 60 E1), (t4, ai g 60 E2), (t5, ai g 60 E3), (t6, ai g 60 E4), (ra, ob 2 [.ref rb, jv n]), (rb, ai g 60 f), (ca, ob 0 [.ref c1, .ref c2, .ref c3, .ref c4, .ref c5]), (c1, ai g 60 x2), (c2, ai g 61 F2), (c3, ai g 60 L2), (c4, ai g 60 N2), (c5, ai g 60 D2)] 0 0 [(0, .ref a), (1, .ref ra), (2, .ref ca), (3, jv e), (4, jv mo), (5, jv v)] 66 []
          obtain ⟨r1, r2, r3, r4, r5, r6, r7⟩ := f_63
          have hT2 : TwP y e n (t + 1) z2 (up (up S1 v z) (v + 1) z2) E0 E1 E2 E3 E4 := by
            rw [hv.1]
            refine hT.step he.1 hok.1 (by rw [r1, hpm]) r2 r3 r4 r5 r6 (fun j j0 j1 => ?_)
            have q := r7 j j0 (by rw [hpm]; exact j1)
            have pp := pc_of (by omega) hok.2 hgo.2.2.2.2.1 j0 (by rw [hpm]; exact j1)
            rw [hgo.2.1] at pp
            rw [q.1, q.2.1, q.2.2.1, q.2.2.2.1, q.2.2.2.2]
            exact pp
          have hz2 : z2 ≤ 60 := by rw [r1, hT.1]; omega
          have hF2 : TwF (v + 1) z2 (up (up S1 v z) (v + 1) z2) := hT2.F he.1 hz2 (by omega) (by omega)
          have hS1 : up (up S1 v z) (v + 1) z2 (v + 1) = z2 := up_eq _ _ _
          have hS0 : up (up S1 v z) (v + 1) z2 v = z := by rw [up_ne _ _ (by omega), up_eq]
          refine x_aload_n (pc := 66) C 0 dX4_build_66 rfl ?_
          refine x_iload (pc := 67) C 5 dX4_build_67 rfl ?_
          refine x_callV (pc := 69) C (n := 1) (q0 := 0) (rest := []) (wr := [(ra, ob 2 [.ref rb, jv n]), (rb, ai g 60 f), (ca, ob 0 [.ref c1, .ref c2, .ref c3, .ref c4, .ref c5]), (c1, ai g 60 x2), (c2, ai g 61 F2), (c3, ai g 60 L2), (c4, ai g 60 N2), (c5, ai g 60 D2)]) [0, 1, 2, 3, 4, 5, 6, 7, 8] [9, 10, 11, 12, 13, 14, 15, 16] (ctX4_width l g a kb kc t1 t2 t3 t4 t5 t6 (v + 1) z2 bm bg (up (up S1 v z) (v + 1) z2) E0 E1 E2 E3 E4 v hF2 ⟨by omega, by omega⟩) gX4_build_X4_width rfl ⟨rfl, rfl⟩ (by decide +kernel) ⟨by decide, by decide⟩ rfl rfl rfl rfl rfl (by decide) (by decide) (by decide) rfl (Nat.le_of_ble_eq_true rfl) dX4_build_69 ⟨by decide, by decide⟩ (fun v_69 u_69 h_69 => ?_)
          rcases h_69 with ⟨rfl, rfl, f_69⟩ | ⟨rfl, rfl, f_69⟩
          · refine x_world (ws' := [(a, ob 4 [.ref kb, .ref t1, .ref t2, .ref t3, .ref t4, .ref t5, .ref t6, jv (v + 1), jv z2]), (kb, ob 2 [.ref kc, jv bm]), (kc, ai g 60 bg), (t1, ai g 11 (up (up S1 v z) (v + 1) z2)), (t2, ai g 60 E0), (t3, ai g 60 E1), (t4, ai g 60 E2), (t5, ai g 60 E3), (t6, ai g 60 E4), (ra, ob 2 [.ref rb, jv n]), (rb, ai g 60 f), (ca, ob 0 [.ref c1, .ref c2, .ref c3, .ref c4, .ref c5]), (c1, ai g 60 x2), (c2, ai g 61 F2), (c3, ai g 60 L2), (c4, ai g 60 N2), (c5, ai g 60 D2)]) [8, 9, 10, 11, 12, 13, 14, 15, 16, 0, 1, 2, 3, 4, 5, 6, 7] (by decide) rfl ?_
            show X l g E ({ frames := 4, cells := 0, slots := 0, locals := 90 } : Room) 6 [(a, ob 4 [.ref kb, .ref t1, .ref t2, .ref t3, .ref t4, .ref t5, .ref t6, jv (v + 1), jv z2]), (kb, ob 2 [.ref kc, jv bm]), (kc, ai g 60 bg), (t1, ai g 11 (up (up S1 v z) (v + 1) z2)), (t2, ai g 60 E0), (t3, ai g 60 E1), (t4, ai g 60 E2), (t5, ai g 60 E3), (t6, ai g 60 E4), (ra, ob 2 [.ref rb, jv n]), (rb, ai g 60 f), (ca, ob 0 [.ref c1, .ref c2, .ref c3, .ref c4, .ref c5]), (c1, ai g 60 x2), (c2, ai g 61 F2), (c3, ai g 60 L2), (c4, ai g 60 N2), (c5, ai g 60 D2)] 0 0 [(0, .ref a), (1, .ref ra), (2, .ref ca), (3, jv e), (4, jv mo), (5, jv v)] 72 [jv ((up (up S1 v z) (v + 1) z2) (v + 1) - (up (up S1 v z) (v + 1) z2) v)]
            rw [hS1, hS0]
            refine x_iconst (pc := 72) C dX4_build_72 ?_
            refine x_icmp_le (pc := 73) C 80 dX4_build_73 rfl ⟨by omega, by omega⟩ ⟨by omega, by omega⟩ (fun c_73 => ?_) (fun c_73 => ?_)
            · refine x_iconst (pc := 80) C dX4_build_80 ?_
              refine x_istore (pc := 81) C (lv' := [(4, jv 0), (0, .ref a), (1, .ref ra), (2, .ref ca), (3, jv e), (5, jv v)]) dX4_build_81 (by decide) rfl ?_
              refine x_aload_n (pc := 83) C 1 dX4_build_83 rfl ?_
              refine x_iload (pc := 84) C 5 dX4_build_84 rfl ?_
              refine x_callV (pc := 86) C (n := 1) (q0 := 0) (rest := []) (wr := [(ra, ob 2 [.ref rb, jv n]), (rb, ai g 60 f), (ca, ob 0 [.ref c1, .ref c2, .ref c3, .ref c4, .ref c5]), (c1, ai g 60 x2), (c2, ai g 61 F2), (c3, ai g 60 L2), (c4, ai g 60 N2), (c5, ai g 60 D2)]) [0, 1, 2, 3, 4, 5, 6, 7, 8] [9, 10, 11, 12, 13, 14, 15, 16] (ctX4_layBase l g a kb kc t1 t2 t3 t4 t5 t6 (v + 1) z2 bm bg (up (up S1 v z) (v + 1) z2) E0 E1 E2 E3 E4 v hF2 ⟨by omega, by omega⟩ ⟨by omega, hgo.2.2.2.1.2.1⟩) gX4_build_X4_layBase rfl ⟨rfl, rfl⟩ (by decide +kernel) ⟨by decide, by decide⟩ rfl rfl rfl rfl rfl (by decide) (by decide) (by decide) rfl (Nat.le_of_ble_eq_true rfl) dX4_build_86 ⟨by decide, by decide⟩ (fun v_86 u_86 h_86 => ?_)
              rcases h_86 with ⟨w2, g2, rfl, rfl, f_86⟩
              refine x_world (ws' := [(a, ob 4 [.ref kb, .ref t1, .ref t2, .ref t3, .ref t4, .ref t5, .ref t6, jv (v + 1), jv z2]), (kb, ob 2 [.ref kc, jv w2]), (kc, ai g 60 g2), (t1, ai g 11 (up (up S1 v z) (v + 1) z2)), (t2, ai g 60 E0), (t3, ai g 60 E1), (t4, ai g 60 E2), (t5, ai g 60 E3), (t6, ai g 60 E4), (ra, ob 2 [.ref rb, jv n]), (rb, ai g 60 f), (ca, ob 0 [.ref c1, .ref c2, .ref c3, .ref c4, .ref c5]), (c1, ai g 60 x2), (c2, ai g 61 F2), (c3, ai g 60 L2), (c4, ai g 60 N2), (c5, ai g 60 D2)]) [8, 9, 10, 11, 12, 13, 14, 15, 16, 0, 1, 2, 3, 4, 5, 6, 7] (by decide) rfl ?_
              show X l g E ({ frames := 4, cells := 0, slots := 0, locals := 90 } : Room) 6 [(a, ob 4 [.ref kb, .ref t1, .ref t2, .ref t3, .ref t4, .ref t5, .ref t6, jv (v + 1), jv z2]), (kb, ob 2 [.ref kc, jv w2]), (kc, ai g 60 g2), (t1, ai g 11 (up (up S1 v z) (v + 1) z2)), (t2, ai g 60 E0), (t3, ai g 60 E1), (t4, ai g 60 E2), (t5, ai g 60 E3), (t6, ai g 60 E4), (ra, ob 2 [.ref rb, jv n]), (rb, ai g 60 f), (ca, ob 0 [.ref c1, .ref c2, .ref c3, .ref c4, .ref c5]), (c1, ai g 60 x2), (c2, ai g 61 F2), (c3, ai g 60 L2), (c4, ai g 60 N2), (c5, ai g 60 D2)] 0 0 [(4, jv 0), (0, .ref a), (1, .ref ra), (2, .ref ca), (3, jv e), (5, jv v)] 89 []
              refine x_iinc (pc := 89) C (lv' := [(5, jv (v + 1)), (4, jv 0), (0, .ref a), (1, .ref ra), (2, .ref ca), (3, jv e)]) 5 dX4_build_89 rfl (by decide) rfl ?_
              refine x_goto (pc := 92) C 38 dX4_build_92 rfl ?_
              refine x_locals (lv' := [(0, .ref a), (1, .ref ra), (2, .ref ca), (3, jv e), (4, jv 0), (5, jv (v + 1))]) [2, 3, 4, 5, 1, 0] rfl ?_
              refine ih38 _ _ (t + 1) _ _ _ _ _ _ _ _ _ _ _ _ _ _ ?_ ?_ ?_ ?_ ?_
              · omega
              · omega
              · exact Or.inr ⟨rfl, by rw [hv.1]; exact hgo.last he.1 hpm (by omega)⟩
              · exact hT2
              · exact hz2
            · refine x_iconst (pc := 76) C dX4_build_76 ?_
              refine x_goto (pc := 77) C 81 dX4_build_77 rfl ?_
              refine x_istore (pc := 81) C (lv' := [(4, jv 1), (0, .ref a), (1, .ref ra), (2, .ref ca), (3, jv e), (5, jv v)]) dX4_build_81 (by decide) rfl ?_
              refine x_aload_n (pc := 83) C 1 dX4_build_83 rfl ?_
              refine x_iload (pc := 84) C 5 dX4_build_84 rfl ?_
              refine x_callV (pc := 86) C (n := 1) (q0 := 0) (rest := []) (wr := [(ra, ob 2 [.ref rb, jv n]), (rb, ai g 60 f), (ca, ob 0 [.ref c1, .ref c2, .ref c3, .ref c4, .ref c5]), (c1, ai g 60 x2), (c2, ai g 61 F2), (c3, ai g 60 L2), (c4, ai g 60 N2), (c5, ai g 60 D2)]) [0, 1, 2, 3, 4, 5, 6, 7, 8] [9, 10, 11, 12, 13, 14, 15, 16] (ctX4_layBase l g a kb kc t1 t2 t3 t4 t5 t6 (v + 1) z2 bm bg (up (up S1 v z) (v + 1) z2) E0 E1 E2 E3 E4 v hF2 ⟨by omega, by omega⟩ ⟨by omega, hgo.2.2.2.1.2.1⟩) gX4_build_X4_layBase rfl ⟨rfl, rfl⟩ (by decide +kernel) ⟨by decide, by decide⟩ rfl rfl rfl rfl rfl (by decide) (by decide) (by decide) rfl (Nat.le_of_ble_eq_true rfl) dX4_build_86 ⟨by decide, by decide⟩ (fun v_86 u_86 h_86 => ?_)
              rcases h_86 with ⟨w2, g2, rfl, rfl, f_86⟩
              refine x_world (ws' := [(a, ob 4 [.ref kb, .ref t1, .ref t2, .ref t3, .ref t4, .ref t5, .ref t6, jv (v + 1), jv z2]), (kb, ob 2 [.ref kc, jv w2]), (kc, ai g 60 g2), (t1, ai g 11 (up (up S1 v z) (v + 1) z2)), (t2, ai g 60 E0), (t3, ai g 60 E1), (t4, ai g 60 E2), (t5, ai g 60 E3), (t6, ai g 60 E4), (ra, ob 2 [.ref rb, jv n]), (rb, ai g 60 f), (ca, ob 0 [.ref c1, .ref c2, .ref c3, .ref c4, .ref c5]), (c1, ai g 60 x2), (c2, ai g 61 F2), (c3, ai g 60 L2), (c4, ai g 60 N2), (c5, ai g 60 D2)]) [8, 9, 10, 11, 12, 13, 14, 15, 16, 0, 1, 2, 3, 4, 5, 6, 7] (by decide) rfl ?_
              show X l g E ({ frames := 4, cells := 0, slots := 0, locals := 90 } : Room) 6 [(a, ob 4 [.ref kb, .ref t1, .ref t2, .ref t3, .ref t4, .ref t5, .ref t6, jv (v + 1), jv z2]), (kb, ob 2 [.ref kc, jv w2]), (kc, ai g 60 g2), (t1, ai g 11 (up (up S1 v z) (v + 1) z2)), (t2, ai g 60 E0), (t3, ai g 60 E1), (t4, ai g 60 E2), (t5, ai g 60 E3), (t6, ai g 60 E4), (ra, ob 2 [.ref rb, jv n]), (rb, ai g 60 f), (ca, ob 0 [.ref c1, .ref c2, .ref c3, .ref c4, .ref c5]), (c1, ai g 60 x2), (c2, ai g 61 F2), (c3, ai g 60 L2), (c4, ai g 60 N2), (c5, ai g 60 D2)] 0 0 [(4, jv 1), (0, .ref a), (1, .ref ra), (2, .ref ca), (3, jv e), (5, jv v)] 89 []
              refine x_iinc (pc := 89) C (lv' := [(5, jv (v + 1)), (4, jv 1), (0, .ref a), (1, .ref ra), (2, .ref ca), (3, jv e)]) 5 dX4_build_89 rfl (by decide) rfl ?_
              refine x_goto (pc := 92) C 38 dX4_build_92 rfl ?_
              refine x_locals (lv' := [(0, .ref a), (1, .ref ra), (2, .ref ca), (3, jv e), (4, jv 1), (5, jv (v + 1))]) [2, 3, 4, 5, 1, 0] rfl ?_
              refine ih38 _ _ (t + 1) _ _ _ _ _ _ _ _ _ _ _ _ _ _ ?_ ?_ ?_ ?_ ?_
              · omega
              · omega
              · refine Or.inl ⟨rfl, hgo.next he.1 hok.1 (by rw [f_86.1, hS1, hS0, ← hpm]; omega) (by rw [f_86.1, hS1, hS0]; omega) (fun j j0 j1 => ?_)⟩
                rw [f_86.2 j j0 j1, hS0]
                have q := hT2.2.2 t (by omega)
                have q2 := (q.2 j j0 (by rw [← hpm]; rw [f_86.1, hS1, hS0] at j1; omega)).2.2.1
                rw [← hT.1] at q2
                exact q2
              · exact hT2
              · exact hz2
          · refine x_world (ws' := [(a, ob 4 [.ref kb, .ref t1, .ref t2, .ref t3, .ref t4, .ref t5, .ref t6, jv (v + 1), jv z2]), (kb, ob 2 [.ref kc, jv bm]), (kc, ai g 60 bg), (t1, ai g 11 (up (up S1 v z) (v + 1) z2)), (t2, ai g 60 E0), (t3, ai g 60 E1), (t4, ai g 60 E2), (t5, ai g 60 E3), (t6, ai g 60 E4), (ra, ob 2 [.ref rb, jv n]), (rb, ai g 60 f), (ca, ob 0 [.ref c1, .ref c2, .ref c3, .ref c4, .ref c5]), (c1, ai g 60 x2), (c2, ai g 61 F2), (c3, ai g 60 L2), (c4, ai g 60 N2), (c5, ai g 60 D2)]) [8, 9, 10, 11, 12, 13, 14, 15, 16, 0, 1, 2, 3, 4, 5, 6, 7] (by decide) rfl ?_
            show X l g E ({ frames := 4, cells := 0, slots := 0, locals := 90 } : Room) 6 [(a, ob 4 [.ref kb, .ref t1, .ref t2, .ref t3, .ref t4, .ref t5, .ref t6, jv (v + 1), jv z2]), (kb, ob 2 [.ref kc, jv bm]), (kc, ai g 60 bg), (t1, ai g 11 (up (up S1 v z) (v + 1) z2)), (t2, ai g 60 E0), (t3, ai g 60 E1), (t4, ai g 60 E2), (t5, ai g 60 E3), (t6, ai g 60 E4), (ra, ob 2 [.ref rb, jv n]), (rb, ai g 60 f), (ca, ob 0 [.ref c1, .ref c2, .ref c3, .ref c4, .ref c5]), (c1, ai g 60 x2), (c2, ai g 61 F2), (c3, ai g 60 L2), (c4, ai g 60 N2), (c5, ai g 60 D2)] 0 0 [(0, .ref a), (1, .ref ra), (2, .ref ca), (3, jv e), (4, jv mo), (5, jv v)] 72 [jv 0]
            omega
  refine x_if_le (pc := 25) C 32 dX4_build_25 rfl ⟨by omega, by omega⟩ (fun c_25 => ?_) (fun c_25 => ?_)
  · refine x_iconst (pc := 32) C dX4_build_32 ?_
    refine x_istore (pc := 33) C (lv' := [(4, jv 0), (0, .ref a), (1, .ref ra), (2, .ref ca), (3, jv e)]) dX4_build_33 (by decide) rfl ?_
    refine x_iconst (pc := 35) C dX4_build_35 ?_
    refine x_istore (pc := 36) C (lv' := [(5, jv 0), (4, jv 0), (0, .ref a), (1, .ref ra), (2, .ref ca), (3, jv e)]) dX4_build_36 (by decide) rfl ?_
    refine x_locals (lv' := [(0, .ref a), (1, .ref ra), (2, .ref ca), (3, jv e), (4, jv 0), (5, jv 0)]) [2, 3, 4, 5, 1, 0] rfl ?_
    refine L38 _ _ _ 0 _ _ _ _ _ _ _ _ _ _ _ _ _ _ (Nat.lt_succ_self _) ?_ ?_ ?_ ?_
    · exact ⟨rfl, by omega⟩
    · exact Or.inr ⟨rfl, Or.inl ⟨by omega, rfl⟩⟩
    · exact ⟨rfl, fun q => absurd q (by omega), fun s q => absurd q (by omega)⟩
    · omega
  · refine x_iconst (pc := 28) C dX4_build_28 ?_
    refine x_goto (pc := 29) C 33 dX4_build_29 rfl ?_
    refine x_istore (pc := 33) C (lv' := [(4, jv 1), (0, .ref a), (1, .ref ra), (2, .ref ca), (3, jv e)]) dX4_build_33 (by decide) rfl ?_
    refine x_iconst (pc := 35) C dX4_build_35 ?_
    refine x_istore (pc := 36) C (lv' := [(5, jv 0), (4, jv 1), (0, .ref a), (1, .ref ra), (2, .ref ca), (3, jv e)]) dX4_build_36 (by decide) rfl ?_
    refine x_locals (lv' := [(0, .ref a), (1, .ref ra), (2, .ref ca), (3, jv e), (4, jv 1), (5, jv 0)]) [2, 3, 4, 5, 1, 0] rfl ?_
    refine L38 _ _ _ 0 _ _ _ _ _ _ _ _ _ _ _ _ _ _ (Nat.lt_succ_self _) ?_ ?_ ?_ ?_
    · exact ⟨rfl, by omega⟩
    · exact Or.inl ⟨rfl, LvGo.first hky (by omega) (f_15.trans hy)⟩
    · exact ⟨rfl, fun q => absurd q (by omega), fun s q => absurd q (by omega)⟩
    · omega

set_option maxRecDepth 100000 in
theorem hiX4_pieceFor_4 : ∀ w ∈ wsX40, w ∈ wsX4_pieceFor := by decide +kernel
set_option maxRecDepth 100000 in
theorem hfX4_pieceFor_28 : Cond.fieldLink RX4 28 "KeyGuess$Tower" "firsts" "[I" ∈ wsX4_pieceFor := by decide +kernel
set_option maxHeartbeats 4000000 in
set_option maxRecDepth 100000 in
/-- Tower.pieceFor -/
theorem ctX4_pieceFor (l : Launch) (g : xG) (a : Nat) (kb : Nat) (kc : Nat) (t1 : Nat) (t2 : Nat) (t3 : Nat) (t4 : Nat) (t5 : Nat) (t6 : Nat) (h : Int) (sz : Int) (bn : Int) (bf : Int → Int) (S : Int → Int) (A0 : Int → Int) (A1 : Int → Int) (A2 : Int → Int) (A3 : Int → Int) (A4 : Int → Int) (f : Int → Int) (e : Int) (n : Int) (x : Int) (he : 0 ≤ e ∧ e ≤ 8) (hT : TwR f e n h sz S A0 A1 A2 A3 A4) (h1 : 1 ≤ h) (hx : 0 ≤ x ∧ x ≤ 1000000) : Ct l g yX4_pieceFor wsX4_pieceFor ({ frames := 1, cells := 0, slots := 0, locals := 21 } : Room) 0 0 [(a, ob 4 [.ref kb, .ref t1, .ref t2, .ref t3, .ref t4, .ref t5, .ref t6, jv h, jv sz]), (kb, ob 2 [.ref kc, jv bn]), (kc, ai g 60 bf), (t1, ai g 11 S), (t2, ai g 60 A0), (t3, ai g 60 A1), (t4, ai g 60 A2), (t5, ai g 60 A3), (t6, ai g 60 A4)] [.ref a, jv x] (fun v u => ∃ (p : Int), v = some (jv p) ∧ u = [(a, ob 4 [.ref kb, .ref t1, .ref t2, .ref t3, .ref t4, .ref t5, .ref t6, jv h, jv sz]), (kb, ob 2 [.ref kc, jv bn]), (kc, ai g 60 bf), (t1, ai g 11 S), (t2, ai g 60 A0), (t3, ai g 60 A1), (t4, ai g 60 A2), (t5, ai g 60 A3), (t6, ai g 60 A4)] ∧ (Pf (PM f e n) (P2 f e n) x p)) := by
  refine ct_of (cc := cX4_pieceFor) (nL := 4) (ret := (some .int)) (by decide) rfl (Nat.le_of_ble_eq_true rfl) ?_
  intro E C Rt0
  have C : Cx l g E ({ frames := 1, cells := 0, slots := 0, locals := 21 } : Room) RX4 "pieceFor" cX4_pieceFor wsX4_pieceFor 4 := C
  show X l g E ({ frames := 1, cells := 0, slots := 0, locals := 21 } : Room) 4 [(a, ob 4 [.ref kb, .ref t1, .ref t2, .ref t3, .ref t4, .ref t5, .ref t6, jv h, jv sz]), (kb, ob 2 [.ref kc, jv bn]), (kc, ai g 60 bf), (t1, ai g 11 S), (t2, ai g 60 A0), (t3, ai g 60 A1), (t4, ai g 60 A2), (t5, ai g 60 A3), (t6, ai g 60 A4)] 0 0 [(0, .ref a), (1, jv x)] 0 []
  obtain ⟨hok, hS0, hS1, hpz, hA⟩ := hT.l0 he.1 h1
  have hpm := hok.pm he.1
  have hn1 := hok.1.2.1
  have hz := hT.2.2.2.1
  have hF : TwF h sz S := hT.2.2.2.2.F he.1 hz (by have := hT.2.2.1; omega) (by have := hT.2.1; omega)
  have hz0 := hF.2.2.1
  refine x_iconst (pc := 0) C dX4_pieceFor_0 ?_
  refine x_istore_n (pc := 1) C (lv' := [(2, jv 0), (0, .ref a), (1, jv x)]) dX4_pieceFor_1 (by decide) rfl ?_
  refine x_iconst (pc := 2) C dX4_pieceFor_2 ?_
  refine x_istore_n (pc := 3) C (lv' := [(3, jv 1), (2, jv 0), (0, .ref a), (1, jv x)]) dX4_pieceFor_3 (by decide) rfl ?_
  have L4 : ∀ (nn : Nat) (u : Int) (p : Int), (PM f e n - p).toNat < nn → (1 ≤ p ∧ p ≤ PM f e n ∧ u = p - 1) → (∀ q : Int, 1 ≤ q → q < p → P2 f e n q ≤ x) → X l g E ({ frames := 1, cells := 0, slots := 0, locals := 21 } : Room) 4 [(a, ob 4 [.ref kb, .ref t1, .ref t2, .ref t3, .ref t4, .ref t5, .ref t6, jv h, jv sz]), (kb, ob 2 [.ref kc, jv bn]), (kc, ai g 60 bf), (t1, ai g 11 S), (t2, ai g 60 A0), (t3, ai g 60 A1), (t4, ai g 60 A2), (t5, ai g 60 A3), (t6, ai g 60 A4)] 0 0 [(0, .ref a), (1, jv x), (2, jv u), (3, jv p)] 4 [] := by
    intro nn
    induction nn with
    | zero => intro u p hμ; exact absurd hμ (Nat.not_lt_zero _)
    | succ nn ih4 =>
      intro u p hμ hp hlo
      refine x_iload_n (pc := 4) C 3 dX4_pieceFor_4 rfl ?_
      refine x_aload_n (pc := 5) C 0 dX4_pieceFor_5 rfl ?_
      refine x_iconst (pc := 6) C dX4_pieceFor_6 ?_
      refine x_callV (pc := 7) C (n := 1) (q0 := 0) (rest := [jv p]) (wr := []) [0, 1, 2, 3, 4, 5, 6, 7, 8] [] (ctX4_width l g a kb kc t1 t2 t3 t4 t5 t6 h sz bn bf S A0 A1 A2 A3 A4 0 hF ⟨by omega, by omega⟩) gX4_pieceFor_X4_width rfl ⟨rfl, rfl⟩ (by decide +kernel) ⟨by decide, by decide⟩ rfl rfl rfl rfl rfl (by decide) (by decide) (by decide) rfl (Nat.le_of_ble_eq_true rfl) dX4_pieceFor_7 ⟨by decide, by decide⟩ (fun v_7 u_7 h_7 => ?_)
      rcases h_7 with ⟨rfl, rfl, f_7⟩ | ⟨rfl, rfl, f_7⟩
      · refine x_world (ws' := [(a, ob 4 [.ref kb, .ref t1, .ref t2, .ref t3, .ref t4, .ref t5, .ref t6, jv h, jv sz]), (kb, ob 2 [.ref kc, jv bn]), (kc, ai g 60 bf), (t1, ai g 11 S), (t2, ai g 60 A0), (t3, ai g 60 A1), (t4, ai g 60 A2), (t5, ai g 60 A3), (t6, ai g 60 A4)]) [0, 1, 2, 3, 4, 5, 6, 7, 8] (by decide) rfl ?_
        show X l g E ({ frames := 1, cells := 0, slots := 0, locals := 21 } : Room) 4 [(a, ob 4 [.ref kb, .ref t1, .ref t2, .ref t3, .ref t4, .ref t5, .ref t6, jv h, jv sz]), (kb, ob 2 [.ref kc, jv bn]), (kc, ai g 60 bf), (t1, ai g 11 S), (t2, ai g 60 A0), (t3, ai g 60 A1), (t4, ai g 60 A2), (t5, ai g 60 A3), (t6, ai g 60 A4)] 0 0 [(0, .ref a), (1, jv x), (2, jv u), (3, jv p)] 10 [jv (S (0 + 1) - S 0), jv p]
        rw [show (0 : Int) + 1 = 1 from rfl, hS0, hS1]
        refine x_icmp_ge (pc := 10) C 39 dX4_pieceFor_10 rfl ⟨by omega, by omega⟩ ⟨by omega, by omega⟩ (fun c_10 => ?_) (fun c_10 => ?_)
        · refine x_iload_n (pc := 39) C 2 dX4_pieceFor_39 rfl ?_
          refine x_iret (pc := 40) C Rt0 dX4_pieceFor_40 rfl ?_
          refine ⟨_, rfl, rfl, ?_⟩
          refine ⟨by omega, by omega, fun q q1 q2 => hlo q q1 (by omega), fun q q1 q2 => ?_⟩
          omega
        · refine x_aload_n (pc := 13) C 0 dX4_pieceFor_13 rfl ?_
          refine x_iload_n (pc := 14) C 3 dX4_pieceFor_14 rfl ?_
          refine x_callV (pc := 15) C (n := 1) (q0 := 0) (rest := []) (wr := []) [0, 1, 2, 3, 4, 5, 6, 7, 8] [] (ctX4_isPiece l g a kb kc t1 t2 t3 t4 t5 t6 h sz bn bf S A0 A1 A2 A3 A4 p ⟨hz0, hz⟩ ⟨by omega, by omega⟩) gX4_pieceFor_X4_isPiece rfl ⟨rfl, rfl⟩ (by decide +kernel) ⟨by decide, by decide⟩ rfl rfl rfl rfl rfl (by decide) (by decide) (by decide) rfl (Nat.le_of_ble_eq_true rfl) dX4_pieceFor_15 ⟨by decide, by decide⟩ (fun v_15 u_15 h_15 => ?_)
          rcases h_15 with ⟨rfl, rfl, f_15⟩ | ⟨rfl, rfl, f_15⟩
          · refine x_world (ws' := [(a, ob 4 [.ref kb, .ref t1, .ref t2, .ref t3, .ref t4, .ref t5, .ref t6, jv h, jv sz]), (kb, ob 2 [.ref kc, jv bn]), (kc, ai g 60 bf), (t1, ai g 11 S), (t2, ai g 60 A0), (t3, ai g 60 A1), (t4, ai g 60 A2), (t5, ai g 60 A3), (t6, ai g 60 A4)]) [0, 1, 2, 3, 4, 5, 6, 7, 8] (by decide) rfl ?_
            show X l g E ({ frames := 1, cells := 0, slots := 0, locals := 21 } : Room) 4 [(a, ob 4 [.ref kb, .ref t1, .ref t2, .ref t3, .ref t4, .ref t5, .ref t6, jv h, jv sz]), (kb, ob 2 [.ref kc, jv bn]), (kc, ai g 60 bf), (t1, ai g 11 S), (t2, ai g 60 A0), (t3, ai g 60 A1), (t4, ai g 60 A2), (t5, ai g 60 A3), (t6, ai g 60 A4)] 0 0 [(0, .ref a), (1, jv x), (2, jv u), (3, jv p)] 18 [jv 1]
            refine x_if_eq (pc := 18) C 39 dX4_pieceFor_18 rfl ⟨by decide, by decide⟩ (fun h => absurd h (by decide)) (fun _ => ?_)
            refine x_aload_n (pc := 21) C 0 dX4_pieceFor_21 rfl ?_
            refine x_get (pc := 22) C 0 4 dX4_pieceFor_22 hiX4_pieceFor_4 hfX4_pieceFor_28 rfl rfl rfl (by decide) rfl ?_
            refine x_iload_n (pc := 25) C 3 dX4_pieceFor_25 rfl ?_
            refine x_iald (pc := 26) C 6 dX4_pieceFor_26 rfl (by omega) (by omega) (by decide) ?_
            have ha := (hA p (by omega) (by omega)).2.2.1
            have hb := hok.p he.1 (k := p) (by omega) (by omega)
            refine x_iload_n (pc := 27) C 1 dX4_pieceFor_27 rfl ?_
            refine x_icmp_gt (pc := 28) C 39 dX4_pieceFor_28 rfl ⟨by omega, by omega⟩ ⟨by omega, by omega⟩ (fun c_28 => ?_) (fun c_28 => ?_)
            · refine x_iload_n (pc := 39) C 2 dX4_pieceFor_39 rfl ?_
              refine x_iret (pc := 40) C Rt0 dX4_pieceFor_40 rfl ?_
              refine ⟨_, rfl, rfl, ?_⟩
              refine ⟨by omega, by omega, fun q q1 q2 => hlo q q1 (by omega), fun q q1 q2 => ?_⟩
              have hkr := hok.next he.1
              have := hkr.le (i := p) (j := q) (by omega) (by omega) q2
              omega
            · refine x_iload_n (pc := 31) C 3 dX4_pieceFor_31 rfl ?_
              refine x_istore_n (pc := 32) C (lv' := [(2, jv p), (0, .ref a), (1, jv x), (3, jv p)]) dX4_pieceFor_32 (by decide) rfl ?_
              refine x_iinc (pc := 33) C (lv' := [(3, jv (p + 1)), (2, jv p), (0, .ref a), (1, jv x)]) 3 dX4_pieceFor_33 rfl (by decide) rfl ?_
              refine x_goto (pc := 36) C 4 dX4_pieceFor_36 rfl ?_
              refine x_locals (lv' := [(0, .ref a), (1, jv x), (2, jv p), (3, jv (p + 1))]) [2, 3, 1, 0] rfl ?_
              refine ih4 _ _ ?_ ?_ ?_
              · omega
              · omega
              · intro q q1 q2
                by_cases z : q = p
                · rw [z]; omega
                · exact hlo q q1 (by omega)
          · refine x_world (ws' := [(a, ob 4 [.ref kb, .ref t1, .ref t2, .ref t3, .ref t4, .ref t5, .ref t6, jv h, jv sz]), (kb, ob 2 [.ref kc, jv bn]), (kc, ai g 60 bf), (t1, ai g 11 S), (t2, ai g 60 A0), (t3, ai g 60 A1), (t4, ai g 60 A2), (t5, ai g 60 A3), (t6, ai g 60 A4)]) [0, 1, 2, 3, 4, 5, 6, 7, 8] (by decide) rfl ?_
            show X l g E ({ frames := 1, cells := 0, slots := 0, locals := 21 } : Room) 4 [(a, ob 4 [.ref kb, .ref t1, .ref t2, .ref t3, .ref t4, .ref t5, .ref t6, jv h, jv sz]), (kb, ob 2 [.ref kc, jv bn]), (kc, ai g 60 bf), (t1, ai g 11 S), (t2, ai g 60 A0), (t3, ai g 60 A1), (t4, ai g 60 A2), (t5, ai g 60 A3), (t6, ai g 60 A4)] 0 0 [(0, .ref a), (1, jv x), (2, jv u), (3, jv p)] 18 [jv 0]
            omega
      · refine x_world (ws' := [(a, ob 4 [.ref kb, .ref t1, .ref t2, .ref t3, .ref t4, .ref t5, .ref t6, jv h, jv sz]), (kb, ob 2 [.ref kc, jv bn]), (kc, ai g 60 bf), (t1, ai g 11 S), (t2, ai g 60 A0), (t3, ai g 60 A1), (t4, ai g 60 A2), (t5, ai g 60 A3), (t6, ai g 60 A4)]) [0, 1, 2, 3, 4, 5, 6, 7, 8] (by decide) rfl ?_
        show X l g E ({ frames := 1, cells := 0, slots := 0, locals := 21 } : Room) 4 [(a, ob 4 [.ref kb, .ref t1, .ref t2, .ref t3, .ref t4, .ref t5, .ref t6, jv h, jv sz]), (kb, ob 2 [.ref kc, jv bn]), (kc, ai g 60 bf), (t1, ai g 11 S), (t2, ai g 60 A0), (t3, ai g 60 A1), (t4, ai g 60 A2), (t5, ai g 60 A3), (t6, ai g 60 A4)] 0 0 [(0, .ref a), (1, jv x), (2, jv u), (3, jv p)] 10 [jv 0, jv p]
        omega
  refine x_locals (lv' := [(0, .ref a), (1, jv x), (2, jv 0), (3, jv 1)]) [2, 3, 1, 0] rfl ?_
  refine L4 _ _ _ (Nat.lt_succ_self _) ?_ ?_
  · omega
  · exact fun q q1 q2 => absurd q1 (by omega)

set_option maxRecDepth 100000 in
theorem hiX4_fromOf_4 : ∀ w ∈ wsX40, w ∈ wsX4_fromOf := by decide +kernel
set_option maxRecDepth 100000 in
theorem hfX4_fromOf_22 : Cond.fieldLink RX4 22 "KeyGuess$Tower" "froms" "[I" ∈ wsX4_fromOf := by decide +kernel
set_option maxHeartbeats 4000000 in
set_option maxRecDepth 100000 in
/-- Tower.fromOf -/
theorem ctX4_fromOf (l : Launch) (g : xG) (a : Nat) (kb : Nat) (kc : Nat) (t1 : Nat) (t2 : Nat) (t3 : Nat) (t4 : Nat) (t5 : Nat) (t6 : Nat) (h : Int) (sz : Int) (bn : Int) (bf : Int → Int) (S : Int → Int) (A0 : Int → Int) (A1 : Int → Int) (A2 : Int → Int) (A3 : Int → Int) (A4 : Int → Int) (f : Int → Int) (e : Int) (n : Int) (p : Int) (he : 0 ≤ e ∧ e ≤ 8) (hT : TwR f e n h sz S A0 A1 A2 A3 A4) (h1 : 1 ≤ h) (hp : 0 ≤ p ∧ p < PM f e n) : Ct l g yX4_fromOf wsX4_fromOf ({ frames := 1, cells := 0, slots := 0, locals := 21 } : Room) 0 0 [(a, ob 4 [.ref kb, .ref t1, .ref t2, .ref t3, .ref t4, .ref t5, .ref t6, jv h, jv sz]), (kb, ob 2 [.ref kc, jv bn]), (kc, ai g 60 bf), (t1, ai g 11 S), (t2, ai g 60 A0), (t3, ai g 60 A1), (t4, ai g 60 A2), (t5, ai g 60 A3), (t6, ai g 60 A4)] [.ref a, jv p] (fun v u => ∃ (r : Int), v = some (jv r) ∧ u = [(a, ob 4 [.ref kb, .ref t1, .ref t2, .ref t3, .ref t4, .ref t5, .ref t6, jv h, jv sz]), (kb, ob 2 [.ref kc, jv bn]), (kc, ai g 60 bf), (t1, ai g 11 S), (t2, ai g 60 A0), (t3, ai g 60 A1), (t4, ai g 60 A2), (t5, ai g 60 A3), (t6, ai g 60 A4)] ∧ (r = P0 f e n p)) := by
  refine ct_of (cc := cX4_fromOf) (nL := 2) (ret := (some .int)) (by decide) rfl (Nat.le_of_ble_eq_true rfl) ?_
  intro E C Rt0
  have C : Cx l g E ({ frames := 1, cells := 0, slots := 0, locals := 21 } : Room) RX4 "fromOf" cX4_fromOf wsX4_fromOf 2 := C
  show X l g E ({ frames := 1, cells := 0, slots := 0, locals := 21 } : Room) 2 [(a, ob 4 [.ref kb, .ref t1, .ref t2, .ref t3, .ref t4, .ref t5, .ref t6, jv h, jv sz]), (kb, ob 2 [.ref kc, jv bn]), (kc, ai g 60 bf), (t1, ai g 11 S), (t2, ai g 60 A0), (t3, ai g 60 A1), (t4, ai g 60 A2), (t5, ai g 60 A3), (t6, ai g 60 A4)] 0 0 [(0, .ref a), (1, jv p)] 0 []
  obtain ⟨hok, hS0, hS1, hpz, hA⟩ := hT.l0 he.1 h1
  have hpm := hok.pm he.1
  have hn1 := hok.1.2.1
  have hz := hT.2.2.2.1
  have hF : TwF h sz S := hT.2.2.2.2.F he.1 hz (by have := hT.2.2.1; omega) (by have := hT.2.1; omega)
  have hz0 := hF.2.2.1
  refine x_aload_n (pc := 0) C 0 dX4_fromOf_0 rfl ?_
  refine x_iload_n (pc := 1) C 1 dX4_fromOf_1 rfl ?_
  refine x_callV (pc := 2) C (n := 1) (q0 := 0) (rest := []) (wr := []) [0, 1, 2, 3, 4, 5, 6, 7, 8] [] (ctX4_isPiece l g a kb kc t1 t2 t3 t4 t5 t6 h sz bn bf S A0 A1 A2 A3 A4 p ⟨hz0, hz⟩ ⟨by omega, by omega⟩) gX4_fromOf_X4_isPiece rfl ⟨rfl, rfl⟩ (by decide +kernel) ⟨by decide, by decide⟩ rfl rfl rfl rfl rfl (by decide) (by decide) (by decide) rfl (Nat.le_of_ble_eq_true rfl) dX4_fromOf_2 ⟨by decide, by decide⟩ (fun v_2 u_2 h_2 => ?_)
  rcases h_2 with ⟨rfl, rfl, f_2⟩ | ⟨rfl, rfl, f_2⟩
  · refine x_world (ws' := [(a, ob 4 [.ref kb, .ref t1, .ref t2, .ref t3, .ref t4, .ref t5, .ref t6, jv h, jv sz]), (kb, ob 2 [.ref kc, jv bn]), (kc, ai g 60 bf), (t1, ai g 11 S), (t2, ai g 60 A0), (t3, ai g 60 A1), (t4, ai g 60 A2), (t5, ai g 60 A3), (t6, ai g 60 A4)]) [0, 1, 2, 3, 4, 5, 6, 7, 8] (by decide) rfl ?_
    show X l g E ({ frames := 1, cells := 0, slots := 0, locals := 21 } : Room) 2 [(a, ob 4 [.ref kb, .ref t1, .ref t2, .ref t3, .ref t4, .ref t5, .ref t6, jv h, jv sz]), (kb, ob 2 [.ref kc, jv bn]), (kc, ai g 60 bf), (t1, ai g 11 S), (t2, ai g 60 A0), (t3, ai g 60 A1), (t4, ai g 60 A2), (t5, ai g 60 A3), (t6, ai g 60 A4)] 0 0 [(0, .ref a), (1, jv p)] 5 [jv 1]
    refine x_if_eq (pc := 5) C 17 dX4_fromOf_5 rfl ⟨by decide, by decide⟩ (fun h => absurd h (by decide)) (fun _ => ?_)
    refine x_aload_n (pc := 8) C 0 dX4_fromOf_8 rfl ?_
    refine x_get (pc := 9) C 0 2 dX4_fromOf_9 hiX4_fromOf_4 hfX4_fromOf_22 rfl rfl rfl (by decide) rfl ?_
    refine x_iload_n (pc := 12) C 1 dX4_fromOf_12 rfl ?_
    refine x_iald (pc := 13) C 4 dX4_fromOf_13 rfl (by omega) (by omega) (by decide) ?_
    refine x_goto (pc := 14) C 18 dX4_fromOf_14 rfl ?_
    refine x_iret (pc := 18) C Rt0 dX4_fromOf_18 rfl ?_
    refine ⟨_, rfl, rfl, ?_⟩
    exact (hA p hp.1 hp.2).1
  · refine x_world (ws' := [(a, ob 4 [.ref kb, .ref t1, .ref t2, .ref t3, .ref t4, .ref t5, .ref t6, jv h, jv sz]), (kb, ob 2 [.ref kc, jv bn]), (kc, ai g 60 bf), (t1, ai g 11 S), (t2, ai g 60 A0), (t3, ai g 60 A1), (t4, ai g 60 A2), (t5, ai g 60 A3), (t6, ai g 60 A4)]) [0, 1, 2, 3, 4, 5, 6, 7, 8] (by decide) rfl ?_
    show X l g E ({ frames := 1, cells := 0, slots := 0, locals := 21 } : Room) 2 [(a, ob 4 [.ref kb, .ref t1, .ref t2, .ref t3, .ref t4, .ref t5, .ref t6, jv h, jv sz]), (kb, ob 2 [.ref kc, jv bn]), (kc, ai g 60 bf), (t1, ai g 11 S), (t2, ai g 60 A0), (t3, ai g 60 A1), (t4, ai g 60 A2), (t5, ai g 60 A3), (t6, ai g 60 A4)] 0 0 [(0, .ref a), (1, jv p)] 5 [jv 0]
    omega

set_option maxRecDepth 100000 in
theorem hiX4_lastOf_4 : ∀ w ∈ wsX40, w ∈ wsX4_lastOf := by decide +kernel
set_option maxRecDepth 100000 in
theorem hfX4_lastOf_25 : Cond.fieldLink RX4 25 "KeyGuess$Tower" "lasts" "[I" ∈ wsX4_lastOf := by decide +kernel
set_option maxHeartbeats 4000000 in
set_option maxRecDepth 100000 in
/-- Tower.lastOf -/
theorem ctX4_lastOf (l : Launch) (g : xG) (a : Nat) (kb : Nat) (kc : Nat) (t1 : Nat) (t2 : Nat) (t3 : Nat) (t4 : Nat) (t5 : Nat) (t6 : Nat) (h : Int) (sz : Int) (bn : Int) (bf : Int → Int) (S : Int → Int) (A0 : Int → Int) (A1 : Int → Int) (A2 : Int → Int) (A3 : Int → Int) (A4 : Int → Int) (f : Int → Int) (e : Int) (n : Int) (p : Int) (he : 0 ≤ e ∧ e ≤ 8) (hT : TwR f e n h sz S A0 A1 A2 A3 A4) (h1 : 1 ≤ h) (hp : 0 ≤ p ∧ p < PM f e n) : Ct l g yX4_lastOf wsX4_lastOf ({ frames := 1, cells := 0, slots := 0, locals := 21 } : Room) 0 0 [(a, ob 4 [.ref kb, .ref t1, .ref t2, .ref t3, .ref t4, .ref t5, .ref t6, jv h, jv sz]), (kb, ob 2 [.ref kc, jv bn]), (kc, ai g 60 bf), (t1, ai g 11 S), (t2, ai g 60 A0), (t3, ai g 60 A1), (t4, ai g 60 A2), (t5, ai g 60 A3), (t6, ai g 60 A4)] [.ref a, jv p] (fun v u => ∃ (r : Int), v = some (jv r) ∧ u = [(a, ob 4 [.ref kb, .ref t1, .ref t2, .ref t3, .ref t4, .ref t5, .ref t6, jv h, jv sz]), (kb, ob 2 [.ref kc, jv bn]), (kc, ai g 60 bf), (t1, ai g 11 S), (t2, ai g 60 A0), (t3, ai g 60 A1), (t4, ai g 60 A2), (t5, ai g 60 A3), (t6, ai g 60 A4)] ∧ (r = P1 f e n p)) := by
  refine ct_of (cc := cX4_lastOf) (nL := 2) (ret := (some .int)) (by decide) rfl (Nat.le_of_ble_eq_true rfl) ?_
  intro E C Rt0
  have C : Cx l g E ({ frames := 1, cells := 0, slots := 0, locals := 21 } : Room) RX4 "lastOf" cX4_lastOf wsX4_lastOf 2 := C
  show X l g E ({ frames := 1, cells := 0, slots := 0, locals := 21 } : Room) 2 [(a, ob 4 [.ref kb, .ref t1, .ref t2, .ref t3, .ref t4, .ref t5, .ref t6, jv h, jv sz]), (kb, ob 2 [.ref kc, jv bn]), (kc, ai g 60 bf), (t1, ai g 11 S), (t2, ai g 60 A0), (t3, ai g 60 A1), (t4, ai g 60 A2), (t5, ai g 60 A3), (t6, ai g 60 A4)] 0 0 [(0, .ref a), (1, jv p)] 0 []
  obtain ⟨hok, hS0, hS1, hpz, hA⟩ := hT.l0 he.1 h1
  have hpm := hok.pm he.1
  have hn1 := hok.1.2.1
  have hz := hT.2.2.2.1
  have hF : TwF h sz S := hT.2.2.2.2.F he.1 hz (by have := hT.2.2.1; omega) (by have := hT.2.1; omega)
  have hz0 := hF.2.2.1
  refine x_aload_n (pc := 0) C 0 dX4_lastOf_0 rfl ?_
  refine x_iload_n (pc := 1) C 1 dX4_lastOf_1 rfl ?_
  refine x_callV (pc := 2) C (n := 1) (q0 := 0) (rest := []) (wr := []) [0, 1, 2, 3, 4, 5, 6, 7, 8] [] (ctX4_isPiece l g a kb kc t1 t2 t3 t4 t5 t6 h sz bn bf S A0 A1 A2 A3 A4 p ⟨hz0, hz⟩ ⟨by omega, by omega⟩) gX4_lastOf_X4_isPiece rfl ⟨rfl, rfl⟩ (by decide +kernel) ⟨by decide, by decide⟩ rfl rfl rfl rfl rfl (by decide) (by decide) (by decide) rfl (Nat.le_of_ble_eq_true rfl) dX4_lastOf_2 ⟨by decide, by decide⟩ (fun v_2 u_2 h_2 => ?_)
  rcases h_2 with ⟨rfl, rfl, f_2⟩ | ⟨rfl, rfl, f_2⟩
  · refine x_world (ws' := [(a, ob 4 [.ref kb, .ref t1, .ref t2, .ref t3, .ref t4, .ref t5, .ref t6, jv h, jv sz]), (kb, ob 2 [.ref kc, jv bn]), (kc, ai g 60 bf), (t1, ai g 11 S), (t2, ai g 60 A0), (t3, ai g 60 A1), (t4, ai g 60 A2), (t5, ai g 60 A3), (t6, ai g 60 A4)]) [0, 1, 2, 3, 4, 5, 6, 7, 8] (by decide) rfl ?_
    show X l g E ({ frames := 1, cells := 0, slots := 0, locals := 21 } : Room) 2 [(a, ob 4 [.ref kb, .ref t1, .ref t2, .ref t3, .ref t4, .ref t5, .ref t6, jv h, jv sz]), (kb, ob 2 [.ref kc, jv bn]), (kc, ai g 60 bf), (t1, ai g 11 S), (t2, ai g 60 A0), (t3, ai g 60 A1), (t4, ai g 60 A2), (t5, ai g 60 A3), (t6, ai g 60 A4)] 0 0 [(0, .ref a), (1, jv p)] 5 [jv 1]
    refine x_if_eq (pc := 5) C 17 dX4_lastOf_5 rfl ⟨by decide, by decide⟩ (fun h => absurd h (by decide)) (fun _ => ?_)
    refine x_aload_n (pc := 8) C 0 dX4_lastOf_8 rfl ?_
    refine x_get (pc := 9) C 0 3 dX4_lastOf_9 hiX4_lastOf_4 hfX4_lastOf_25 rfl rfl rfl (by decide) rfl ?_
    refine x_iload_n (pc := 12) C 1 dX4_lastOf_12 rfl ?_
    refine x_iald (pc := 13) C 5 dX4_lastOf_13 rfl (by omega) (by omega) (by decide) ?_
    refine x_goto (pc := 14) C 18 dX4_lastOf_14 rfl ?_
    refine x_iret (pc := 18) C Rt0 dX4_lastOf_18 rfl ?_
    refine ⟨_, rfl, rfl, ?_⟩
    exact (hA p hp.1 hp.2).2.1
  · refine x_world (ws' := [(a, ob 4 [.ref kb, .ref t1, .ref t2, .ref t3, .ref t4, .ref t5, .ref t6, jv h, jv sz]), (kb, ob 2 [.ref kc, jv bn]), (kc, ai g 60 bf), (t1, ai g 11 S), (t2, ai g 60 A0), (t3, ai g 60 A1), (t4, ai g 60 A2), (t5, ai g 60 A3), (t6, ai g 60 A4)]) [0, 1, 2, 3, 4, 5, 6, 7, 8] (by decide) rfl ?_
    show X l g E ({ frames := 1, cells := 0, slots := 0, locals := 21 } : Room) 2 [(a, ob 4 [.ref kb, .ref t1, .ref t2, .ref t3, .ref t4, .ref t5, .ref t6, jv h, jv sz]), (kb, ob 2 [.ref kc, jv bn]), (kc, ai g 60 bf), (t1, ai g 11 S), (t2, ai g 60 A0), (t3, ai g 60 A1), (t4, ai g 60 A2), (t5, ai g 60 A3), (t6, ai g 60 A4)] 0 0 [(0, .ref a), (1, jv p)] 5 [jv 0]
    omega

set_option maxRecDepth 100000 in
theorem hiX4_rankBy_4 : ∀ w ∈ wsX40, w ∈ wsX4_rankBy := by decide +kernel
set_option maxRecDepth 100000 in
theorem hfX4_rankBy_34 : Cond.fieldLink RX4 34 "KeyGuess$Tower" "slopeDens" "[I" ∈ wsX4_rankBy := by decide +kernel
set_option maxRecDepth 100000 in
theorem hfX4_rankBy_31 : Cond.fieldLink RX4 31 "KeyGuess$Tower" "slopeNums" "[I" ∈ wsX4_rankBy := by decide +kernel
set_option maxRecDepth 100000 in
theorem hfX4_rankBy_28 : Cond.fieldLink RX4 28 "KeyGuess$Tower" "firsts" "[I" ∈ wsX4_rankBy := by decide +kernel
set_option maxRecDepth 100000 in
theorem hfX4_rankBy_22 : Cond.fieldLink RX4 22 "KeyGuess$Tower" "froms" "[I" ∈ wsX4_rankBy := by decide +kernel
set_option maxRecDepth 100000 in
theorem hfX4_rankBy_25 : Cond.fieldLink RX4 25 "KeyGuess$Tower" "lasts" "[I" ∈ wsX4_rankBy := by decide +kernel
set_option maxHeartbeats 4000000 in
set_option maxRecDepth 100000 in
/-- Tower.rankBy -/
theorem ctX4_rankBy (l : Launch) (g : xG) (a : Nat) (kb : Nat) (kc : Nat) (t1 : Nat) (t2 : Nat) (t3 : Nat) (t4 : Nat) (t5 : Nat) (t6 : Nat) (h : Int) (sz : Int) (bn : Int) (bf : Int → Int) (S : Int → Int) (A0 : Int → Int) (A1 : Int → Int) (A2 : Int → Int) (A3 : Int → Int) (A4 : Int → Int) (f : Int → Int) (e : Int) (n : Int) (p : Int) (x : Int) (he : 0 ≤ e ∧ e ≤ 8) (hT : TwR f e n h sz S A0 A1 A2 A3 A4) (h1 : 1 ≤ h) (hp : 0 ≤ p ∧ p < PM f e n) (hx : 0 ≤ x ∧ x ≤ 1000000) : Ct l g yX4_rankBy wsX4_rankBy ({ frames := 1, cells := 0, slots := 0, locals := 22 } : Room) 0 0 [(a, ob 4 [.ref kb, .ref t1, .ref t2, .ref t3, .ref t4, .ref t5, .ref t6, jv h, jv sz]), (kb, ob 2 [.ref kc, jv bn]), (kc, ai g 60 bf), (t1, ai g 11 S), (t2, ai g 60 A0), (t3, ai g 60 A1), (t4, ai g 60 A2), (t5, ai g 60 A3), (t6, ai g 60 A4)] [.ref a, jv p, jv x] (fun v u => ∃ (r : Int), v = some (jv r) ∧ u = [(a, ob 4 [.ref kb, .ref t1, .ref t2, .ref t3, .ref t4, .ref t5, .ref t6, jv h, jv sz]), (kb, ob 2 [.ref kc, jv bn]), (kc, ai g 60 bf), (t1, ai g 11 S), (t2, ai g 60 A0), (t3, ai g 60 A1), (t4, ai g 60 A2), (t5, ai g 60 A3), (t6, ai g 60 A4)] ∧ (r = gs f e n p x)) := by
  refine ct_of (cc := cX4_rankBy) (nL := 4) (ret := (some .int)) (by decide) rfl (Nat.le_of_ble_eq_true rfl) ?_
  intro E C Rt0
  have C : Cx l g E ({ frames := 1, cells := 0, slots := 0, locals := 22 } : Room) RX4 "rankBy" cX4_rankBy wsX4_rankBy 4 := C
  show X l g E ({ frames := 1, cells := 0, slots := 0, locals := 22 } : Room) 4 [(a, ob 4 [.ref kb, .ref t1, .ref t2, .ref t3, .ref t4, .ref t5, .ref t6, jv h, jv sz]), (kb, ob 2 [.ref kc, jv bn]), (kc, ai g 60 bf), (t1, ai g 11 S), (t2, ai g 60 A0), (t3, ai g 60 A1), (t4, ai g 60 A2), (t5, ai g 60 A3), (t6, ai g 60 A4)] 0 0 [(0, .ref a), (1, jv p), (2, jv x)] 0 []
  obtain ⟨hok, hS0, hS1, hpz, hA⟩ := hT.l0 he.1 h1
  have hpm := hok.pm he.1
  have hn1 := hok.1.2.1
  have hz := hT.2.2.2.1
  have hF : TwF h sz S := hT.2.2.2.2.F he.1 hz (by have := hT.2.2.1; omega) (by have := hT.2.1; omega)
  have hz0 := hF.2.2.1
  obtain ⟨a0, a1, a2, a3, a4⟩ := hA p hp.1 hp.2
  obtain ⟨b0, b1, b2, b3, b4, b5, b6, b7, b8⟩ := hok.p he.1 hp.1 hp.2
  have hmb : -100000000 ≤ A3 p * (x - A2 p) ∧ A3 p * (x - A2 p) ≤ 100000000 := by
    rw [a3, a2]; exact mrs (by omega) (by omega)
  have hdb : -100000000 ≤ A3 p * (x - A2 p) / A4 p ∧ A3 p * (x - A2 p) / A4 p ≤ 100000000 := dvb (by omega) hmb
  refine x_aload_n (pc := 0) C 0 dX4_rankBy_0 rfl ?_
  refine x_iload_n (pc := 1) C 1 dX4_rankBy_1 rfl ?_
  refine x_callV (pc := 2) C (n := 1) (q0 := 0) (rest := []) (wr := []) [0, 1, 2, 3, 4, 5, 6, 7, 8] [] (ctX4_isPiece l g a kb kc t1 t2 t3 t4 t5 t6 h sz bn bf S A0 A1 A2 A3 A4 p ⟨hz0, hz⟩ ⟨by omega, by omega⟩) gX4_rankBy_X4_isPiece rfl ⟨rfl, rfl⟩ (by decide +kernel) ⟨by decide, by decide⟩ rfl rfl rfl rfl rfl (by decide) (by decide) (by decide) rfl (Nat.le_of_ble_eq_true rfl) dX4_rankBy_2 ⟨by decide, by decide⟩ (fun v_2 u_2 h_2 => ?_)
  rcases h_2 with ⟨rfl, rfl, f_2⟩ | ⟨rfl, rfl, f_2⟩
  · refine x_world (ws' := [(a, ob 4 [.ref kb, .ref t1, .ref t2, .ref t3, .ref t4, .ref t5, .ref t6, jv h, jv sz]), (kb, ob 2 [.ref kc, jv bn]), (kc, ai g 60 bf), (t1, ai g 11 S), (t2, ai g 60 A0), (t3, ai g 60 A1), (t4, ai g 60 A2), (t5, ai g 60 A3), (t6, ai g 60 A4)]) [0, 1, 2, 3, 4, 5, 6, 7, 8] (by decide) rfl ?_
    show X l g E ({ frames := 1, cells := 0, slots := 0, locals := 22 } : Room) 4 [(a, ob 4 [.ref kb, .ref t1, .ref t2, .ref t3, .ref t4, .ref t5, .ref t6, jv h, jv sz]), (kb, ob 2 [.ref kc, jv bn]), (kc, ai g 60 bf), (t1, ai g 11 S), (t2, ai g 60 A0), (t3, ai g 60 A1), (t4, ai g 60 A2), (t5, ai g 60 A3), (t6, ai g 60 A4)] 0 0 [(0, .ref a), (1, jv p), (2, jv x)] 5 [jv 1]
    refine x_if_eq (pc := 5) C 17 dX4_rankBy_5 rfl ⟨by decide, by decide⟩ (fun h => absurd h (by decide)) (fun _ => ?_)
    refine x_aload_n (pc := 8) C 0 dX4_rankBy_8 rfl ?_
    refine x_get (pc := 9) C 0 6 dX4_rankBy_9 hiX4_rankBy_4 hfX4_rankBy_34 rfl rfl rfl (by decide) rfl ?_
    refine x_iload_n (pc := 12) C 1 dX4_rankBy_12 rfl ?_
    refine x_iald (pc := 13) C 8 dX4_rankBy_13 rfl (by omega) (by omega) (by decide) ?_
    refine x_if_gt (pc := 14) C 19 dX4_rankBy_14 rfl ⟨by omega, by omega⟩ (fun c_14 => ?_) (fun c_14 => ?_)
    · refine x_aload_n (pc := 19) C 0 dX4_rankBy_19 rfl ?_
      refine x_get (pc := 20) C 0 5 dX4_rankBy_20 hiX4_rankBy_4 hfX4_rankBy_31 rfl rfl rfl (by decide) rfl ?_
      refine x_iload_n (pc := 23) C 1 dX4_rankBy_23 rfl ?_
      refine x_iald (pc := 24) C 7 dX4_rankBy_24 rfl (by omega) (by omega) (by decide) ?_
      refine x_iload_n (pc := 25) C 2 dX4_rankBy_25 rfl ?_
      refine x_aload_n (pc := 26) C 0 dX4_rankBy_26 rfl ?_
      refine x_get (pc := 27) C 0 4 dX4_rankBy_27 hiX4_rankBy_4 hfX4_rankBy_28 rfl rfl rfl (by decide) rfl ?_
      refine x_iload_n (pc := 30) C 1 dX4_rankBy_30 rfl ?_
      refine x_iald (pc := 31) C 6 dX4_rankBy_31 rfl (by omega) (by omega) (by decide) ?_
      refine x_isub (pc := 32) C dX4_rankBy_32 ?_
      refine x_imul (pc := 33) C dX4_rankBy_33 ?_
      refine x_aload_n (pc := 34) C 0 dX4_rankBy_34 rfl ?_
      refine x_get (pc := 35) C 0 6 dX4_rankBy_35 hiX4_rankBy_4 hfX4_rankBy_34 rfl rfl rfl (by decide) rfl ?_
      refine x_iload_n (pc := 38) C 1 dX4_rankBy_38 rfl ?_
      refine x_iald (pc := 39) C 8 dX4_rankBy_39 rfl (by omega) (by omega) (by decide) ?_
      refine x_callS (pc := 40) C (n := 2) (rest := []) (wr := [(a, ob 4 [.ref kb, .ref t1, .ref t2, .ref t3, .ref t4, .ref t5, .ref t6, jv h, jv sz]), (kb, ob 2 [.ref kc, jv bn]), (kc, ai g 60 bf), (t1, ai g 11 S), (t2, ai g 60 A0), (t3, ai g 60 A1), (t4, ai g 60 A2), (t5, ai g 60 A3), (t6, ai g 60 A4)]) [] [0, 1, 2, 3, 4, 5, 6, 7, 8] (ctJ9_floorDiv_7cf53 l g (A3 p * (x - A2 p)) (A4 p) ⟨by omega, by omega⟩ ⟨by omega, by omega⟩) gX4_rankBy_J9_floorDiv_7cf53 rfl (by decide +kernel) ⟨rfl, rfl⟩ ⟨by decide, by decide⟩ rfl rfl rfl (by decide) (by decide) (by decide) rfl (Nat.le_of_ble_eq_true rfl) dX4_rankBy_40 ⟨by decide, by decide⟩ (fun v_40 u_40 h_40 => ?_)
      rcases h_40 with ⟨r, rfl, rfl, f_40⟩
      refine x_world (ws' := [(a, ob 4 [.ref kb, .ref t1, .ref t2, .ref t3, .ref t4, .ref t5, .ref t6, jv h, jv sz]), (kb, ob 2 [.ref kc, jv bn]), (kc, ai g 60 bf), (t1, ai g 11 S), (t2, ai g 60 A0), (t3, ai g 60 A1), (t4, ai g 60 A2), (t5, ai g 60 A3), (t6, ai g 60 A4)]) [0, 1, 2, 3, 4, 5, 6, 7, 8] (by decide) rfl ?_
      show X l g E ({ frames := 1, cells := 0, slots := 0, locals := 22 } : Room) 4 [(a, ob 4 [.ref kb, .ref t1, .ref t2, .ref t3, .ref t4, .ref t5, .ref t6, jv h, jv sz]), (kb, ob 2 [.ref kc, jv bn]), (kc, ai g 60 bf), (t1, ai g 11 S), (t2, ai g 60 A0), (t3, ai g 60 A1), (t4, ai g 60 A2), (t5, ai g 60 A3), (t6, ai g 60 A4)] 0 0 [(0, .ref a), (1, jv p), (2, jv x)] 43 [jv r]
      refine x_istore_n (pc := 43) C (lv' := [(3, jv r), (0, .ref a), (1, jv p), (2, jv x)]) dX4_rankBy_43 (by decide) rfl ?_
      refine x_aload_n (pc := 44) C 1 dX4_rankBy_44 rfl ?_
      refine x_get (pc := 45) C 0 2 dX4_rankBy_45 hiX4_rankBy_4 hfX4_rankBy_22 rfl rfl rfl (by decide) rfl ?_
      refine x_iload_n (pc := 48) C 2 dX4_rankBy_48 rfl ?_
      refine x_iald (pc := 49) C 4 dX4_rankBy_49 rfl (by omega) (by omega) (by decide) ?_
      refine x_aload_n (pc := 50) C 1 dX4_rankBy_50 rfl ?_
      refine x_get (pc := 51) C 0 3 dX4_rankBy_51 hiX4_rankBy_4 hfX4_rankBy_25 rfl rfl rfl (by decide) rfl ?_
      refine x_iload_n (pc := 54) C 2 dX4_rankBy_54 rfl ?_
      refine x_iald (pc := 55) C 5 dX4_rankBy_55 rfl (by omega) (by omega) (by decide) ?_
      refine x_aload_n (pc := 56) C 1 dX4_rankBy_56 rfl ?_
      refine x_get (pc := 57) C 0 2 dX4_rankBy_57 hiX4_rankBy_4 hfX4_rankBy_22 rfl rfl rfl (by decide) rfl ?_
      refine x_iload_n (pc := 60) C 2 dX4_rankBy_60 rfl ?_
      refine x_iald (pc := 61) C 4 dX4_rankBy_61 rfl (by omega) (by omega) (by decide) ?_
      refine x_iload_n (pc := 62) C 0 dX4_rankBy_62 rfl ?_
      refine x_iadd (pc := 63) C dX4_rankBy_63 ?_
      refine x_mmin (pc := 64) C dX4_rankBy_64 (by decide +kernel) (by decide +kernel) (by decide +kernel) (by decide +kernel) (by decide) (Nat.le_of_ble_eq_true rfl) (by decide) (by decide) ⟨by omega, by omega⟩ ⟨by omega, by omega⟩ ?_
      refine x_mmax (pc := 67) C dX4_rankBy_67 (by decide +kernel) (by decide +kernel) (by decide +kernel) (by decide +kernel) (by decide) (Nat.le_of_ble_eq_true rfl) (by decide) (by decide) ⟨by omega, by omega⟩ ⟨by split <;> omega, by split <;> omega⟩ ?_
      refine x_iret (pc := 70) C Rt0 dX4_rankBy_70 rfl ?_
      refine ⟨_, rfl, rfl, ?_⟩
      rw [f_40, a0, a1, a2, a3, a4]; exact mnx _ _ _
    · omega
  · refine x_world (ws' := [(a, ob 4 [.ref kb, .ref t1, .ref t2, .ref t3, .ref t4, .ref t5, .ref t6, jv h, jv sz]), (kb, ob 2 [.ref kc, jv bn]), (kc, ai g 60 bf), (t1, ai g 11 S), (t2, ai g 60 A0), (t3, ai g 60 A1), (t4, ai g 60 A2), (t5, ai g 60 A3), (t6, ai g 60 A4)]) [0, 1, 2, 3, 4, 5, 6, 7, 8] (by decide) rfl ?_
    show X l g E ({ frames := 1, cells := 0, slots := 0, locals := 22 } : Room) 4 [(a, ob 4 [.ref kb, .ref t1, .ref t2, .ref t3, .ref t4, .ref t5, .ref t6, jv h, jv sz]), (kb, ob 2 [.ref kc, jv bn]), (kc, ai g 60 bf), (t1, ai g 11 S), (t2, ai g 60 A0), (t3, ai g 60 A1), (t4, ai g 60 A2), (t5, ai g 60 A3), (t6, ai g 60 A4)] 0 0 [(0, .ref a), (1, jv p), (2, jv x)] 5 [jv 0]
    omega
end
section
/-! ===== looking for a number near its guess ===== -/
def aw (k : Int) : Int := if k % 2 = 0 then k / 2 else -((k + 1) / 2)
def lkS (f : Int → Int) (x lo hi g : Int) : Nat → Int × Int
  | 0 => (-1, 0)
  | k + 1 => if (lkS f x lo hi g k).1 = -1 then (if lo ≤ g + aw (k : Int) ∧ g + aw (k : Int) ≤ hi then (if f (g + aw (k : Int)) = x then g + aw (k : Int) else -1, (lkS f x lo hi g k).2 + 1) else lkS f x lo hi g k) else lkS f x lo hi g k
theorem lkS_stop {f : Int → Int} {x lo hi g : Int} {k : Nat} (h : (lkS f x lo hi g k).1 ≠ -1) (j : Nat) : lkS f x lo hi g (k + j) = lkS f x lo hi g k := by
  induction j with
  | zero => rfl
  | succ j ih =>
    show (if (lkS f x lo hi g (k + j)).1 = -1 then _ else lkS f x lo hi g (k + j)) = _
    rw [ih, if_neg h]
theorem lkS_out {f : Int → Int} {x lo hi g : Int} {k : Nat} (h : (lkS f x lo hi g k).1 = -1) (c : ¬ (lo ≤ g + aw (k : Int) ∧ g + aw (k : Int) ≤ hi)) : lkS f x lo hi g (k + 1) = lkS f x lo hi g k := by
  show (if (lkS f x lo hi g k).1 = -1 then _ else lkS f x lo hi g k) = _
  rw [if_pos h, if_neg c]
theorem lkS_in {f : Int → Int} {x lo hi g : Int} {k : Nat} (h : (lkS f x lo hi g k).1 = -1) (c : lo ≤ g + aw (k : Int) ∧ g + aw (k : Int) ≤ hi) : lkS f x lo hi g (k + 1) = (if f (g + aw (k : Int)) = x then g + aw (k : Int) else -1, (lkS f x lo hi g k).2 + 1) := by
  show (if (lkS f x lo hi g k).1 = -1 then _ else lkS f x lo hi g k) = _
  rw [if_pos h, if_pos c]
/-- what a look for x comes to: met, seen -/
def LkR (f : Int → Int) (e n x mt sn : Int) : Prop := (n = 0 ∧ mt = -1 ∧ sn = 0) ∨ (1 ≤ n ∧ ∃ p : Int, Pf (PM f e n) (P2 f e n) x p ∧ (mt, sn) = lkS f x (P0 f e n p) (P1 f e n p) (gs f e n p x) (2 * e + 1).toNat)
theorem LkR.uniq {f : Int → Int} {e n x mt sn mt' sn' : Int} (a : LkR f e n x mt sn) (b : LkR f e n x mt' sn') : mt = mt' ∧ sn = sn' := by
  rcases a with ⟨a1, a2, a3⟩ | ⟨a1, p, a2, a3⟩ <;> rcases b with ⟨b1, b2, b3⟩ | ⟨b1, q, b2, b3⟩
  · omega
  · omega
  · omega
  · have e1 := a2.uniq b2
    subst e1
    rw [← b3] at a3
    exact ⟨congrArg Prod.fst a3, congrArg Prod.snd a3⟩
theorem Ht.zero {x : Int → Int} {e n h : Int} (hn : 0 ≤ n) (a : Ht x e n h) : (h = 0 ↔ n = 0) ∧ 0 ≤ h := by
  rcases a with ⟨a1, a2⟩ | ⟨a1, a2, _⟩ <;> omega
end
section
set_option maxHeartbeats 4000000 in
set_option maxRecDepth 100000 in
/-- Look.away -/
theorem ctX3_away (l : Launch) (g : xG) (k : Int) (hk : 0 ≤ k ∧ k ≤ 1000) : Ct l g yX3_away wsX3_away ({ frames := 0, cells := 0, slots := 0, locals := 0 } : Room) 0 0 [] [jv k] (fun v u => ∃ (r : Int), v = some (jv r) ∧ u = [] ∧ (r = aw k)) := by
  refine ct_of (cc := cX3_away) (nL := 1) (ret := (some .int)) (by decide) rfl (Nat.le_of_ble_eq_true rfl) ?_
  intro E C Rt0
  have C : Cx l g E ({ frames := 0, cells := 0, slots := 0, locals := 0 } : Room) RX3 "away" cX3_away wsX3_away 1 := C
  show X l g E ({ frames := 0, cells := 0, slots := 0, locals := 0 } : Room) 1 [] 0 0 [(0, jv k)] 0 []
  refine x_iload_n (pc := 0) C 0 dX3_away_0 rfl ?_
  refine x_iconst (pc := 1) C dX3_away_1 ?_
  refine x_irem (pc := 2) C dX3_away_2 ⟨by omega, by omega⟩ ⟨by omega, by omega⟩ (by first | decide | omega) ?_
  rw [Int.tmod_eq_emod_of_nonneg hk.1]
  refine x_if_ne (pc := 3) C 12 dX3_away_3 rfl ⟨by omega, by omega⟩ (fun c_3 => ?_) (fun c_3 => ?_)
  · refine x_iload_n (pc := 12) C 0 dX3_away_12 rfl ?_
    refine x_iconst (pc := 13) C dX3_away_13 ?_
    refine x_iadd (pc := 14) C dX3_away_14 ?_
    refine x_ineg (pc := 15) C dX3_away_15 ?_
    refine x_iconst (pc := 16) C dX3_away_16 ?_
    refine x_idiv (pc := 17) C dX3_away_17 ⟨by omega, by omega⟩ ⟨by omega, by omega⟩ (by first | decide | omega) ?_
    rw [show (-(k + 1)).tdiv 2 = -((k + 1) / 2) from (by rw [Int.neg_tdiv, Int.tdiv_eq_ediv_of_nonneg (by omega)])]
    refine x_iret (pc := 18) C Rt0 dX3_away_18 rfl ?_
    refine ⟨_, rfl, rfl, ?_⟩
    unfold aw; rw [if_neg c_3]
  · refine x_iload_n (pc := 6) C 0 dX3_away_6 rfl ?_
    refine x_iconst (pc := 7) C dX3_away_7 ?_
    refine x_idiv (pc := 8) C dX3_away_8 ⟨by omega, by omega⟩ ⟨by omega, by omega⟩ (by first | decide | omega) ?_
    rw [show (k).tdiv 2 = k / 2 from (Int.tdiv_eq_ediv_of_nonneg hk.1)]
    refine x_goto (pc := 9) C 18 dX3_away_9 rfl ?_
    refine x_iret (pc := 18) C Rt0 dX3_away_18 rfl ?_
    refine ⟨_, rfl, rfl, ?_⟩
    unfold aw; rw [if_pos (by omega)]

set_option maxRecDepth 100000 in
theorem hiX3_met_3 : ∀ w ∈ wsX30, w ∈ wsX3_met := by decide +kernel
set_option maxRecDepth 100000 in
theorem hfX3_met_9 : Cond.fieldLink RX3 9 "KeyGuess$Look" "met" "I" ∈ wsX3_met := by decide +kernel
set_option maxHeartbeats 4000000 in
set_option maxRecDepth 100000 in
/-- Look.met -/
theorem ctX3_met (l : Launch) (g : xG) (la : Nat) (m : Int) (s : Int)  : Ct l g yX3_met wsX3_met ({ frames := 0, cells := 0, slots := 0, locals := 0 } : Room) 0 0 [(la, ob 3 [jv m, jv s])] [.ref la] (fun v u => v = some (jv m) ∧ u = [(la, ob 3 [jv m, jv s])] ∧ (True)) := by
  refine ct_of (cc := cX3_met) (nL := 1) (ret := (some .int)) (by decide) rfl (Nat.le_of_ble_eq_true rfl) ?_
  intro E C Rt0
  have C : Cx l g E ({ frames := 0, cells := 0, slots := 0, locals := 0 } : Room) RX3 "met" cX3_met wsX3_met 1 := C
  show X l g E ({ frames := 0, cells := 0, slots := 0, locals := 0 } : Room) 1 [(la, ob 3 [jv m, jv s])] 0 0 [(0, .ref la)] 0 []
  refine x_aload_n (pc := 0) C 0 dX3_met_0 rfl ?_
  refine x_get (pc := 1) C 0 0 dX3_met_1 hiX3_met_3 hfX3_met_9 rfl rfl rfl (by decide) rfl ?_
  refine x_iret (pc := 4) C Rt0 dX3_met_4 rfl ?_
  refine ⟨rfl, rfl, ?_⟩
  trivial

set_option maxRecDepth 100000 in
theorem hiX3_ranksSeen_3 : ∀ w ∈ wsX30, w ∈ wsX3_ranksSeen := by decide +kernel
set_option maxRecDepth 100000 in
theorem hfX3_ranksSeen_15 : Cond.fieldLink RX3 15 "KeyGuess$Look" "seen" "I" ∈ wsX3_ranksSeen := by decide +kernel
set_option maxHeartbeats 4000000 in
set_option maxRecDepth 100000 in
/-- Look.ranksSeen -/
theorem ctX3_ranksSeen (l : Launch) (g : xG) (la : Nat) (m : Int) (s : Int)  : Ct l g yX3_ranksSeen wsX3_ranksSeen ({ frames := 0, cells := 0, slots := 0, locals := 0 } : Room) 0 0 [(la, ob 3 [jv m, jv s])] [.ref la] (fun v u => v = some (jv s) ∧ u = [(la, ob 3 [jv m, jv s])] ∧ (True)) := by
  refine ct_of (cc := cX3_ranksSeen) (nL := 1) (ret := (some .int)) (by decide) rfl (Nat.le_of_ble_eq_true rfl) ?_
  intro E C Rt0
  have C : Cx l g E ({ frames := 0, cells := 0, slots := 0, locals := 0 } : Room) RX3 "ranksSeen" cX3_ranksSeen wsX3_ranksSeen 1 := C
  show X l g E ({ frames := 0, cells := 0, slots := 0, locals := 0 } : Room) 1 [(la, ob 3 [jv m, jv s])] 0 0 [(0, .ref la)] 0 []
  refine x_aload_n (pc := 0) C 0 dX3_ranksSeen_0 rfl ?_
  refine x_get (pc := 1) C 0 1 dX3_ranksSeen_1 hiX3_ranksSeen_3 hfX3_ranksSeen_15 rfl rfl rfl (by decide) rfl ?_
  refine x_iret (pc := 4) C Rt0 dX3_ranksSeen_4 rfl ?_
  refine ⟨rfl, rfl, ?_⟩
  trivial

set_option maxRecDepth 100000 in
theorem hiX3_run_3 : ∀ w ∈ wsX30, w ∈ wsX3_run := by decide +kernel
set_option maxRecDepth 100000 in
theorem hfX3_run_9 : Cond.fieldLink RX3 9 "KeyGuess$Look" "met" "I" ∈ wsX3_run := by decide +kernel
set_option maxRecDepth 100000 in
theorem hfX3_run_15 : Cond.fieldLink RX3 15 "KeyGuess$Look" "seen" "I" ∈ wsX3_run := by decide +kernel
set_option maxHeartbeats 4000000 in
set_option maxRecDepth 100000 in
/-- Look.run -/
theorem ctX3_run (l : Launch) (g : xG) (la : Nat) (m0 : Int) (q0 : Int) (ra : Nat) (rb : Nat) (n : Int) (f : Int → Int) (a : Nat) (kb : Nat) (kc : Nat) (t1 : Nat) (t2 : Nat) (t3 : Nat) (t4 : Nat) (t5 : Nat) (t6 : Nat) (h : Int) (sz : Int) (bn : Int) (bf : Int → Int) (S : Int → Int) (A0 : Int → Int) (A1 : Int → Int) (A2 : Int → Int) (A3 : Int → Int) (A4 : Int → Int) (x : Int) (e : Int) (y : Int → Int) (hk : Kr n f) (he : 0 ≤ e ∧ e ≤ 8) (hy : Agr n f y) (hT : TwR y e n h sz S A0 A1 A2 A3 A4) (hx : 0 ≤ x ∧ x ≤ 1000000) : Ct l g yX3_run wsX3_run ({ frames := 2, cells := 0, slots := 0, locals := 45 } : Room) 0 0 [(la, ob 3 [jv m0, jv q0]), (ra, ob 2 [.ref rb, jv n]), (rb, ai g 60 f), (a, ob 4 [.ref kb, .ref t1, .ref t2, .ref t3, .ref t4, .ref t5, .ref t6, jv h, jv sz]), (kb, ob 2 [.ref kc, jv bn]), (kc, ai g 60 bf), (t1, ai g 11 S), (t2, ai g 60 A0), (t3, ai g 60 A1), (t4, ai g 60 A2), (t5, ai g 60 A3), (t6, ai g 60 A4)] [.ref la, .ref ra, .ref a, jv x, jv e] (fun v u => ∃ (mt : Int) (sn : Int), v = none ∧ u = [(la, ob 3 [jv mt, jv sn]), (ra, ob 2 [.ref rb, jv n]), (rb, ai g 60 f), (a, ob 4 [.ref kb, .ref t1, .ref t2, .ref t3, .ref t4, .ref t5, .ref t6, jv h, jv sz]), (kb, ob 2 [.ref kc, jv bn]), (kc, ai g 60 bf), (t1, ai g 11 S), (t2, ai g 60 A0), (t3, ai g 60 A1), (t4, ai g 60 A2), (t5, ai g 60 A3), (t6, ai g 60 A4)] ∧ (LkR y e n x mt sn)) := by
  refine ct_of (cc := cX3_run) (nL := 9) (ret := none) (by decide) rfl (Nat.le_of_ble_eq_true rfl) ?_
  intro E C Rt0
  have C : Cx l g E ({ frames := 2, cells := 0, slots := 0, locals := 45 } : Room) RX3 "run" cX3_run wsX3_run 9 := C
  show X l g E ({ frames := 2, cells := 0, slots := 0, locals := 45 } : Room) 9 [(la, ob 3 [jv m0, jv q0]), (ra, ob 2 [.ref rb, jv n]), (rb, ai g 60 f), (a, ob 4 [.ref kb, .ref t1, .ref t2, .ref t3, .ref t4, .ref t5, .ref t6, jv h, jv sz]), (kb, ob 2 [.ref kc, jv bn]), (kc, ai g 60 bf), (t1, ai g 11 S), (t2, ai g 60 A0), (t3, ai g 60 A1), (t4, ai g 60 A2), (t5, ai g 60 A3), (t6, ai g 60 A4)] 0 0 [(0, .ref la), (1, .ref ra), (2, .ref a), (3, jv x), (4, jv e)] 0 []
  have hn0 := hk.1
  have hn1 := hk.2.1
  have hz := hT.1.zero hn0
  have hh6 := hT.2.2.1
  refine x_aload_n (pc := 0) C 0 dX3_run_0 rfl ?_
  refine x_iconst (pc := 1) C dX3_run_1 ?_
  refine x_put (pc := 2) C (ty := .int) (ws' := [(la, ob 3 [jv (-1), jv q0]), (ra, ob 2 [.ref rb, jv n]), (rb, ai g 60 f), (a, ob 4 [.ref kb, .ref t1, .ref t2, .ref t3, .ref t4, .ref t5, .ref t6, jv h, jv sz]), (kb, ob 2 [.ref kc, jv bn]), (kc, ai g 60 bf), (t1, ai g 11 S), (t2, ai g 60 A0), (t3, ai g 60 A1), (t4, ai g 60 A2), (t5, ai g 60 A3), (t6, ai g 60 A4)]) tyX3 0 0 dX3_run_2 hiX3_run_3 tyX3_ok nmX3 hfX3_run_9 rfl rfl rfl (by decide) rfl (by decide +kernel) rfl rfl (Nat.le_of_ble_eq_true rfl) rfl ?_
  refine x_aload_n (pc := 5) C 0 dX3_run_5 rfl ?_
  refine x_iconst (pc := 6) C dX3_run_6 ?_
  refine x_put (pc := 7) C (ty := .int) (ws' := [(la, ob 3 [jv (-1), jv 0]), (ra, ob 2 [.ref rb, jv n]), (rb, ai g 60 f), (a, ob 4 [.ref kb, .ref t1, .ref t2, .ref t3, .ref t4, .ref t5, .ref t6, jv h, jv sz]), (kb, ob 2 [.ref kc, jv bn]), (kc, ai g 60 bf), (t1, ai g 11 S), (t2, ai g 60 A0), (t3, ai g 60 A1), (t4, ai g 60 A2), (t5, ai g 60 A3), (t6, ai g 60 A4)]) tyX3 0 1 dX3_run_7 hiX3_run_3 tyX3_ok nmX3 hfX3_run_15 rfl rfl rfl (by decide) rfl (by decide +kernel) rfl rfl (Nat.le_of_ble_eq_true rfl) rfl ?_
  refine x_aload_n (pc := 10) C 2 dX3_run_10 rfl ?_
  refine x_callV (pc := 11) C (n := 0) (q0 := 0) (rest := []) (wr := [(la, ob 3 [jv (-1), jv 0]), (ra, ob 2 [.ref rb, jv n]), (rb, ai g 60 f)]) [3, 4, 5, 6, 7, 8, 9, 10, 11] [0, 1, 2] (ctX4_height l g a kb kc t1 t2 t3 t4 t5 t6 h sz bn bf S A0 A1 A2 A3 A4 ) gX3_run_X4_height rfl ⟨rfl, rfl⟩ (by decide +kernel) ⟨by decide, by decide⟩ rfl rfl rfl rfl rfl (by decide) (by decide) (by decide) rfl (Nat.le_of_ble_eq_true rfl) dX3_run_11 ⟨by decide, by decide⟩ (fun v_11 u_11 h_11 => ?_)
  rcases h_11 with ⟨rfl, rfl, f_11⟩
  refine x_world (ws' := [(la, ob 3 [jv (-1), jv 0]), (ra, ob 2 [.ref rb, jv n]), (rb, ai g 60 f), (a, ob 4 [.ref kb, .ref t1, .ref t2, .ref t3, .ref t4, .ref t5, .ref t6, jv h, jv sz]), (kb, ob 2 [.ref kc, jv bn]), (kc, ai g 60 bf), (t1, ai g 11 S), (t2, ai g 60 A0), (t3, ai g 60 A1), (t4, ai g 60 A2), (t5, ai g 60 A3), (t6, ai g 60 A4)]) [0, 1, 2, 3, 4, 5, 6, 7, 8, 9, 10, 11] (by decide) rfl ?_
  show X l g E ({ frames := 2, cells := 0, slots := 0, locals := 45 } : Room) 9 [(la, ob 3 [jv (-1), jv 0]), (ra, ob 2 [.ref rb, jv n]), (rb, ai g 60 f), (a, ob 4 [.ref kb, .ref t1, .ref t2, .ref t3, .ref t4, .ref t5, .ref t6, jv h, jv sz]), (kb, ob 2 [.ref kc, jv bn]), (kc, ai g 60 bf), (t1, ai g 11 S), (t2, ai g 60 A0), (t3, ai g 60 A1), (t4, ai g 60 A2), (t5, ai g 60 A3), (t6, ai g 60 A4)] 0 0 [(0, .ref la), (1, .ref ra), (2, .ref a), (3, jv x), (4, jv e)] 14 [jv h]
  refine x_if_ne (pc := 14) C 18 dX3_run_14 rfl ⟨by omega, by omega⟩ (fun c_14 => ?_) (fun c_14 => ?_)
  · refine x_aload_n (pc := 18) C 2 dX3_run_18 rfl ?_
    refine x_iload_n (pc := 19) C 3 dX3_run_19 rfl ?_
    refine x_callV (pc := 20) C (n := 1) (q0 := 0) (rest := []) (wr := [(la, ob 3 [jv (-1), jv 0]), (ra, ob 2 [.ref rb, jv n]), (rb, ai g 60 f)]) [3, 4, 5, 6, 7, 8, 9, 10, 11] [0, 1, 2] (ctX4_pieceFor l g a kb kc t1 t2 t3 t4 t5 t6 h sz bn bf S A0 A1 A2 A3 A4 y e n x he hT (by omega) hx) gX3_run_X4_pieceFor rfl ⟨rfl, rfl⟩ (by decide +kernel) ⟨by decide, by decide⟩ rfl rfl rfl rfl rfl (by decide) (by decide) (by decide) rfl (Nat.le_of_ble_eq_true rfl) dX3_run_20 ⟨by decide, by decide⟩ (fun v_20 u_20 h_20 => ?_)
    rcases h_20 with ⟨p, rfl, rfl, f_20⟩
    refine x_world (ws' := [(la, ob 3 [jv (-1), jv 0]), (ra, ob 2 [.ref rb, jv n]), (rb, ai g 60 f), (a, ob 4 [.ref kb, .ref t1, .ref t2, .ref t3, .ref t4, .ref t5, .ref t6, jv h, jv sz]), (kb, ob 2 [.ref kc, jv bn]), (kc, ai g 60 bf), (t1, ai g 11 S), (t2, ai g 60 A0), (t3, ai g 60 A1), (t4, ai g 60 A2), (t5, ai g 60 A3), (t6, ai g 60 A4)]) [0, 1, 2, 3, 4, 5, 6, 7, 8, 9, 10, 11] (by decide) rfl ?_
    show X l g E ({ frames := 2, cells := 0, slots := 0, locals := 45 } : Room) 9 [(la, ob 3 [jv (-1), jv 0]), (ra, ob 2 [.ref rb, jv n]), (rb, ai g 60 f), (a, ob 4 [.ref kb, .ref t1, .ref t2, .ref t3, .ref t4, .ref t5, .ref t6, jv h, jv sz]), (kb, ob 2 [.ref kc, jv bn]), (kc, ai g 60 bf), (t1, ai g 11 S), (t2, ai g 60 A0), (t3, ai g 60 A1), (t4, ai g 60 A2), (t5, ai g 60 A3), (t6, ai g 60 A4)] 0 0 [(0, .ref la), (1, .ref ra), (2, .ref a), (3, jv x), (4, jv e)] 23 [jv p]
    have hpp : 0 ≤ p ∧ p < PM y e n := ⟨f_20.1, f_20.2.1⟩
    refine x_istore (pc := 23) C (lv' := [(5, jv p), (0, .ref la), (1, .ref ra), (2, .ref a), (3, jv x), (4, jv e)]) dX3_run_23 (by decide) rfl ?_
    refine x_aload_n (pc := 25) C 3 dX3_run_25 rfl ?_
    refine x_iload (pc := 26) C 0 dX3_run_26 rfl ?_
    refine x_iload_n (pc := 28) C 4 dX3_run_28 rfl ?_
    refine x_callV (pc := 29) C (n := 2) (q0 := 0) (rest := []) (wr := [(la, ob 3 [jv (-1), jv 0]), (ra, ob 2 [.ref rb, jv n]), (rb, ai g 60 f)]) [3, 4, 5, 6, 7, 8, 9, 10, 11] [0, 1, 2] (ctX4_rankBy l g a kb kc t1 t2 t3 t4 t5 t6 h sz bn bf S A0 A1 A2 A3 A4 y e n p x he hT (by omega) hpp hx) gX3_run_X4_rankBy rfl ⟨rfl, rfl⟩ (by decide +kernel) ⟨by decide, by decide⟩ rfl rfl rfl rfl rfl (by decide) (by decide) (by decide) rfl (Nat.le_of_ble_eq_true rfl) dX3_run_29 ⟨by decide, by decide⟩ (fun v_29 u_29 h_29 => ?_)
    rcases h_29 with ⟨r, rfl, rfl, f_29⟩
    refine x_world (ws' := [(la, ob 3 [jv (-1), jv 0]), (ra, ob 2 [.ref rb, jv n]), (rb, ai g 60 f), (a, ob 4 [.ref kb, .ref t1, .ref t2, .ref t3, .ref t4, .ref t5, .ref t6, jv h, jv sz]), (kb, ob 2 [.ref kc, jv bn]), (kc, ai g 60 bf), (t1, ai g 11 S), (t2, ai g 60 A0), (t3, ai g 60 A1), (t4, ai g 60 A2), (t5, ai g 60 A3), (t6, ai g 60 A4)]) [0, 1, 2, 3, 4, 5, 6, 7, 8, 9, 10, 11] (by decide) rfl ?_
    show X l g E ({ frames := 2, cells := 0, slots := 0, locals := 45 } : Room) 9 [(la, ob 3 [jv (-1), jv 0]), (ra, ob 2 [.ref rb, jv n]), (rb, ai g 60 f), (a, ob 4 [.ref kb, .ref t1, .ref t2, .ref t3, .ref t4, .ref t5, .ref t6, jv h, jv sz]), (kb, ob 2 [.ref kc, jv bn]), (kc, ai g 60 bf), (t1, ai g 11 S), (t2, ai g 60 A0), (t3, ai g 60 A1), (t4, ai g 60 A2), (t5, ai g 60 A3), (t6, ai g 60 A4)] 0 0 [(5, jv p), (0, .ref la), (1, .ref ra), (2, .ref a), (3, jv x), (4, jv e)] 32 [jv r]
    have hpb := (hT.l0 he.1 (by omega)).1.p he.1 hpp.1 hpp.2
    have hg : P0 y e n p ≤ r ∧ r ≤ P1 y e n p := by
      rw [f_29]; unfold gs; omega
    refine x_istore (pc := 32) C (lv' := [(6, jv r), (5, jv p), (0, .ref la), (1, .ref ra), (2, .ref a), (3, jv x), (4, jv e)]) dX3_run_32 (by decide) rfl ?_
    refine x_iconst (pc := 34) C dX3_run_34 ?_
    refine x_istore (pc := 35) C (lv' := [(7, jv 0), (6, jv r), (5, jv p), (0, .ref la), (1, .ref ra), (2, .ref a), (3, jv x), (4, jv e)]) dX3_run_35 (by decide) rfl ?_
    have L37 : ∀ (nn : Nat) (t : Int) (mt : Int) (sn : Int), (2 * e + 1 - t).toNat < nn → (0 ≤ t ∧ t ≤ 2 * e + 1) → (-1 ≤ mt ∧ mt < 60 ∧ 0 ≤ sn ∧ sn ≤ t) → ((mt, sn) = lkS y x (P0 y e n p) (P1 y e n p) (gs y e n p x) t.toNat) → X l g E ({ frames := 2, cells := 0, slots := 0, locals := 45 } : Room) 9 [(la, ob 3 [jv mt, jv sn]), (ra, ob 2 [.ref rb, jv n]), (rb, ai g 60 f), (a, ob 4 [.ref kb, .ref t1, .ref t2, .ref t3, .ref t4, .ref t5, .ref t6, jv h, jv sz]), (kb, ob 2 [.ref kc, jv bn]), (kc, ai g 60 bf), (t1, ai g 11 S), (t2, ai g 60 A0), (t3, ai g 60 A1), (t4, ai g 60 A2), (t5, ai g 60 A3), (t6, ai g 60 A4)] 0 0 [(0, .ref la), (1, .ref ra), (2, .ref a), (3, jv x), (4, jv e), (5, jv p), (6, jv r), (7, jv t)] 37 [] := by
      intro nn
      induction nn with
      | zero => intro t mt sn hμ; exact absurd hμ (Nat.not_lt_zero _)
      | succ nn ih37 =>
        intro t mt sn hμ ht hb hs
        refine x_iload (pc := 37) C 7 dX3_run_37 rfl ?_
        refine x_iconst (pc := 39) C dX3_run_39 ?_
        refine x_iload (pc := 40) C 4 dX3_run_40 rfl ?_
        refine x_imul (pc := 42) C dX3_run_42 ?_
        refine x_icmp_gt (pc := 43) C 122 dX3_run_43 rfl ⟨by omega, by omega⟩ ⟨by omega, by omega⟩ (fun c_43 => ?_) (fun c_43 => ?_)
        · refine x_vret (pc := 122) C Rt0 dX3_run_122 rfl ?_
          refine ⟨_, _, rfl, rfl, ?_⟩
          refine Or.inr ⟨by omega, p, f_20, ?_⟩
          rw [hs, show (2 * e + 1).toNat = t.toNat by omega]
        · refine x_aload_n (pc := 46) C 0 dX3_run_46 rfl ?_
          refine x_get (pc := 47) C 0 0 dX3_run_47 hiX3_run_3 hfX3_run_9 rfl rfl rfl (by decide) rfl ?_
          refine x_iconst (pc := 50) C dX3_run_50 ?_
          refine x_icmp_ne (pc := 51) C 122 dX3_run_51 rfl ⟨by omega, by omega⟩ ⟨by omega, by omega⟩ (fun c_51 => ?_) (fun c_51 => ?_)
          · refine x_vret (pc := 122) C Rt0 dX3_run_122 rfl ?_
            refine ⟨_, _, rfl, rfl, ?_⟩
            refine Or.inr ⟨by omega, p, f_20, ?_⟩
            rw [hs, show (2 * e + 1).toNat = t.toNat + (2 * e + 1 - t).toNat by omega]
            exact (lkS_stop (by rw [← hs]; omega) _).symm
          · refine x_iload (pc := 54) C 6 dX3_run_54 rfl ?_
            refine x_iload (pc := 56) C 7 dX3_run_56 rfl ?_
            refine x_callS (pc := 58) C (n := 1) (rest := [jv r]) (wr := [(la, ob 3 [jv mt, jv sn]), (ra, ob 2 [.ref rb, jv n]), (rb, ai g 60 f), (a, ob 4 [.ref kb, .ref t1, .ref t2, .ref t3, .ref t4, .ref t5, .ref t6, jv h, jv sz]), (kb, ob 2 [.ref kc, jv bn]), (kc, ai g 60 bf), (t1, ai g 11 S), (t2, ai g 60 A0), (t3, ai g 60 A1), (t4, ai g 60 A2), (t5, ai g 60 A3), (t6, ai g 60 A4)]) [] [0, 1, 2, 3, 4, 5, 6, 7, 8, 9, 10, 11] (ctX3_away l g t ⟨by omega, by omega⟩) gX3_run_X3_away rfl (by decide +kernel) ⟨rfl, rfl⟩ ⟨by decide, by decide⟩ rfl rfl rfl (by decide) (by decide) (by decide) rfl (Nat.le_of_ble_eq_true rfl) dX3_run_58 ⟨by decide, by decide⟩ (fun v_58 u_58 h_58 => ?_)
            rcases h_58 with ⟨w, rfl, rfl, f_58⟩
            refine x_world (ws' := [(la, ob 3 [jv mt, jv sn]), (ra, ob 2 [.ref rb, jv n]), (rb, ai g 60 f), (a, ob 4 [.ref kb, .ref t1, .ref t2, .ref t3, .ref t4, .ref t5, .ref t6, jv h, jv sz]), (kb, ob 2 [.ref kc, jv bn]), (kc, ai g 60 bf), (t1, ai g 11 S), (t2, ai g 60 A0), (t3, ai g 60 A1), (t4, ai g 60 A2), (t5, ai g 60 A3), (t6, ai g 60 A4)]) [0, 1, 2, 3, 4, 5, 6, 7, 8, 9, 10, 11] (by decide) rfl ?_
            show X l g E ({ frames := 2, cells := 0, slots := 0, locals := 45 } : Room) 9 [(la, ob 3 [jv mt, jv sn]), (ra, ob 2 [.ref rb, jv n]), (rb, ai g 60 f), (a, ob 4 [.ref kb, .ref t1, .ref t2, .ref t3, .ref t4, .ref t5, .ref t6, jv h, jv sz]), (kb, ob 2 [.ref kc, jv bn]), (kc, ai g 60 bf), (t1, ai g 11 S), (t2, ai g 60 A0), (t3, ai g 60 A1), (t4, ai g 60 A2), (t5, ai g 60 A3), (t6, ai g 60 A4)] 0 0 [(0, .ref la), (1, .ref ra), (2, .ref a), (3, jv x), (4, jv e), (5, jv p), (6, jv r), (7, jv t)] 61 [jv w, jv r]
            have hw : -1000 ≤ w ∧ w ≤ 1000 := by
              rw [f_58]; unfold aw; split <;> omega
            refine x_iadd (pc := 61) C dX3_run_61 ?_
            refine x_istore (pc := 62) C (lv' := [(8, jv (r + w)), (0, .ref la), (1, .ref ra), (2, .ref a), (3, jv x), (4, jv e), (5, jv p), (6, jv r), (7, jv t)]) dX3_run_62 (by decide) rfl ?_
            refine x_iload (pc := 64) C 0 dX3_run_64 rfl ?_
            refine x_aload_n (pc := 66) C 3 dX3_run_66 rfl ?_
            refine x_iload (pc := 67) C 6 dX3_run_67 rfl ?_
            refine x_callV (pc := 69) C (n := 1) (q0 := 0) (rest := [jv (r + w)]) (wr := [(la, ob 3 [jv mt, jv sn]), (ra, ob 2 [.ref rb, jv n]), (rb, ai g 60 f)]) [3, 4, 5, 6, 7, 8, 9, 10, 11] [0, 1, 2] (ctX4_fromOf l g a kb kc t1 t2 t3 t4 t5 t6 h sz bn bf S A0 A1 A2 A3 A4 y e n p he hT (by omega) hpp) gX3_run_X4_fromOf rfl ⟨rfl, rfl⟩ (by decide +kernel) ⟨by decide, by decide⟩ rfl rfl rfl rfl rfl (by decide) (by decide) (by decide) rfl (Nat.le_of_ble_eq_true rfl) dX3_run_69 ⟨by decide, by decide⟩ (fun v_69 u_69 h_69 => ?_)
            rcases h_69 with ⟨lo, rfl, rfl, f_69⟩
            refine x_world (ws' := [(la, ob 3 [jv mt, jv sn]), (ra, ob 2 [.ref rb, jv n]), (rb, ai g 60 f), (a, ob 4 [.ref kb, .ref t1, .ref t2, .ref t3, .ref t4, .ref t5, .ref t6, jv h, jv sz]), (kb, ob 2 [.ref kc, jv bn]), (kc, ai g 60 bf), (t1, ai g 11 S), (t2, ai g 60 A0), (t3, ai g 60 A1), (t4, ai g 60 A2), (t5, ai g 60 A3), (t6, ai g 60 A4)]) [0, 1, 2, 3, 4, 5, 6, 7, 8, 9, 10, 11] (by decide) rfl ?_
            show X l g E ({ frames := 2, cells := 0, slots := 0, locals := 45 } : Room) 9 [(la, ob 3 [jv mt, jv sn]), (ra, ob 2 [.ref rb, jv n]), (rb, ai g 60 f), (a, ob 4 [.ref kb, .ref t1, .ref t2, .ref t3, .ref t4, .ref t5, .ref t6, jv h, jv sz]), (kb, ob 2 [.ref kc, jv bn]), (kc, ai g 60 bf), (t1, ai g 11 S), (t2, ai g 60 A0), (t3, ai g 60 A1), (t4, ai g 60 A2), (t5, ai g 60 A3), (t6, ai g 60 A4)] 0 0 [(8, jv (r + w)), (0, .ref la), (1, .ref ra), (2, .ref a), (3, jv x), (4, jv e), (5, jv p), (6, jv r), (7, jv t)] 72 [jv lo, jv (r + w)]
            refine x_icmp_lt (pc := 72) C 116 dX3_run_72 rfl ⟨by omega, by omega⟩ ⟨by omega, by omega⟩ (fun c_72 => ?_) (fun c_72 => ?_)
            · refine x_iinc (pc := 116) C (lv' := [(7, jv (t + 1)), (8, jv (r + w)), (0, .ref la), (1, .ref ra), (2, .ref a), (3, jv x), (4, jv e), (5, jv p), (6, jv r)]) 8 dX3_run_116 rfl (by decide) rfl ?_
              refine x_goto (pc := 119) C 37 dX3_run_119 rfl ?_
              refine x_locals (lv' := [(0, .ref la), (1, .ref ra), (2, .ref a), (3, jv x), (4, jv e), (5, jv p), (6, jv r), (7, jv (t + 1))]) [2, 3, 4, 5, 6, 7, 8, 0] rfl ?_
              refine ih37 _ _ _ ?_ ?_ ?_ ?_
              · omega
              · omega
              · omega
              · have hm : (lkS y x (P0 y e n p) (P1 y e n p) (gs y e n p x) t.toNat).1 = -1 := by rw [← hs]; omega
                have hw2 : r + w = gs y e n p x + aw ((t.toNat : Nat) : Int) := by rw [f_29, f_58, Int.toNat_of_nonneg ht.1]
                rw [show (t + 1).toNat = t.toNat + 1 by omega]
                rw [lkS_out hm (by rw [← hw2]; omega)]; exact hs
            · refine x_iload (pc := 75) C 0 dX3_run_75 rfl ?_
              refine x_aload_n (pc := 77) C 3 dX3_run_77 rfl ?_
              refine x_iload (pc := 78) C 6 dX3_run_78 rfl ?_
              refine x_callV (pc := 80) C (n := 1) (q0 := 0) (rest := [jv (r + w)]) (wr := [(la, ob 3 [jv mt, jv sn]), (ra, ob 2 [.ref rb, jv n]), (rb, ai g 60 f)]) [3, 4, 5, 6, 7, 8, 9, 10, 11] [0, 1, 2] (ctX4_lastOf l g a kb kc t1 t2 t3 t4 t5 t6 h sz bn bf S A0 A1 A2 A3 A4 y e n p he hT (by omega) hpp) gX3_run_X4_lastOf rfl ⟨rfl, rfl⟩ (by decide +kernel) ⟨by decide, by decide⟩ rfl rfl rfl rfl rfl (by decide) (by decide) (by decide) rfl (Nat.le_of_ble_eq_true rfl) dX3_run_80 ⟨by decide, by decide⟩ (fun v_80 u_80 h_80 => ?_)
              rcases h_80 with ⟨hi, rfl, rfl, f_80⟩
              refine x_world (ws' := [(la, ob 3 [jv mt, jv sn]), (ra, ob 2 [.ref rb, jv n]), (rb, ai g 60 f), (a, ob 4 [.ref kb, .ref t1, .ref t2, .ref t3, .ref t4, .ref t5, .ref t6, jv h, jv sz]), (kb, ob 2 [.ref kc, jv bn]), (kc, ai g 60 bf), (t1, ai g 11 S), (t2, ai g 60 A0), (t3, ai g 60 A1), (t4, ai g 60 A2), (t5, ai g 60 A3), (t6, ai g 60 A4)]) [0, 1, 2, 3, 4, 5, 6, 7, 8, 9, 10, 11] (by decide) rfl ?_
              show X l g E ({ frames := 2, cells := 0, slots := 0, locals := 45 } : Room) 9 [(la, ob 3 [jv mt, jv sn]), (ra, ob 2 [.ref rb, jv n]), (rb, ai g 60 f), (a, ob 4 [.ref kb, .ref t1, .ref t2, .ref t3, .ref t4, .ref t5, .ref t6, jv h, jv sz]), (kb, ob 2 [.ref kc, jv bn]), (kc, ai g 60 bf), (t1, ai g 11 S), (t2, ai g 60 A0), (t3, ai g 60 A1), (t4, ai g 60 A2), (t5, ai g 60 A3), (t6, ai g 60 A4)] 0 0 [(8, jv (r + w)), (0, .ref la), (1, .ref ra), (2, .ref a), (3, jv x), (4, jv e), (5, jv p), (6, jv r), (7, jv t)] 83 [jv hi, jv (r + w)]
              refine x_icmp_gt (pc := 83) C 116 dX3_run_83 rfl ⟨by omega, by omega⟩ ⟨by omega, by omega⟩ (fun c_83 => ?_) (fun c_83 => ?_)
              · refine x_iinc (pc := 116) C (lv' := [(7, jv (t + 1)), (8, jv (r + w)), (0, .ref la), (1, .ref ra), (2, .ref a), (3, jv x), (4, jv e), (5, jv p), (6, jv r)]) 8 dX3_run_116 rfl (by decide) rfl ?_
                refine x_goto (pc := 119) C 37 dX3_run_119 rfl ?_
                refine x_locals (lv' := [(0, .ref la), (1, .ref ra), (2, .ref a), (3, jv x), (4, jv e), (5, jv p), (6, jv r), (7, jv (t + 1))]) [2, 3, 4, 5, 6, 7, 8, 0] rfl ?_
                refine ih37 _ _ _ ?_ ?_ ?_ ?_
                · omega
                · omega
                · omega
                · have hm : (lkS y x (P0 y e n p) (P1 y e n p) (gs y e n p x) t.toNat).1 = -1 := by rw [← hs]; omega
                  have hw2 : r + w = gs y e n p x + aw ((t.toNat : Nat) : Int) := by rw [f_29, f_58, Int.toNat_of_nonneg ht.1]
                  rw [show (t + 1).toNat = t.toNat + 1 by omega]
                  rw [lkS_out hm (by rw [← hw2]; omega)]; exact hs
              · refine x_aload_n (pc := 86) C 1 dX3_run_86 rfl ?_
                refine x_dup (pc := 87) C dX3_run_87 rfl ?_
                refine x_get (pc := 88) C 0 1 dX3_run_88 hiX3_run_3 hfX3_run_15 rfl rfl rfl (by decide) rfl ?_
                refine x_iconst (pc := 91) C dX3_run_91 ?_
                refine x_iadd (pc := 92) C dX3_run_92 ?_
                refine x_put (pc := 93) C (ty := .int) (ws' := [(la, ob 3 [jv mt, jv (sn + 1)]), (ra, ob 2 [.ref rb, jv n]), (rb, ai g 60 f), (a, ob 4 [.ref kb, .ref t1, .ref t2, .ref t3, .ref t4, .ref t5, .ref t6, jv h, jv sz]), (kb, ob 2 [.ref kc, jv bn]), (kc, ai g 60 bf), (t1, ai g 11 S), (t2, ai g 60 A0), (t3, ai g 60 A1), (t4, ai g 60 A2), (t5, ai g 60 A3), (t6, ai g 60 A4)]) tyX3 0 1 dX3_run_93 hiX3_run_3 tyX3_ok nmX3 hfX3_run_15 rfl rfl rfl (by decide) rfl (by decide +kernel) rfl rfl (Nat.le_of_ble_eq_true rfl) rfl ?_
                refine x_aload_n (pc := 96) C 1 dX3_run_96 rfl ?_
                refine x_aload_n (pc := 97) C 2 dX3_run_97 rfl ?_
                refine x_iload (pc := 98) C 0 dX3_run_98 rfl ?_
                refine x_callV (pc := 100) C (n := 1) (q0 := 0) (rest := [.ref la]) (wr := [(la, ob 3 [jv mt, jv (sn + 1)]), (a, ob 4 [.ref kb, .ref t1, .ref t2, .ref t3, .ref t4, .ref t5, .ref t6, jv h, jv sz]), (kb, ob 2 [.ref kc, jv bn]), (kc, ai g 60 bf), (t1, ai g 11 S), (t2, ai g 60 A0), (t3, ai g 60 A1), (t4, ai g 60 A2), (t5, ai g 60 A3), (t6, ai g 60 A4)]) [1, 2] [0, 3, 4, 5, 6, 7, 8, 9, 10, 11] (ctX2_key l g ra rb n f (r + w) ⟨hn0, hn1⟩ ⟨by omega, by omega⟩) gX3_run_X2_key rfl ⟨rfl, rfl⟩ (by decide +kernel) ⟨by decide, by decide⟩ rfl rfl rfl rfl rfl (by decide) (by decide) (by decide) rfl (Nat.le_of_ble_eq_true rfl) dX3_run_100 ⟨by decide, by decide⟩ (fun v_100 u_100 h_100 => ?_)
                rcases h_100 with ⟨rfl, rfl, f_100⟩ | ⟨rfl, rfl, f_100⟩
                · refine x_world (ws' := [(la, ob 3 [jv mt, jv (sn + 1)]), (ra, ob 2 [.ref rb, jv n]), (rb, ai g 60 f), (a, ob 4 [.ref kb, .ref t1, .ref t2, .ref t3, .ref t4, .ref t5, .ref t6, jv h, jv sz]), (kb, ob 2 [.ref kc, jv bn]), (kc, ai g 60 bf), (t1, ai g 11 S), (t2, ai g 60 A0), (t3, ai g 60 A1), (t4, ai g 60 A2), (t5, ai g 60 A3), (t6, ai g 60 A4)]) [0, 10, 11, 1, 2, 3, 4, 5, 6, 7, 8, 9] (by decide) rfl ?_
                  show X l g E ({ frames := 2, cells := 0, slots := 0, locals := 45 } : Room) 9 [(la, ob 3 [jv mt, jv (sn + 1)]), (ra, ob 2 [.ref rb, jv n]), (rb, ai g 60 f), (a, ob 4 [.ref kb, .ref t1, .ref t2, .ref t3, .ref t4, .ref t5, .ref t6, jv h, jv sz]), (kb, ob 2 [.ref kc, jv bn]), (kc, ai g 60 bf), (t1, ai g 11 S), (t2, ai g 60 A0), (t3, ai g 60 A1), (t4, ai g 60 A2), (t5, ai g 60 A3), (t6, ai g 60 A4)] 0 0 [(8, jv (r + w)), (0, .ref la), (1, .ref ra), (2, .ref a), (3, jv x), (4, jv e), (5, jv p), (6, jv r), (7, jv t)] 103 [jv (f (r + w)), .ref la]
                  refine x_iload_n (pc := 103) C 4 dX3_run_103 rfl ?_
                  have hfr := hk.2.2.1 (r + w) (by omega) (by omega)
                  have hyr := hy (r + w) (by omega) (by omega)
                  refine x_icmp_ne (pc := 104) C 112 dX3_run_104 rfl ⟨by omega, by omega⟩ ⟨by omega, by omega⟩ (fun c_104 => ?_) (fun c_104 => ?_)
                  · refine x_iconst (pc := 112) C dX3_run_112 ?_
                    refine x_put (pc := 113) C (ty := .int) (ws' := [(la, ob 3 [jv (-1), jv (sn + 1)]), (ra, ob 2 [.ref rb, jv n]), (rb, ai g 60 f), (a, ob 4 [.ref kb, .ref t1, .ref t2, .ref t3, .ref t4, .ref t5, .ref t6, jv h, jv sz]), (kb, ob 2 [.ref kc, jv bn]), (kc, ai g 60 bf), (t1, ai g 11 S), (t2, ai g 60 A0), (t3, ai g 60 A1), (t4, ai g 60 A2), (t5, ai g 60 A3), (t6, ai g 60 A4)]) tyX3 0 0 dX3_run_113 hiX3_run_3 tyX3_ok nmX3 hfX3_run_9 rfl rfl rfl (by decide) rfl (by decide +kernel) rfl rfl (Nat.le_of_ble_eq_true rfl) rfl ?_
                    refine x_iinc (pc := 116) C (lv' := [(7, jv (t + 1)), (8, jv (r + w)), (0, .ref la), (1, .ref ra), (2, .ref a), (3, jv x), (4, jv e), (5, jv p), (6, jv r)]) 8 dX3_run_116 rfl (by decide) rfl ?_
                    refine x_goto (pc := 119) C 37 dX3_run_119 rfl ?_
                    refine x_locals (lv' := [(0, .ref la), (1, .ref ra), (2, .ref a), (3, jv x), (4, jv e), (5, jv p), (6, jv r), (7, jv (t + 1))]) [2, 3, 4, 5, 6, 7, 8, 0] rfl ?_
                    refine ih37 _ _ _ ?_ ?_ ?_ ?_
                    · omega
                    · omega
                    · omega
                    · have hm : (lkS y x (P0 y e n p) (P1 y e n p) (gs y e n p x) t.toNat).1 = -1 := by rw [← hs]; omega
                      have hw2 : r + w = gs y e n p x + aw ((t.toNat : Nat) : Int) := by rw [f_29, f_58, Int.toNat_of_nonneg ht.1]
                      rw [show (t + 1).toNat = t.toNat + 1 by omega]
                      rw [lkS_in hm (by rw [← hw2]; omega), ← hw2, ← hs]
                      rw [if_neg (by rw [← hyr]; exact c_104)]
                  · refine x_iload (pc := 107) C 0 dX3_run_107 rfl ?_
                    refine x_goto (pc := 109) C 113 dX3_run_109 rfl ?_
                    refine x_put (pc := 113) C (ty := .int) (ws' := [(la, ob 3 [jv (r + w), jv (sn + 1)]), (ra, ob 2 [.ref rb, jv n]), (rb, ai g 60 f), (a, ob 4 [.ref kb, .ref t1, .ref t2, .ref t3, .ref t4, .ref t5, .ref t6, jv h, jv sz]), (kb, ob 2 [.ref kc, jv bn]), (kc, ai g 60 bf), (t1, ai g 11 S), (t2, ai g 60 A0), (t3, ai g 60 A1), (t4, ai g 60 A2), (t5, ai g 60 A3), (t6, ai g 60 A4)]) tyX3 0 0 dX3_run_113 hiX3_run_3 tyX3_ok nmX3 hfX3_run_9 rfl rfl rfl (by decide) rfl (by decide +kernel) rfl rfl (Nat.le_of_ble_eq_true rfl) rfl ?_
                    refine x_iinc (pc := 116) C (lv' := [(7, jv (t + 1)), (8, jv (r + w)), (0, .ref la), (1, .ref ra), (2, .ref a), (3, jv x), (4, jv e), (5, jv p), (6, jv r)]) 8 dX3_run_116 rfl (by decide) rfl ?_
                    refine x_goto (pc := 119) C 37 dX3_run_119 rfl ?_
                    refine x_locals (lv' := [(0, .ref la), (1, .ref ra), (2, .ref a), (3, jv x), (4, jv e), (5, jv p), (6, jv r), (7, jv (t + 1))]) [2, 3, 4, 5, 6, 7, 8, 0] rfl ?_
                    refine ih37 _ _ _ ?_ ?_ ?_ ?_
                    · omega
                    · omega
                    · omega
                    · have hm : (lkS y x (P0 y e n p) (P1 y e n p) (gs y e n p x) t.toNat).1 = -1 := by rw [← hs]; omega
                      have hw2 : r + w = gs y e n p x + aw ((t.toNat : Nat) : Int) := by rw [f_29, f_58, Int.toNat_of_nonneg ht.1]
                      rw [show (t + 1).toNat = t.toNat + 1 by omega]
                      rw [lkS_in hm (by rw [← hw2]; omega), ← hw2, ← hs]
                      rw [if_pos (by rw [← hyr]; omega)]
                · refine x_world (ws' := [(la, ob 3 [jv mt, jv (sn + 1)]), (ra, ob 2 [.ref rb, jv n]), (rb, ai g 60 f), (a, ob 4 [.ref kb, .ref t1, .ref t2, .ref t3, .ref t4, .ref t5, .ref t6, jv h, jv sz]), (kb, ob 2 [.ref kc, jv bn]), (kc, ai g 60 bf), (t1, ai g 11 S), (t2, ai g 60 A0), (t3, ai g 60 A1), (t4, ai g 60 A2), (t5, ai g 60 A3), (t6, ai g 60 A4)]) [0, 10, 11, 1, 2, 3, 4, 5, 6, 7, 8, 9] (by decide) rfl ?_
                  show X l g E ({ frames := 2, cells := 0, slots := 0, locals := 45 } : Room) 9 [(la, ob 3 [jv mt, jv (sn + 1)]), (ra, ob 2 [.ref rb, jv n]), (rb, ai g 60 f), (a, ob 4 [.ref kb, .ref t1, .ref t2, .ref t3, .ref t4, .ref t5, .ref t6, jv h, jv sz]), (kb, ob 2 [.ref kc, jv bn]), (kc, ai g 60 bf), (t1, ai g 11 S), (t2, ai g 60 A0), (t3, ai g 60 A1), (t4, ai g 60 A2), (t5, ai g 60 A3), (t6, ai g 60 A4)] 0 0 [(8, jv (r + w)), (0, .ref la), (1, .ref ra), (2, .ref a), (3, jv x), (4, jv e), (5, jv p), (6, jv r), (7, jv t)] 103 [jv (-1), .ref la]
                  omega
    refine x_locals (lv' := [(0, .ref la), (1, .ref ra), (2, .ref a), (3, jv x), (4, jv e), (5, jv p), (6, jv r), (7, jv 0)]) [3, 4, 5, 6, 7, 2, 1, 0] rfl ?_
    refine L37 _ _ _ _ (Nat.lt_succ_self _) ?_ ?_ ?_
    · omega
    · omega
    · rfl
  · refine x_vret (pc := 17) C Rt0 dX3_run_17 rfl ?_
    refine ⟨_, _, rfl, rfl, ?_⟩
    exact Or.inl ⟨by omega, rfl, rfl⟩
end
section
/-! ===== the filter's bits ===== -/
theorem sh1 : ∀ k : Fin 64, ((1 : Int64) <<< ((iI ((k.val : Nat) : Int)).toInt64 &&& 63)).toBitVec = BitVec.twoPow 64 k.val := by decide +kernel
/-- the two bits of x -/
def bo (x : Int) : Int64 := ((1 : Int64) <<< ((iI (x % 61)).toInt64 &&& 63)) ||| ((1 : Int64) <<< ((iI (x / 61 % 64)).toInt64 &&& 63))
theorem bo_bit {x : Int} (hx : 0 ≤ x) {j : Int} (h0 : 0 ≤ j) (h1 : j < 64) : (bo x).toBitVec.getLsbD j.toNat = (decide (j = x % 61) || decide (j = x / 61 % 64)) := by
  have a1 : 0 ≤ x % 61 := Int.emod_nonneg _ (by omega)
  have a2 : x % 61 < 61 := Int.emod_lt_of_pos _ (by omega)
  have b1 : 0 ≤ x / 61 % 64 := Int.emod_nonneg _ (by omega)
  have b2 : x / 61 % 64 < 64 := Int.emod_lt_of_pos _ (by omega)
  have s1 := sh1 ⟨(x % 61).toNat, by omega⟩
  have s2 := sh1 ⟨(x / 61 % 64).toNat, by omega⟩
  simp only [Int.toNat_of_nonneg a1] at s1
  simp only [Int.toNat_of_nonneg b1] at s2
  unfold bo
  rw [Int64.toBitVec_or, BitVec.getLsbD_or, s1, s2, BitVec.getLsbD_twoPow, BitVec.getLsbD_twoPow]
  have e1 : (x % 61).toNat < 64 := by omega
  have e2 : (x / 61 % 64).toNat < 64 := by omega
  have e3 : ((x % 61).toNat = j.toNat) ↔ (j = x % 61) := by omega
  have e4 : ((x / 61 % 64).toNat = j.toNat) ↔ (j = x / 61 % 64) := by omega
  simp only [e1, e2, e3, e4, decide_true, Bool.true_and]
/-- the long b holds the bits B -/
def FB (b : Int64) (B : Int → Bool) : Prop := ∀ j : Int, 0 ≤ j → j < 64 → b.toBitVec.getLsbD j.toNat = B j
def setB (B : Int → Bool) (x : Int) : Int → Bool := up (up B (x % 61) true) (x / 61 % 64) true
def MB (B : Int → Bool) (x : Int) : Prop := B (x % 61) = true ∧ B (x / 61 % 64) = true
theorem FB.zero : FB 0 (fun _ => false) := fun j _ _ => by
  show (0#64).getLsbD j.toNat = false
  simp
theorem FB.set {b : Int64} {B : Int → Bool} (h : FB b B) {x : Int} (hx : 0 ≤ x) : FB (b ||| bo x) (setB B x) := by
  intro j h0 h1
  rw [Int64.toBitVec_or, BitVec.getLsbD_or, h j h0 h1, bo_bit hx h0 h1]
  unfold setB up
  by_cases q1 : j = x / 61 % 64
  · simp [q1]
  · by_cases q2 : j = x % 61
    · simp [q1, q2]
    · simp [q1, q2]
theorem FB.pass {b : Int64} {B : Int → Bool} (h : FB b B) {x : Int} (hx : 0 ≤ x) : b &&& bo x = bo x ↔ MB B x := by
  have a1 : 0 ≤ x % 61 := Int.emod_nonneg _ (by omega)
  have a2 : x % 61 < 61 := Int.emod_lt_of_pos _ (by omega)
  have b1 : 0 ≤ x / 61 % 64 := Int.emod_nonneg _ (by omega)
  have b2 : x / 61 % 64 < 64 := Int.emod_lt_of_pos _ (by omega)
  constructor
  · intro e
    have key : ∀ j : Int, 0 ≤ j → j < 64 → (j = x % 61 ∨ j = x / 61 % 64) → B j = true := by
      intro j h0 h1 hj
      have q := congrArg (fun v : Int64 => v.toBitVec.getLsbD j.toNat) e
      simp only [Int64.toBitVec_and, BitVec.getLsbD_and, h j h0 h1, bo_bit hx h0 h1] at q
      rcases hj with hj | hj <;> simpa [hj] using q
    exact ⟨key _ a1 (by omega) (Or.inl rfl), key _ b1 b2 (Or.inr rfl)⟩
  · intro ⟨m1, m2⟩
    apply Int64.toBitVec_inj.mp
    apply BitVec.eq_of_getLsbD_eq
    intro i hi
    have q := bo_bit hx (j := (i : Int)) (by omega) (by omega)
    have q2 := h (i : Int) (by omega) (by omega)
    rw [Int.toNat_natCast] at q q2
    rw [Int64.toBitVec_and, BitVec.getLsbD_and, q, q2]
    by_cases e1 : (i : Int) = x % 61
    · rw [e1, m1]; simp
    · by_cases e2 : (i : Int) = x / 61 % 64
      · rw [e2, m2]; simp
      · simp [e1, e2]
/-- the bits of the first k keys -/
def mkB (f : Int → Int) : Nat → Int → Bool
  | 0 => fun _ => false
  | k + 1 => setB (mkB f k) (f (k : Int))
theorem mkB_s (f : Int → Int) {k : Int} (h : 0 ≤ k) : mkB f (k + 1).toNat = setB (mkB f k.toNat) (f k) := by
  rw [show (k + 1).toNat = k.toNat + 1 by omega, mkB, Int.toNat_of_nonneg h]
theorem setB_mb (B : Int → Bool) (x : Int) : MB (setB B x) x := by
  unfold MB setB up
  constructor
  · split
    · rfl
    · simp
  · simp
theorem setB_keep {B : Int → Bool} {x y : Int} (h : MB B y) : MB (setB B x) y := by
  unfold MB setB up at *
  constructor
  · split
    · rfl
    · split
      · rfl
      · exact h.1
  · split
    · rfl
    · split
      · rfl
      · exact h.2
theorem mkB_mb {f : Int → Int} {n : Nat} {i : Int} (h0 : 0 ≤ i) (h1 : i < n) : MB (mkB f n) (f i) := by
  induction n with
  | zero => omega
  | succ n ih =>
    rw [mkB]
    by_cases q : i = (n : Int)
    · rw [q]; exact setB_mb _ _
    · exact setB_keep (ih (by omega))
theorem mkB_congr {f h : Int → Int} (n : Nat) (a : Agr (n : Int) f h) : mkB f n = mkB h n := by
  induction n with
  | zero => rfl
  | succ n ih => rw [mkB, mkB, ih (a.le (by omega)), a (n : Int) (by omega) (by omega)]
end
section
set_option maxHeartbeats 4000000 in
set_option maxRecDepth 100000 in
/-- Filter.bitsOf -/
theorem ctX1_bitsOf (l : Launch) (g : xG) (x : Int) (hx : 0 ≤ x ∧ x ≤ 1000000) : Ct l g yX1_bitsOf wsX1_bitsOf ({ frames := 0, cells := 0, slots := 0, locals := 0 } : Room) 0 0 [] [jv x] (fun v u => v = some (.long (bo x)) ∧ u = [] ∧ (True)) := by
  refine ct_of (cc := cX1_bitsOf) (nL := 1) (ret := (some .long)) (by decide) rfl (Nat.le_of_ble_eq_true rfl) ?_
  intro E C Rt0
  have C : Cx l g E ({ frames := 0, cells := 0, slots := 0, locals := 0 } : Room) RX1 "bitsOf" cX1_bitsOf wsX1_bitsOf 1 := C
  show X l g E ({ frames := 0, cells := 0, slots := 0, locals := 0 } : Room) 1 [] 0 0 [(0, jv x)] 0 []
  refine x_lconstR (pc := 0) C (z := 1) dX1_bitsOf_0 rfl ?_
  refine x_iload_n (pc := 1) C 0 dX1_bitsOf_1 rfl ?_
  refine x_bipush (pc := 2) C dX1_bitsOf_2 rfl ?_
  refine x_irem (pc := 4) C dX1_bitsOf_4 ⟨by omega, by omega⟩ ⟨by omega, by omega⟩ (by first | decide | omega) ?_
  rw [show (x).tmod 61 = x % 61 from (Int.tmod_eq_emod_of_nonneg hx.1)]
  refine x_lshlR (pc := 5) C dX1_bitsOf_5 ?_
  refine x_lconstR (pc := 6) C (z := 1) dX1_bitsOf_6 rfl ?_
  refine x_iload_n (pc := 7) C 0 dX1_bitsOf_7 rfl ?_
  refine x_bipush (pc := 8) C dX1_bitsOf_8 rfl ?_
  refine x_idiv (pc := 10) C dX1_bitsOf_10 ⟨by omega, by omega⟩ ⟨by omega, by omega⟩ (by first | decide | omega) ?_
  rw [show (x).tdiv 61 = x / 61 from (Int.tdiv_eq_ediv_of_nonneg hx.1)]
  refine x_bipush (pc := 11) C dX1_bitsOf_11 rfl ?_
  refine x_irem (pc := 13) C dX1_bitsOf_13 ⟨by omega, by omega⟩ ⟨by omega, by omega⟩ (by first | decide | omega) ?_
  rw [show (x / 61).tmod 64 = x / 61 % 64 from (Int.tmod_eq_emod_of_nonneg (Int.ediv_nonneg hx.1 (by omega)))]
  refine x_lshlR (pc := 14) C dX1_bitsOf_14 ?_
  refine x_lorR (pc := 15) C dX1_bitsOf_15 ?_
  refine x_lret (pc := 16) C Rt0 dX1_bitsOf_16 rfl ?_
  refine ⟨rfl, rfl, ?_⟩
  trivial

set_option maxRecDepth 100000 in
theorem hiX1_clear_1 : ∀ w ∈ wsX10, w ∈ wsX1_clear := by decide +kernel
set_option maxRecDepth 100000 in
theorem hfX1_clear_7 : Cond.fieldLink RX1 7 "KeyGuess$Filter" "bits" "J" ∈ wsX1_clear := by decide +kernel
set_option maxHeartbeats 4000000 in
set_option maxRecDepth 100000 in
/-- Filter.clear -/
theorem ctX1_clear (l : Launch) (g : xG) (a : Nat) (b : Int64)  : Ct l g yX1_clear wsX1_clear ({ frames := 0, cells := 0, slots := 0, locals := 0 } : Room) 0 0 [(a, ob 1 [.long b])] [.ref a] (fun v u => v = none ∧ u = [(a, ob 1 [.long 0])] ∧ (True)) := by
  refine ct_of (cc := cX1_clear) (nL := 1) (ret := none) (by decide) rfl (Nat.le_of_ble_eq_true rfl) ?_
  intro E C Rt0
  have C : Cx l g E ({ frames := 0, cells := 0, slots := 0, locals := 0 } : Room) RX1 "clear" cX1_clear wsX1_clear 1 := C
  show X l g E ({ frames := 0, cells := 0, slots := 0, locals := 0 } : Room) 1 [(a, ob 1 [.long b])] 0 0 [(0, .ref a)] 0 []
  refine x_aload_n (pc := 0) C 0 dX1_clear_0 rfl ?_
  refine x_lconstR (pc := 1) C (z := 0) dX1_clear_1 rfl ?_
  refine x_put (pc := 2) C (ty := .long) (ws' := [(a, ob 1 [.long 0])]) tyX1 0 0 dX1_clear_2 hiX1_clear_1 tyX1_ok nmX1 hfX1_clear_7 rfl rfl rfl (by decide) rfl (by decide +kernel) rfl rfl (Nat.le_of_ble_eq_true rfl) rfl ?_
  refine x_vret (pc := 5) C Rt0 dX1_clear_5 rfl ?_
  refine ⟨rfl, rfl, ?_⟩
  trivial

set_option maxRecDepth 100000 in
theorem hiX1_add_1 : ∀ w ∈ wsX10, w ∈ wsX1_add := by decide +kernel
set_option maxRecDepth 100000 in
theorem hfX1_add_7 : Cond.fieldLink RX1 7 "KeyGuess$Filter" "bits" "J" ∈ wsX1_add := by decide +kernel
set_option maxHeartbeats 4000000 in
set_option maxRecDepth 100000 in
/-- Filter.add -/
theorem ctX1_add (l : Launch) (g : xG) (a : Nat) (b : Int64) (x : Int) (hx : 0 ≤ x ∧ x ≤ 1000000) : Ct l g yX1_add wsX1_add ({ frames := 1, cells := 0, slots := 0, locals := 20 } : Room) 0 0 [(a, ob 1 [.long b])] [.ref a, jv x] (fun v u => v = none ∧ u = [(a, ob 1 [.long (b ||| bo x)])] ∧ (True)) := by
  refine ct_of (cc := cX1_add) (nL := 2) (ret := none) (by decide) rfl (Nat.le_of_ble_eq_true rfl) ?_
  intro E C Rt0
  have C : Cx l g E ({ frames := 1, cells := 0, slots := 0, locals := 20 } : Room) RX1 "add" cX1_add wsX1_add 2 := C
  show X l g E ({ frames := 1, cells := 0, slots := 0, locals := 20 } : Room) 2 [(a, ob 1 [.long b])] 0 0 [(0, .ref a), (1, jv x)] 0 []
  refine x_aload_n (pc := 0) C 0 dX1_add_0 rfl ?_
  refine x_dup (pc := 1) C dX1_add_1 rfl ?_
  refine x_get (pc := 2) C 0 0 dX1_add_2 hiX1_add_1 hfX1_add_7 rfl rfl rfl (by decide) rfl ?_
  refine x_iload_n (pc := 5) C 1 dX1_add_5 rfl ?_
  refine x_callS (pc := 6) C (n := 1) (rest := [.long b, .ref a]) (wr := [(a, ob 1 [.long b])]) [] [0] (ctX1_bitsOf l g x hx) gX1_add_X1_bitsOf rfl (by decide +kernel) ⟨rfl, rfl⟩ ⟨by decide, by decide⟩ rfl rfl rfl (by decide) (by decide) (by decide) rfl (Nat.le_of_ble_eq_true rfl) dX1_add_6 ⟨by decide, by decide⟩ (fun v_6 u_6 h_6 => ?_)
  rcases h_6 with ⟨rfl, rfl, f_6⟩
  refine x_world (ws' := [(a, ob 1 [.long b])]) [0] (by decide) rfl ?_
  show X l g E ({ frames := 1, cells := 0, slots := 0, locals := 20 } : Room) 2 [(a, ob 1 [.long b])] 0 0 [(0, .ref a), (1, jv x)] 9 [.long (bo x), .long b, .ref a]
  refine x_lorR (pc := 9) C dX1_add_9 ?_
  refine x_put (pc := 10) C (ty := .long) (ws' := [(a, ob 1 [.long (b ||| (bo x))])]) tyX1 0 0 dX1_add_10 hiX1_add_1 tyX1_ok nmX1 hfX1_add_7 rfl rfl rfl (by decide) rfl (by decide +kernel) rfl rfl (Nat.le_of_ble_eq_true rfl) rfl ?_
  refine x_vret (pc := 13) C Rt0 dX1_add_13 rfl ?_
  refine ⟨rfl, rfl, ?_⟩
  trivial

set_option maxRecDepth 100000 in
theorem hiX1_passes_1 : ∀ w ∈ wsX10, w ∈ wsX1_passes := by decide +kernel
set_option maxRecDepth 100000 in
theorem hfX1_passes_7 : Cond.fieldLink RX1 7 "KeyGuess$Filter" "bits" "J" ∈ wsX1_passes := by decide +kernel
set_option maxHeartbeats 4000000 in
set_option maxRecDepth 100000 in
/-- Filter.passes -/
theorem ctX1_passes (l : Launch) (g : xG) (a : Nat) (b : Int64) (x : Int) (hx : 0 ≤ x ∧ x ≤ 1000000) : Ct l g yX1_passes wsX1_passes ({ frames := 1, cells := 0, slots := 0, locals := 20 } : Room) 0 0 [(a, ob 1 [.long b])] [.ref a, jv x] (fun v u => (v = some (jv 1) ∧ u = [(a, ob 1 [.long b])] ∧ (b &&& bo x = bo x)) ∨ (v = some (jv 0) ∧ u = [(a, ob 1 [.long b])] ∧ (¬ b &&& bo x = bo x))) := by
  refine ct_of (cc := cX1_passes) (nL := 4) (ret := (some .boolean)) (by decide) rfl (Nat.le_of_ble_eq_true rfl) ?_
  intro E C Rt0
  have C : Cx l g E ({ frames := 1, cells := 0, slots := 0, locals := 20 } : Room) RX1 "passes" cX1_passes wsX1_passes 4 := C
  show X l g E ({ frames := 1, cells := 0, slots := 0, locals := 20 } : Room) 4 [(a, ob 1 [.long b])] 0 0 [(0, .ref a), (1, jv x)] 0 []
  refine x_iload_n (pc := 0) C 1 dX1_passes_0 rfl ?_
  refine x_callS (pc := 1) C (n := 1) (rest := []) (wr := [(a, ob 1 [.long b])]) [] [0] (ctX1_bitsOf l g x hx) gX1_passes_X1_bitsOf rfl (by decide +kernel) ⟨rfl, rfl⟩ ⟨by decide, by decide⟩ rfl rfl rfl (by decide) (by decide) (by decide) rfl (Nat.le_of_ble_eq_true rfl) dX1_passes_1 ⟨by decide, by decide⟩ (fun v_1 u_1 h_1 => ?_)
  rcases h_1 with ⟨rfl, rfl, f_1⟩
  refine x_world (ws' := [(a, ob 1 [.long b])]) [0] (by decide) rfl ?_
  show X l g E ({ frames := 1, cells := 0, slots := 0, locals := 20 } : Room) 4 [(a, ob 1 [.long b])] 0 0 [(0, .ref a), (1, jv x)] 4 [.long (bo x)]
  refine x_lstore_nR (pc := 4) C (lv' := [(2, .long (bo x)), (0, .ref a), (1, jv x)]) dX1_passes_4 (by decide) rfl ?_
  refine x_aload_n (pc := 5) C 1 dX1_passes_5 rfl ?_
  refine x_get (pc := 6) C 0 0 dX1_passes_6 hiX1_passes_1 hfX1_passes_7 rfl rfl rfl (by decide) rfl ?_
  refine x_lload_nR (pc := 9) C 0 dX1_passes_9 rfl ?_
  refine x_landR (pc := 10) C dX1_passes_10 ?_
  refine x_lload_nR (pc := 11) C 0 dX1_passes_11 rfl ?_
  refine x_lcmpR (pc := 12) C 20 dX1_passes_12 dX1_passes_13 rfl (fun c_12 => ?_) (fun c_12 => ?_)
  · refine x_iconst (pc := 20) C dX1_passes_20 ?_
    refine x_zret (pc := 21) C Rt0 dX1_passes_21 rfl rfl ?_
    refine Or.inr (⟨rfl, rfl, ?_⟩)
    exact c_12
  · refine x_iconst (pc := 16) C dX1_passes_16 ?_
    refine x_goto (pc := 17) C 21 dX1_passes_17 rfl ?_
    refine x_zret (pc := 21) C Rt0 dX1_passes_21 rfl rfl ?_
    refine Or.inl ⟨rfl, rfl, ?_⟩
    exact c_12
end
