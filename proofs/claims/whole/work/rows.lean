section
-- ===== PART A: goes FIRST, ahead of the names: the tables' words, and 'selects' of the private methods out of them =====
/-- a private method of a class that the tables say can be made, by its rows of tables_1 -/
def lw_okq (q : MethodName × Nat) : Prop := (q.1.cls ≠ "java/lang/invoke/MethodHandle" ∧ q.1.cls ≠ "java/lang/invoke/VarHandle") ∧ Cond.instantiable q.1.cls q.2 ∈ tables_1 ∧ Cond.privateMethod q.1 ∈ tables_1 ∧ Cond.instanceMethod q.1 ∈ tables_1
theorem lw_p0 : lw_okq (⟨"KeyGuess", "clearAsideIfFull", "()V"⟩, 11) := ⟨⟨by decide +kernel, by decide +kernel⟩, List.mem_of_getElem? (i := 11) (by decide +kernel), List.mem_of_getElem? (i := 168) (by decide +kernel), List.mem_of_getElem? (i := 169) (by decide +kernel)⟩
theorem lw_p1 : lw_okq (⟨"KeyGuess", "makeRow", "()V"⟩, 11) := ⟨⟨by decide +kernel, by decide +kernel⟩, List.mem_of_getElem? (i := 11) (by decide +kernel), List.mem_of_getElem? (i := 172) (by decide +kernel), List.mem_of_getElem? (i := 173) (by decide +kernel)⟩
theorem lw_p2 : lw_okq (⟨"KeyGuess$Cuts", "cutFrom", "(III)V"⟩, 5) := ⟨⟨by decide +kernel, by decide +kernel⟩, List.mem_of_getElem? (i := 33) (by decide +kernel), List.mem_of_getElem? (i := 216) (by decide +kernel), List.mem_of_getElem? (i := 217) (by decide +kernel)⟩
theorem lw_p3 : lw_okq (⟨"KeyGuess$Tower", "raise", "(ILKeyGuess$Cuts;)V"⟩, 9) := ⟨⟨by decide +kernel, by decide +kernel⟩, List.mem_of_getElem? (i := 55) (by decide +kernel), List.mem_of_getElem? (i := 220) (by decide +kernel), List.mem_of_getElem? (i := 221) (by decide +kernel)⟩
theorem lw_p4 : lw_okq (⟨"KeyGuess$Tower", "lay", "(ILKeyGuess$Cuts;)V"⟩, 9) := ⟨⟨by decide +kernel, by decide +kernel⟩, List.mem_of_getElem? (i := 55) (by decide +kernel), List.mem_of_getElem? (i := 224) (by decide +kernel), List.mem_of_getElem? (i := 225) (by decide +kernel)⟩
theorem lw_p5 : lw_okq (⟨"KeyGuess$Tower", "layBase", "(I)V"⟩, 9) := ⟨⟨by decide +kernel, by decide +kernel⟩, List.mem_of_getElem? (i := 55) (by decide +kernel), List.mem_of_getElem? (i := 251) (by decide +kernel), List.mem_of_getElem? (i := 252) (by decide +kernel)⟩
theorem lw_p6 : lw_okq (⟨"KeyGuess$Tower", "isPiece", "(I)Z"⟩, 9) := ⟨⟨by decide +kernel, by decide +kernel⟩, List.mem_of_getElem? (i := 55) (by decide +kernel), List.mem_of_getElem? (i := 263) (by decide +kernel), List.mem_of_getElem? (i := 264) (by decide +kernel)⟩
theorem lw_p7 : lw_okq (⟨"KeyGuess", "piecesWith", "(I)I"⟩, 11) := ⟨⟨by decide +kernel, by decide +kernel⟩, List.mem_of_getElem? (i := 11) (by decide +kernel), List.mem_of_getElem? (i := 406) (by decide +kernel), List.mem_of_getElem? (i := 407) (by decide +kernel)⟩
theorem lw_p8 : lw_okq (⟨"KeyGuessModel", "layLevels", "()V"⟩, 25) := ⟨⟨by decide +kernel, by decide +kernel⟩, List.mem_of_getElem? (i := 429) (by decide +kernel), List.mem_of_getElem? (i := 435) (by decide +kernel), List.mem_of_getElem? (i := 436) (by decide +kernel)⟩
theorem lw_p9 : lw_okq (⟨"KeyGuessModel", "layLevel", "(I)V"⟩, 25) := ⟨⟨by decide +kernel, by decide +kernel⟩, List.mem_of_getElem? (i := 429) (by decide +kernel), List.mem_of_getElem? (i := 439) (by decide +kernel), List.mem_of_getElem? (i := 440) (by decide +kernel)⟩
theorem lw_p10 : lw_okq (⟨"KeyGuessModel", "layPieces", "()V"⟩, 25) := ⟨⟨by decide +kernel, by decide +kernel⟩, List.mem_of_getElem? (i := 429) (by decide +kernel), List.mem_of_getElem? (i := 443) (by decide +kernel), List.mem_of_getElem? (i := 444) (by decide +kernel)⟩
theorem lw_p11 : lw_okq (⟨"KeyGuessModel", "keeps", "(II)Z"⟩, 25) := ⟨⟨by decide +kernel, by decide +kernel⟩, List.mem_of_getElem? (i := 429) (by decide +kernel), List.mem_of_getElem? (i := 447) (by decide +kernel), List.mem_of_getElem? (i := 448) (by decide +kernel)⟩
theorem lw_p12 : lw_okq (⟨"KeyGuessModel", "layLow", "(II)V"⟩, 25) := ⟨⟨by decide +kernel, by decide +kernel⟩, List.mem_of_getElem? (i := 429) (by decide +kernel), List.mem_of_getElem? (i := 451) (by decide +kernel), List.mem_of_getElem? (i := 452) (by decide +kernel)⟩
theorem lw_p13 : lw_okq (⟨"KeyGuessModel", "endOf", "(I)I"⟩, 25) := ⟨⟨by decide +kernel, by decide +kernel⟩, List.mem_of_getElem? (i := 429) (by decide +kernel), List.mem_of_getElem? (i := 455) (by decide +kernel), List.mem_of_getElem? (i := 456) (by decide +kernel)⟩
theorem lw_p14 : lw_okq (⟨"KeyGuessModel", "isThere", "(I)Z"⟩, 25) := ⟨⟨by decide +kernel, by decide +kernel⟩, List.mem_of_getElem? (i := 429) (by decide +kernel), List.mem_of_getElem? (i := 551) (by decide +kernel), List.mem_of_getElem? (i := 552) (by decide +kernel)⟩
theorem lw_p15 : lw_okq (⟨"KeyGuessModel", "layNow", "()V"⟩, 25) := ⟨⟨by decide +kernel, by decide +kernel⟩, List.mem_of_getElem? (i := 429) (by decide +kernel), List.mem_of_getElem? (i := 555) (by decide +kernel), List.mem_of_getElem? (i := 556) (by decide +kernel)⟩
def lw_privs_1 : List (MethodName × Nat) := [(⟨"KeyGuess", "clearAsideIfFull", "()V"⟩, 11), (⟨"KeyGuess", "makeRow", "()V"⟩, 11), (⟨"KeyGuess$Cuts", "cutFrom", "(III)V"⟩, 5), (⟨"KeyGuess$Tower", "raise", "(ILKeyGuess$Cuts;)V"⟩, 9), (⟨"KeyGuess$Tower", "lay", "(ILKeyGuess$Cuts;)V"⟩, 9), (⟨"KeyGuess$Tower", "layBase", "(I)V"⟩, 9), (⟨"KeyGuess$Tower", "isPiece", "(I)Z"⟩, 9), (⟨"KeyGuess", "piecesWith", "(I)I"⟩, 11), (⟨"KeyGuessModel", "layLevels", "()V"⟩, 25), (⟨"KeyGuessModel", "layLevel", "(I)V"⟩, 25), (⟨"KeyGuessModel", "layPieces", "()V"⟩, 25), (⟨"KeyGuessModel", "keeps", "(II)Z"⟩, 25), (⟨"KeyGuessModel", "layLow", "(II)V"⟩, 25), (⟨"KeyGuessModel", "endOf", "(I)I"⟩, 25), (⟨"KeyGuessModel", "isThere", "(I)Z"⟩, 25), (⟨"KeyGuessModel", "layNow", "()V"⟩, 25)]
theorem lw_r1 : ∀ q ∈ lw_privs_1, lw_okq q := List.forall_mem_cons.mpr ⟨lw_p0, List.forall_mem_cons.mpr ⟨lw_p1, List.forall_mem_cons.mpr ⟨lw_p2, List.forall_mem_cons.mpr ⟨lw_p3, List.forall_mem_cons.mpr ⟨lw_p4, List.forall_mem_cons.mpr ⟨lw_p5, List.forall_mem_cons.mpr ⟨lw_p6, List.forall_mem_cons.mpr ⟨lw_p7, List.forall_mem_cons.mpr ⟨lw_p8, List.forall_mem_cons.mpr ⟨lw_p9, List.forall_mem_cons.mpr ⟨lw_p10, List.forall_mem_cons.mpr ⟨lw_p11, List.forall_mem_cons.mpr ⟨lw_p12, List.forall_mem_cons.mpr ⟨lw_p13, List.forall_mem_cons.mpr ⟨lw_p14, List.forall_mem_cons.mpr ⟨lw_p15, fun _ h => absurd h List.not_mem_nil⟩⟩⟩⟩⟩⟩⟩⟩⟩⟩⟩⟩⟩⟩⟩⟩
theorem lw_p16 : lw_okq (⟨"KeyGuessModel", "insertNow", "(I)V"⟩, 25) := ⟨⟨by decide +kernel, by decide +kernel⟩, List.mem_of_getElem? (i := 429) (by decide +kernel), List.mem_of_getElem? (i := 562) (by decide +kernel), List.mem_of_getElem? (i := 563) (by decide +kernel)⟩
theorem lw_p17 : lw_okq (⟨"KeyGuessModel", "makeRow", "()V"⟩, 25) := ⟨⟨by decide +kernel, by decide +kernel⟩, List.mem_of_getElem? (i := 429) (by decide +kernel), List.mem_of_getElem? (i := 566) (by decide +kernel), List.mem_of_getElem? (i := 567) (by decide +kernel)⟩
theorem lw_p18 : lw_okq (⟨"KeyGuessModel", "setBits", "(I)V"⟩, 25) := ⟨⟨by decide +kernel, by decide +kernel⟩, List.mem_of_getElem? (i := 429) (by decide +kernel), List.mem_of_getElem? (i := 570) (by decide +kernel), List.mem_of_getElem? (i := 571) (by decide +kernel)⟩
theorem lw_p19 : lw_okq (⟨"KeyGuessModel", "piecesAt", "(I)I"⟩, 25) := ⟨⟨by decide +kernel, by decide +kernel⟩, List.mem_of_getElem? (i := 429) (by decide +kernel), List.mem_of_getElem? (i := 610) (by decide +kernel), List.mem_of_getElem? (i := 611) (by decide +kernel)⟩
theorem lw_p20 : lw_okq (⟨"KeyGuessModel", "pieceFor", "(I)I"⟩, 25) := ⟨⟨by decide +kernel, by decide +kernel⟩, List.mem_of_getElem? (i := 429) (by decide +kernel), List.mem_of_getElem? (i := 626) (by decide +kernel), List.mem_of_getElem? (i := 627) (by decide +kernel)⟩
theorem lw_p21 : lw_okq (⟨"KeyGuessModel", "guessBy", "(II)I"⟩, 25) := ⟨⟨by decide +kernel, by decide +kernel⟩, List.mem_of_getElem? (i := 429) (by decide +kernel), List.mem_of_getElem? (i := 630) (by decide +kernel), List.mem_of_getElem? (i := 631) (by decide +kernel)⟩
theorem lw_p22 : lw_okq (⟨"KeyGuessModel", "lookFor", "(I)I"⟩, 25) := ⟨⟨by decide +kernel, by decide +kernel⟩, List.mem_of_getElem? (i := 429) (by decide +kernel), List.mem_of_getElem? (i := 638) (by decide +kernel), List.mem_of_getElem? (i := 639) (by decide +kernel)⟩
theorem lw_p23 : lw_okq (⟨"KeyGuessModel", "isMaybe", "(I)Z"⟩, 25) := ⟨⟨by decide +kernel, by decide +kernel⟩, List.mem_of_getElem? (i := 429) (by decide +kernel), List.mem_of_getElem? (i := 650) (by decide +kernel), List.mem_of_getElem? (i := 651) (by decide +kernel)⟩
theorem lw_p24 : lw_okq (⟨"KeyGuessModel", "piecesWith", "(I)I"⟩, 25) := ⟨⟨by decide +kernel, by decide +kernel⟩, List.mem_of_getElem? (i := 429) (by decide +kernel), List.mem_of_getElem? (i := 662) (by decide +kernel), List.mem_of_getElem? (i := 663) (by decide +kernel)⟩
def lw_privs_2 : List (MethodName × Nat) := [(⟨"KeyGuessModel", "insertNow", "(I)V"⟩, 25), (⟨"KeyGuessModel", "makeRow", "()V"⟩, 25), (⟨"KeyGuessModel", "setBits", "(I)V"⟩, 25), (⟨"KeyGuessModel", "piecesAt", "(I)I"⟩, 25), (⟨"KeyGuessModel", "pieceFor", "(I)I"⟩, 25), (⟨"KeyGuessModel", "guessBy", "(II)I"⟩, 25), (⟨"KeyGuessModel", "lookFor", "(I)I"⟩, 25), (⟨"KeyGuessModel", "isMaybe", "(I)Z"⟩, 25), (⟨"KeyGuessModel", "piecesWith", "(I)I"⟩, 25)]
theorem lw_r2 : ∀ q ∈ lw_privs_2, lw_okq q := List.forall_mem_cons.mpr ⟨lw_p16, List.forall_mem_cons.mpr ⟨lw_p17, List.forall_mem_cons.mpr ⟨lw_p18, List.forall_mem_cons.mpr ⟨lw_p19, List.forall_mem_cons.mpr ⟨lw_p20, List.forall_mem_cons.mpr ⟨lw_p21, List.forall_mem_cons.mpr ⟨lw_p22, List.forall_mem_cons.mpr ⟨lw_p23, List.forall_mem_cons.mpr ⟨lw_p24, fun _ h => absurd h List.not_mem_nil⟩⟩⟩⟩⟩⟩⟩⟩⟩
def lw_privs : List (MethodName × Nat) := lw_privs_1 ++ (lw_privs_2)
def lw_tbl : List Cond := k2_sels lw_privs ++ tables_1
theorem lw_privs_ok : ∀ q ∈ lw_privs, lw_okq q := by
  show ∀ q ∈ lw_privs_1 ++ (lw_privs_2), lw_okq q
  exact List.forall_mem_append.mpr ⟨lw_r1, lw_r2⟩
-- ===== end of PART A; then your names; then what follows =====
end
section
/-! ===== BEGIN words of one list among another's, by their places ===== -/
theorem goodIn_r {big : List Cond} (ws : List Cond) (ps : List Nat) (hp : ws = ps.filterMap (fun i => big[i]?)) (h : ws.all goodWord = true) : GoodIn big ws := by
  intro w hw
  have h1 := List.all_eq_true.mp h w hw
  rw [hp] at hw
  obtain ⟨i, -, hi⟩ := List.mem_filterMap.mp hw
  have hm : w ∈ big := by first | exact List.mem_of_getElem? hi | exact List.getElem?_mem hi
  exact ⟨hm, good_of_word h1⟩
theorem goodIn_app {big a b : List Cond} (ha : GoodIn big a) (hb : GoodIn big b) : GoodIn big (a ++ b) := fun w h => (List.mem_append.mp h).elim (ha w) (hb w)
theorem goodIn_ca {big a b : List Cond} {c : Cond} (ha : GoodIn big (c :: a)) (hb : GoodIn big b) : GoodIn big (c :: (a ++ b)) := fun w h => (List.mem_cons.mp h).elim (fun e => ha w (List.mem_cons.mpr (Or.inl e))) (fun h => (List.mem_append.mp h).elim (fun h => ha w (List.mem_cons.mpr (Or.inr h))) (hb w))
theorem goodIn_sub {big ws : List Cond} (hm : ∀ w ∈ ws, w ∈ big) (h : ws.all goodWord = true) : GoodIn big ws := fun w hw => ⟨hm w hw, good_of_word (List.all_eq_true.mp h w hw)⟩
/-! ===== END ===== -/

/-! ===== BEGIN printed: names, fields, word lists, decode rows ===== -/
def RX0 : String := "KeyGuess$Cuts"
def TX0 : u_T := fun k => match k with
  | 0 => ("KeyGuess$Cuts", "cells", "[I", true)
  | 1 => ("KeyGuess$Cuts", "fewest", "[I", true)
  | 2 => ("KeyGuess$Cuts", "lasts", "[I", true)
  | 3 => ("KeyGuess$Cuts", "slopeNums", "[I", true)
  | _ => ("KeyGuess$Cuts", "slopeDens", "[I", true)
def tyX0 : Nat → FieldType := fun k => match k with
  | 0 => .array .int
  | 1 => .array .int
  | 2 => .array .int
  | 3 => .array .int
  | _ => .array .int
abbrev wsX00 : List Cond := u_ws RX0 TX0 5
theorem nmX0 : ∀ a, a < 5 → ∀ b, b < 5 → a ≠ b → (TX0 a).2.1 ≠ (TX0 b).2.1 := by decide +kernel
theorem tyX0_ok : ∀ k, k < 5 → parseFieldDescriptor (TX0 k).2.2.1 = some (tyX0 k) := by decide +kernel
abbrev cX0_init : ByteArray := prog_2_method_1_code
def yX0_init : MethodName := ⟨RX0, "<init>", "()V"⟩
abbrev cX0_cut : ByteArray := prog_2_method_2_code
def yX0_cut : MethodName := ⟨RX0, "cut", "(LKeyGuess$Keys;I)V"⟩
abbrev cX0_fewestFrom : ByteArray := prog_2_method_3_code
def yX0_fewestFrom : MethodName := ⟨RX0, "fewestFrom", "(I)I"⟩
abbrev cX0_lastOf : ByteArray := prog_2_method_4_code
def yX0_lastOf : MethodName := ⟨RX0, "lastOf", "(I)I"⟩
abbrev cX0_slopeNum : ByteArray := prog_2_method_5_code
def yX0_slopeNum : MethodName := ⟨RX0, "slopeNum", "(I)I"⟩
abbrev cX0_slopeDen : ByteArray := prog_2_method_6_code
def yX0_slopeDen : MethodName := ⟨RX0, "slopeDen", "(I)I"⟩
abbrev cX0_isRank : ByteArray := prog_2_method_7_code
def yX0_isRank : MethodName := ⟨RX0, "isRank", "(I)Z"⟩
abbrev cX0_cutFrom : ByteArray := prog_2_method_8_code
def yX0_cutFrom : MethodName := ⟨RX0, "cutFrom", "(III)V"⟩
def RX1 : String := "KeyGuess$Filter"
def TX1 : u_T := fun k => match k with
  | _ => ("KeyGuess$Filter", "bits", "J", false)
def tyX1 : Nat → FieldType := fun k => match k with
  | _ => .long
abbrev wsX10 : List Cond := u_ws RX1 TX1 1
theorem nmX1 : ∀ a, a < 1 → ∀ b, b < 1 → a ≠ b → (TX1 a).2.1 ≠ (TX1 b).2.1 := by decide +kernel
theorem tyX1_ok : ∀ k, k < 1 → parseFieldDescriptor (TX1 k).2.2.1 = some (tyX1 k) := by decide +kernel
abbrev cX1_init : ByteArray := prog_3_method_1_code
def yX1_init : MethodName := ⟨RX1, "<init>", "()V"⟩
abbrev cX1_clear : ByteArray := prog_3_method_2_code
def yX1_clear : MethodName := ⟨RX1, "clear", "()V"⟩
abbrev cX1_add : ByteArray := prog_3_method_3_code
def yX1_add : MethodName := ⟨RX1, "add", "(I)V"⟩
abbrev cX1_passes : ByteArray := prog_3_method_4_code
def yX1_passes : MethodName := ⟨RX1, "passes", "(I)Z"⟩
abbrev cX1_bitsSet : ByteArray := prog_3_method_5_code
def yX1_bitsSet : MethodName := ⟨RX1, "bitsSet", "()I"⟩
abbrev cX1_bitsOf : ByteArray := prog_3_method_6_code
def yX1_bitsOf : MethodName := ⟨RX1, "bitsOf", "(I)J"⟩
def RX2 : String := "KeyGuess$Keys"
def TX2 : u_T := fun k => match k with
  | 0 => ("KeyGuess$Keys", "cells", "[I", true)
  | _ => ("KeyGuess$Keys", "size", "I", false)
def tyX2 : Nat → FieldType := fun k => match k with
  | 0 => .array .int
  | _ => .int
abbrev wsX20 : List Cond := u_ws RX2 TX2 2
theorem nmX2 : ∀ a, a < 2 → ∀ b, b < 2 → a ≠ b → (TX2 a).2.1 ≠ (TX2 b).2.1 := by decide +kernel
theorem tyX2_ok : ∀ k, k < 2 → parseFieldDescriptor (TX2 k).2.2.1 = some (tyX2 k) := by decide +kernel
abbrev cX2_init : ByteArray := prog_4_method_1_code
def yX2_init : MethodName := ⟨RX2, "<init>", "()V"⟩
abbrev cX2_size : ByteArray := prog_4_method_2_code
def yX2_size : MethodName := ⟨RX2, "size", "()I"⟩
abbrev cX2_key : ByteArray := prog_4_method_3_code
def yX2_key : MethodName := ⟨RX2, "key", "(I)I"⟩
abbrev cX2_below : ByteArray := prog_4_method_4_code
def yX2_below : MethodName := ⟨RX2, "below", "(I)I"⟩
abbrev cX2_has : ByteArray := prog_4_method_5_code
def yX2_has : MethodName := ⟨RX2, "has", "(I)Z"⟩
abbrev cX2_within : ByteArray := prog_4_method_6_code
def yX2_within : MethodName := ⟨RX2, "within", "(II)I"⟩
abbrev cX2_total : ByteArray := prog_4_method_7_code
def yX2_total : MethodName := ⟨RX2, "total", "(II)J"⟩
abbrev cX2_clear : ByteArray := prog_4_method_8_code
def yX2_clear : MethodName := ⟨RX2, "clear", "()V"⟩
abbrev cX2_copy : ByteArray := prog_4_method_9_code
def yX2_copy : MethodName := ⟨RX2, "copy", "(LKeyGuess$Keys;)V"⟩
abbrev cX2_append : ByteArray := prog_4_method_10_code
def yX2_append : MethodName := ⟨RX2, "append", "(I)V"⟩
abbrev cX2_add : ByteArray := prog_4_method_11_code
def yX2_add : MethodName := ⟨RX2, "add", "(I)V"⟩
abbrev cX2_drop : ByteArray := prog_4_method_12_code
def yX2_drop : MethodName := ⟨RX2, "drop", "(I)V"⟩
def RX3 : String := "KeyGuess$Look"
def TX3 : u_T := fun k => match k with
  | 0 => ("KeyGuess$Look", "met", "I", false)
  | _ => ("KeyGuess$Look", "seen", "I", false)
def tyX3 : Nat → FieldType := fun k => match k with
  | 0 => .int
  | _ => .int
abbrev wsX30 : List Cond := u_ws RX3 TX3 2
theorem nmX3 : ∀ a, a < 2 → ∀ b, b < 2 → a ≠ b → (TX3 a).2.1 ≠ (TX3 b).2.1 := by decide +kernel
theorem tyX3_ok : ∀ k, k < 2 → parseFieldDescriptor (TX3 k).2.2.1 = some (tyX3 k) := by decide +kernel
abbrev cX3_init : ByteArray := prog_5_method_1_code
def yX3_init : MethodName := ⟨RX3, "<init>", "()V"⟩
abbrev cX3_met : ByteArray := prog_5_method_2_code
def yX3_met : MethodName := ⟨RX3, "met", "()I"⟩
abbrev cX3_ranksSeen : ByteArray := prog_5_method_3_code
def yX3_ranksSeen : MethodName := ⟨RX3, "ranksSeen", "()I"⟩
abbrev cX3_run : ByteArray := prog_5_method_4_code
def yX3_run : MethodName := ⟨RX3, "run", "(LKeyGuess$Keys;LKeyGuess$Tower;II)V"⟩
abbrev cX3_away : ByteArray := prog_5_method_5_code
def yX3_away : MethodName := ⟨RX3, "away", "(I)I"⟩
def RX4 : String := "KeyGuess$Tower"
def TX4 : u_T := fun k => match k with
  | 0 => ("KeyGuess$Tower", "base", "LKeyGuess$Keys;", true)
  | 1 => ("KeyGuess$Tower", "starts", "[I", true)
  | 2 => ("KeyGuess$Tower", "froms", "[I", true)
  | 3 => ("KeyGuess$Tower", "lasts", "[I", true)
  | 4 => ("KeyGuess$Tower", "firsts", "[I", true)
  | 5 => ("KeyGuess$Tower", "slopeNums", "[I", true)
  | 6 => ("KeyGuess$Tower", "slopeDens", "[I", true)
  | 7 => ("KeyGuess$Tower", "height", "I", false)
  | _ => ("KeyGuess$Tower", "size", "I", false)
def tyX4 : Nat → FieldType := fun k => match k with
  | 0 => .object "KeyGuess$Keys"
  | 1 => .array .int
  | 2 => .array .int
  | 3 => .array .int
  | 4 => .array .int
  | 5 => .array .int
  | 6 => .array .int
  | 7 => .int
  | _ => .int
abbrev wsX40 : List Cond := u_ws RX4 TX4 9
theorem nmX4 : ∀ a, a < 9 → ∀ b, b < 9 → a ≠ b → (TX4 a).2.1 ≠ (TX4 b).2.1 := by decide +kernel
theorem tyX4_ok : ∀ k, k < 9 → parseFieldDescriptor (TX4 k).2.2.1 = some (tyX4 k) := by decide +kernel
abbrev cX4_init : ByteArray := prog_6_method_1_code
def yX4_init : MethodName := ⟨RX4, "<init>", "()V"⟩
abbrev cX4_height : ByteArray := prog_6_method_2_code
def yX4_height : MethodName := ⟨RX4, "height", "()I"⟩
abbrev cX4_width : ByteArray := prog_6_method_3_code
def yX4_width : MethodName := ⟨RX4, "width", "(I)I"⟩
abbrev cX4_tell : ByteArray := prog_6_method_4_code
def yX4_tell : MethodName := ⟨RX4, "tell", "(III)I"⟩
abbrev cX4_build : ByteArray := prog_6_method_5_code
def yX4_build : MethodName := ⟨RX4, "build", "(LKeyGuess$Keys;LKeyGuess$Cuts;I)V"⟩
abbrev cX4_pieceFor : ByteArray := prog_6_method_6_code
def yX4_pieceFor : MethodName := ⟨RX4, "pieceFor", "(I)I"⟩
abbrev cX4_rankBy : ByteArray := prog_6_method_7_code
def yX4_rankBy : MethodName := ⟨RX4, "rankBy", "(II)I"⟩
abbrev cX4_fromOf : ByteArray := prog_6_method_8_code
def yX4_fromOf : MethodName := ⟨RX4, "fromOf", "(I)I"⟩
abbrev cX4_lastOf : ByteArray := prog_6_method_9_code
def yX4_lastOf : MethodName := ⟨RX4, "lastOf", "(I)I"⟩
abbrev cX4_isPiece : ByteArray := prog_6_method_10_code
def yX4_isPiece : MethodName := ⟨RX4, "isPiece", "(I)Z"⟩
abbrev cX4_raise : ByteArray := prog_6_method_11_code
def yX4_raise : MethodName := ⟨RX4, "raise", "(ILKeyGuess$Cuts;)V"⟩
abbrev cX4_lay : ByteArray := prog_6_method_12_code
def yX4_lay : MethodName := ⟨RX4, "lay", "(ILKeyGuess$Cuts;)V"⟩
abbrev cX4_layBase : ByteArray := prog_6_method_13_code
def yX4_layBase : MethodName := ⟨RX4, "layBase", "(I)V"⟩
abbrev cX4_commonDivisor : ByteArray := prog_6_method_14_code
def yX4_commonDivisor : MethodName := ⟨RX4, "commonDivisor", "(II)I"⟩
def RX5 : String := "KeyGuess"
def TX5 : u_T := fun k => match k with
  | 0 => ("KeyGuess", "now", "LKeyGuess$Keys;", true)
  | 1 => ("KeyGuess", "row", "LKeyGuess$Keys;", true)
  | 2 => ("KeyGuess", "tried", "LKeyGuess$Keys;", true)
  | 3 => ("KeyGuess", "cuts", "LKeyGuess$Cuts;", true)
  | 4 => ("KeyGuess", "tower", "LKeyGuess$Tower;", true)
  | 5 => ("KeyGuess", "filter", "LKeyGuess$Filter;", true)
  | 6 => ("KeyGuess", "look", "LKeyGuess$Look;", true)
  | 7 => ("KeyGuess", "leeway", "I", false)
  | 8 => ("KeyGuess", "newKeys", "I", false)
  | 9 => ("KeyGuess", "oldKeys", "I", false)
  | _ => ("KeyGuess", "cost", "I", false)
def tyX5 : Nat → FieldType := fun k => match k with
  | 0 => .object "KeyGuess$Keys"
  | 1 => .object "KeyGuess$Keys"
  | 2 => .object "KeyGuess$Keys"
  | 3 => .object "KeyGuess$Cuts"
  | 4 => .object "KeyGuess$Tower"
  | 5 => .object "KeyGuess$Filter"
  | 6 => .object "KeyGuess$Look"
  | 7 => .int
  | 8 => .int
  | 9 => .int
  | _ => .int
abbrev wsX50 : List Cond := u_ws RX5 TX5 11
theorem nmX5 : ∀ a, a < 11 → ∀ b, b < 11 → a ≠ b → (TX5 a).2.1 ≠ (TX5 b).2.1 := by decide +kernel
theorem tyX5_ok : ∀ k, k < 11 → parseFieldDescriptor (TX5 k).2.2.1 = some (tyX5 k) := by decide +kernel
abbrev cX5_init : ByteArray := prog_1_method_1_code
def yX5_init : MethodName := ⟨RX5, "<init>", "()V"⟩
abbrev cX5_put : ByteArray := prog_1_method_2_code
def yX5_put : MethodName := ⟨RX5, "put", "(I)I"⟩
abbrev cX5_take : ByteArray := prog_1_method_3_code
def yX5_take : MethodName := ⟨RX5, "take", "(I)I"⟩
abbrev cX5_make : ByteArray := prog_1_method_4_code
def yX5_make : MethodName := ⟨RX5, "make", "()I"⟩
abbrev cX5_slack : ByteArray := prog_1_method_5_code
def yX5_slack : MethodName := ⟨RX5, "slack", "(I)I"⟩
abbrev cX5_place : ByteArray := prog_1_method_6_code
def yX5_place : MethodName := ⟨RX5, "place", "(I)I"⟩
abbrev cX5_at : ByteArray := prog_1_method_7_code
def yX5_at : MethodName := ⟨RX5, "at", "(I)I"⟩
abbrev cX5_range : ByteArray := prog_1_method_8_code
def yX5_range : MethodName := ⟨RX5, "range", "(II)I"⟩
abbrev cX5_sum : ByteArray := prog_1_method_9_code
def yX5_sum : MethodName := ⟨RX5, "sum", "(II)J"⟩
abbrev cX5_pieces : ByteArray := prog_1_method_10_code
def yX5_pieces : MethodName := ⟨RX5, "pieces", "(I)I"⟩
abbrev cX5_piece : ByteArray := prog_1_method_11_code
def yX5_piece : MethodName := ⟨RX5, "piece", "(III)I"⟩
abbrev cX5_levels : ByteArray := prog_1_method_12_code
def yX5_levels : MethodName := ⟨RX5, "levels", "()I"⟩
abbrev cX5_guess : ByteArray := prog_1_method_13_code
def yX5_guess : MethodName := ⟨RX5, "guess", "(I)I"⟩
abbrev cX5_find : ByteArray := prog_1_method_14_code
def yX5_find : MethodName := ⟨RX5, "find", "(I)I"⟩
abbrev cX5_looks : ByteArray := prog_1_method_15_code
def yX5_looks : MethodName := ⟨RX5, "looks", "(I)I"⟩
abbrev cX5_maybe : ByteArray := prog_1_method_16_code
def yX5_maybe : MethodName := ⟨RX5, "maybe", "(I)I"⟩
abbrev cX5_wrong : ByteArray := prog_1_method_17_code
def yX5_wrong : MethodName := ⟨RX5, "wrong", "(II)I"⟩
abbrev cX5_poison : ByteArray := prog_1_method_18_code
def yX5_poison : MethodName := ⟨RX5, "poison", "(III)I"⟩
abbrev cX5_count : ByteArray := prog_1_method_19_code
def yX5_count : MethodName := ⟨RX5, "count", "(I)I"⟩
abbrev cX5_isNumber : ByteArray := prog_1_method_20_code
def yX5_isNumber : MethodName := ⟨RX5, "isNumber", "(I)Z"⟩
abbrev cX5_isSpan : ByteArray := prog_1_method_21_code
def yX5_isSpan : MethodName := ⟨RX5, "isSpan", "(III)Z"⟩
abbrev cX5_clearAsideIfFull : ByteArray := prog_1_method_22_code
def yX5_clearAsideIfFull : MethodName := ⟨RX5, "clearAsideIfFull", "()V"⟩
abbrev cX5_makeRow : ByteArray := prog_1_method_23_code
def yX5_makeRow : MethodName := ⟨RX5, "makeRow", "()V"⟩
abbrev cX5_piecesWith : ByteArray := prog_1_method_24_code
def yX5_piecesWith : MethodName := ⟨RX5, "piecesWith", "(I)I"⟩
def RX6 : String := "KeyGuessModel"
def TX6 : u_T := fun k => match k with
  | 0 => ("KeyGuessModel", "rowMany", "I", false)
  | 1 => ("KeyGuessModel", "row", "[I", true)
  | 2 => ("KeyGuessModel", "e", "I", false)
  | 3 => ("KeyGuessModel", "newMany", "I", false)
  | 4 => ("KeyGuessModel", "news", "[I", true)
  | 5 => ("KeyGuessModel", "oldMany", "I", false)
  | 6 => ("KeyGuessModel", "olds", "[I", true)
  | 7 => ("KeyGuessModel", "cost", "I", false)
  | 8 => ("KeyGuessModel", "bits", "[Z", true)
  | 9 => ("KeyGuessModel", "nowMany", "I", false)
  | 10 => ("KeyGuessModel", "now", "[I", true)
  | 11 => ("KeyGuessModel", "keyMany", "I", false)
  | 12 => ("KeyGuessModel", "keys", "[I", true)
  | 13 => ("KeyGuessModel", "reach", "[I", true)
  | 14 => ("KeyGuessModel", "fewest", "[I", true)
  | 15 => ("KeyGuessModel", "lowUp", "J", false)
  | 16 => ("KeyGuessModel", "lowBelow", "J", false)
  | 17 => ("KeyGuessModel", "levelMany", "I", false)
  | 18 => ("KeyGuessModel", "pieceMany", "[I", true)
  | 19 => ("KeyGuessModel", "firsts", "[I", true)
  | 20 => ("KeyGuessModel", "lasts", "[I", true)
  | 21 => ("KeyGuessModel", "firstKeys", "[I", true)
  | 22 => ("KeyGuessModel", "ups", "[J", true)
  | 23 => ("KeyGuessModel", "belows", "[J", true)
  | _ => ("KeyGuessModel", "looked", "I", false)
def tyX6 : Nat → FieldType := fun k => match k with
  | 0 => .int
  | 1 => .array .int
  | 2 => .int
  | 3 => .int
  | 4 => .array .int
  | 5 => .int
  | 6 => .array .int
  | 7 => .int
  | 8 => .array .boolean
  | 9 => .int
  | 10 => .array .int
  | 11 => .int
  | 12 => .array .int
  | 13 => .array .int
  | 14 => .array .int
  | 15 => .long
  | 16 => .long
  | 17 => .int
  | 18 => .array .int
  | 19 => .array .int
  | 20 => .array .int
  | 21 => .array .int
  | 22 => .array .long
  | 23 => .array .long
  | _ => .int
abbrev wsX60 : List Cond := u_ws RX6 TX6 25
theorem nmX6 : ∀ a, a < 25 → ∀ b, b < 25 → a ≠ b → (TX6 a).2.1 ≠ (TX6 b).2.1 := by decide +kernel
theorem tyX6_ok : ∀ k, k < 25 → parseFieldDescriptor (TX6 k).2.2.1 = some (tyX6 k) := by decide +kernel
abbrev cX6_init : ByteArray := prog_8_method_1_code
def yX6_init : MethodName := ⟨RX6, "<init>", "()V"⟩
abbrev cX6_in : ByteArray := prog_8_method_2_code
def yX6_in : MethodName := ⟨RX6, "in", "(III)Z"⟩
abbrev cX6_isNumber : ByteArray := prog_8_method_3_code
def yX6_isNumber : MethodName := ⟨RX6, "isNumber", "(I)Z"⟩
abbrev cX6_placeIn : ByteArray := prog_8_method_4_code
def yX6_placeIn : MethodName := ⟨RX6, "placeIn", "([III)I"⟩
abbrev cX6_insertNow : ByteArray := prog_8_method_5_code
def yX6_insertNow : MethodName := ⟨RX6, "insertNow", "(I)V"⟩
abbrev cX6_layNow : ByteArray := prog_8_method_6_code
def yX6_layNow : MethodName := ⟨RX6, "layNow", "()V"⟩
abbrev cX6_isThere : ByteArray := prog_8_method_7_code
def yX6_isThere : MethodName := ⟨RX6, "isThere", "(I)Z"⟩
abbrev cX6_setBits : ByteArray := prog_8_method_8_code
def yX6_setBits : MethodName := ⟨RX6, "setBits", "(I)V"⟩
abbrev cX6_makeRow : ByteArray := prog_8_method_9_code
def yX6_makeRow : MethodName := ⟨RX6, "makeRow", "()V"⟩
abbrev cX6_put : ByteArray := prog_8_method_10_code
def yX6_put : MethodName := ⟨RX6, "put", "(I)I"⟩
abbrev cX6_take : ByteArray := prog_8_method_11_code
def yX6_take : MethodName := ⟨RX6, "take", "(I)I"⟩
abbrev cX6_make : ByteArray := prog_8_method_12_code
def yX6_make : MethodName := ⟨RX6, "make", "()I"⟩
abbrev cX6_slack : ByteArray := prog_8_method_13_code
def yX6_slack : MethodName := ⟨RX6, "slack", "(I)I"⟩
abbrev cX6_place : ByteArray := prog_8_method_14_code
def yX6_place : MethodName := ⟨RX6, "place", "(I)I"⟩
abbrev cX6_at : ByteArray := prog_8_method_15_code
def yX6_at : MethodName := ⟨RX6, "at", "(I)I"⟩
abbrev cX6_isSpan : ByteArray := prog_8_method_16_code
def yX6_isSpan : MethodName := ⟨RX6, "isSpan", "(II)Z"⟩
abbrev cX6_range : ByteArray := prog_8_method_17_code
def yX6_range : MethodName := ⟨RX6, "range", "(II)I"⟩
abbrev cX6_sum : ByteArray := prog_8_method_18_code
def yX6_sum : MethodName := ⟨RX6, "sum", "(II)J"⟩
abbrev cX6_layLow : ByteArray := prog_8_method_19_code
def yX6_layLow : MethodName := ⟨RX6, "layLow", "(II)V"⟩
abbrev cX6_keeps : ByteArray := prog_8_method_20_code
def yX6_keeps : MethodName := ⟨RX6, "keeps", "(II)Z"⟩
abbrev cX6_layPieces : ByteArray := prog_8_method_21_code
def yX6_layPieces : MethodName := ⟨RX6, "layPieces", "()V"⟩
abbrev cX6_endOf : ByteArray := prog_8_method_22_code
def yX6_endOf : MethodName := ⟨RX6, "endOf", "(I)I"⟩
abbrev cX6_divisor : ByteArray := prog_8_method_23_code
def yX6_divisor : MethodName := ⟨RX6, "divisor", "(JJ)J"⟩
abbrev cX6_layLevel : ByteArray := prog_8_method_24_code
def yX6_layLevel : MethodName := ⟨RX6, "layLevel", "(I)V"⟩
abbrev cX6_layLevels : ByteArray := prog_8_method_25_code
def yX6_layLevels : MethodName := ⟨RX6, "layLevels", "()V"⟩
abbrev cX6_piecesAt : ByteArray := prog_8_method_26_code
def yX6_piecesAt : MethodName := ⟨RX6, "piecesAt", "(I)I"⟩
abbrev cX6_pieces : ByteArray := prog_8_method_27_code
def yX6_pieces : MethodName := ⟨RX6, "pieces", "(I)I"⟩
abbrev cX6_piece : ByteArray := prog_8_method_28_code
def yX6_piece : MethodName := ⟨RX6, "piece", "(III)I"⟩
abbrev cX6_levels : ByteArray := prog_8_method_29_code
def yX6_levels : MethodName := ⟨RX6, "levels", "()I"⟩
abbrev cX6_pieceFor : ByteArray := prog_8_method_30_code
def yX6_pieceFor : MethodName := ⟨RX6, "pieceFor", "(I)I"⟩
abbrev cX6_guessBy : ByteArray := prog_8_method_31_code
def yX6_guessBy : MethodName := ⟨RX6, "guessBy", "(II)I"⟩
abbrev cX6_guess : ByteArray := prog_8_method_32_code
def yX6_guess : MethodName := ⟨RX6, "guess", "(I)I"⟩
abbrev cX6_lookFor : ByteArray := prog_8_method_33_code
def yX6_lookFor : MethodName := ⟨RX6, "lookFor", "(I)I"⟩
abbrev cX6_find : ByteArray := prog_8_method_34_code
def yX6_find : MethodName := ⟨RX6, "find", "(I)I"⟩
abbrev cX6_looks : ByteArray := prog_8_method_35_code
def yX6_looks : MethodName := ⟨RX6, "looks", "(I)I"⟩
abbrev cX6_isMaybe : ByteArray := prog_8_method_36_code
def yX6_isMaybe : MethodName := ⟨RX6, "isMaybe", "(I)Z"⟩
abbrev cX6_maybe : ByteArray := prog_8_method_37_code
def yX6_maybe : MethodName := ⟨RX6, "maybe", "(I)I"⟩
abbrev cX6_wrong : ByteArray := prog_8_method_38_code
def yX6_wrong : MethodName := ⟨RX6, "wrong", "(II)I"⟩
abbrev cX6_piecesWith : ByteArray := prog_8_method_39_code
def yX6_piecesWith : MethodName := ⟨RX6, "piecesWith", "(I)I"⟩
abbrev cX6_poison : ByteArray := prog_8_method_40_code
def yX6_poison : MethodName := ⟨RX6, "poison", "(III)I"⟩
abbrev cX6_count : ByteArray := prog_8_method_41_code
def yX6_count : MethodName := ⟨RX6, "count", "(I)I"⟩
def RJ13 : String := "java/lang/Long"
def TJ13 : u_T := fun k => match k with
  | _ => ("", "", "", false)
def tyJ13 : Nat → FieldType := fun k => match k with
  | _ => .int
abbrev wsJ130 : List Cond := u_ws RJ13 TJ13 0
theorem nmJ13 : ∀ a, a < 0 → ∀ b, b < 0 → a ≠ b → (TJ13 a).2.1 ≠ (TJ13 b).2.1 := by decide +kernel
theorem tyJ13_ok : ∀ k, k < 0 → parseFieldDescriptor (TJ13 k).2.2.1 = some (tyJ13 k) := by decide +kernel
abbrev cJ13_bitCount_95d88 : ByteArray := prog_9_method_50_code
def yJ13_bitCount_95d88 : MethodName := ⟨RJ13, "bitCount", "(J)I"⟩
def RJ9 : String := "java/lang/Math"
def TJ9 : u_T := fun k => match k with
  | _ => ("", "", "", false)
def tyJ9 : Nat → FieldType := fun k => match k with
  | _ => .int
abbrev wsJ90 : List Cond := u_ws RJ9 TJ9 0
theorem nmJ9 : ∀ a, a < 0 → ∀ b, b < 0 → a ≠ b → (TJ9 a).2.1 ≠ (TJ9 b).2.1 := by decide +kernel
theorem tyJ9_ok : ∀ k, k < 0 → parseFieldDescriptor (TJ9 k).2.2.1 = some (tyJ9 k) := by decide +kernel
abbrev cJ9_floorDiv_7cf53 : ByteArray := prog_10_method_47_code
def yJ9_floorDiv_7cf53 : MethodName := ⟨RJ9, "floorDiv", "(II)I"⟩
abbrev cJ9_max_7cf53 : ByteArray := prog_10_method_65_code
def yJ9_max_7cf53 : MethodName := ⟨RJ9, "max", "(II)I"⟩
abbrev cJ9_min_7cf53 : ByteArray := prog_10_method_69_code
def yJ9_min_7cf53 : MethodName := ⟨RJ9, "min", "(II)I"⟩
def RL : String := "KeyGuessLaw"
abbrev cL_law : ByteArray := code
def yL_law : MethodName := ⟨RL, "law", "([I)Z"⟩
def wsX0_init : List Cond := .code yX0_init cX0_init 1 none :: ([.methodLink RX0 3 objectInit, .instanceMethod objectInit, .code objectInit ⟨#[0xb1]⟩ 1 none, .arrayClass .int, .fieldLink RX0 9 "KeyGuess$Cuts" "cells" "[I", .fieldLink RX0 15 "KeyGuess$Cuts" "fewest" "[I", .fieldLink RX0 18 "KeyGuess$Cuts" "lasts" "[I", .fieldLink RX0 21 "KeyGuess$Cuts" "slopeNums" "[I", .fieldLink RX0 24 "KeyGuess$Cuts" "slopeDens" "[I"] ++ wsX00)
def wsX2_size : List Cond := .code yX2_size cX2_size 1 (some .int) :: ([.fieldLink RX2 15 "KeyGuess$Keys" "size" "I"] ++ wsX20)
def wsX2_key : List Cond := .code yX2_key cX2_key 2 (some .int) :: ([.fieldLink RX2 15 "KeyGuess$Keys" "size" "I", .fieldLink RX2 9 "KeyGuess$Keys" "cells" "[I"] ++ wsX20)
def wsX0_cutFrom : List Cond := .code yX0_cutFrom cX0_cutFrom 12 none :: ([.fieldLink RX0 15 "KeyGuess$Cuts" "fewest" "[I", .fieldLink RX0 18 "KeyGuess$Cuts" "lasts" "[I", .fieldLink RX0 21 "KeyGuess$Cuts" "slopeNums" "[I", .fieldLink RX0 24 "KeyGuess$Cuts" "slopeDens" "[I", .fieldLink RX0 9 "KeyGuess$Cuts" "cells" "[I"] ++ wsX00)
def wsX0_cut_r1 : List Cond := [Cond.methodLink RX0 33 Lib.Math.min.name, Cond.static Lib.Math.min.name, Cond.initialized "java/lang/Math", Cond.code Lib.Math.min.name Lib.Math.min.code 2 (some .int), Cond.fieldLink RX0 9 "KeyGuess$Cuts" "cells" "[I", Cond.fieldLink RX0 15 "KeyGuess$Cuts" "fewest" "[I", Cond.methodLink RX0 27 yX2_size, Cond.instanceMethod yX2_size, Cond.selects RX2 yX2_size yX2_size, Cond.initialized RX2, Cond.code yX2_size cX2_size 1 (some .int), Cond.fieldLink RX2 15 "KeyGuess$Keys" "size" "I", Cond.methodLink RX0 39 yX2_key, Cond.instanceMethod yX2_key, Cond.selects RX2 yX2_key yX2_key, Cond.code yX2_key cX2_key 2 (some .int), Cond.fieldLink RX2 9 "KeyGuess$Keys" "cells" "[I", Cond.methodLink RX0 43 yX0_cutFrom, Cond.instanceMethod yX0_cutFrom, Cond.selects RX0 yX0_cutFrom yX0_cutFrom, Cond.initialized RX0, Cond.code yX0_cutFrom cX0_cutFrom 12 none, Cond.fieldLink RX0 18 "KeyGuess$Cuts" "lasts" "[I", Cond.fieldLink RX0 21 "KeyGuess$Cuts" "slopeNums" "[I"]
def wsX0_cut_r2 : List Cond := [Cond.fieldLink RX0 24 "KeyGuess$Cuts" "slopeDens" "[I"]
def wsX0_cut : List Cond := .code yX0_cut cX0_cut 5 none :: ((wsX0_cut_r1 ++ wsX0_cut_r2) ++ wsX00 ++ wsX20)
def wsX0_isRank : List Cond := .code yX0_isRank cX0_isRank 1 (some .boolean) :: ([])
def wsX0_fewestFrom : List Cond := .code yX0_fewestFrom cX0_fewestFrom 2 (some .int) :: ([.fieldLink RX0 15 "KeyGuess$Cuts" "fewest" "[I", .methodLink RX0 47 yX0_isRank, .static yX0_isRank, .initialized RX0, .code yX0_isRank cX0_isRank 1 (some .boolean)] ++ wsX00)
def wsX0_lastOf : List Cond := .code yX0_lastOf cX0_lastOf 2 (some .int) :: ([.fieldLink RX0 18 "KeyGuess$Cuts" "lasts" "[I", .methodLink RX0 47 yX0_isRank, .static yX0_isRank, .initialized RX0, .code yX0_isRank cX0_isRank 1 (some .boolean)] ++ wsX00)
def wsX0_slopeNum : List Cond := .code yX0_slopeNum cX0_slopeNum 2 (some .int) :: ([.fieldLink RX0 21 "KeyGuess$Cuts" "slopeNums" "[I", .methodLink RX0 47 yX0_isRank, .static yX0_isRank, .initialized RX0, .code yX0_isRank cX0_isRank 1 (some .boolean)] ++ wsX00)
def wsX0_slopeDen : List Cond := .code yX0_slopeDen cX0_slopeDen 2 (some .int) :: ([.fieldLink RX0 24 "KeyGuess$Cuts" "slopeDens" "[I", .methodLink RX0 47 yX0_isRank, .static yX0_isRank, .initialized RX0, .code yX0_isRank cX0_isRank 1 (some .boolean)] ++ wsX00)
def wsX1_init : List Cond := .code yX1_init cX1_init 1 none :: ([.methodLink RX1 1 objectInit, .instanceMethod objectInit, .code objectInit ⟨#[0xb1]⟩ 1 none])
def wsX1_clear : List Cond := .code yX1_clear cX1_clear 1 none :: ([.fieldLink RX1 7 "KeyGuess$Filter" "bits" "J"] ++ wsX10)
def wsX1_bitsOf : List Cond := .code yX1_bitsOf cX1_bitsOf 1 (some .long) :: ([])
def wsX1_add : List Cond := .code yX1_add cX1_add 2 none :: ([.fieldLink RX1 7 "KeyGuess$Filter" "bits" "J", .methodLink RX1 13 yX1_bitsOf, .static yX1_bitsOf, .initialized RX1, .code yX1_bitsOf cX1_bitsOf 1 (some .long)] ++ wsX10)
def wsX1_passes : List Cond := .code yX1_passes cX1_passes 4 (some .boolean) :: ([.fieldLink RX1 7 "KeyGuess$Filter" "bits" "J", .methodLink RX1 13 yX1_bitsOf, .static yX1_bitsOf, .initialized RX1, .code yX1_bitsOf cX1_bitsOf 1 (some .long)] ++ wsX10)
def wsJ13_bitCount_95d88 : List Cond := .code yJ13_bitCount_95d88 cJ13_bitCount_95d88 2 (some .int) :: ([.constantLong RJ13 314 (6148914691236517205), .constantLong RJ13 316 (3689348814741910323), .constantLong RJ13 318 (1085102592571150095)])
def wsX1_bitsSet : List Cond := .code yX1_bitsSet cX1_bitsSet 1 (some .int) :: ([.fieldLink RX1 7 "KeyGuess$Filter" "bits" "J", .methodLink RX1 17 yJ13_bitCount_95d88, .static yJ13_bitCount_95d88, .initialized RJ13, .code yJ13_bitCount_95d88 cJ13_bitCount_95d88 2 (some .int), .constantLong RJ13 314 (6148914691236517205), .constantLong RJ13 316 (3689348814741910323), .constantLong RJ13 318 (1085102592571150095)] ++ wsX10)
def wsX2_init : List Cond := .code yX2_init cX2_init 1 none :: ([.methodLink RX2 3 objectInit, .instanceMethod objectInit, .code objectInit ⟨#[0xb1]⟩ 1 none, .arrayClass .int, .fieldLink RX2 9 "KeyGuess$Keys" "cells" "[I"] ++ wsX20)
def wsX2_below : List Cond := .code yX2_below cX2_below 3 (some .int) :: ([.fieldLink RX2 15 "KeyGuess$Keys" "size" "I", .fieldLink RX2 9 "KeyGuess$Keys" "cells" "[I"] ++ wsX20)
def wsX2_has : List Cond := .code yX2_has cX2_has 3 (some .boolean) :: ([.fieldLink RX2 15 "KeyGuess$Keys" "size" "I", .fieldLink RX2 9 "KeyGuess$Keys" "cells" "[I", .methodLink RX2 19 yX2_below, .instanceMethod yX2_below, .selects RX2 yX2_below yX2_below, .initialized RX2, .code yX2_below cX2_below 3 (some .int)] ++ wsX20)
def wsX2_within : List Cond := .code yX2_within cX2_within 3 (some .int) :: ([.methodLink RX2 19 yX2_below, .instanceMethod yX2_below, .selects RX2 yX2_below yX2_below, .initialized RX2, .code yX2_below cX2_below 3 (some .int), .fieldLink RX2 15 "KeyGuess$Keys" "size" "I", .fieldLink RX2 9 "KeyGuess$Keys" "cells" "[I"] ++ wsX20)
def wsX2_total : List Cond := .code yX2_total cX2_total 7 (some .long) :: ([.methodLink RX2 19 yX2_below, .instanceMethod yX2_below, .selects RX2 yX2_below yX2_below, .initialized RX2, .code yX2_below cX2_below 3 (some .int), .fieldLink RX2 15 "KeyGuess$Keys" "size" "I", .fieldLink RX2 9 "KeyGuess$Keys" "cells" "[I", .methodLink RX2 23 yX2_key, .instanceMethod yX2_key, .selects RX2 yX2_key yX2_key, .code yX2_key cX2_key 2 (some .int)] ++ wsX20)
def wsX2_clear : List Cond := .code yX2_clear cX2_clear 1 none :: ([.fieldLink RX2 15 "KeyGuess$Keys" "size" "I"] ++ wsX20)
def wsX2_append : List Cond := .code yX2_append cX2_append 2 none :: ([.fieldLink RX2 15 "KeyGuess$Keys" "size" "I", .fieldLink RX2 9 "KeyGuess$Keys" "cells" "[I"] ++ wsX20)
def wsX2_copy : List Cond := .code yX2_copy cX2_copy 3 none :: ([.fieldLink RX2 15 "KeyGuess$Keys" "size" "I", .methodLink RX2 26 yX2_size, .instanceMethod yX2_size, .selects RX2 yX2_size yX2_size, .initialized RX2, .code yX2_size cX2_size 1 (some .int), .methodLink RX2 23 yX2_key, .instanceMethod yX2_key, .selects RX2 yX2_key yX2_key, .code yX2_key cX2_key 2 (some .int), .fieldLink RX2 9 "KeyGuess$Keys" "cells" "[I", .methodLink RX2 29 yX2_append, .instanceMethod yX2_append, .selects RX2 yX2_append yX2_append, .code yX2_append cX2_append 2 none] ++ wsX20)
def wsX2_add : List Cond := .code yX2_add cX2_add 4 none :: ([.fieldLink RX2 15 "KeyGuess$Keys" "size" "I", .fieldLink RX2 9 "KeyGuess$Keys" "cells" "[I", .methodLink RX2 33 yX2_has, .instanceMethod yX2_has, .selects RX2 yX2_has yX2_has, .initialized RX2, .code yX2_has cX2_has 3 (some .boolean), .methodLink RX2 19 yX2_below, .instanceMethod yX2_below, .selects RX2 yX2_below yX2_below, .code yX2_below cX2_below 3 (some .int)] ++ wsX20)
def wsX2_drop : List Cond := .code yX2_drop cX2_drop 3 none :: ([.fieldLink RX2 15 "KeyGuess$Keys" "size" "I", .fieldLink RX2 9 "KeyGuess$Keys" "cells" "[I", .methodLink RX2 33 yX2_has, .instanceMethod yX2_has, .selects RX2 yX2_has yX2_has, .initialized RX2, .code yX2_has cX2_has 3 (some .boolean), .methodLink RX2 19 yX2_below, .instanceMethod yX2_below, .selects RX2 yX2_below yX2_below, .code yX2_below cX2_below 3 (some .int)] ++ wsX20)
def wsX3_init : List Cond := .code yX3_init cX3_init 1 none :: ([.methodLink RX3 3 objectInit, .instanceMethod objectInit, .code objectInit ⟨#[0xb1]⟩ 1 none])
def wsX3_met : List Cond := .code yX3_met cX3_met 1 (some .int) :: ([.fieldLink RX3 9 "KeyGuess$Look" "met" "I"] ++ wsX30)
def wsX3_ranksSeen : List Cond := .code yX3_ranksSeen cX3_ranksSeen 1 (some .int) :: ([.fieldLink RX3 15 "KeyGuess$Look" "seen" "I"] ++ wsX30)
def wsX4_height : List Cond := .code yX4_height cX4_height 1 (some .int) :: ([.fieldLink RX4 37 "KeyGuess$Tower" "height" "I"] ++ wsX40)
def wsX4_width : List Cond := .code yX4_width cX4_width 2 (some .int) :: ([.fieldLink RX4 37 "KeyGuess$Tower" "height" "I", .fieldLink RX4 18 "KeyGuess$Tower" "starts" "[I"] ++ wsX40)
def wsX4_isPiece : List Cond := .code yX4_isPiece cX4_isPiece 2 (some .boolean) :: ([.fieldLink RX4 49 "KeyGuess$Tower" "size" "I"] ++ wsX40)
def wsX4_pieceFor : List Cond := .code yX4_pieceFor cX4_pieceFor 4 (some .int) :: ([.fieldLink RX4 28 "KeyGuess$Tower" "firsts" "[I", .methodLink RX4 41 yX4_width, .instanceMethod yX4_width, .selects RX4 yX4_width yX4_width, .initialized RX4, .code yX4_width cX4_width 2 (some .int), .fieldLink RX4 37 "KeyGuess$Tower" "height" "I", .fieldLink RX4 18 "KeyGuess$Tower" "starts" "[I", .methodLink RX4 45 yX4_isPiece, .instanceMethod yX4_isPiece, .selects RX4 yX4_isPiece yX4_isPiece, .code yX4_isPiece cX4_isPiece 2 (some .boolean), .fieldLink RX4 49 "KeyGuess$Tower" "size" "I"] ++ wsX40)
def wsJ9_floorDiv_7cf53 : List Cond := .code yJ9_floorDiv_7cf53 cJ9_floorDiv_7cf53 3 (some .int) :: ([])
def wsX4_rankBy : List Cond := .code yX4_rankBy cX4_rankBy 4 (some .int) :: ([.fieldLink RX4 34 "KeyGuess$Tower" "slopeDens" "[I", .fieldLink RX4 31 "KeyGuess$Tower" "slopeNums" "[I", .fieldLink RX4 28 "KeyGuess$Tower" "firsts" "[I", .fieldLink RX4 22 "KeyGuess$Tower" "froms" "[I", .fieldLink RX4 25 "KeyGuess$Tower" "lasts" "[I", .methodLink RX4 79 Lib.Math.min.name, .static Lib.Math.min.name, .initialized "java/lang/Math", .code Lib.Math.min.name Lib.Math.min.code 2 (some .int), .methodLink RX4 82 Lib.Math.max.name, .static Lib.Math.max.name, .code Lib.Math.max.name Lib.Math.max.code 2 (some .int), .methodLink RX4 45 yX4_isPiece, .instanceMethod yX4_isPiece, .selects RX4 yX4_isPiece yX4_isPiece, .initialized RX4, .code yX4_isPiece cX4_isPiece 2 (some .boolean), .fieldLink RX4 49 "KeyGuess$Tower" "size" "I", .methodLink RX4 73 yJ9_floorDiv_7cf53, .static yJ9_floorDiv_7cf53, .initialized RJ9, .code yJ9_floorDiv_7cf53 cJ9_floorDiv_7cf53 3 (some .int)] ++ wsX40)
def wsX3_away : List Cond := .code yX3_away cX3_away 1 (some .int) :: ([])
def wsX4_fromOf : List Cond := .code yX4_fromOf cX4_fromOf 2 (some .int) :: ([.fieldLink RX4 22 "KeyGuess$Tower" "froms" "[I", .methodLink RX4 45 yX4_isPiece, .instanceMethod yX4_isPiece, .selects RX4 yX4_isPiece yX4_isPiece, .initialized RX4, .code yX4_isPiece cX4_isPiece 2 (some .boolean), .fieldLink RX4 49 "KeyGuess$Tower" "size" "I"] ++ wsX40)
def wsX4_lastOf : List Cond := .code yX4_lastOf cX4_lastOf 2 (some .int) :: ([.fieldLink RX4 25 "KeyGuess$Tower" "lasts" "[I", .methodLink RX4 45 yX4_isPiece, .instanceMethod yX4_isPiece, .selects RX4 yX4_isPiece yX4_isPiece, .initialized RX4, .code yX4_isPiece cX4_isPiece 2 (some .boolean), .fieldLink RX4 49 "KeyGuess$Tower" "size" "I"] ++ wsX40)
def wsX3_run_r1 : List Cond := [Cond.fieldLink RX3 9 "KeyGuess$Look" "met" "I", Cond.fieldLink RX3 15 "KeyGuess$Look" "seen" "I", Cond.methodLink RX3 18 yX4_height, Cond.instanceMethod yX4_height, Cond.selects RX4 yX4_height yX4_height, Cond.initialized RX4, Cond.code yX4_height cX4_height 1 (some .int), Cond.fieldLink RX4 37 "KeyGuess$Tower" "height" "I", Cond.methodLink RX3 24 yX4_pieceFor, Cond.instanceMethod yX4_pieceFor, Cond.selects RX4 yX4_pieceFor yX4_pieceFor, Cond.code yX4_pieceFor cX4_pieceFor 4 (some .int), Cond.fieldLink RX4 28 "KeyGuess$Tower" "firsts" "[I", Cond.methodLink RX4 41 yX4_width, Cond.instanceMethod yX4_width, Cond.selects RX4 yX4_width yX4_width, Cond.code yX4_width cX4_width 2 (some .int), Cond.fieldLink RX4 18 "KeyGuess$Tower" "starts" "[I", Cond.methodLink RX4 45 yX4_isPiece, Cond.instanceMethod yX4_isPiece, Cond.selects RX4 yX4_isPiece yX4_isPiece, Cond.code yX4_isPiece cX4_isPiece 2 (some .boolean), Cond.fieldLink RX4 49 "KeyGuess$Tower" "size" "I", Cond.methodLink RX3 28 yX4_rankBy]
def wsX3_run_r2 : List Cond := [Cond.instanceMethod yX4_rankBy, Cond.selects RX4 yX4_rankBy yX4_rankBy, Cond.code yX4_rankBy cX4_rankBy 4 (some .int), Cond.fieldLink RX4 34 "KeyGuess$Tower" "slopeDens" "[I", Cond.fieldLink RX4 31 "KeyGuess$Tower" "slopeNums" "[I", Cond.fieldLink RX4 22 "KeyGuess$Tower" "froms" "[I", Cond.fieldLink RX4 25 "KeyGuess$Tower" "lasts" "[I", Cond.methodLink RX4 79 Lib.Math.min.name, Cond.static Lib.Math.min.name, Cond.initialized "java/lang/Math", Cond.code Lib.Math.min.name Lib.Math.min.code 2 (some .int), Cond.methodLink RX4 82 Lib.Math.max.name, Cond.static Lib.Math.max.name, Cond.code Lib.Math.max.name Lib.Math.max.code 2 (some .int), Cond.methodLink RX4 73 yJ9_floorDiv_7cf53, Cond.static yJ9_floorDiv_7cf53, Cond.initialized RJ9, Cond.code yJ9_floorDiv_7cf53 cJ9_floorDiv_7cf53 3 (some .int), Cond.methodLink RX3 32 yX3_away, Cond.static yX3_away, Cond.initialized RX3, Cond.code yX3_away cX3_away 1 (some .int), Cond.methodLink RX3 35 yX4_fromOf, Cond.instanceMethod yX4_fromOf]
def wsX3_run_r3 : List Cond := [Cond.selects RX4 yX4_fromOf yX4_fromOf, Cond.code yX4_fromOf cX4_fromOf 2 (some .int), Cond.methodLink RX3 38 yX4_lastOf, Cond.instanceMethod yX4_lastOf, Cond.selects RX4 yX4_lastOf yX4_lastOf, Cond.code yX4_lastOf cX4_lastOf 2 (some .int), Cond.methodLink RX3 41 yX2_key, Cond.instanceMethod yX2_key, Cond.selects RX2 yX2_key yX2_key, Cond.initialized RX2, Cond.code yX2_key cX2_key 2 (some .int), Cond.fieldLink RX2 15 "KeyGuess$Keys" "size" "I", Cond.fieldLink RX2 9 "KeyGuess$Keys" "cells" "[I"]
def wsX3_run : List Cond := .code yX3_run cX3_run 9 none :: ((wsX3_run_r1 ++ (wsX3_run_r2 ++ wsX3_run_r3)) ++ wsX30 ++ wsX40 ++ wsX20)
def wsX4_init : List Cond := .code yX4_init cX4_init 1 none :: ([.methodLink RX4 3 objectInit, .instanceMethod objectInit, .code objectInit ⟨#[0xb1]⟩ 1 none, .classLink RX4 9 RX2, .instantiable RX2 2, .initialized RX2, .fieldLink RX4 12 "KeyGuess$Tower" "base" "LKeyGuess$Keys;", .arrayClass .int, .fieldLink RX4 18 "KeyGuess$Tower" "starts" "[I", .fieldLink RX4 22 "KeyGuess$Tower" "froms" "[I", .fieldLink RX4 25 "KeyGuess$Tower" "lasts" "[I", .fieldLink RX4 28 "KeyGuess$Tower" "firsts" "[I", .fieldLink RX4 31 "KeyGuess$Tower" "slopeNums" "[I", .fieldLink RX4 34 "KeyGuess$Tower" "slopeDens" "[I", .methodLink RX4 11 yX2_init, .instanceMethod yX2_init, .code yX2_init cX2_init 1 none, .methodLink RX2 3 objectInit, .fieldLink RX2 9 "KeyGuess$Keys" "cells" "[I"] ++ wsX20 ++ wsX40)
def wsX4_tell : List Cond := .code yX4_tell cX4_tell 5 (some .int) :: ([.fieldLink RX4 18 "KeyGuess$Tower" "starts" "[I", .fieldLink RX4 22 "KeyGuess$Tower" "froms" "[I", .fieldLink RX4 25 "KeyGuess$Tower" "lasts" "[I", .fieldLink RX4 28 "KeyGuess$Tower" "firsts" "[I", .fieldLink RX4 31 "KeyGuess$Tower" "slopeNums" "[I", .fieldLink RX4 34 "KeyGuess$Tower" "slopeDens" "[I", .methodLink RX4 41 yX4_width, .instanceMethod yX4_width, .selects RX4 yX4_width yX4_width, .initialized RX4, .code yX4_width cX4_width 2 (some .int), .fieldLink RX4 37 "KeyGuess$Tower" "height" "I", .methodLink RX4 45 yX4_isPiece, .instanceMethod yX4_isPiece, .selects RX4 yX4_isPiece yX4_isPiece, .code yX4_isPiece cX4_isPiece 2 (some .boolean), .fieldLink RX4 49 "KeyGuess$Tower" "size" "I"] ++ wsX40)
def wsX4_commonDivisor : List Cond := .code yX4_commonDivisor cX4_commonDivisor 4 (some .int) :: ([])
def wsX4_lay_r1 : List Cond := [Cond.fieldLink RX4 49 "KeyGuess$Tower" "size" "I", Cond.fieldLink RX4 22 "KeyGuess$Tower" "froms" "[I", Cond.fieldLink RX4 25 "KeyGuess$Tower" "lasts" "[I", Cond.fieldLink RX4 28 "KeyGuess$Tower" "firsts" "[I", Cond.fieldLink RX4 12 "KeyGuess$Tower" "base" "LKeyGuess$Keys;", Cond.fieldLink RX4 31 "KeyGuess$Tower" "slopeNums" "[I", Cond.fieldLink RX4 34 "KeyGuess$Tower" "slopeDens" "[I", Cond.methodLink RX4 91 yX0_slopeNum, Cond.instanceMethod yX0_slopeNum, Cond.selects RX0 yX0_slopeNum yX0_slopeNum, Cond.initialized RX0, Cond.code yX0_slopeNum cX0_slopeNum 2 (some .int), Cond.fieldLink RX0 21 "KeyGuess$Cuts" "slopeNums" "[I", Cond.methodLink RX0 47 yX0_isRank, Cond.static yX0_isRank, Cond.code yX0_isRank cX0_isRank 1 (some .boolean), Cond.methodLink RX4 94 yX0_slopeDen, Cond.instanceMethod yX0_slopeDen, Cond.selects RX0 yX0_slopeDen yX0_slopeDen, Cond.code yX0_slopeDen cX0_slopeDen 2 (some .int), Cond.fieldLink RX0 24 "KeyGuess$Cuts" "slopeDens" "[I", Cond.methodLink RX4 97 yX4_commonDivisor, Cond.static yX4_commonDivisor, Cond.initialized RX4]
def wsX4_lay_r2 : List Cond := [Cond.code yX4_commonDivisor cX4_commonDivisor 4 (some .int), Cond.methodLink RX4 88 yX0_lastOf, Cond.instanceMethod yX0_lastOf, Cond.selects RX0 yX0_lastOf yX0_lastOf, Cond.code yX0_lastOf cX0_lastOf 2 (some .int), Cond.fieldLink RX0 18 "KeyGuess$Cuts" "lasts" "[I", Cond.methodLink RX4 100 yX2_key, Cond.instanceMethod yX2_key, Cond.selects RX2 yX2_key yX2_key, Cond.initialized RX2, Cond.code yX2_key cX2_key 2 (some .int), Cond.fieldLink RX2 15 "KeyGuess$Keys" "size" "I", Cond.fieldLink RX2 9 "KeyGuess$Keys" "cells" "[I"]
def wsX4_lay : List Cond := .code yX4_lay cX4_lay 6 none :: ((wsX4_lay_r1 ++ wsX4_lay_r2) ++ wsX40 ++ wsX00 ++ wsX20)
def wsX4_raise_r1 : List Cond := [Cond.fieldLink RX4 18 "KeyGuess$Tower" "starts" "[I", Cond.fieldLink RX4 49 "KeyGuess$Tower" "size" "I", Cond.fieldLink RX4 12 "KeyGuess$Tower" "base" "LKeyGuess$Keys;", Cond.fieldLink RX4 37 "KeyGuess$Tower" "height" "I", Cond.methodLink RX4 56 yX2_size, Cond.instanceMethod yX2_size, Cond.selects RX2 yX2_size yX2_size, Cond.initialized RX2, Cond.code yX2_size cX2_size 1 (some .int), Cond.fieldLink RX2 15 "KeyGuess$Keys" "size" "I", Cond.methodLink RX4 85 yX4_lay, Cond.instanceMethod yX4_lay, Cond.selects RX4 yX4_lay yX4_lay, Cond.initialized RX4, Cond.code yX4_lay cX4_lay 6 none, Cond.fieldLink RX4 22 "KeyGuess$Tower" "froms" "[I", Cond.fieldLink RX4 25 "KeyGuess$Tower" "lasts" "[I", Cond.fieldLink RX4 28 "KeyGuess$Tower" "firsts" "[I", Cond.fieldLink RX4 31 "KeyGuess$Tower" "slopeNums" "[I", Cond.fieldLink RX4 34 "KeyGuess$Tower" "slopeDens" "[I", Cond.methodLink RX4 91 yX0_slopeNum, Cond.instanceMethod yX0_slopeNum, Cond.selects RX0 yX0_slopeNum yX0_slopeNum, Cond.initialized RX0]
def wsX4_raise_r2 : List Cond := [Cond.code yX0_slopeNum cX0_slopeNum 2 (some .int), Cond.fieldLink RX0 21 "KeyGuess$Cuts" "slopeNums" "[I", Cond.methodLink RX0 47 yX0_isRank, Cond.static yX0_isRank, Cond.code yX0_isRank cX0_isRank 1 (some .boolean), Cond.methodLink RX4 94 yX0_slopeDen, Cond.instanceMethod yX0_slopeDen, Cond.selects RX0 yX0_slopeDen yX0_slopeDen, Cond.code yX0_slopeDen cX0_slopeDen 2 (some .int), Cond.fieldLink RX0 24 "KeyGuess$Cuts" "slopeDens" "[I", Cond.methodLink RX4 97 yX4_commonDivisor, Cond.static yX4_commonDivisor, Cond.code yX4_commonDivisor cX4_commonDivisor 4 (some .int), Cond.methodLink RX4 88 yX0_lastOf, Cond.instanceMethod yX0_lastOf, Cond.selects RX0 yX0_lastOf yX0_lastOf, Cond.code yX0_lastOf cX0_lastOf 2 (some .int), Cond.fieldLink RX0 18 "KeyGuess$Cuts" "lasts" "[I", Cond.methodLink RX4 100 yX2_key, Cond.instanceMethod yX2_key, Cond.selects RX2 yX2_key yX2_key, Cond.code yX2_key cX2_key 2 (some .int), Cond.fieldLink RX2 9 "KeyGuess$Keys" "cells" "[I"]
def wsX4_raise : List Cond := .code yX4_raise cX4_raise 5 none :: ((wsX4_raise_r1 ++ wsX4_raise_r2) ++ wsX40 ++ wsX20 ++ wsX00)
def wsX4_layBase_r1 : List Cond := [Cond.fieldLink RX4 12 "KeyGuess$Tower" "base" "LKeyGuess$Keys;", Cond.methodLink RX4 103 yX2_clear, Cond.instanceMethod yX2_clear, Cond.selects RX2 yX2_clear yX2_clear, Cond.initialized RX2, Cond.code yX2_clear cX2_clear 1 none, Cond.fieldLink RX2 15 "KeyGuess$Keys" "size" "I", Cond.methodLink RX4 41 yX4_width, Cond.instanceMethod yX4_width, Cond.selects RX4 yX4_width yX4_width, Cond.initialized RX4, Cond.code yX4_width cX4_width 2 (some .int), Cond.fieldLink RX4 37 "KeyGuess$Tower" "height" "I", Cond.fieldLink RX4 18 "KeyGuess$Tower" "starts" "[I", Cond.methodLink RX4 106 yX4_tell, Cond.instanceMethod yX4_tell, Cond.selects RX4 yX4_tell yX4_tell, Cond.code yX4_tell cX4_tell 5 (some .int), Cond.fieldLink RX4 22 "KeyGuess$Tower" "froms" "[I", Cond.fieldLink RX4 25 "KeyGuess$Tower" "lasts" "[I", Cond.fieldLink RX4 28 "KeyGuess$Tower" "firsts" "[I", Cond.fieldLink RX4 31 "KeyGuess$Tower" "slopeNums" "[I", Cond.fieldLink RX4 34 "KeyGuess$Tower" "slopeDens" "[I", Cond.methodLink RX4 45 yX4_isPiece]
def wsX4_layBase_r2 : List Cond := [Cond.instanceMethod yX4_isPiece, Cond.selects RX4 yX4_isPiece yX4_isPiece, Cond.code yX4_isPiece cX4_isPiece 2 (some .boolean), Cond.fieldLink RX4 49 "KeyGuess$Tower" "size" "I", Cond.methodLink RX4 110 yX2_append, Cond.instanceMethod yX2_append, Cond.selects RX2 yX2_append yX2_append, Cond.code yX2_append cX2_append 2 none, Cond.fieldLink RX2 9 "KeyGuess$Keys" "cells" "[I"]
def wsX4_layBase : List Cond := .code yX4_layBase cX4_layBase 3 none :: ((wsX4_layBase_r1 ++ wsX4_layBase_r2) ++ wsX40 ++ wsX20)
def wsX4_build_r1 : List Cond := [Cond.fieldLink RX4 37 "KeyGuess$Tower" "height" "I", Cond.fieldLink RX4 49 "KeyGuess$Tower" "size" "I", Cond.fieldLink RX4 12 "KeyGuess$Tower" "base" "LKeyGuess$Keys;", Cond.methodLink RX4 52 yX2_copy, Cond.instanceMethod yX2_copy, Cond.selects RX2 yX2_copy yX2_copy, Cond.initialized RX2, Cond.code yX2_copy cX2_copy 3 none, Cond.fieldLink RX2 15 "KeyGuess$Keys" "size" "I", Cond.methodLink RX2 26 yX2_size, Cond.instanceMethod yX2_size, Cond.selects RX2 yX2_size yX2_size, Cond.code yX2_size cX2_size 1 (some .int), Cond.methodLink RX2 23 yX2_key, Cond.instanceMethod yX2_key, Cond.selects RX2 yX2_key yX2_key, Cond.code yX2_key cX2_key 2 (some .int), Cond.fieldLink RX2 9 "KeyGuess$Keys" "cells" "[I", Cond.methodLink RX2 29 yX2_append, Cond.instanceMethod yX2_append, Cond.selects RX2 yX2_append yX2_append, Cond.code yX2_append cX2_append 2 none, Cond.methodLink RX4 56 yX2_size, Cond.methodLink RX4 59 yX0_cut]
def wsX4_build_r2 : List Cond := [Cond.instanceMethod yX0_cut, Cond.selects RX0 yX0_cut yX0_cut, Cond.initialized RX0, Cond.code yX0_cut cX0_cut 5 none, Cond.methodLink RX0 33 Lib.Math.min.name, Cond.static Lib.Math.min.name, Cond.initialized "java/lang/Math", Cond.code Lib.Math.min.name Lib.Math.min.code 2 (some .int), Cond.fieldLink RX0 9 "KeyGuess$Cuts" "cells" "[I", Cond.fieldLink RX0 15 "KeyGuess$Cuts" "fewest" "[I", Cond.methodLink RX0 27 yX2_size, Cond.methodLink RX0 39 yX2_key, Cond.methodLink RX0 43 yX0_cutFrom, Cond.instanceMethod yX0_cutFrom, Cond.selects RX0 yX0_cutFrom yX0_cutFrom, Cond.code yX0_cutFrom cX0_cutFrom 12 none, Cond.fieldLink RX0 18 "KeyGuess$Cuts" "lasts" "[I", Cond.fieldLink RX0 21 "KeyGuess$Cuts" "slopeNums" "[I", Cond.fieldLink RX0 24 "KeyGuess$Cuts" "slopeDens" "[I", Cond.methodLink RX4 65 yX4_raise, Cond.instanceMethod yX4_raise, Cond.selects RX4 yX4_raise yX4_raise, Cond.initialized RX4, Cond.code yX4_raise cX4_raise 5 none]
def wsX4_build_r3 : List Cond := [Cond.fieldLink RX4 18 "KeyGuess$Tower" "starts" "[I", Cond.methodLink RX4 85 yX4_lay, Cond.instanceMethod yX4_lay, Cond.selects RX4 yX4_lay yX4_lay, Cond.code yX4_lay cX4_lay 6 none, Cond.fieldLink RX4 22 "KeyGuess$Tower" "froms" "[I", Cond.fieldLink RX4 25 "KeyGuess$Tower" "lasts" "[I", Cond.fieldLink RX4 28 "KeyGuess$Tower" "firsts" "[I", Cond.fieldLink RX4 31 "KeyGuess$Tower" "slopeNums" "[I", Cond.fieldLink RX4 34 "KeyGuess$Tower" "slopeDens" "[I", Cond.methodLink RX4 91 yX0_slopeNum, Cond.instanceMethod yX0_slopeNum, Cond.selects RX0 yX0_slopeNum yX0_slopeNum, Cond.code yX0_slopeNum cX0_slopeNum 2 (some .int), Cond.methodLink RX0 47 yX0_isRank, Cond.static yX0_isRank, Cond.code yX0_isRank cX0_isRank 1 (some .boolean), Cond.methodLink RX4 94 yX0_slopeDen, Cond.instanceMethod yX0_slopeDen, Cond.selects RX0 yX0_slopeDen yX0_slopeDen, Cond.code yX0_slopeDen cX0_slopeDen 2 (some .int), Cond.methodLink RX4 97 yX4_commonDivisor, Cond.static yX4_commonDivisor, Cond.code yX4_commonDivisor cX4_commonDivisor 4 (some .int)]
def wsX4_build_r4 : List Cond := [Cond.methodLink RX4 88 yX0_lastOf, Cond.instanceMethod yX0_lastOf, Cond.selects RX0 yX0_lastOf yX0_lastOf, Cond.code yX0_lastOf cX0_lastOf 2 (some .int), Cond.methodLink RX4 100 yX2_key, Cond.methodLink RX4 41 yX4_width, Cond.instanceMethod yX4_width, Cond.selects RX4 yX4_width yX4_width, Cond.code yX4_width cX4_width 2 (some .int), Cond.methodLink RX4 69 yX4_layBase, Cond.instanceMethod yX4_layBase, Cond.selects RX4 yX4_layBase yX4_layBase, Cond.code yX4_layBase cX4_layBase 3 none, Cond.methodLink RX4 103 yX2_clear, Cond.instanceMethod yX2_clear, Cond.selects RX2 yX2_clear yX2_clear, Cond.code yX2_clear cX2_clear 1 none, Cond.methodLink RX4 106 yX4_tell, Cond.instanceMethod yX4_tell, Cond.selects RX4 yX4_tell yX4_tell, Cond.code yX4_tell cX4_tell 5 (some .int), Cond.methodLink RX4 45 yX4_isPiece, Cond.instanceMethod yX4_isPiece, Cond.selects RX4 yX4_isPiece yX4_isPiece]
def wsX4_build_r5 : List Cond := [Cond.code yX4_isPiece cX4_isPiece 2 (some .boolean), Cond.methodLink RX4 110 yX2_append]
def wsX4_build : List Cond := .code yX4_build cX4_build 6 none :: ((wsX4_build_r1 ++ (wsX4_build_r2 ++ (wsX4_build_r3 ++ (wsX4_build_r4 ++ wsX4_build_r5)))) ++ wsX40 ++ wsX20 ++ wsX00)
def wsX5_init_r1 : List Cond := [Cond.methodLink RX5 1 objectInit, Cond.instanceMethod objectInit, Cond.code objectInit ⟨#[0xb1]⟩ 1 none, Cond.classLink RX5 7 RX2, Cond.instantiable RX2 2, Cond.initialized RX2, Cond.fieldLink RX5 10 "KeyGuess" "now" "LKeyGuess$Keys;", Cond.fieldLink RX5 16 "KeyGuess" "row" "LKeyGuess$Keys;", Cond.fieldLink RX5 19 "KeyGuess" "tried" "LKeyGuess$Keys;", Cond.classLink RX5 22 RX0, Cond.instantiable RX0 5, Cond.initialized RX0, Cond.fieldLink RX5 25 "KeyGuess" "cuts" "LKeyGuess$Cuts;", Cond.classLink RX5 29 RX4, Cond.instantiable RX4 9, Cond.initialized RX4, Cond.fieldLink RX5 32 "KeyGuess" "tower" "LKeyGuess$Tower;", Cond.classLink RX5 36 RX1, Cond.instantiable RX1 1, Cond.initialized RX1, Cond.fieldLink RX5 39 "KeyGuess" "filter" "LKeyGuess$Filter;", Cond.classLink RX5 43 RX3, Cond.instantiable RX3 2, Cond.initialized RX3]
def wsX5_init_r2 : List Cond := [Cond.fieldLink RX5 46 "KeyGuess" "look" "LKeyGuess$Look;", Cond.fieldLink RX5 50 "KeyGuess" "leeway" "I", Cond.methodLink RX5 9 yX2_init, Cond.instanceMethod yX2_init, Cond.code yX2_init cX2_init 1 none, Cond.methodLink RX2 3 objectInit, Cond.arrayClass .int, Cond.fieldLink RX2 9 "KeyGuess$Keys" "cells" "[I", Cond.methodLink RX5 24 yX0_init, Cond.instanceMethod yX0_init, Cond.code yX0_init cX0_init 1 none, Cond.methodLink RX0 3 objectInit, Cond.fieldLink RX0 9 "KeyGuess$Cuts" "cells" "[I", Cond.fieldLink RX0 15 "KeyGuess$Cuts" "fewest" "[I", Cond.fieldLink RX0 18 "KeyGuess$Cuts" "lasts" "[I", Cond.fieldLink RX0 21 "KeyGuess$Cuts" "slopeNums" "[I", Cond.fieldLink RX0 24 "KeyGuess$Cuts" "slopeDens" "[I", Cond.methodLink RX5 31 yX4_init, Cond.instanceMethod yX4_init, Cond.code yX4_init cX4_init 1 none, Cond.methodLink RX4 3 objectInit, Cond.classLink RX4 9 RX2, Cond.fieldLink RX4 12 "KeyGuess$Tower" "base" "LKeyGuess$Keys;", Cond.fieldLink RX4 18 "KeyGuess$Tower" "starts" "[I"]
def wsX5_init_r3 : List Cond := [Cond.fieldLink RX4 22 "KeyGuess$Tower" "froms" "[I", Cond.fieldLink RX4 25 "KeyGuess$Tower" "lasts" "[I", Cond.fieldLink RX4 28 "KeyGuess$Tower" "firsts" "[I", Cond.fieldLink RX4 31 "KeyGuess$Tower" "slopeNums" "[I", Cond.fieldLink RX4 34 "KeyGuess$Tower" "slopeDens" "[I", Cond.methodLink RX4 11 yX2_init, Cond.instanceMethod yX1_init, Cond.code yX1_init cX1_init 1 none, Cond.methodLink RX1 1 objectInit, Cond.instanceMethod yX3_init, Cond.code yX3_init cX3_init 1 none, Cond.methodLink RX3 3 objectInit]
def wsX5_init : List Cond := .code yX5_init cX5_init 1 none :: ((wsX5_init_r1 ++ (wsX5_init_r2 ++ wsX5_init_r3)) ++ wsX20 ++ wsX50 ++ wsX00 ++ wsX40 ++ wsX10 ++ wsX30)
def wsX5_isNumber : List Cond := .code yX5_isNumber cX5_isNumber 1 (some .boolean) :: ([.constant RX5 95 (1000000)])
def wsX5_makeRow_r1 : List Cond := [Cond.fieldLink RX5 16 "KeyGuess" "row" "LKeyGuess$Keys;", Cond.fieldLink RX5 10 "KeyGuess" "now" "LKeyGuess$Keys;", Cond.fieldLink RX5 71 "KeyGuess" "newKeys" "I", Cond.fieldLink RX5 65 "KeyGuess" "oldKeys" "I", Cond.fieldLink RX5 85 "KeyGuess" "cost" "I", Cond.fieldLink RX5 39 "KeyGuess" "filter" "LKeyGuess$Filter;", Cond.fieldLink RX5 32 "KeyGuess" "tower" "LKeyGuess$Tower;", Cond.fieldLink RX5 25 "KeyGuess" "cuts" "LKeyGuess$Cuts;", Cond.fieldLink RX5 50 "KeyGuess" "leeway" "I", Cond.methodLink RX5 145 yX2_copy, Cond.instanceMethod yX2_copy, Cond.selects RX2 yX2_copy yX2_copy, Cond.initialized RX2, Cond.code yX2_copy cX2_copy 3 none, Cond.fieldLink RX2 15 "KeyGuess$Keys" "size" "I", Cond.methodLink RX2 26 yX2_size, Cond.instanceMethod yX2_size, Cond.selects RX2 yX2_size yX2_size, Cond.code yX2_size cX2_size 1 (some .int), Cond.methodLink RX2 23 yX2_key, Cond.instanceMethod yX2_key, Cond.selects RX2 yX2_key yX2_key, Cond.code yX2_key cX2_key 2 (some .int), Cond.fieldLink RX2 9 "KeyGuess$Keys" "cells" "[I"]
def wsX5_makeRow_r2 : List Cond := [Cond.methodLink RX2 29 yX2_append, Cond.instanceMethod yX2_append, Cond.selects RX2 yX2_append yX2_append, Cond.code yX2_append cX2_append 2 none, Cond.methodLink RX5 61 yX2_size, Cond.methodLink RX5 149 yX1_clear, Cond.instanceMethod yX1_clear, Cond.selects RX1 yX1_clear yX1_clear, Cond.initialized RX1, Cond.code yX1_clear cX1_clear 1 none, Cond.fieldLink RX1 7 "KeyGuess$Filter" "bits" "J", Cond.methodLink RX5 92 yX2_key, Cond.methodLink RX5 78 yX1_add, Cond.instanceMethod yX1_add, Cond.selects RX1 yX1_add yX1_add, Cond.code yX1_add cX1_add 2 none, Cond.methodLink RX1 13 yX1_bitsOf, Cond.static yX1_bitsOf, Cond.code yX1_bitsOf cX1_bitsOf 1 (some .long), Cond.methodLink RX5 152 yX4_build, Cond.instanceMethod yX4_build, Cond.selects RX4 yX4_build yX4_build, Cond.initialized RX4, Cond.code yX4_build cX4_build 6 none]
def wsX5_makeRow_r3 : List Cond := [Cond.fieldLink RX4 37 "KeyGuess$Tower" "height" "I", Cond.fieldLink RX4 49 "KeyGuess$Tower" "size" "I", Cond.fieldLink RX4 12 "KeyGuess$Tower" "base" "LKeyGuess$Keys;", Cond.methodLink RX4 52 yX2_copy, Cond.methodLink RX4 56 yX2_size, Cond.methodLink RX4 59 yX0_cut, Cond.instanceMethod yX0_cut, Cond.selects RX0 yX0_cut yX0_cut, Cond.initialized RX0, Cond.code yX0_cut cX0_cut 5 none, Cond.methodLink RX0 33 Lib.Math.min.name, Cond.static Lib.Math.min.name, Cond.initialized "java/lang/Math", Cond.code Lib.Math.min.name Lib.Math.min.code 2 (some .int), Cond.fieldLink RX0 9 "KeyGuess$Cuts" "cells" "[I", Cond.fieldLink RX0 15 "KeyGuess$Cuts" "fewest" "[I", Cond.methodLink RX0 27 yX2_size, Cond.methodLink RX0 39 yX2_key, Cond.methodLink RX0 43 yX0_cutFrom, Cond.instanceMethod yX0_cutFrom, Cond.selects RX0 yX0_cutFrom yX0_cutFrom, Cond.code yX0_cutFrom cX0_cutFrom 12 none, Cond.fieldLink RX0 18 "KeyGuess$Cuts" "lasts" "[I", Cond.fieldLink RX0 21 "KeyGuess$Cuts" "slopeNums" "[I"]
def wsX5_makeRow_r4 : List Cond := [Cond.fieldLink RX0 24 "KeyGuess$Cuts" "slopeDens" "[I", Cond.methodLink RX4 65 yX4_raise, Cond.instanceMethod yX4_raise, Cond.selects RX4 yX4_raise yX4_raise, Cond.code yX4_raise cX4_raise 5 none, Cond.fieldLink RX4 18 "KeyGuess$Tower" "starts" "[I", Cond.methodLink RX4 85 yX4_lay, Cond.instanceMethod yX4_lay, Cond.selects RX4 yX4_lay yX4_lay, Cond.code yX4_lay cX4_lay 6 none, Cond.fieldLink RX4 22 "KeyGuess$Tower" "froms" "[I", Cond.fieldLink RX4 25 "KeyGuess$Tower" "lasts" "[I", Cond.fieldLink RX4 28 "KeyGuess$Tower" "firsts" "[I", Cond.fieldLink RX4 31 "KeyGuess$Tower" "slopeNums" "[I", Cond.fieldLink RX4 34 "KeyGuess$Tower" "slopeDens" "[I", Cond.methodLink RX4 91 yX0_slopeNum, Cond.instanceMethod yX0_slopeNum, Cond.selects RX0 yX0_slopeNum yX0_slopeNum, Cond.code yX0_slopeNum cX0_slopeNum 2 (some .int), Cond.methodLink RX0 47 yX0_isRank, Cond.static yX0_isRank, Cond.code yX0_isRank cX0_isRank 1 (some .boolean), Cond.methodLink RX4 94 yX0_slopeDen, Cond.instanceMethod yX0_slopeDen]
def wsX5_makeRow_r5 : List Cond := [Cond.selects RX0 yX0_slopeDen yX0_slopeDen, Cond.code yX0_slopeDen cX0_slopeDen 2 (some .int), Cond.methodLink RX4 97 yX4_commonDivisor, Cond.static yX4_commonDivisor, Cond.code yX4_commonDivisor cX4_commonDivisor 4 (some .int), Cond.methodLink RX4 88 yX0_lastOf, Cond.instanceMethod yX0_lastOf, Cond.selects RX0 yX0_lastOf yX0_lastOf, Cond.code yX0_lastOf cX0_lastOf 2 (some .int), Cond.methodLink RX4 100 yX2_key, Cond.methodLink RX4 41 yX4_width, Cond.instanceMethod yX4_width, Cond.selects RX4 yX4_width yX4_width, Cond.code yX4_width cX4_width 2 (some .int), Cond.methodLink RX4 69 yX4_layBase, Cond.instanceMethod yX4_layBase, Cond.selects RX4 yX4_layBase yX4_layBase, Cond.code yX4_layBase cX4_layBase 3 none, Cond.methodLink RX4 103 yX2_clear, Cond.instanceMethod yX2_clear, Cond.selects RX2 yX2_clear yX2_clear, Cond.code yX2_clear cX2_clear 1 none, Cond.methodLink RX4 106 yX4_tell, Cond.instanceMethod yX4_tell]
def wsX5_makeRow_r6 : List Cond := [Cond.selects RX4 yX4_tell yX4_tell, Cond.code yX4_tell cX4_tell 5 (some .int), Cond.methodLink RX4 45 yX4_isPiece, Cond.instanceMethod yX4_isPiece, Cond.selects RX4 yX4_isPiece yX4_isPiece, Cond.code yX4_isPiece cX4_isPiece 2 (some .boolean), Cond.methodLink RX4 110 yX2_append]
def wsX5_makeRow : List Cond := .code yX5_makeRow cX5_makeRow 2 none :: ((wsX5_makeRow_r1 ++ (wsX5_makeRow_r2 ++ (wsX5_makeRow_r3 ++ (wsX5_makeRow_r4 ++ (wsX5_makeRow_r5 ++ wsX5_makeRow_r6))))) ++ wsX50 ++ wsX20 ++ wsX10 ++ wsX40 ++ wsX00)
def wsX5_clearAsideIfFull_r1 : List Cond := [Cond.fieldLink RX5 71 "KeyGuess" "newKeys" "I", Cond.fieldLink RX5 65 "KeyGuess" "oldKeys" "I", Cond.methodLink RX5 82 yX5_makeRow, Cond.instanceMethod yX5_makeRow, Cond.selects RX5 yX5_makeRow yX5_makeRow, Cond.initialized RX5, Cond.code yX5_makeRow cX5_makeRow 2 none, Cond.fieldLink RX5 16 "KeyGuess" "row" "LKeyGuess$Keys;", Cond.fieldLink RX5 10 "KeyGuess" "now" "LKeyGuess$Keys;", Cond.fieldLink RX5 85 "KeyGuess" "cost" "I", Cond.fieldLink RX5 39 "KeyGuess" "filter" "LKeyGuess$Filter;", Cond.fieldLink RX5 32 "KeyGuess" "tower" "LKeyGuess$Tower;", Cond.fieldLink RX5 25 "KeyGuess" "cuts" "LKeyGuess$Cuts;", Cond.fieldLink RX5 50 "KeyGuess" "leeway" "I", Cond.methodLink RX5 145 yX2_copy, Cond.instanceMethod yX2_copy, Cond.selects RX2 yX2_copy yX2_copy, Cond.initialized RX2, Cond.code yX2_copy cX2_copy 3 none, Cond.fieldLink RX2 15 "KeyGuess$Keys" "size" "I", Cond.methodLink RX2 26 yX2_size, Cond.instanceMethod yX2_size, Cond.selects RX2 yX2_size yX2_size, Cond.code yX2_size cX2_size 1 (some .int)]
def wsX5_clearAsideIfFull_r2 : List Cond := [Cond.methodLink RX2 23 yX2_key, Cond.instanceMethod yX2_key, Cond.selects RX2 yX2_key yX2_key, Cond.code yX2_key cX2_key 2 (some .int), Cond.fieldLink RX2 9 "KeyGuess$Keys" "cells" "[I", Cond.methodLink RX2 29 yX2_append, Cond.instanceMethod yX2_append, Cond.selects RX2 yX2_append yX2_append, Cond.code yX2_append cX2_append 2 none, Cond.methodLink RX5 61 yX2_size, Cond.methodLink RX5 149 yX1_clear, Cond.instanceMethod yX1_clear, Cond.selects RX1 yX1_clear yX1_clear, Cond.initialized RX1, Cond.code yX1_clear cX1_clear 1 none, Cond.fieldLink RX1 7 "KeyGuess$Filter" "bits" "J", Cond.methodLink RX5 92 yX2_key, Cond.methodLink RX5 78 yX1_add, Cond.instanceMethod yX1_add, Cond.selects RX1 yX1_add yX1_add, Cond.code yX1_add cX1_add 2 none, Cond.methodLink RX1 13 yX1_bitsOf, Cond.static yX1_bitsOf, Cond.code yX1_bitsOf cX1_bitsOf 1 (some .long)]
def wsX5_clearAsideIfFull_r3 : List Cond := [Cond.methodLink RX5 152 yX4_build, Cond.instanceMethod yX4_build, Cond.selects RX4 yX4_build yX4_build, Cond.initialized RX4, Cond.code yX4_build cX4_build 6 none, Cond.fieldLink RX4 37 "KeyGuess$Tower" "height" "I", Cond.fieldLink RX4 49 "KeyGuess$Tower" "size" "I", Cond.fieldLink RX4 12 "KeyGuess$Tower" "base" "LKeyGuess$Keys;", Cond.methodLink RX4 52 yX2_copy, Cond.methodLink RX4 56 yX2_size, Cond.methodLink RX4 59 yX0_cut, Cond.instanceMethod yX0_cut, Cond.selects RX0 yX0_cut yX0_cut, Cond.initialized RX0, Cond.code yX0_cut cX0_cut 5 none, Cond.methodLink RX0 33 Lib.Math.min.name, Cond.static Lib.Math.min.name, Cond.initialized "java/lang/Math", Cond.code Lib.Math.min.name Lib.Math.min.code 2 (some .int), Cond.fieldLink RX0 9 "KeyGuess$Cuts" "cells" "[I", Cond.fieldLink RX0 15 "KeyGuess$Cuts" "fewest" "[I", Cond.methodLink RX0 27 yX2_size, Cond.methodLink RX0 39 yX2_key, Cond.methodLink RX0 43 yX0_cutFrom]
def wsX5_clearAsideIfFull_r4 : List Cond := [Cond.instanceMethod yX0_cutFrom, Cond.selects RX0 yX0_cutFrom yX0_cutFrom, Cond.code yX0_cutFrom cX0_cutFrom 12 none, Cond.fieldLink RX0 18 "KeyGuess$Cuts" "lasts" "[I", Cond.fieldLink RX0 21 "KeyGuess$Cuts" "slopeNums" "[I", Cond.fieldLink RX0 24 "KeyGuess$Cuts" "slopeDens" "[I", Cond.methodLink RX4 65 yX4_raise, Cond.instanceMethod yX4_raise, Cond.selects RX4 yX4_raise yX4_raise, Cond.code yX4_raise cX4_raise 5 none, Cond.fieldLink RX4 18 "KeyGuess$Tower" "starts" "[I", Cond.methodLink RX4 85 yX4_lay, Cond.instanceMethod yX4_lay, Cond.selects RX4 yX4_lay yX4_lay, Cond.code yX4_lay cX4_lay 6 none, Cond.fieldLink RX4 22 "KeyGuess$Tower" "froms" "[I", Cond.fieldLink RX4 25 "KeyGuess$Tower" "lasts" "[I", Cond.fieldLink RX4 28 "KeyGuess$Tower" "firsts" "[I", Cond.fieldLink RX4 31 "KeyGuess$Tower" "slopeNums" "[I", Cond.fieldLink RX4 34 "KeyGuess$Tower" "slopeDens" "[I", Cond.methodLink RX4 91 yX0_slopeNum, Cond.instanceMethod yX0_slopeNum, Cond.selects RX0 yX0_slopeNum yX0_slopeNum, Cond.code yX0_slopeNum cX0_slopeNum 2 (some .int)]
def wsX5_clearAsideIfFull_r5 : List Cond := [Cond.methodLink RX0 47 yX0_isRank, Cond.static yX0_isRank, Cond.code yX0_isRank cX0_isRank 1 (some .boolean), Cond.methodLink RX4 94 yX0_slopeDen, Cond.instanceMethod yX0_slopeDen, Cond.selects RX0 yX0_slopeDen yX0_slopeDen, Cond.code yX0_slopeDen cX0_slopeDen 2 (some .int), Cond.methodLink RX4 97 yX4_commonDivisor, Cond.static yX4_commonDivisor, Cond.code yX4_commonDivisor cX4_commonDivisor 4 (some .int), Cond.methodLink RX4 88 yX0_lastOf, Cond.instanceMethod yX0_lastOf, Cond.selects RX0 yX0_lastOf yX0_lastOf, Cond.code yX0_lastOf cX0_lastOf 2 (some .int), Cond.methodLink RX4 100 yX2_key, Cond.methodLink RX4 41 yX4_width, Cond.instanceMethod yX4_width, Cond.selects RX4 yX4_width yX4_width, Cond.code yX4_width cX4_width 2 (some .int), Cond.methodLink RX4 69 yX4_layBase, Cond.instanceMethod yX4_layBase, Cond.selects RX4 yX4_layBase yX4_layBase, Cond.code yX4_layBase cX4_layBase 3 none, Cond.methodLink RX4 103 yX2_clear]
def wsX5_clearAsideIfFull_r6 : List Cond := [Cond.instanceMethod yX2_clear, Cond.selects RX2 yX2_clear yX2_clear, Cond.code yX2_clear cX2_clear 1 none, Cond.methodLink RX4 106 yX4_tell, Cond.instanceMethod yX4_tell, Cond.selects RX4 yX4_tell yX4_tell, Cond.code yX4_tell cX4_tell 5 (some .int), Cond.methodLink RX4 45 yX4_isPiece, Cond.instanceMethod yX4_isPiece, Cond.selects RX4 yX4_isPiece yX4_isPiece, Cond.code yX4_isPiece cX4_isPiece 2 (some .boolean), Cond.methodLink RX4 110 yX2_append]
def wsX5_clearAsideIfFull : List Cond := .code yX5_clearAsideIfFull cX5_clearAsideIfFull 1 none :: ((wsX5_clearAsideIfFull_r1 ++ (wsX5_clearAsideIfFull_r2 ++ (wsX5_clearAsideIfFull_r3 ++ (wsX5_clearAsideIfFull_r4 ++ (wsX5_clearAsideIfFull_r5 ++ wsX5_clearAsideIfFull_r6))))) ++ wsX50 ++ wsX20 ++ wsX10 ++ wsX40 ++ wsX00)
def wsX5_put_r1 : List Cond := [Cond.fieldLink RX5 10 "KeyGuess" "now" "LKeyGuess$Keys;", Cond.fieldLink RX5 16 "KeyGuess" "row" "LKeyGuess$Keys;", Cond.fieldLink RX5 65 "KeyGuess" "oldKeys" "I", Cond.fieldLink RX5 71 "KeyGuess" "newKeys" "I", Cond.fieldLink RX5 39 "KeyGuess" "filter" "LKeyGuess$Filter;", Cond.methodLink RX5 54 yX5_isNumber, Cond.static yX5_isNumber, Cond.initialized RX5, Cond.code yX5_isNumber cX5_isNumber 1 (some .boolean), Cond.constant RX5 95 (1000000), Cond.methodLink RX5 58 yX2_has, Cond.instanceMethod yX2_has, Cond.selects RX2 yX2_has yX2_has, Cond.initialized RX2, Cond.code yX2_has cX2_has 3 (some .boolean), Cond.fieldLink RX2 15 "KeyGuess$Keys" "size" "I", Cond.fieldLink RX2 9 "KeyGuess$Keys" "cells" "[I", Cond.methodLink RX2 19 yX2_below, Cond.instanceMethod yX2_below, Cond.selects RX2 yX2_below yX2_below, Cond.code yX2_below cX2_below 3 (some .int), Cond.methodLink RX5 61 yX2_size, Cond.instanceMethod yX2_size, Cond.selects RX2 yX2_size yX2_size]
def wsX5_put_r2 : List Cond := [Cond.code yX2_size cX2_size 1 (some .int), Cond.methodLink RX5 68 yX5_clearAsideIfFull, Cond.instanceMethod yX5_clearAsideIfFull, Cond.selects RX5 yX5_clearAsideIfFull yX5_clearAsideIfFull, Cond.code yX5_clearAsideIfFull cX5_clearAsideIfFull 1 none, Cond.methodLink RX5 82 yX5_makeRow, Cond.instanceMethod yX5_makeRow, Cond.selects RX5 yX5_makeRow yX5_makeRow, Cond.code yX5_makeRow cX5_makeRow 2 none, Cond.fieldLink RX5 85 "KeyGuess" "cost" "I", Cond.fieldLink RX5 32 "KeyGuess" "tower" "LKeyGuess$Tower;", Cond.fieldLink RX5 25 "KeyGuess" "cuts" "LKeyGuess$Cuts;", Cond.fieldLink RX5 50 "KeyGuess" "leeway" "I", Cond.methodLink RX5 145 yX2_copy, Cond.instanceMethod yX2_copy, Cond.selects RX2 yX2_copy yX2_copy, Cond.code yX2_copy cX2_copy 3 none, Cond.methodLink RX2 26 yX2_size, Cond.methodLink RX2 23 yX2_key, Cond.instanceMethod yX2_key, Cond.selects RX2 yX2_key yX2_key, Cond.code yX2_key cX2_key 2 (some .int), Cond.methodLink RX2 29 yX2_append, Cond.instanceMethod yX2_append]
def wsX5_put_r3 : List Cond := [Cond.selects RX2 yX2_append yX2_append, Cond.code yX2_append cX2_append 2 none, Cond.methodLink RX5 149 yX1_clear, Cond.instanceMethod yX1_clear, Cond.selects RX1 yX1_clear yX1_clear, Cond.initialized RX1, Cond.code yX1_clear cX1_clear 1 none, Cond.fieldLink RX1 7 "KeyGuess$Filter" "bits" "J", Cond.methodLink RX5 92 yX2_key, Cond.methodLink RX5 78 yX1_add, Cond.instanceMethod yX1_add, Cond.selects RX1 yX1_add yX1_add, Cond.code yX1_add cX1_add 2 none, Cond.methodLink RX1 13 yX1_bitsOf, Cond.static yX1_bitsOf, Cond.code yX1_bitsOf cX1_bitsOf 1 (some .long), Cond.methodLink RX5 152 yX4_build, Cond.instanceMethod yX4_build, Cond.selects RX4 yX4_build yX4_build, Cond.initialized RX4, Cond.code yX4_build cX4_build 6 none, Cond.fieldLink RX4 37 "KeyGuess$Tower" "height" "I", Cond.fieldLink RX4 49 "KeyGuess$Tower" "size" "I", Cond.fieldLink RX4 12 "KeyGuess$Tower" "base" "LKeyGuess$Keys;"]
def wsX5_put_r4 : List Cond := [Cond.methodLink RX4 52 yX2_copy, Cond.methodLink RX4 56 yX2_size, Cond.methodLink RX4 59 yX0_cut, Cond.instanceMethod yX0_cut, Cond.selects RX0 yX0_cut yX0_cut, Cond.initialized RX0, Cond.code yX0_cut cX0_cut 5 none, Cond.methodLink RX0 33 Lib.Math.min.name, Cond.static Lib.Math.min.name, Cond.initialized "java/lang/Math", Cond.code Lib.Math.min.name Lib.Math.min.code 2 (some .int), Cond.fieldLink RX0 9 "KeyGuess$Cuts" "cells" "[I", Cond.fieldLink RX0 15 "KeyGuess$Cuts" "fewest" "[I", Cond.methodLink RX0 27 yX2_size, Cond.methodLink RX0 39 yX2_key, Cond.methodLink RX0 43 yX0_cutFrom, Cond.instanceMethod yX0_cutFrom, Cond.selects RX0 yX0_cutFrom yX0_cutFrom, Cond.code yX0_cutFrom cX0_cutFrom 12 none, Cond.fieldLink RX0 18 "KeyGuess$Cuts" "lasts" "[I", Cond.fieldLink RX0 21 "KeyGuess$Cuts" "slopeNums" "[I", Cond.fieldLink RX0 24 "KeyGuess$Cuts" "slopeDens" "[I", Cond.methodLink RX4 65 yX4_raise, Cond.instanceMethod yX4_raise]
def wsX5_put_r5 : List Cond := [Cond.selects RX4 yX4_raise yX4_raise, Cond.code yX4_raise cX4_raise 5 none, Cond.fieldLink RX4 18 "KeyGuess$Tower" "starts" "[I", Cond.methodLink RX4 85 yX4_lay, Cond.instanceMethod yX4_lay, Cond.selects RX4 yX4_lay yX4_lay, Cond.code yX4_lay cX4_lay 6 none, Cond.fieldLink RX4 22 "KeyGuess$Tower" "froms" "[I", Cond.fieldLink RX4 25 "KeyGuess$Tower" "lasts" "[I", Cond.fieldLink RX4 28 "KeyGuess$Tower" "firsts" "[I", Cond.fieldLink RX4 31 "KeyGuess$Tower" "slopeNums" "[I", Cond.fieldLink RX4 34 "KeyGuess$Tower" "slopeDens" "[I", Cond.methodLink RX4 91 yX0_slopeNum, Cond.instanceMethod yX0_slopeNum, Cond.selects RX0 yX0_slopeNum yX0_slopeNum, Cond.code yX0_slopeNum cX0_slopeNum 2 (some .int), Cond.methodLink RX0 47 yX0_isRank, Cond.static yX0_isRank, Cond.code yX0_isRank cX0_isRank 1 (some .boolean), Cond.methodLink RX4 94 yX0_slopeDen, Cond.instanceMethod yX0_slopeDen, Cond.selects RX0 yX0_slopeDen yX0_slopeDen, Cond.code yX0_slopeDen cX0_slopeDen 2 (some .int), Cond.methodLink RX4 97 yX4_commonDivisor]
def wsX5_put_r6 : List Cond := [Cond.static yX4_commonDivisor, Cond.code yX4_commonDivisor cX4_commonDivisor 4 (some .int), Cond.methodLink RX4 88 yX0_lastOf, Cond.instanceMethod yX0_lastOf, Cond.selects RX0 yX0_lastOf yX0_lastOf, Cond.code yX0_lastOf cX0_lastOf 2 (some .int), Cond.methodLink RX4 100 yX2_key, Cond.methodLink RX4 41 yX4_width, Cond.instanceMethod yX4_width, Cond.selects RX4 yX4_width yX4_width, Cond.code yX4_width cX4_width 2 (some .int), Cond.methodLink RX4 69 yX4_layBase, Cond.instanceMethod yX4_layBase, Cond.selects RX4 yX4_layBase yX4_layBase, Cond.code yX4_layBase cX4_layBase 3 none, Cond.methodLink RX4 103 yX2_clear, Cond.instanceMethod yX2_clear, Cond.selects RX2 yX2_clear yX2_clear, Cond.code yX2_clear cX2_clear 1 none, Cond.methodLink RX4 106 yX4_tell, Cond.instanceMethod yX4_tell, Cond.selects RX4 yX4_tell yX4_tell, Cond.code yX4_tell cX4_tell 5 (some .int), Cond.methodLink RX4 45 yX4_isPiece]
def wsX5_put_r7 : List Cond := [Cond.instanceMethod yX4_isPiece, Cond.selects RX4 yX4_isPiece yX4_isPiece, Cond.code yX4_isPiece cX4_isPiece 2 (some .boolean), Cond.methodLink RX4 110 yX2_append, Cond.methodLink RX5 74 yX2_add, Cond.instanceMethod yX2_add, Cond.selects RX2 yX2_add yX2_add, Cond.code yX2_add cX2_add 4 none, Cond.methodLink RX2 33 yX2_has]
def wsX5_put : List Cond := .code yX5_put cX5_put 2 (some .int) :: ((wsX5_put_r1 ++ (wsX5_put_r2 ++ (wsX5_put_r3 ++ (wsX5_put_r4 ++ (wsX5_put_r5 ++ (wsX5_put_r6 ++ wsX5_put_r7)))))) ++ wsX50 ++ wsX20 ++ wsX10 ++ wsX40 ++ wsX00)
def wsX5_take_r1 : List Cond := [Cond.fieldLink RX5 10 "KeyGuess" "now" "LKeyGuess$Keys;", Cond.fieldLink RX5 16 "KeyGuess" "row" "LKeyGuess$Keys;", Cond.fieldLink RX5 65 "KeyGuess" "oldKeys" "I", Cond.fieldLink RX5 71 "KeyGuess" "newKeys" "I", Cond.methodLink RX5 54 yX5_isNumber, Cond.static yX5_isNumber, Cond.initialized RX5, Cond.code yX5_isNumber cX5_isNumber 1 (some .boolean), Cond.constant RX5 95 (1000000), Cond.methodLink RX5 58 yX2_has, Cond.instanceMethod yX2_has, Cond.selects RX2 yX2_has yX2_has, Cond.initialized RX2, Cond.code yX2_has cX2_has 3 (some .boolean), Cond.fieldLink RX2 15 "KeyGuess$Keys" "size" "I", Cond.fieldLink RX2 9 "KeyGuess$Keys" "cells" "[I", Cond.methodLink RX2 19 yX2_below, Cond.instanceMethod yX2_below, Cond.selects RX2 yX2_below yX2_below, Cond.code yX2_below cX2_below 3 (some .int), Cond.methodLink RX5 68 yX5_clearAsideIfFull, Cond.instanceMethod yX5_clearAsideIfFull, Cond.selects RX5 yX5_clearAsideIfFull yX5_clearAsideIfFull, Cond.code yX5_clearAsideIfFull cX5_clearAsideIfFull 1 none]
def wsX5_take_r2 : List Cond := [Cond.methodLink RX5 82 yX5_makeRow, Cond.instanceMethod yX5_makeRow, Cond.selects RX5 yX5_makeRow yX5_makeRow, Cond.code yX5_makeRow cX5_makeRow 2 none, Cond.fieldLink RX5 85 "KeyGuess" "cost" "I", Cond.fieldLink RX5 39 "KeyGuess" "filter" "LKeyGuess$Filter;", Cond.fieldLink RX5 32 "KeyGuess" "tower" "LKeyGuess$Tower;", Cond.fieldLink RX5 25 "KeyGuess" "cuts" "LKeyGuess$Cuts;", Cond.fieldLink RX5 50 "KeyGuess" "leeway" "I", Cond.methodLink RX5 145 yX2_copy, Cond.instanceMethod yX2_copy, Cond.selects RX2 yX2_copy yX2_copy, Cond.code yX2_copy cX2_copy 3 none, Cond.methodLink RX2 26 yX2_size, Cond.instanceMethod yX2_size, Cond.selects RX2 yX2_size yX2_size, Cond.code yX2_size cX2_size 1 (some .int), Cond.methodLink RX2 23 yX2_key, Cond.instanceMethod yX2_key, Cond.selects RX2 yX2_key yX2_key, Cond.code yX2_key cX2_key 2 (some .int), Cond.methodLink RX2 29 yX2_append, Cond.instanceMethod yX2_append, Cond.selects RX2 yX2_append yX2_append]
def wsX5_take_r3 : List Cond := [Cond.code yX2_append cX2_append 2 none, Cond.methodLink RX5 61 yX2_size, Cond.methodLink RX5 149 yX1_clear, Cond.instanceMethod yX1_clear, Cond.selects RX1 yX1_clear yX1_clear, Cond.initialized RX1, Cond.code yX1_clear cX1_clear 1 none, Cond.fieldLink RX1 7 "KeyGuess$Filter" "bits" "J", Cond.methodLink RX5 92 yX2_key, Cond.methodLink RX5 78 yX1_add, Cond.instanceMethod yX1_add, Cond.selects RX1 yX1_add yX1_add, Cond.code yX1_add cX1_add 2 none, Cond.methodLink RX1 13 yX1_bitsOf, Cond.static yX1_bitsOf, Cond.code yX1_bitsOf cX1_bitsOf 1 (some .long), Cond.methodLink RX5 152 yX4_build, Cond.instanceMethod yX4_build, Cond.selects RX4 yX4_build yX4_build, Cond.initialized RX4, Cond.code yX4_build cX4_build 6 none, Cond.fieldLink RX4 37 "KeyGuess$Tower" "height" "I", Cond.fieldLink RX4 49 "KeyGuess$Tower" "size" "I", Cond.fieldLink RX4 12 "KeyGuess$Tower" "base" "LKeyGuess$Keys;"]
def wsX5_take_r4 : List Cond := [Cond.methodLink RX4 52 yX2_copy, Cond.methodLink RX4 56 yX2_size, Cond.methodLink RX4 59 yX0_cut, Cond.instanceMethod yX0_cut, Cond.selects RX0 yX0_cut yX0_cut, Cond.initialized RX0, Cond.code yX0_cut cX0_cut 5 none, Cond.methodLink RX0 33 Lib.Math.min.name, Cond.static Lib.Math.min.name, Cond.initialized "java/lang/Math", Cond.code Lib.Math.min.name Lib.Math.min.code 2 (some .int), Cond.fieldLink RX0 9 "KeyGuess$Cuts" "cells" "[I", Cond.fieldLink RX0 15 "KeyGuess$Cuts" "fewest" "[I", Cond.methodLink RX0 27 yX2_size, Cond.methodLink RX0 39 yX2_key, Cond.methodLink RX0 43 yX0_cutFrom, Cond.instanceMethod yX0_cutFrom, Cond.selects RX0 yX0_cutFrom yX0_cutFrom, Cond.code yX0_cutFrom cX0_cutFrom 12 none, Cond.fieldLink RX0 18 "KeyGuess$Cuts" "lasts" "[I", Cond.fieldLink RX0 21 "KeyGuess$Cuts" "slopeNums" "[I", Cond.fieldLink RX0 24 "KeyGuess$Cuts" "slopeDens" "[I", Cond.methodLink RX4 65 yX4_raise, Cond.instanceMethod yX4_raise]
def wsX5_take_r5 : List Cond := [Cond.selects RX4 yX4_raise yX4_raise, Cond.code yX4_raise cX4_raise 5 none, Cond.fieldLink RX4 18 "KeyGuess$Tower" "starts" "[I", Cond.methodLink RX4 85 yX4_lay, Cond.instanceMethod yX4_lay, Cond.selects RX4 yX4_lay yX4_lay, Cond.code yX4_lay cX4_lay 6 none, Cond.fieldLink RX4 22 "KeyGuess$Tower" "froms" "[I", Cond.fieldLink RX4 25 "KeyGuess$Tower" "lasts" "[I", Cond.fieldLink RX4 28 "KeyGuess$Tower" "firsts" "[I", Cond.fieldLink RX4 31 "KeyGuess$Tower" "slopeNums" "[I", Cond.fieldLink RX4 34 "KeyGuess$Tower" "slopeDens" "[I", Cond.methodLink RX4 91 yX0_slopeNum, Cond.instanceMethod yX0_slopeNum, Cond.selects RX0 yX0_slopeNum yX0_slopeNum, Cond.code yX0_slopeNum cX0_slopeNum 2 (some .int), Cond.methodLink RX0 47 yX0_isRank, Cond.static yX0_isRank, Cond.code yX0_isRank cX0_isRank 1 (some .boolean), Cond.methodLink RX4 94 yX0_slopeDen, Cond.instanceMethod yX0_slopeDen, Cond.selects RX0 yX0_slopeDen yX0_slopeDen, Cond.code yX0_slopeDen cX0_slopeDen 2 (some .int), Cond.methodLink RX4 97 yX4_commonDivisor]
def wsX5_take_r6 : List Cond := [Cond.static yX4_commonDivisor, Cond.code yX4_commonDivisor cX4_commonDivisor 4 (some .int), Cond.methodLink RX4 88 yX0_lastOf, Cond.instanceMethod yX0_lastOf, Cond.selects RX0 yX0_lastOf yX0_lastOf, Cond.code yX0_lastOf cX0_lastOf 2 (some .int), Cond.methodLink RX4 100 yX2_key, Cond.methodLink RX4 41 yX4_width, Cond.instanceMethod yX4_width, Cond.selects RX4 yX4_width yX4_width, Cond.code yX4_width cX4_width 2 (some .int), Cond.methodLink RX4 69 yX4_layBase, Cond.instanceMethod yX4_layBase, Cond.selects RX4 yX4_layBase yX4_layBase, Cond.code yX4_layBase cX4_layBase 3 none, Cond.methodLink RX4 103 yX2_clear, Cond.instanceMethod yX2_clear, Cond.selects RX2 yX2_clear yX2_clear, Cond.code yX2_clear cX2_clear 1 none, Cond.methodLink RX4 106 yX4_tell, Cond.instanceMethod yX4_tell, Cond.selects RX4 yX4_tell yX4_tell, Cond.code yX4_tell cX4_tell 5 (some .int), Cond.methodLink RX4 45 yX4_isPiece]
def wsX5_take_r7 : List Cond := [Cond.instanceMethod yX4_isPiece, Cond.selects RX4 yX4_isPiece yX4_isPiece, Cond.code yX4_isPiece cX4_isPiece 2 (some .boolean), Cond.methodLink RX4 110 yX2_append, Cond.methodLink RX5 79 yX2_drop, Cond.instanceMethod yX2_drop, Cond.selects RX2 yX2_drop yX2_drop, Cond.code yX2_drop cX2_drop 3 none, Cond.methodLink RX2 33 yX2_has]
def wsX5_take : List Cond := .code yX5_take cX5_take 2 (some .int) :: ((wsX5_take_r1 ++ (wsX5_take_r2 ++ (wsX5_take_r3 ++ (wsX5_take_r4 ++ (wsX5_take_r5 ++ (wsX5_take_r6 ++ wsX5_take_r7)))))) ++ wsX50 ++ wsX20 ++ wsX10 ++ wsX40 ++ wsX00)
def wsX5_make_r1 : List Cond := [Cond.fieldLink RX5 85 "KeyGuess" "cost" "I", Cond.methodLink RX5 82 yX5_makeRow, Cond.instanceMethod yX5_makeRow, Cond.selects RX5 yX5_makeRow yX5_makeRow, Cond.initialized RX5, Cond.code yX5_makeRow cX5_makeRow 2 none, Cond.fieldLink RX5 16 "KeyGuess" "row" "LKeyGuess$Keys;", Cond.fieldLink RX5 10 "KeyGuess" "now" "LKeyGuess$Keys;", Cond.fieldLink RX5 71 "KeyGuess" "newKeys" "I", Cond.fieldLink RX5 65 "KeyGuess" "oldKeys" "I", Cond.fieldLink RX5 39 "KeyGuess" "filter" "LKeyGuess$Filter;", Cond.fieldLink RX5 32 "KeyGuess" "tower" "LKeyGuess$Tower;", Cond.fieldLink RX5 25 "KeyGuess" "cuts" "LKeyGuess$Cuts;", Cond.fieldLink RX5 50 "KeyGuess" "leeway" "I", Cond.methodLink RX5 145 yX2_copy, Cond.instanceMethod yX2_copy, Cond.selects RX2 yX2_copy yX2_copy, Cond.initialized RX2, Cond.code yX2_copy cX2_copy 3 none, Cond.fieldLink RX2 15 "KeyGuess$Keys" "size" "I", Cond.methodLink RX2 26 yX2_size, Cond.instanceMethod yX2_size, Cond.selects RX2 yX2_size yX2_size, Cond.code yX2_size cX2_size 1 (some .int)]
def wsX5_make_r2 : List Cond := [Cond.methodLink RX2 23 yX2_key, Cond.instanceMethod yX2_key, Cond.selects RX2 yX2_key yX2_key, Cond.code yX2_key cX2_key 2 (some .int), Cond.fieldLink RX2 9 "KeyGuess$Keys" "cells" "[I", Cond.methodLink RX2 29 yX2_append, Cond.instanceMethod yX2_append, Cond.selects RX2 yX2_append yX2_append, Cond.code yX2_append cX2_append 2 none, Cond.methodLink RX5 61 yX2_size, Cond.methodLink RX5 149 yX1_clear, Cond.instanceMethod yX1_clear, Cond.selects RX1 yX1_clear yX1_clear, Cond.initialized RX1, Cond.code yX1_clear cX1_clear 1 none, Cond.fieldLink RX1 7 "KeyGuess$Filter" "bits" "J", Cond.methodLink RX5 92 yX2_key, Cond.methodLink RX5 78 yX1_add, Cond.instanceMethod yX1_add, Cond.selects RX1 yX1_add yX1_add, Cond.code yX1_add cX1_add 2 none, Cond.methodLink RX1 13 yX1_bitsOf, Cond.static yX1_bitsOf, Cond.code yX1_bitsOf cX1_bitsOf 1 (some .long)]
def wsX5_make_r3 : List Cond := [Cond.methodLink RX5 152 yX4_build, Cond.instanceMethod yX4_build, Cond.selects RX4 yX4_build yX4_build, Cond.initialized RX4, Cond.code yX4_build cX4_build 6 none, Cond.fieldLink RX4 37 "KeyGuess$Tower" "height" "I", Cond.fieldLink RX4 49 "KeyGuess$Tower" "size" "I", Cond.fieldLink RX4 12 "KeyGuess$Tower" "base" "LKeyGuess$Keys;", Cond.methodLink RX4 52 yX2_copy, Cond.methodLink RX4 56 yX2_size, Cond.methodLink RX4 59 yX0_cut, Cond.instanceMethod yX0_cut, Cond.selects RX0 yX0_cut yX0_cut, Cond.initialized RX0, Cond.code yX0_cut cX0_cut 5 none, Cond.methodLink RX0 33 Lib.Math.min.name, Cond.static Lib.Math.min.name, Cond.initialized "java/lang/Math", Cond.code Lib.Math.min.name Lib.Math.min.code 2 (some .int), Cond.fieldLink RX0 9 "KeyGuess$Cuts" "cells" "[I", Cond.fieldLink RX0 15 "KeyGuess$Cuts" "fewest" "[I", Cond.methodLink RX0 27 yX2_size, Cond.methodLink RX0 39 yX2_key, Cond.methodLink RX0 43 yX0_cutFrom]
def wsX5_make_r4 : List Cond := [Cond.instanceMethod yX0_cutFrom, Cond.selects RX0 yX0_cutFrom yX0_cutFrom, Cond.code yX0_cutFrom cX0_cutFrom 12 none, Cond.fieldLink RX0 18 "KeyGuess$Cuts" "lasts" "[I", Cond.fieldLink RX0 21 "KeyGuess$Cuts" "slopeNums" "[I", Cond.fieldLink RX0 24 "KeyGuess$Cuts" "slopeDens" "[I", Cond.methodLink RX4 65 yX4_raise, Cond.instanceMethod yX4_raise, Cond.selects RX4 yX4_raise yX4_raise, Cond.code yX4_raise cX4_raise 5 none, Cond.fieldLink RX4 18 "KeyGuess$Tower" "starts" "[I", Cond.methodLink RX4 85 yX4_lay, Cond.instanceMethod yX4_lay, Cond.selects RX4 yX4_lay yX4_lay, Cond.code yX4_lay cX4_lay 6 none, Cond.fieldLink RX4 22 "KeyGuess$Tower" "froms" "[I", Cond.fieldLink RX4 25 "KeyGuess$Tower" "lasts" "[I", Cond.fieldLink RX4 28 "KeyGuess$Tower" "firsts" "[I", Cond.fieldLink RX4 31 "KeyGuess$Tower" "slopeNums" "[I", Cond.fieldLink RX4 34 "KeyGuess$Tower" "slopeDens" "[I", Cond.methodLink RX4 91 yX0_slopeNum, Cond.instanceMethod yX0_slopeNum, Cond.selects RX0 yX0_slopeNum yX0_slopeNum, Cond.code yX0_slopeNum cX0_slopeNum 2 (some .int)]
def wsX5_make_r5 : List Cond := [Cond.methodLink RX0 47 yX0_isRank, Cond.static yX0_isRank, Cond.code yX0_isRank cX0_isRank 1 (some .boolean), Cond.methodLink RX4 94 yX0_slopeDen, Cond.instanceMethod yX0_slopeDen, Cond.selects RX0 yX0_slopeDen yX0_slopeDen, Cond.code yX0_slopeDen cX0_slopeDen 2 (some .int), Cond.methodLink RX4 97 yX4_commonDivisor, Cond.static yX4_commonDivisor, Cond.code yX4_commonDivisor cX4_commonDivisor 4 (some .int), Cond.methodLink RX4 88 yX0_lastOf, Cond.instanceMethod yX0_lastOf, Cond.selects RX0 yX0_lastOf yX0_lastOf, Cond.code yX0_lastOf cX0_lastOf 2 (some .int), Cond.methodLink RX4 100 yX2_key, Cond.methodLink RX4 41 yX4_width, Cond.instanceMethod yX4_width, Cond.selects RX4 yX4_width yX4_width, Cond.code yX4_width cX4_width 2 (some .int), Cond.methodLink RX4 69 yX4_layBase, Cond.instanceMethod yX4_layBase, Cond.selects RX4 yX4_layBase yX4_layBase, Cond.code yX4_layBase cX4_layBase 3 none, Cond.methodLink RX4 103 yX2_clear]
def wsX5_make_r6 : List Cond := [Cond.instanceMethod yX2_clear, Cond.selects RX2 yX2_clear yX2_clear, Cond.code yX2_clear cX2_clear 1 none, Cond.methodLink RX4 106 yX4_tell, Cond.instanceMethod yX4_tell, Cond.selects RX4 yX4_tell yX4_tell, Cond.code yX4_tell cX4_tell 5 (some .int), Cond.methodLink RX4 45 yX4_isPiece, Cond.instanceMethod yX4_isPiece, Cond.selects RX4 yX4_isPiece yX4_isPiece, Cond.code yX4_isPiece cX4_isPiece 2 (some .boolean), Cond.methodLink RX4 110 yX2_append]
def wsX5_make : List Cond := .code yX5_make cX5_make 1 (some .int) :: ((wsX5_make_r1 ++ (wsX5_make_r2 ++ (wsX5_make_r3 ++ (wsX5_make_r4 ++ (wsX5_make_r5 ++ wsX5_make_r6))))) ++ wsX50 ++ wsX20 ++ wsX10 ++ wsX40 ++ wsX00)
def wsX5_slack_r1 : List Cond := [Cond.fieldLink RX5 50 "KeyGuess" "leeway" "I", Cond.methodLink RX5 82 yX5_makeRow, Cond.instanceMethod yX5_makeRow, Cond.selects RX5 yX5_makeRow yX5_makeRow, Cond.initialized RX5, Cond.code yX5_makeRow cX5_makeRow 2 none, Cond.fieldLink RX5 16 "KeyGuess" "row" "LKeyGuess$Keys;", Cond.fieldLink RX5 10 "KeyGuess" "now" "LKeyGuess$Keys;", Cond.fieldLink RX5 71 "KeyGuess" "newKeys" "I", Cond.fieldLink RX5 65 "KeyGuess" "oldKeys" "I", Cond.fieldLink RX5 85 "KeyGuess" "cost" "I", Cond.fieldLink RX5 39 "KeyGuess" "filter" "LKeyGuess$Filter;", Cond.fieldLink RX5 32 "KeyGuess" "tower" "LKeyGuess$Tower;", Cond.fieldLink RX5 25 "KeyGuess" "cuts" "LKeyGuess$Cuts;", Cond.methodLink RX5 145 yX2_copy, Cond.instanceMethod yX2_copy, Cond.selects RX2 yX2_copy yX2_copy, Cond.initialized RX2, Cond.code yX2_copy cX2_copy 3 none, Cond.fieldLink RX2 15 "KeyGuess$Keys" "size" "I", Cond.methodLink RX2 26 yX2_size, Cond.instanceMethod yX2_size, Cond.selects RX2 yX2_size yX2_size, Cond.code yX2_size cX2_size 1 (some .int)]
def wsX5_slack_r2 : List Cond := [Cond.methodLink RX2 23 yX2_key, Cond.instanceMethod yX2_key, Cond.selects RX2 yX2_key yX2_key, Cond.code yX2_key cX2_key 2 (some .int), Cond.fieldLink RX2 9 "KeyGuess$Keys" "cells" "[I", Cond.methodLink RX2 29 yX2_append, Cond.instanceMethod yX2_append, Cond.selects RX2 yX2_append yX2_append, Cond.code yX2_append cX2_append 2 none, Cond.methodLink RX5 61 yX2_size, Cond.methodLink RX5 149 yX1_clear, Cond.instanceMethod yX1_clear, Cond.selects RX1 yX1_clear yX1_clear, Cond.initialized RX1, Cond.code yX1_clear cX1_clear 1 none, Cond.fieldLink RX1 7 "KeyGuess$Filter" "bits" "J", Cond.methodLink RX5 92 yX2_key, Cond.methodLink RX5 78 yX1_add, Cond.instanceMethod yX1_add, Cond.selects RX1 yX1_add yX1_add, Cond.code yX1_add cX1_add 2 none, Cond.methodLink RX1 13 yX1_bitsOf, Cond.static yX1_bitsOf, Cond.code yX1_bitsOf cX1_bitsOf 1 (some .long)]
def wsX5_slack_r3 : List Cond := [Cond.methodLink RX5 152 yX4_build, Cond.instanceMethod yX4_build, Cond.selects RX4 yX4_build yX4_build, Cond.initialized RX4, Cond.code yX4_build cX4_build 6 none, Cond.fieldLink RX4 37 "KeyGuess$Tower" "height" "I", Cond.fieldLink RX4 49 "KeyGuess$Tower" "size" "I", Cond.fieldLink RX4 12 "KeyGuess$Tower" "base" "LKeyGuess$Keys;", Cond.methodLink RX4 52 yX2_copy, Cond.methodLink RX4 56 yX2_size, Cond.methodLink RX4 59 yX0_cut, Cond.instanceMethod yX0_cut, Cond.selects RX0 yX0_cut yX0_cut, Cond.initialized RX0, Cond.code yX0_cut cX0_cut 5 none, Cond.methodLink RX0 33 Lib.Math.min.name, Cond.static Lib.Math.min.name, Cond.initialized "java/lang/Math", Cond.code Lib.Math.min.name Lib.Math.min.code 2 (some .int), Cond.fieldLink RX0 9 "KeyGuess$Cuts" "cells" "[I", Cond.fieldLink RX0 15 "KeyGuess$Cuts" "fewest" "[I", Cond.methodLink RX0 27 yX2_size, Cond.methodLink RX0 39 yX2_key, Cond.methodLink RX0 43 yX0_cutFrom]
def wsX5_slack_r4 : List Cond := [Cond.instanceMethod yX0_cutFrom, Cond.selects RX0 yX0_cutFrom yX0_cutFrom, Cond.code yX0_cutFrom cX0_cutFrom 12 none, Cond.fieldLink RX0 18 "KeyGuess$Cuts" "lasts" "[I", Cond.fieldLink RX0 21 "KeyGuess$Cuts" "slopeNums" "[I", Cond.fieldLink RX0 24 "KeyGuess$Cuts" "slopeDens" "[I", Cond.methodLink RX4 65 yX4_raise, Cond.instanceMethod yX4_raise, Cond.selects RX4 yX4_raise yX4_raise, Cond.code yX4_raise cX4_raise 5 none, Cond.fieldLink RX4 18 "KeyGuess$Tower" "starts" "[I", Cond.methodLink RX4 85 yX4_lay, Cond.instanceMethod yX4_lay, Cond.selects RX4 yX4_lay yX4_lay, Cond.code yX4_lay cX4_lay 6 none, Cond.fieldLink RX4 22 "KeyGuess$Tower" "froms" "[I", Cond.fieldLink RX4 25 "KeyGuess$Tower" "lasts" "[I", Cond.fieldLink RX4 28 "KeyGuess$Tower" "firsts" "[I", Cond.fieldLink RX4 31 "KeyGuess$Tower" "slopeNums" "[I", Cond.fieldLink RX4 34 "KeyGuess$Tower" "slopeDens" "[I", Cond.methodLink RX4 91 yX0_slopeNum, Cond.instanceMethod yX0_slopeNum, Cond.selects RX0 yX0_slopeNum yX0_slopeNum, Cond.code yX0_slopeNum cX0_slopeNum 2 (some .int)]
def wsX5_slack_r5 : List Cond := [Cond.methodLink RX0 47 yX0_isRank, Cond.static yX0_isRank, Cond.code yX0_isRank cX0_isRank 1 (some .boolean), Cond.methodLink RX4 94 yX0_slopeDen, Cond.instanceMethod yX0_slopeDen, Cond.selects RX0 yX0_slopeDen yX0_slopeDen, Cond.code yX0_slopeDen cX0_slopeDen 2 (some .int), Cond.methodLink RX4 97 yX4_commonDivisor, Cond.static yX4_commonDivisor, Cond.code yX4_commonDivisor cX4_commonDivisor 4 (some .int), Cond.methodLink RX4 88 yX0_lastOf, Cond.instanceMethod yX0_lastOf, Cond.selects RX0 yX0_lastOf yX0_lastOf, Cond.code yX0_lastOf cX0_lastOf 2 (some .int), Cond.methodLink RX4 100 yX2_key, Cond.methodLink RX4 41 yX4_width, Cond.instanceMethod yX4_width, Cond.selects RX4 yX4_width yX4_width, Cond.code yX4_width cX4_width 2 (some .int), Cond.methodLink RX4 69 yX4_layBase, Cond.instanceMethod yX4_layBase, Cond.selects RX4 yX4_layBase yX4_layBase, Cond.code yX4_layBase cX4_layBase 3 none, Cond.methodLink RX4 103 yX2_clear]
def wsX5_slack_r6 : List Cond := [Cond.instanceMethod yX2_clear, Cond.selects RX2 yX2_clear yX2_clear, Cond.code yX2_clear cX2_clear 1 none, Cond.methodLink RX4 106 yX4_tell, Cond.instanceMethod yX4_tell, Cond.selects RX4 yX4_tell yX4_tell, Cond.code yX4_tell cX4_tell 5 (some .int), Cond.methodLink RX4 45 yX4_isPiece, Cond.instanceMethod yX4_isPiece, Cond.selects RX4 yX4_isPiece yX4_isPiece, Cond.code yX4_isPiece cX4_isPiece 2 (some .boolean), Cond.methodLink RX4 110 yX2_append]
def wsX5_slack : List Cond := .code yX5_slack cX5_slack 3 (some .int) :: ((wsX5_slack_r1 ++ (wsX5_slack_r2 ++ (wsX5_slack_r3 ++ (wsX5_slack_r4 ++ (wsX5_slack_r5 ++ wsX5_slack_r6))))) ++ wsX50 ++ wsX20 ++ wsX10 ++ wsX40 ++ wsX00)
def wsX5_place : List Cond := .code yX5_place cX5_place 2 (some .int) :: ([.fieldLink RX5 10 "KeyGuess" "now" "LKeyGuess$Keys;", .methodLink RX5 54 yX5_isNumber, .static yX5_isNumber, .initialized RX5, .code yX5_isNumber cX5_isNumber 1 (some .boolean), .constant RX5 95 (1000000), .methodLink RX5 58 yX2_has, .instanceMethod yX2_has, .selects RX2 yX2_has yX2_has, .initialized RX2, .code yX2_has cX2_has 3 (some .boolean), .fieldLink RX2 15 "KeyGuess$Keys" "size" "I", .fieldLink RX2 9 "KeyGuess$Keys" "cells" "[I", .methodLink RX2 19 yX2_below, .instanceMethod yX2_below, .selects RX2 yX2_below yX2_below, .code yX2_below cX2_below 3 (some .int), .methodLink RX5 88 yX2_below] ++ wsX50 ++ wsX20)
def wsX5_at : List Cond := .code yX5_at cX5_at 2 (some .int) :: ([.fieldLink RX5 10 "KeyGuess" "now" "LKeyGuess$Keys;", .methodLink RX5 61 yX2_size, .instanceMethod yX2_size, .selects RX2 yX2_size yX2_size, .initialized RX2, .code yX2_size cX2_size 1 (some .int), .fieldLink RX2 15 "KeyGuess$Keys" "size" "I", .methodLink RX5 92 yX2_key, .instanceMethod yX2_key, .selects RX2 yX2_key yX2_key, .code yX2_key cX2_key 2 (some .int), .fieldLink RX2 9 "KeyGuess$Keys" "cells" "[I"] ++ wsX50 ++ wsX20)
def wsX5_isSpan : List Cond := .code yX5_isSpan cX5_isSpan 3 (some .boolean) :: ([.methodLink RX5 54 yX5_isNumber, .static yX5_isNumber, .initialized RX5, .code yX5_isNumber cX5_isNumber 1 (some .boolean), .constant RX5 95 (1000000)])
def wsX5_range : List Cond := .code yX5_range cX5_range 3 (some .int) :: ([.constant RX5 95 (1000000), .fieldLink RX5 10 "KeyGuess" "now" "LKeyGuess$Keys;", .methodLink RX5 96 yX5_isSpan, .static yX5_isSpan, .initialized RX5, .code yX5_isSpan cX5_isSpan 3 (some .boolean), .methodLink RX5 54 yX5_isNumber, .static yX5_isNumber, .code yX5_isNumber cX5_isNumber 1 (some .boolean), .methodLink RX5 100 yX2_within, .instanceMethod yX2_within, .selects RX2 yX2_within yX2_within, .initialized RX2, .code yX2_within cX2_within 3 (some .int), .methodLink RX2 19 yX2_below, .instanceMethod yX2_below, .selects RX2 yX2_below yX2_below, .code yX2_below cX2_below 3 (some .int), .fieldLink RX2 15 "KeyGuess$Keys" "size" "I", .fieldLink RX2 9 "KeyGuess$Keys" "cells" "[I"] ++ wsX50 ++ wsX20)
def wsX5_sum_r1 : List Cond := [Cond.constant RX5 95 (1000000), Cond.constantLong RX5 104 (-2), Cond.fieldLink RX5 10 "KeyGuess" "now" "LKeyGuess$Keys;", Cond.methodLink RX5 96 yX5_isSpan, Cond.static yX5_isSpan, Cond.initialized RX5, Cond.code yX5_isSpan cX5_isSpan 3 (some .boolean), Cond.methodLink RX5 54 yX5_isNumber, Cond.static yX5_isNumber, Cond.code yX5_isNumber cX5_isNumber 1 (some .boolean), Cond.methodLink RX5 106 yX2_total, Cond.instanceMethod yX2_total, Cond.selects RX2 yX2_total yX2_total, Cond.initialized RX2, Cond.code yX2_total cX2_total 7 (some .long), Cond.methodLink RX2 19 yX2_below, Cond.instanceMethod yX2_below, Cond.selects RX2 yX2_below yX2_below, Cond.code yX2_below cX2_below 3 (some .int), Cond.fieldLink RX2 15 "KeyGuess$Keys" "size" "I", Cond.fieldLink RX2 9 "KeyGuess$Keys" "cells" "[I", Cond.methodLink RX2 23 yX2_key, Cond.instanceMethod yX2_key, Cond.selects RX2 yX2_key yX2_key]
def wsX5_sum_r2 : List Cond := [Cond.code yX2_key cX2_key 2 (some .int)]
def wsX5_sum : List Cond := .code yX5_sum cX5_sum 3 (some .long) :: ((wsX5_sum_r1 ++ wsX5_sum_r2) ++ wsX50 ++ wsX20)
def wsX5_pieces : List Cond := .code yX5_pieces cX5_pieces 2 (some .int) :: ([.fieldLink RX5 32 "KeyGuess" "tower" "LKeyGuess$Tower;", .methodLink RX5 110 yX4_width, .instanceMethod yX4_width, .selects RX4 yX4_width yX4_width, .initialized RX4, .code yX4_width cX4_width 2 (some .int), .fieldLink RX4 37 "KeyGuess$Tower" "height" "I", .fieldLink RX4 18 "KeyGuess$Tower" "starts" "[I"] ++ wsX50 ++ wsX40)
def wsX5_piece : List Cond := .code yX5_piece cX5_piece 4 (some .int) :: ([.fieldLink RX5 32 "KeyGuess" "tower" "LKeyGuess$Tower;", .methodLink RX5 113 yX4_tell, .instanceMethod yX4_tell, .selects RX4 yX4_tell yX4_tell, .initialized RX4, .code yX4_tell cX4_tell 5 (some .int), .fieldLink RX4 18 "KeyGuess$Tower" "starts" "[I", .fieldLink RX4 22 "KeyGuess$Tower" "froms" "[I", .fieldLink RX4 25 "KeyGuess$Tower" "lasts" "[I", .fieldLink RX4 28 "KeyGuess$Tower" "firsts" "[I", .fieldLink RX4 31 "KeyGuess$Tower" "slopeNums" "[I", .fieldLink RX4 34 "KeyGuess$Tower" "slopeDens" "[I", .methodLink RX4 41 yX4_width, .instanceMethod yX4_width, .selects RX4 yX4_width yX4_width, .code yX4_width cX4_width 2 (some .int), .fieldLink RX4 37 "KeyGuess$Tower" "height" "I", .methodLink RX4 45 yX4_isPiece, .instanceMethod yX4_isPiece, .selects RX4 yX4_isPiece yX4_isPiece, .code yX4_isPiece cX4_isPiece 2 (some .boolean), .fieldLink RX4 49 "KeyGuess$Tower" "size" "I"] ++ wsX50 ++ wsX40)
def wsX5_levels : List Cond := .code yX5_levels cX5_levels 1 (some .int) :: ([.fieldLink RX5 32 "KeyGuess" "tower" "LKeyGuess$Tower;", .methodLink RX5 117 yX4_height, .instanceMethod yX4_height, .selects RX4 yX4_height yX4_height, .initialized RX4, .code yX4_height cX4_height 1 (some .int), .fieldLink RX4 37 "KeyGuess$Tower" "height" "I"] ++ wsX50 ++ wsX40)
def wsX5_guess_r1 : List Cond := [Cond.fieldLink RX5 32 "KeyGuess" "tower" "LKeyGuess$Tower;", Cond.methodLink RX5 54 yX5_isNumber, Cond.static yX5_isNumber, Cond.initialized RX5, Cond.code yX5_isNumber cX5_isNumber 1 (some .boolean), Cond.constant RX5 95 (1000000), Cond.methodLink RX5 117 yX4_height, Cond.instanceMethod yX4_height, Cond.selects RX4 yX4_height yX4_height, Cond.initialized RX4, Cond.code yX4_height cX4_height 1 (some .int), Cond.fieldLink RX4 37 "KeyGuess$Tower" "height" "I", Cond.methodLink RX5 120 yX4_pieceFor, Cond.instanceMethod yX4_pieceFor, Cond.selects RX4 yX4_pieceFor yX4_pieceFor, Cond.code yX4_pieceFor cX4_pieceFor 4 (some .int), Cond.fieldLink RX4 28 "KeyGuess$Tower" "firsts" "[I", Cond.methodLink RX4 41 yX4_width, Cond.instanceMethod yX4_width, Cond.selects RX4 yX4_width yX4_width, Cond.code yX4_width cX4_width 2 (some .int), Cond.fieldLink RX4 18 "KeyGuess$Tower" "starts" "[I", Cond.methodLink RX4 45 yX4_isPiece, Cond.instanceMethod yX4_isPiece]
def wsX5_guess_r2 : List Cond := [Cond.selects RX4 yX4_isPiece yX4_isPiece, Cond.code yX4_isPiece cX4_isPiece 2 (some .boolean), Cond.fieldLink RX4 49 "KeyGuess$Tower" "size" "I", Cond.methodLink RX5 123 yX4_rankBy, Cond.instanceMethod yX4_rankBy, Cond.selects RX4 yX4_rankBy yX4_rankBy, Cond.code yX4_rankBy cX4_rankBy 4 (some .int), Cond.fieldLink RX4 34 "KeyGuess$Tower" "slopeDens" "[I", Cond.fieldLink RX4 31 "KeyGuess$Tower" "slopeNums" "[I", Cond.fieldLink RX4 22 "KeyGuess$Tower" "froms" "[I", Cond.fieldLink RX4 25 "KeyGuess$Tower" "lasts" "[I", Cond.methodLink RX4 79 Lib.Math.min.name, Cond.static Lib.Math.min.name, Cond.initialized "java/lang/Math", Cond.code Lib.Math.min.name Lib.Math.min.code 2 (some .int), Cond.methodLink RX4 82 Lib.Math.max.name, Cond.static Lib.Math.max.name, Cond.code Lib.Math.max.name Lib.Math.max.code 2 (some .int), Cond.methodLink RX4 73 yJ9_floorDiv_7cf53, Cond.static yJ9_floorDiv_7cf53, Cond.initialized RJ9, Cond.code yJ9_floorDiv_7cf53 cJ9_floorDiv_7cf53 3 (some .int)]
def wsX5_guess : List Cond := .code yX5_guess cX5_guess 2 (some .int) :: ((wsX5_guess_r1 ++ wsX5_guess_r2) ++ wsX50 ++ wsX40)
def wsX5_find_r1 : List Cond := [Cond.fieldLink RX5 46 "KeyGuess" "look" "LKeyGuess$Look;", Cond.fieldLink RX5 16 "KeyGuess" "row" "LKeyGuess$Keys;", Cond.fieldLink RX5 32 "KeyGuess" "tower" "LKeyGuess$Tower;", Cond.fieldLink RX5 50 "KeyGuess" "leeway" "I", Cond.methodLink RX5 54 yX5_isNumber, Cond.static yX5_isNumber, Cond.initialized RX5, Cond.code yX5_isNumber cX5_isNumber 1 (some .boolean), Cond.constant RX5 95 (1000000), Cond.methodLink RX5 126 yX3_run, Cond.instanceMethod yX3_run, Cond.selects RX3 yX3_run yX3_run, Cond.initialized RX3, Cond.code yX3_run cX3_run 9 none, Cond.fieldLink RX3 9 "KeyGuess$Look" "met" "I", Cond.fieldLink RX3 15 "KeyGuess$Look" "seen" "I", Cond.methodLink RX3 18 yX4_height, Cond.instanceMethod yX4_height, Cond.selects RX4 yX4_height yX4_height, Cond.initialized RX4, Cond.code yX4_height cX4_height 1 (some .int), Cond.fieldLink RX4 37 "KeyGuess$Tower" "height" "I", Cond.methodLink RX3 24 yX4_pieceFor, Cond.instanceMethod yX4_pieceFor]
def wsX5_find_r2 : List Cond := [Cond.selects RX4 yX4_pieceFor yX4_pieceFor, Cond.code yX4_pieceFor cX4_pieceFor 4 (some .int), Cond.fieldLink RX4 28 "KeyGuess$Tower" "firsts" "[I", Cond.methodLink RX4 41 yX4_width, Cond.instanceMethod yX4_width, Cond.selects RX4 yX4_width yX4_width, Cond.code yX4_width cX4_width 2 (some .int), Cond.fieldLink RX4 18 "KeyGuess$Tower" "starts" "[I", Cond.methodLink RX4 45 yX4_isPiece, Cond.instanceMethod yX4_isPiece, Cond.selects RX4 yX4_isPiece yX4_isPiece, Cond.code yX4_isPiece cX4_isPiece 2 (some .boolean), Cond.fieldLink RX4 49 "KeyGuess$Tower" "size" "I", Cond.methodLink RX3 28 yX4_rankBy, Cond.instanceMethod yX4_rankBy, Cond.selects RX4 yX4_rankBy yX4_rankBy, Cond.code yX4_rankBy cX4_rankBy 4 (some .int), Cond.fieldLink RX4 34 "KeyGuess$Tower" "slopeDens" "[I", Cond.fieldLink RX4 31 "KeyGuess$Tower" "slopeNums" "[I", Cond.fieldLink RX4 22 "KeyGuess$Tower" "froms" "[I", Cond.fieldLink RX4 25 "KeyGuess$Tower" "lasts" "[I", Cond.methodLink RX4 79 Lib.Math.min.name, Cond.static Lib.Math.min.name, Cond.initialized "java/lang/Math"]
def wsX5_find_r3 : List Cond := [Cond.code Lib.Math.min.name Lib.Math.min.code 2 (some .int), Cond.methodLink RX4 82 Lib.Math.max.name, Cond.static Lib.Math.max.name, Cond.code Lib.Math.max.name Lib.Math.max.code 2 (some .int), Cond.methodLink RX4 73 yJ9_floorDiv_7cf53, Cond.static yJ9_floorDiv_7cf53, Cond.initialized RJ9, Cond.code yJ9_floorDiv_7cf53 cJ9_floorDiv_7cf53 3 (some .int), Cond.methodLink RX3 32 yX3_away, Cond.static yX3_away, Cond.code yX3_away cX3_away 1 (some .int), Cond.methodLink RX3 35 yX4_fromOf, Cond.instanceMethod yX4_fromOf, Cond.selects RX4 yX4_fromOf yX4_fromOf, Cond.code yX4_fromOf cX4_fromOf 2 (some .int), Cond.methodLink RX3 38 yX4_lastOf, Cond.instanceMethod yX4_lastOf, Cond.selects RX4 yX4_lastOf yX4_lastOf, Cond.code yX4_lastOf cX4_lastOf 2 (some .int), Cond.methodLink RX3 41 yX2_key, Cond.instanceMethod yX2_key, Cond.selects RX2 yX2_key yX2_key, Cond.initialized RX2, Cond.code yX2_key cX2_key 2 (some .int)]
def wsX5_find_r4 : List Cond := [Cond.fieldLink RX2 15 "KeyGuess$Keys" "size" "I", Cond.fieldLink RX2 9 "KeyGuess$Keys" "cells" "[I", Cond.methodLink RX5 130 yX3_met, Cond.instanceMethod yX3_met, Cond.selects RX3 yX3_met yX3_met, Cond.code yX3_met cX3_met 1 (some .int)]
def wsX5_find : List Cond := .code yX5_find cX5_find 2 (some .int) :: ((wsX5_find_r1 ++ (wsX5_find_r2 ++ (wsX5_find_r3 ++ wsX5_find_r4))) ++ wsX50 ++ wsX30 ++ wsX40 ++ wsX20)
def wsX5_looks_r1 : List Cond := [Cond.fieldLink RX5 46 "KeyGuess" "look" "LKeyGuess$Look;", Cond.fieldLink RX5 16 "KeyGuess" "row" "LKeyGuess$Keys;", Cond.fieldLink RX5 32 "KeyGuess" "tower" "LKeyGuess$Tower;", Cond.fieldLink RX5 50 "KeyGuess" "leeway" "I", Cond.methodLink RX5 54 yX5_isNumber, Cond.static yX5_isNumber, Cond.initialized RX5, Cond.code yX5_isNumber cX5_isNumber 1 (some .boolean), Cond.constant RX5 95 (1000000), Cond.methodLink RX5 126 yX3_run, Cond.instanceMethod yX3_run, Cond.selects RX3 yX3_run yX3_run, Cond.initialized RX3, Cond.code yX3_run cX3_run 9 none, Cond.fieldLink RX3 9 "KeyGuess$Look" "met" "I", Cond.fieldLink RX3 15 "KeyGuess$Look" "seen" "I", Cond.methodLink RX3 18 yX4_height, Cond.instanceMethod yX4_height, Cond.selects RX4 yX4_height yX4_height, Cond.initialized RX4, Cond.code yX4_height cX4_height 1 (some .int), Cond.fieldLink RX4 37 "KeyGuess$Tower" "height" "I", Cond.methodLink RX3 24 yX4_pieceFor, Cond.instanceMethod yX4_pieceFor]
def wsX5_looks_r2 : List Cond := [Cond.selects RX4 yX4_pieceFor yX4_pieceFor, Cond.code yX4_pieceFor cX4_pieceFor 4 (some .int), Cond.fieldLink RX4 28 "KeyGuess$Tower" "firsts" "[I", Cond.methodLink RX4 41 yX4_width, Cond.instanceMethod yX4_width, Cond.selects RX4 yX4_width yX4_width, Cond.code yX4_width cX4_width 2 (some .int), Cond.fieldLink RX4 18 "KeyGuess$Tower" "starts" "[I", Cond.methodLink RX4 45 yX4_isPiece, Cond.instanceMethod yX4_isPiece, Cond.selects RX4 yX4_isPiece yX4_isPiece, Cond.code yX4_isPiece cX4_isPiece 2 (some .boolean), Cond.fieldLink RX4 49 "KeyGuess$Tower" "size" "I", Cond.methodLink RX3 28 yX4_rankBy, Cond.instanceMethod yX4_rankBy, Cond.selects RX4 yX4_rankBy yX4_rankBy, Cond.code yX4_rankBy cX4_rankBy 4 (some .int), Cond.fieldLink RX4 34 "KeyGuess$Tower" "slopeDens" "[I", Cond.fieldLink RX4 31 "KeyGuess$Tower" "slopeNums" "[I", Cond.fieldLink RX4 22 "KeyGuess$Tower" "froms" "[I", Cond.fieldLink RX4 25 "KeyGuess$Tower" "lasts" "[I", Cond.methodLink RX4 79 Lib.Math.min.name, Cond.static Lib.Math.min.name, Cond.initialized "java/lang/Math"]
def wsX5_looks_r3 : List Cond := [Cond.code Lib.Math.min.name Lib.Math.min.code 2 (some .int), Cond.methodLink RX4 82 Lib.Math.max.name, Cond.static Lib.Math.max.name, Cond.code Lib.Math.max.name Lib.Math.max.code 2 (some .int), Cond.methodLink RX4 73 yJ9_floorDiv_7cf53, Cond.static yJ9_floorDiv_7cf53, Cond.initialized RJ9, Cond.code yJ9_floorDiv_7cf53 cJ9_floorDiv_7cf53 3 (some .int), Cond.methodLink RX3 32 yX3_away, Cond.static yX3_away, Cond.code yX3_away cX3_away 1 (some .int), Cond.methodLink RX3 35 yX4_fromOf, Cond.instanceMethod yX4_fromOf, Cond.selects RX4 yX4_fromOf yX4_fromOf, Cond.code yX4_fromOf cX4_fromOf 2 (some .int), Cond.methodLink RX3 38 yX4_lastOf, Cond.instanceMethod yX4_lastOf, Cond.selects RX4 yX4_lastOf yX4_lastOf, Cond.code yX4_lastOf cX4_lastOf 2 (some .int), Cond.methodLink RX3 41 yX2_key, Cond.instanceMethod yX2_key, Cond.selects RX2 yX2_key yX2_key, Cond.initialized RX2, Cond.code yX2_key cX2_key 2 (some .int)]
def wsX5_looks_r4 : List Cond := [Cond.fieldLink RX2 15 "KeyGuess$Keys" "size" "I", Cond.fieldLink RX2 9 "KeyGuess$Keys" "cells" "[I", Cond.methodLink RX5 133 yX3_ranksSeen, Cond.instanceMethod yX3_ranksSeen, Cond.selects RX3 yX3_ranksSeen yX3_ranksSeen, Cond.code yX3_ranksSeen cX3_ranksSeen 1 (some .int)]
def wsX5_looks : List Cond := .code yX5_looks cX5_looks 2 (some .int) :: ((wsX5_looks_r1 ++ (wsX5_looks_r2 ++ (wsX5_looks_r3 ++ wsX5_looks_r4))) ++ wsX50 ++ wsX30 ++ wsX40 ++ wsX20)
def wsX5_maybe : List Cond := .code yX5_maybe cX5_maybe 2 (some .int) :: ([.fieldLink RX5 39 "KeyGuess" "filter" "LKeyGuess$Filter;", .methodLink RX5 54 yX5_isNumber, .static yX5_isNumber, .initialized RX5, .code yX5_isNumber cX5_isNumber 1 (some .boolean), .constant RX5 95 (1000000), .methodLink RX5 136 yX1_passes, .instanceMethod yX1_passes, .selects RX1 yX1_passes yX1_passes, .initialized RX1, .code yX1_passes cX1_passes 4 (some .boolean), .fieldLink RX1 7 "KeyGuess$Filter" "bits" "J", .methodLink RX1 13 yX1_bitsOf, .static yX1_bitsOf, .code yX1_bitsOf cX1_bitsOf 1 (some .long)] ++ wsX50 ++ wsX10)
def wsX5_wrong_r1 : List Cond := [Cond.fieldLink RX5 39 "KeyGuess" "filter" "LKeyGuess$Filter;", Cond.fieldLink RX5 10 "KeyGuess" "now" "LKeyGuess$Keys;", Cond.methodLink RX5 96 yX5_isSpan, Cond.static yX5_isSpan, Cond.initialized RX5, Cond.code yX5_isSpan cX5_isSpan 3 (some .boolean), Cond.methodLink RX5 54 yX5_isNumber, Cond.static yX5_isNumber, Cond.code yX5_isNumber cX5_isNumber 1 (some .boolean), Cond.constant RX5 95 (1000000), Cond.methodLink RX5 136 yX1_passes, Cond.instanceMethod yX1_passes, Cond.selects RX1 yX1_passes yX1_passes, Cond.initialized RX1, Cond.code yX1_passes cX1_passes 4 (some .boolean), Cond.fieldLink RX1 7 "KeyGuess$Filter" "bits" "J", Cond.methodLink RX1 13 yX1_bitsOf, Cond.static yX1_bitsOf, Cond.code yX1_bitsOf cX1_bitsOf 1 (some .long), Cond.methodLink RX5 100 yX2_within, Cond.instanceMethod yX2_within, Cond.selects RX2 yX2_within yX2_within, Cond.initialized RX2, Cond.code yX2_within cX2_within 3 (some .int)]
def wsX5_wrong_r2 : List Cond := [Cond.methodLink RX2 19 yX2_below, Cond.instanceMethod yX2_below, Cond.selects RX2 yX2_below yX2_below, Cond.code yX2_below cX2_below 3 (some .int), Cond.fieldLink RX2 15 "KeyGuess$Keys" "size" "I", Cond.fieldLink RX2 9 "KeyGuess$Keys" "cells" "[I"]
def wsX5_wrong : List Cond := .code yX5_wrong cX5_wrong 5 (some .int) :: ((wsX5_wrong_r1 ++ wsX5_wrong_r2) ++ wsX50 ++ wsX10 ++ wsX20)
def wsX5_piecesWith_r1 : List Cond := [Cond.fieldLink RX5 19 "KeyGuess" "tried" "LKeyGuess$Keys;", Cond.fieldLink RX5 10 "KeyGuess" "now" "LKeyGuess$Keys;", Cond.fieldLink RX5 25 "KeyGuess" "cuts" "LKeyGuess$Cuts;", Cond.fieldLink RX5 50 "KeyGuess" "leeway" "I", Cond.methodLink RX5 145 yX2_copy, Cond.instanceMethod yX2_copy, Cond.selects RX2 yX2_copy yX2_copy, Cond.initialized RX2, Cond.code yX2_copy cX2_copy 3 none, Cond.fieldLink RX2 15 "KeyGuess$Keys" "size" "I", Cond.methodLink RX2 26 yX2_size, Cond.instanceMethod yX2_size, Cond.selects RX2 yX2_size yX2_size, Cond.code yX2_size cX2_size 1 (some .int), Cond.methodLink RX2 23 yX2_key, Cond.instanceMethod yX2_key, Cond.selects RX2 yX2_key yX2_key, Cond.code yX2_key cX2_key 2 (some .int), Cond.fieldLink RX2 9 "KeyGuess$Keys" "cells" "[I", Cond.methodLink RX2 29 yX2_append, Cond.instanceMethod yX2_append, Cond.selects RX2 yX2_append yX2_append, Cond.code yX2_append cX2_append 2 none, Cond.methodLink RX5 74 yX2_add]
def wsX5_piecesWith_r2 : List Cond := [Cond.instanceMethod yX2_add, Cond.selects RX2 yX2_add yX2_add, Cond.code yX2_add cX2_add 4 none, Cond.methodLink RX2 33 yX2_has, Cond.instanceMethod yX2_has, Cond.selects RX2 yX2_has yX2_has, Cond.code yX2_has cX2_has 3 (some .boolean), Cond.methodLink RX2 19 yX2_below, Cond.instanceMethod yX2_below, Cond.selects RX2 yX2_below yX2_below, Cond.code yX2_below cX2_below 3 (some .int), Cond.methodLink RX5 156 yX0_cut, Cond.instanceMethod yX0_cut, Cond.selects RX0 yX0_cut yX0_cut, Cond.initialized RX0, Cond.code yX0_cut cX0_cut 5 none, Cond.methodLink RX0 33 Lib.Math.min.name, Cond.static Lib.Math.min.name, Cond.initialized "java/lang/Math", Cond.code Lib.Math.min.name Lib.Math.min.code 2 (some .int), Cond.fieldLink RX0 9 "KeyGuess$Cuts" "cells" "[I", Cond.fieldLink RX0 15 "KeyGuess$Cuts" "fewest" "[I", Cond.methodLink RX0 27 yX2_size, Cond.methodLink RX0 39 yX2_key]
def wsX5_piecesWith_r3 : List Cond := [Cond.methodLink RX0 43 yX0_cutFrom, Cond.instanceMethod yX0_cutFrom, Cond.selects RX0 yX0_cutFrom yX0_cutFrom, Cond.code yX0_cutFrom cX0_cutFrom 12 none, Cond.fieldLink RX0 18 "KeyGuess$Cuts" "lasts" "[I", Cond.fieldLink RX0 21 "KeyGuess$Cuts" "slopeNums" "[I", Cond.fieldLink RX0 24 "KeyGuess$Cuts" "slopeDens" "[I", Cond.methodLink RX5 160 yX0_fewestFrom, Cond.instanceMethod yX0_fewestFrom, Cond.selects RX0 yX0_fewestFrom yX0_fewestFrom, Cond.code yX0_fewestFrom cX0_fewestFrom 2 (some .int), Cond.methodLink RX0 47 yX0_isRank, Cond.static yX0_isRank, Cond.code yX0_isRank cX0_isRank 1 (some .boolean)]
def wsX5_piecesWith : List Cond := .code yX5_piecesWith cX5_piecesWith 2 (some .int) :: ((wsX5_piecesWith_r1 ++ (wsX5_piecesWith_r2 ++ wsX5_piecesWith_r3)) ++ wsX50 ++ wsX20 ++ wsX00)
def wsX5_poison_r1 : List Cond := [Cond.fieldLink RX5 10 "KeyGuess" "now" "LKeyGuess$Keys;", Cond.methodLink RX5 96 yX5_isSpan, Cond.static yX5_isSpan, Cond.initialized RX5, Cond.code yX5_isSpan cX5_isSpan 3 (some .boolean), Cond.methodLink RX5 54 yX5_isNumber, Cond.static yX5_isNumber, Cond.code yX5_isNumber cX5_isNumber 1 (some .boolean), Cond.constant RX5 95 (1000000), Cond.methodLink RX5 61 yX2_size, Cond.instanceMethod yX2_size, Cond.selects RX2 yX2_size yX2_size, Cond.initialized RX2, Cond.code yX2_size cX2_size 1 (some .int), Cond.fieldLink RX2 15 "KeyGuess$Keys" "size" "I", Cond.methodLink RX5 58 yX2_has, Cond.instanceMethod yX2_has, Cond.selects RX2 yX2_has yX2_has, Cond.code yX2_has cX2_has 3 (some .boolean), Cond.fieldLink RX2 9 "KeyGuess$Keys" "cells" "[I", Cond.methodLink RX2 19 yX2_below, Cond.instanceMethod yX2_below, Cond.selects RX2 yX2_below yX2_below, Cond.code yX2_below cX2_below 3 (some .int)]
def wsX5_poison_r2 : List Cond := [Cond.methodLink RX5 139 yX5_piecesWith, Cond.instanceMethod yX5_piecesWith, Cond.selects RX5 yX5_piecesWith yX5_piecesWith, Cond.code yX5_piecesWith cX5_piecesWith 2 (some .int), Cond.fieldLink RX5 19 "KeyGuess" "tried" "LKeyGuess$Keys;", Cond.fieldLink RX5 25 "KeyGuess" "cuts" "LKeyGuess$Cuts;", Cond.fieldLink RX5 50 "KeyGuess" "leeway" "I", Cond.methodLink RX5 145 yX2_copy, Cond.instanceMethod yX2_copy, Cond.selects RX2 yX2_copy yX2_copy, Cond.code yX2_copy cX2_copy 3 none, Cond.methodLink RX2 26 yX2_size, Cond.methodLink RX2 23 yX2_key, Cond.instanceMethod yX2_key, Cond.selects RX2 yX2_key yX2_key, Cond.code yX2_key cX2_key 2 (some .int), Cond.methodLink RX2 29 yX2_append, Cond.instanceMethod yX2_append, Cond.selects RX2 yX2_append yX2_append, Cond.code yX2_append cX2_append 2 none, Cond.methodLink RX5 74 yX2_add, Cond.instanceMethod yX2_add, Cond.selects RX2 yX2_add yX2_add, Cond.code yX2_add cX2_add 4 none]
def wsX5_poison_r3 : List Cond := [Cond.methodLink RX2 33 yX2_has, Cond.methodLink RX5 156 yX0_cut, Cond.instanceMethod yX0_cut, Cond.selects RX0 yX0_cut yX0_cut, Cond.initialized RX0, Cond.code yX0_cut cX0_cut 5 none, Cond.methodLink RX0 33 Lib.Math.min.name, Cond.static Lib.Math.min.name, Cond.initialized "java/lang/Math", Cond.code Lib.Math.min.name Lib.Math.min.code 2 (some .int), Cond.fieldLink RX0 9 "KeyGuess$Cuts" "cells" "[I", Cond.fieldLink RX0 15 "KeyGuess$Cuts" "fewest" "[I", Cond.methodLink RX0 27 yX2_size, Cond.methodLink RX0 39 yX2_key, Cond.methodLink RX0 43 yX0_cutFrom, Cond.instanceMethod yX0_cutFrom, Cond.selects RX0 yX0_cutFrom yX0_cutFrom, Cond.code yX0_cutFrom cX0_cutFrom 12 none, Cond.fieldLink RX0 18 "KeyGuess$Cuts" "lasts" "[I", Cond.fieldLink RX0 21 "KeyGuess$Cuts" "slopeNums" "[I", Cond.fieldLink RX0 24 "KeyGuess$Cuts" "slopeDens" "[I", Cond.methodLink RX5 160 yX0_fewestFrom, Cond.instanceMethod yX0_fewestFrom, Cond.selects RX0 yX0_fewestFrom yX0_fewestFrom]
def wsX5_poison_r4 : List Cond := [Cond.code yX0_fewestFrom cX0_fewestFrom 2 (some .int), Cond.methodLink RX0 47 yX0_isRank, Cond.static yX0_isRank, Cond.code yX0_isRank cX0_isRank 1 (some .boolean)]
def wsX5_poison : List Cond := .code yX5_poison cX5_poison 8 (some .int) :: ((wsX5_poison_r1 ++ (wsX5_poison_r2 ++ (wsX5_poison_r3 ++ wsX5_poison_r4))) ++ wsX50 ++ wsX20 ++ wsX00)
def wsX5_count_r1 : List Cond := [Cond.fieldLink RX5 10 "KeyGuess" "now" "LKeyGuess$Keys;", Cond.fieldLink RX5 16 "KeyGuess" "row" "LKeyGuess$Keys;", Cond.fieldLink RX5 71 "KeyGuess" "newKeys" "I", Cond.fieldLink RX5 65 "KeyGuess" "oldKeys" "I", Cond.fieldLink RX5 85 "KeyGuess" "cost" "I", Cond.fieldLink RX5 39 "KeyGuess" "filter" "LKeyGuess$Filter;", Cond.methodLink RX5 61 yX2_size, Cond.instanceMethod yX2_size, Cond.selects RX2 yX2_size yX2_size, Cond.initialized RX2, Cond.code yX2_size cX2_size 1 (some .int), Cond.fieldLink RX2 15 "KeyGuess$Keys" "size" "I", Cond.methodLink RX5 142 yX1_bitsSet, Cond.instanceMethod yX1_bitsSet, Cond.selects RX1 yX1_bitsSet yX1_bitsSet, Cond.initialized RX1, Cond.code yX1_bitsSet cX1_bitsSet 1 (some .int), Cond.fieldLink RX1 7 "KeyGuess$Filter" "bits" "J", Cond.methodLink RX1 17 yJ13_bitCount_95d88, Cond.static yJ13_bitCount_95d88, Cond.initialized RJ13, Cond.code yJ13_bitCount_95d88 cJ13_bitCount_95d88 2 (some .int), Cond.constantLong RJ13 314 (6148914691236517205), Cond.constantLong RJ13 316 (3689348814741910323)]
def wsX5_count_r2 : List Cond := [Cond.constantLong RJ13 318 (1085102592571150095)]
def wsX5_count : List Cond := .code yX5_count cX5_count 2 (some .int) :: ((wsX5_count_r1 ++ wsX5_count_r2) ++ wsX50 ++ wsX20 ++ wsX10)
def wsX6_layLow : List Cond := .code yX6_layLow cX6_layLow 8 none :: ([.fieldLink RX6 111 "KeyGuessModel" "lowUp" "J", .fieldLink RX6 115 "KeyGuessModel" "lowBelow" "J", .fieldLink RX6 13 "KeyGuessModel" "e" "I", .fieldLink RX6 30 "KeyGuessModel" "keys" "[I"] ++ wsX60)
def wsX6_keeps : List Cond := .code yX6_keeps cX6_keeps 5 (some .boolean) :: ([.fieldLink RX6 111 "KeyGuessModel" "lowUp" "J", .fieldLink RX6 30 "KeyGuessModel" "keys" "[I", .fieldLink RX6 13 "KeyGuessModel" "e" "I", .fieldLink RX6 115 "KeyGuessModel" "lowBelow" "J", .methodLink RX6 118 yX6_layLow, .instanceMethod yX6_layLow, .selects RX6 yX6_layLow yX6_layLow, .initialized RX6, .code yX6_layLow cX6_layLow 8 none] ++ wsX60)
def wsX6_layPieces : List Cond := .code yX6_layPieces cX6_layPieces 4 none :: ([.fieldLink RX6 36 "KeyGuessModel" "fewest" "[I", .fieldLink RX6 122 "KeyGuessModel" "keyMany" "I", .fieldLink RX6 33 "KeyGuessModel" "reach" "[I", .methodLink RX6 125 yX6_keeps, .instanceMethod yX6_keeps, .selects RX6 yX6_keeps yX6_keeps, .initialized RX6, .code yX6_keeps cX6_keeps 5 (some .boolean), .fieldLink RX6 111 "KeyGuessModel" "lowUp" "J", .fieldLink RX6 30 "KeyGuessModel" "keys" "[I", .fieldLink RX6 13 "KeyGuessModel" "e" "I", .fieldLink RX6 115 "KeyGuessModel" "lowBelow" "J", .methodLink RX6 118 yX6_layLow, .instanceMethod yX6_layLow, .selects RX6 yX6_layLow yX6_layLow, .code yX6_layLow cX6_layLow 8 none] ++ wsX60)
def wsX6_endOf : List Cond := .code yX6_endOf cX6_endOf 3 (some .int) :: ([.fieldLink RX6 33 "KeyGuessModel" "reach" "[I", .fieldLink RX6 36 "KeyGuessModel" "fewest" "[I"] ++ wsX60)
def wsX6_divisor : List Cond := .code yX6_divisor cX6_divisor 10 (some .long) :: ([])
def wsX6_layLevel_r1 : List Cond := [Cond.fieldLink RX6 122 "KeyGuessModel" "keyMany" "I", Cond.fieldLink RX6 111 "KeyGuessModel" "lowUp" "J", Cond.fieldLink RX6 115 "KeyGuessModel" "lowBelow" "J", Cond.fieldLink RX6 42 "KeyGuessModel" "firsts" "[I", Cond.fieldLink RX6 45 "KeyGuessModel" "lasts" "[I", Cond.fieldLink RX6 48 "KeyGuessModel" "firstKeys" "[I", Cond.fieldLink RX6 30 "KeyGuessModel" "keys" "[I", Cond.fieldLink RX6 51 "KeyGuessModel" "ups" "[J", Cond.fieldLink RX6 55 "KeyGuessModel" "belows" "[J", Cond.fieldLink RX6 39 "KeyGuessModel" "pieceMany" "[I", Cond.methodLink RX6 128 yX6_layPieces, Cond.instanceMethod yX6_layPieces, Cond.selects RX6 yX6_layPieces yX6_layPieces, Cond.initialized RX6, Cond.code yX6_layPieces cX6_layPieces 4 none, Cond.fieldLink RX6 36 "KeyGuessModel" "fewest" "[I", Cond.fieldLink RX6 33 "KeyGuessModel" "reach" "[I", Cond.methodLink RX6 125 yX6_keeps, Cond.instanceMethod yX6_keeps, Cond.selects RX6 yX6_keeps yX6_keeps, Cond.code yX6_keeps cX6_keeps 5 (some .boolean), Cond.fieldLink RX6 13 "KeyGuessModel" "e" "I", Cond.methodLink RX6 118 yX6_layLow, Cond.instanceMethod yX6_layLow]
def wsX6_layLevel_r2 : List Cond := [Cond.selects RX6 yX6_layLow yX6_layLow, Cond.code yX6_layLow cX6_layLow 8 none, Cond.methodLink RX6 131 yX6_endOf, Cond.instanceMethod yX6_endOf, Cond.selects RX6 yX6_endOf yX6_endOf, Cond.code yX6_endOf cX6_endOf 3 (some .int), Cond.methodLink RX6 135 yX6_divisor, Cond.static yX6_divisor, Cond.code yX6_divisor cX6_divisor 10 (some .long)]
def wsX6_layLevel : List Cond := .code yX6_layLevel cX6_layLevel 8 none :: ((wsX6_layLevel_r1 ++ wsX6_layLevel_r2) ++ wsX60)
def wsX6_layLevels_r1 : List Cond := [Cond.fieldLink RX6 139 "KeyGuessModel" "levelMany" "I", Cond.fieldLink RX6 69 "KeyGuessModel" "rowMany" "I", Cond.fieldLink RX6 122 "KeyGuessModel" "keyMany" "I", Cond.fieldLink RX6 30 "KeyGuessModel" "keys" "[I", Cond.fieldLink RX6 7 "KeyGuessModel" "row" "[I", Cond.fieldLink RX6 39 "KeyGuessModel" "pieceMany" "[I", Cond.fieldLink RX6 48 "KeyGuessModel" "firstKeys" "[I", Cond.methodLink RX6 142 yX6_layLevel, Cond.instanceMethod yX6_layLevel, Cond.selects RX6 yX6_layLevel yX6_layLevel, Cond.initialized RX6, Cond.code yX6_layLevel cX6_layLevel 8 none, Cond.fieldLink RX6 111 "KeyGuessModel" "lowUp" "J", Cond.fieldLink RX6 115 "KeyGuessModel" "lowBelow" "J", Cond.fieldLink RX6 42 "KeyGuessModel" "firsts" "[I", Cond.fieldLink RX6 45 "KeyGuessModel" "lasts" "[I", Cond.fieldLink RX6 51 "KeyGuessModel" "ups" "[J", Cond.fieldLink RX6 55 "KeyGuessModel" "belows" "[J", Cond.methodLink RX6 128 yX6_layPieces, Cond.instanceMethod yX6_layPieces, Cond.selects RX6 yX6_layPieces yX6_layPieces, Cond.code yX6_layPieces cX6_layPieces 4 none, Cond.fieldLink RX6 36 "KeyGuessModel" "fewest" "[I", Cond.fieldLink RX6 33 "KeyGuessModel" "reach" "[I"]
def wsX6_layLevels_r2 : List Cond := [Cond.methodLink RX6 125 yX6_keeps, Cond.instanceMethod yX6_keeps, Cond.selects RX6 yX6_keeps yX6_keeps, Cond.code yX6_keeps cX6_keeps 5 (some .boolean), Cond.fieldLink RX6 13 "KeyGuessModel" "e" "I", Cond.methodLink RX6 118 yX6_layLow, Cond.instanceMethod yX6_layLow, Cond.selects RX6 yX6_layLow yX6_layLow, Cond.code yX6_layLow cX6_layLow 8 none, Cond.methodLink RX6 131 yX6_endOf, Cond.instanceMethod yX6_endOf, Cond.selects RX6 yX6_endOf yX6_endOf, Cond.code yX6_endOf cX6_endOf 3 (some .int), Cond.methodLink RX6 135 yX6_divisor, Cond.static yX6_divisor, Cond.code yX6_divisor cX6_divisor 10 (some .long)]
def wsX6_layLevels : List Cond := .code yX6_layLevels cX6_layLevels 3 none :: ((wsX6_layLevels_r1 ++ wsX6_layLevels_r2) ++ wsX60)
def wsX6_init_r1 : List Cond := [Cond.methodLink RX6 1 objectInit, Cond.instanceMethod objectInit, Cond.code objectInit ⟨#[0xb1]⟩ 1 none, Cond.arrayClass .int, Cond.fieldLink RX6 7 "KeyGuessModel" "row" "[I", Cond.fieldLink RX6 13 "KeyGuessModel" "e" "I", Cond.fieldLink RX6 17 "KeyGuessModel" "news" "[I", Cond.fieldLink RX6 20 "KeyGuessModel" "olds" "[I", Cond.arrayClass .boolean, Cond.fieldLink RX6 23 "KeyGuessModel" "bits" "[Z", Cond.fieldLink RX6 27 "KeyGuessModel" "now" "[I", Cond.fieldLink RX6 30 "KeyGuessModel" "keys" "[I", Cond.fieldLink RX6 33 "KeyGuessModel" "reach" "[I", Cond.fieldLink RX6 36 "KeyGuessModel" "fewest" "[I", Cond.fieldLink RX6 39 "KeyGuessModel" "pieceMany" "[I", Cond.fieldLink RX6 42 "KeyGuessModel" "firsts" "[I", Cond.fieldLink RX6 45 "KeyGuessModel" "lasts" "[I", Cond.fieldLink RX6 48 "KeyGuessModel" "firstKeys" "[I", Cond.arrayClass .long, Cond.fieldLink RX6 51 "KeyGuessModel" "ups" "[J", Cond.fieldLink RX6 55 "KeyGuessModel" "belows" "[J", Cond.methodLink RX6 58 yX6_layLevels, Cond.instanceMethod yX6_layLevels, Cond.selects RX6 yX6_layLevels yX6_layLevels]
def wsX6_init_r2 : List Cond := [Cond.initialized RX6, Cond.code yX6_layLevels cX6_layLevels 3 none, Cond.fieldLink RX6 139 "KeyGuessModel" "levelMany" "I", Cond.fieldLink RX6 69 "KeyGuessModel" "rowMany" "I", Cond.fieldLink RX6 122 "KeyGuessModel" "keyMany" "I", Cond.methodLink RX6 142 yX6_layLevel, Cond.instanceMethod yX6_layLevel, Cond.selects RX6 yX6_layLevel yX6_layLevel, Cond.code yX6_layLevel cX6_layLevel 8 none, Cond.fieldLink RX6 111 "KeyGuessModel" "lowUp" "J", Cond.fieldLink RX6 115 "KeyGuessModel" "lowBelow" "J", Cond.methodLink RX6 128 yX6_layPieces, Cond.instanceMethod yX6_layPieces, Cond.selects RX6 yX6_layPieces yX6_layPieces, Cond.code yX6_layPieces cX6_layPieces 4 none, Cond.methodLink RX6 125 yX6_keeps, Cond.instanceMethod yX6_keeps, Cond.selects RX6 yX6_keeps yX6_keeps, Cond.code yX6_keeps cX6_keeps 5 (some .boolean), Cond.methodLink RX6 118 yX6_layLow, Cond.instanceMethod yX6_layLow, Cond.selects RX6 yX6_layLow yX6_layLow, Cond.code yX6_layLow cX6_layLow 8 none, Cond.methodLink RX6 131 yX6_endOf]
def wsX6_init_r3 : List Cond := [Cond.instanceMethod yX6_endOf, Cond.selects RX6 yX6_endOf yX6_endOf, Cond.code yX6_endOf cX6_endOf 3 (some .int), Cond.methodLink RX6 135 yX6_divisor, Cond.static yX6_divisor, Cond.code yX6_divisor cX6_divisor 10 (some .long)]
def wsX6_init : List Cond := .code yX6_init cX6_init 1 none :: ((wsX6_init_r1 ++ (wsX6_init_r2 ++ wsX6_init_r3)) ++ wsX60)
def wsX6_in : List Cond := .code yX6_in cX6_in 3 (some .boolean) :: ([])
def wsX6_isNumber : List Cond := .code yX6_isNumber cX6_isNumber 1 (some .boolean) :: ([.constant RX6 61 (1000000), .methodLink RX6 62 yX6_in, .static yX6_in, .initialized RX6, .code yX6_in cX6_in 3 (some .boolean)])
def wsX6_placeIn : List Cond := .code yX6_placeIn cX6_placeIn 4 (some .int) :: ([])
def wsX6_insertNow : List Cond := .code yX6_insertNow cX6_insertNow 3 none :: ([.fieldLink RX6 66 "KeyGuessModel" "nowMany" "I", .fieldLink RX6 27 "KeyGuessModel" "now" "[I"] ++ wsX60)
def wsX6_layNow : List Cond := .code yX6_layNow cX6_layNow 2 none :: ([.fieldLink RX6 66 "KeyGuessModel" "nowMany" "I", .fieldLink RX6 69 "KeyGuessModel" "rowMany" "I", .fieldLink RX6 20 "KeyGuessModel" "olds" "[I", .fieldLink RX6 72 "KeyGuessModel" "oldMany" "I", .fieldLink RX6 7 "KeyGuessModel" "row" "[I", .fieldLink RX6 83 "KeyGuessModel" "newMany" "I", .fieldLink RX6 17 "KeyGuessModel" "news" "[I", .methodLink RX6 75 yX6_placeIn, .static yX6_placeIn, .initialized RX6, .code yX6_placeIn cX6_placeIn 4 (some .int), .methodLink RX6 79 yX6_insertNow, .instanceMethod yX6_insertNow, .selects RX6 yX6_insertNow yX6_insertNow, .code yX6_insertNow cX6_insertNow 3 none, .fieldLink RX6 27 "KeyGuessModel" "now" "[I"] ++ wsX60)
def wsX6_isThere : List Cond := .code yX6_isThere cX6_isThere 2 (some .boolean) :: ([.fieldLink RX6 27 "KeyGuessModel" "now" "[I", .fieldLink RX6 66 "KeyGuessModel" "nowMany" "I", .methodLink RX6 86 yX6_layNow, .instanceMethod yX6_layNow, .selects RX6 yX6_layNow yX6_layNow, .initialized RX6, .code yX6_layNow cX6_layNow 2 none, .fieldLink RX6 69 "KeyGuessModel" "rowMany" "I", .fieldLink RX6 20 "KeyGuessModel" "olds" "[I", .fieldLink RX6 72 "KeyGuessModel" "oldMany" "I", .fieldLink RX6 7 "KeyGuessModel" "row" "[I", .fieldLink RX6 83 "KeyGuessModel" "newMany" "I", .fieldLink RX6 17 "KeyGuessModel" "news" "[I", .methodLink RX6 75 yX6_placeIn, .static yX6_placeIn, .code yX6_placeIn cX6_placeIn 4 (some .int), .methodLink RX6 79 yX6_insertNow, .instanceMethod yX6_insertNow, .selects RX6 yX6_insertNow yX6_insertNow, .code yX6_insertNow cX6_insertNow 3 none] ++ wsX60)
def wsX6_setBits : List Cond := .code yX6_setBits cX6_setBits 2 none :: ([.fieldLink RX6 23 "KeyGuessModel" "bits" "[Z"] ++ wsX60)
def wsX6_makeRow_r1 : List Cond := [Cond.fieldLink RX6 23 "KeyGuessModel" "bits" "[Z", Cond.fieldLink RX6 66 "KeyGuessModel" "nowMany" "I", Cond.fieldLink RX6 69 "KeyGuessModel" "rowMany" "I", Cond.fieldLink RX6 7 "KeyGuessModel" "row" "[I", Cond.fieldLink RX6 27 "KeyGuessModel" "now" "[I", Cond.fieldLink RX6 83 "KeyGuessModel" "newMany" "I", Cond.fieldLink RX6 72 "KeyGuessModel" "oldMany" "I", Cond.fieldLink RX6 92 "KeyGuessModel" "cost" "I", Cond.methodLink RX6 86 yX6_layNow, Cond.instanceMethod yX6_layNow, Cond.selects RX6 yX6_layNow yX6_layNow, Cond.initialized RX6, Cond.code yX6_layNow cX6_layNow 2 none, Cond.fieldLink RX6 20 "KeyGuessModel" "olds" "[I", Cond.fieldLink RX6 17 "KeyGuessModel" "news" "[I", Cond.methodLink RX6 75 yX6_placeIn, Cond.static yX6_placeIn, Cond.code yX6_placeIn cX6_placeIn 4 (some .int), Cond.methodLink RX6 79 yX6_insertNow, Cond.instanceMethod yX6_insertNow, Cond.selects RX6 yX6_insertNow yX6_insertNow, Cond.code yX6_insertNow cX6_insertNow 3 none, Cond.methodLink RX6 89 yX6_setBits, Cond.instanceMethod yX6_setBits]
def wsX6_makeRow_r2 : List Cond := [Cond.selects RX6 yX6_setBits yX6_setBits, Cond.code yX6_setBits cX6_setBits 2 none, Cond.methodLink RX6 58 yX6_layLevels, Cond.instanceMethod yX6_layLevels, Cond.selects RX6 yX6_layLevels yX6_layLevels, Cond.code yX6_layLevels cX6_layLevels 3 none, Cond.fieldLink RX6 139 "KeyGuessModel" "levelMany" "I", Cond.fieldLink RX6 122 "KeyGuessModel" "keyMany" "I", Cond.fieldLink RX6 30 "KeyGuessModel" "keys" "[I", Cond.fieldLink RX6 39 "KeyGuessModel" "pieceMany" "[I", Cond.fieldLink RX6 48 "KeyGuessModel" "firstKeys" "[I", Cond.methodLink RX6 142 yX6_layLevel, Cond.instanceMethod yX6_layLevel, Cond.selects RX6 yX6_layLevel yX6_layLevel, Cond.code yX6_layLevel cX6_layLevel 8 none, Cond.fieldLink RX6 111 "KeyGuessModel" "lowUp" "J", Cond.fieldLink RX6 115 "KeyGuessModel" "lowBelow" "J", Cond.fieldLink RX6 42 "KeyGuessModel" "firsts" "[I", Cond.fieldLink RX6 45 "KeyGuessModel" "lasts" "[I", Cond.fieldLink RX6 51 "KeyGuessModel" "ups" "[J", Cond.fieldLink RX6 55 "KeyGuessModel" "belows" "[J", Cond.methodLink RX6 128 yX6_layPieces, Cond.instanceMethod yX6_layPieces, Cond.selects RX6 yX6_layPieces yX6_layPieces]
def wsX6_makeRow_r3 : List Cond := [Cond.code yX6_layPieces cX6_layPieces 4 none, Cond.fieldLink RX6 36 "KeyGuessModel" "fewest" "[I", Cond.fieldLink RX6 33 "KeyGuessModel" "reach" "[I", Cond.methodLink RX6 125 yX6_keeps, Cond.instanceMethod yX6_keeps, Cond.selects RX6 yX6_keeps yX6_keeps, Cond.code yX6_keeps cX6_keeps 5 (some .boolean), Cond.fieldLink RX6 13 "KeyGuessModel" "e" "I", Cond.methodLink RX6 118 yX6_layLow, Cond.instanceMethod yX6_layLow, Cond.selects RX6 yX6_layLow yX6_layLow, Cond.code yX6_layLow cX6_layLow 8 none, Cond.methodLink RX6 131 yX6_endOf, Cond.instanceMethod yX6_endOf, Cond.selects RX6 yX6_endOf yX6_endOf, Cond.code yX6_endOf cX6_endOf 3 (some .int), Cond.methodLink RX6 135 yX6_divisor, Cond.static yX6_divisor, Cond.code yX6_divisor cX6_divisor 10 (some .long)]
def wsX6_makeRow : List Cond := .code yX6_makeRow cX6_makeRow 2 none :: ((wsX6_makeRow_r1 ++ (wsX6_makeRow_r2 ++ wsX6_makeRow_r3)) ++ wsX60)
def wsX6_put_r1 : List Cond := [Cond.fieldLink RX6 66 "KeyGuessModel" "nowMany" "I", Cond.fieldLink RX6 20 "KeyGuessModel" "olds" "[I", Cond.fieldLink RX6 72 "KeyGuessModel" "oldMany" "I", Cond.fieldLink RX6 83 "KeyGuessModel" "newMany" "I", Cond.fieldLink RX6 17 "KeyGuessModel" "news" "[I", Cond.methodLink RX6 95 yX6_isNumber, Cond.static yX6_isNumber, Cond.initialized RX6, Cond.code yX6_isNumber cX6_isNumber 1 (some .boolean), Cond.constant RX6 61 (1000000), Cond.methodLink RX6 62 yX6_in, Cond.static yX6_in, Cond.code yX6_in cX6_in 3 (some .boolean), Cond.methodLink RX6 99 yX6_isThere, Cond.instanceMethod yX6_isThere, Cond.selects RX6 yX6_isThere yX6_isThere, Cond.code yX6_isThere cX6_isThere 2 (some .boolean), Cond.fieldLink RX6 27 "KeyGuessModel" "now" "[I", Cond.methodLink RX6 86 yX6_layNow, Cond.instanceMethod yX6_layNow, Cond.selects RX6 yX6_layNow yX6_layNow, Cond.code yX6_layNow cX6_layNow 2 none, Cond.fieldLink RX6 69 "KeyGuessModel" "rowMany" "I", Cond.fieldLink RX6 7 "KeyGuessModel" "row" "[I"]
def wsX6_put_r2 : List Cond := [Cond.methodLink RX6 75 yX6_placeIn, Cond.static yX6_placeIn, Cond.code yX6_placeIn cX6_placeIn 4 (some .int), Cond.methodLink RX6 79 yX6_insertNow, Cond.instanceMethod yX6_insertNow, Cond.selects RX6 yX6_insertNow yX6_insertNow, Cond.code yX6_insertNow cX6_insertNow 3 none, Cond.methodLink RX6 102 yX6_makeRow, Cond.instanceMethod yX6_makeRow, Cond.selects RX6 yX6_makeRow yX6_makeRow, Cond.code yX6_makeRow cX6_makeRow 2 none, Cond.fieldLink RX6 23 "KeyGuessModel" "bits" "[Z", Cond.fieldLink RX6 92 "KeyGuessModel" "cost" "I", Cond.methodLink RX6 89 yX6_setBits, Cond.instanceMethod yX6_setBits, Cond.selects RX6 yX6_setBits yX6_setBits, Cond.code yX6_setBits cX6_setBits 2 none, Cond.methodLink RX6 58 yX6_layLevels, Cond.instanceMethod yX6_layLevels, Cond.selects RX6 yX6_layLevels yX6_layLevels, Cond.code yX6_layLevels cX6_layLevels 3 none, Cond.fieldLink RX6 139 "KeyGuessModel" "levelMany" "I", Cond.fieldLink RX6 122 "KeyGuessModel" "keyMany" "I", Cond.fieldLink RX6 30 "KeyGuessModel" "keys" "[I"]
def wsX6_put_r3 : List Cond := [Cond.fieldLink RX6 39 "KeyGuessModel" "pieceMany" "[I", Cond.fieldLink RX6 48 "KeyGuessModel" "firstKeys" "[I", Cond.methodLink RX6 142 yX6_layLevel, Cond.instanceMethod yX6_layLevel, Cond.selects RX6 yX6_layLevel yX6_layLevel, Cond.code yX6_layLevel cX6_layLevel 8 none, Cond.fieldLink RX6 111 "KeyGuessModel" "lowUp" "J", Cond.fieldLink RX6 115 "KeyGuessModel" "lowBelow" "J", Cond.fieldLink RX6 42 "KeyGuessModel" "firsts" "[I", Cond.fieldLink RX6 45 "KeyGuessModel" "lasts" "[I", Cond.fieldLink RX6 51 "KeyGuessModel" "ups" "[J", Cond.fieldLink RX6 55 "KeyGuessModel" "belows" "[J", Cond.methodLink RX6 128 yX6_layPieces, Cond.instanceMethod yX6_layPieces, Cond.selects RX6 yX6_layPieces yX6_layPieces, Cond.code yX6_layPieces cX6_layPieces 4 none, Cond.fieldLink RX6 36 "KeyGuessModel" "fewest" "[I", Cond.fieldLink RX6 33 "KeyGuessModel" "reach" "[I", Cond.methodLink RX6 125 yX6_keeps, Cond.instanceMethod yX6_keeps, Cond.selects RX6 yX6_keeps yX6_keeps, Cond.code yX6_keeps cX6_keeps 5 (some .boolean), Cond.fieldLink RX6 13 "KeyGuessModel" "e" "I", Cond.methodLink RX6 118 yX6_layLow]
def wsX6_put_r4 : List Cond := [Cond.instanceMethod yX6_layLow, Cond.selects RX6 yX6_layLow yX6_layLow, Cond.code yX6_layLow cX6_layLow 8 none, Cond.methodLink RX6 131 yX6_endOf, Cond.instanceMethod yX6_endOf, Cond.selects RX6 yX6_endOf yX6_endOf, Cond.code yX6_endOf cX6_endOf 3 (some .int), Cond.methodLink RX6 135 yX6_divisor, Cond.static yX6_divisor, Cond.code yX6_divisor cX6_divisor 10 (some .long)]
def wsX6_put : List Cond := .code yX6_put cX6_put 3 (some .int) :: ((wsX6_put_r1 ++ (wsX6_put_r2 ++ (wsX6_put_r3 ++ wsX6_put_r4))) ++ wsX60)
def wsX6_take_r1 : List Cond := [Cond.fieldLink RX6 17 "KeyGuessModel" "news" "[I", Cond.fieldLink RX6 83 "KeyGuessModel" "newMany" "I", Cond.fieldLink RX6 72 "KeyGuessModel" "oldMany" "I", Cond.fieldLink RX6 20 "KeyGuessModel" "olds" "[I", Cond.fieldLink RX6 66 "KeyGuessModel" "nowMany" "I", Cond.methodLink RX6 95 yX6_isNumber, Cond.static yX6_isNumber, Cond.initialized RX6, Cond.code yX6_isNumber cX6_isNumber 1 (some .boolean), Cond.constant RX6 61 (1000000), Cond.methodLink RX6 62 yX6_in, Cond.static yX6_in, Cond.code yX6_in cX6_in 3 (some .boolean), Cond.methodLink RX6 99 yX6_isThere, Cond.instanceMethod yX6_isThere, Cond.selects RX6 yX6_isThere yX6_isThere, Cond.code yX6_isThere cX6_isThere 2 (some .boolean), Cond.fieldLink RX6 27 "KeyGuessModel" "now" "[I", Cond.methodLink RX6 86 yX6_layNow, Cond.instanceMethod yX6_layNow, Cond.selects RX6 yX6_layNow yX6_layNow, Cond.code yX6_layNow cX6_layNow 2 none, Cond.fieldLink RX6 69 "KeyGuessModel" "rowMany" "I", Cond.fieldLink RX6 7 "KeyGuessModel" "row" "[I"]
def wsX6_take_r2 : List Cond := [Cond.methodLink RX6 75 yX6_placeIn, Cond.static yX6_placeIn, Cond.code yX6_placeIn cX6_placeIn 4 (some .int), Cond.methodLink RX6 79 yX6_insertNow, Cond.instanceMethod yX6_insertNow, Cond.selects RX6 yX6_insertNow yX6_insertNow, Cond.code yX6_insertNow cX6_insertNow 3 none, Cond.methodLink RX6 102 yX6_makeRow, Cond.instanceMethod yX6_makeRow, Cond.selects RX6 yX6_makeRow yX6_makeRow, Cond.code yX6_makeRow cX6_makeRow 2 none, Cond.fieldLink RX6 23 "KeyGuessModel" "bits" "[Z", Cond.fieldLink RX6 92 "KeyGuessModel" "cost" "I", Cond.methodLink RX6 89 yX6_setBits, Cond.instanceMethod yX6_setBits, Cond.selects RX6 yX6_setBits yX6_setBits, Cond.code yX6_setBits cX6_setBits 2 none, Cond.methodLink RX6 58 yX6_layLevels, Cond.instanceMethod yX6_layLevels, Cond.selects RX6 yX6_layLevels yX6_layLevels, Cond.code yX6_layLevels cX6_layLevels 3 none, Cond.fieldLink RX6 139 "KeyGuessModel" "levelMany" "I", Cond.fieldLink RX6 122 "KeyGuessModel" "keyMany" "I", Cond.fieldLink RX6 30 "KeyGuessModel" "keys" "[I"]
def wsX6_take_r3 : List Cond := [Cond.fieldLink RX6 39 "KeyGuessModel" "pieceMany" "[I", Cond.fieldLink RX6 48 "KeyGuessModel" "firstKeys" "[I", Cond.methodLink RX6 142 yX6_layLevel, Cond.instanceMethod yX6_layLevel, Cond.selects RX6 yX6_layLevel yX6_layLevel, Cond.code yX6_layLevel cX6_layLevel 8 none, Cond.fieldLink RX6 111 "KeyGuessModel" "lowUp" "J", Cond.fieldLink RX6 115 "KeyGuessModel" "lowBelow" "J", Cond.fieldLink RX6 42 "KeyGuessModel" "firsts" "[I", Cond.fieldLink RX6 45 "KeyGuessModel" "lasts" "[I", Cond.fieldLink RX6 51 "KeyGuessModel" "ups" "[J", Cond.fieldLink RX6 55 "KeyGuessModel" "belows" "[J", Cond.methodLink RX6 128 yX6_layPieces, Cond.instanceMethod yX6_layPieces, Cond.selects RX6 yX6_layPieces yX6_layPieces, Cond.code yX6_layPieces cX6_layPieces 4 none, Cond.fieldLink RX6 36 "KeyGuessModel" "fewest" "[I", Cond.fieldLink RX6 33 "KeyGuessModel" "reach" "[I", Cond.methodLink RX6 125 yX6_keeps, Cond.instanceMethod yX6_keeps, Cond.selects RX6 yX6_keeps yX6_keeps, Cond.code yX6_keeps cX6_keeps 5 (some .boolean), Cond.fieldLink RX6 13 "KeyGuessModel" "e" "I", Cond.methodLink RX6 118 yX6_layLow]
def wsX6_take_r4 : List Cond := [Cond.instanceMethod yX6_layLow, Cond.selects RX6 yX6_layLow yX6_layLow, Cond.code yX6_layLow cX6_layLow 8 none, Cond.methodLink RX6 131 yX6_endOf, Cond.instanceMethod yX6_endOf, Cond.selects RX6 yX6_endOf yX6_endOf, Cond.code yX6_endOf cX6_endOf 3 (some .int), Cond.methodLink RX6 135 yX6_divisor, Cond.static yX6_divisor, Cond.code yX6_divisor cX6_divisor 10 (some .long)]
def wsX6_take : List Cond := .code yX6_take cX6_take 3 (some .int) :: ((wsX6_take_r1 ++ (wsX6_take_r2 ++ (wsX6_take_r3 ++ wsX6_take_r4))) ++ wsX60)
def wsX6_make_r1 : List Cond := [Cond.fieldLink RX6 92 "KeyGuessModel" "cost" "I", Cond.methodLink RX6 102 yX6_makeRow, Cond.instanceMethod yX6_makeRow, Cond.selects RX6 yX6_makeRow yX6_makeRow, Cond.initialized RX6, Cond.code yX6_makeRow cX6_makeRow 2 none, Cond.fieldLink RX6 23 "KeyGuessModel" "bits" "[Z", Cond.fieldLink RX6 66 "KeyGuessModel" "nowMany" "I", Cond.fieldLink RX6 69 "KeyGuessModel" "rowMany" "I", Cond.fieldLink RX6 7 "KeyGuessModel" "row" "[I", Cond.fieldLink RX6 27 "KeyGuessModel" "now" "[I", Cond.fieldLink RX6 83 "KeyGuessModel" "newMany" "I", Cond.fieldLink RX6 72 "KeyGuessModel" "oldMany" "I", Cond.methodLink RX6 86 yX6_layNow, Cond.instanceMethod yX6_layNow, Cond.selects RX6 yX6_layNow yX6_layNow, Cond.code yX6_layNow cX6_layNow 2 none, Cond.fieldLink RX6 20 "KeyGuessModel" "olds" "[I", Cond.fieldLink RX6 17 "KeyGuessModel" "news" "[I", Cond.methodLink RX6 75 yX6_placeIn, Cond.static yX6_placeIn, Cond.code yX6_placeIn cX6_placeIn 4 (some .int), Cond.methodLink RX6 79 yX6_insertNow, Cond.instanceMethod yX6_insertNow]
def wsX6_make_r2 : List Cond := [Cond.selects RX6 yX6_insertNow yX6_insertNow, Cond.code yX6_insertNow cX6_insertNow 3 none, Cond.methodLink RX6 89 yX6_setBits, Cond.instanceMethod yX6_setBits, Cond.selects RX6 yX6_setBits yX6_setBits, Cond.code yX6_setBits cX6_setBits 2 none, Cond.methodLink RX6 58 yX6_layLevels, Cond.instanceMethod yX6_layLevels, Cond.selects RX6 yX6_layLevels yX6_layLevels, Cond.code yX6_layLevels cX6_layLevels 3 none, Cond.fieldLink RX6 139 "KeyGuessModel" "levelMany" "I", Cond.fieldLink RX6 122 "KeyGuessModel" "keyMany" "I", Cond.fieldLink RX6 30 "KeyGuessModel" "keys" "[I", Cond.fieldLink RX6 39 "KeyGuessModel" "pieceMany" "[I", Cond.fieldLink RX6 48 "KeyGuessModel" "firstKeys" "[I", Cond.methodLink RX6 142 yX6_layLevel, Cond.instanceMethod yX6_layLevel, Cond.selects RX6 yX6_layLevel yX6_layLevel, Cond.code yX6_layLevel cX6_layLevel 8 none, Cond.fieldLink RX6 111 "KeyGuessModel" "lowUp" "J", Cond.fieldLink RX6 115 "KeyGuessModel" "lowBelow" "J", Cond.fieldLink RX6 42 "KeyGuessModel" "firsts" "[I", Cond.fieldLink RX6 45 "KeyGuessModel" "lasts" "[I", Cond.fieldLink RX6 51 "KeyGuessModel" "ups" "[J"]
def wsX6_make_r3 : List Cond := [Cond.fieldLink RX6 55 "KeyGuessModel" "belows" "[J", Cond.methodLink RX6 128 yX6_layPieces, Cond.instanceMethod yX6_layPieces, Cond.selects RX6 yX6_layPieces yX6_layPieces, Cond.code yX6_layPieces cX6_layPieces 4 none, Cond.fieldLink RX6 36 "KeyGuessModel" "fewest" "[I", Cond.fieldLink RX6 33 "KeyGuessModel" "reach" "[I", Cond.methodLink RX6 125 yX6_keeps, Cond.instanceMethod yX6_keeps, Cond.selects RX6 yX6_keeps yX6_keeps, Cond.code yX6_keeps cX6_keeps 5 (some .boolean), Cond.fieldLink RX6 13 "KeyGuessModel" "e" "I", Cond.methodLink RX6 118 yX6_layLow, Cond.instanceMethod yX6_layLow, Cond.selects RX6 yX6_layLow yX6_layLow, Cond.code yX6_layLow cX6_layLow 8 none, Cond.methodLink RX6 131 yX6_endOf, Cond.instanceMethod yX6_endOf, Cond.selects RX6 yX6_endOf yX6_endOf, Cond.code yX6_endOf cX6_endOf 3 (some .int), Cond.methodLink RX6 135 yX6_divisor, Cond.static yX6_divisor, Cond.code yX6_divisor cX6_divisor 10 (some .long)]
def wsX6_make : List Cond := .code yX6_make cX6_make 1 (some .int) :: ((wsX6_make_r1 ++ (wsX6_make_r2 ++ wsX6_make_r3)) ++ wsX60)
def wsX6_slack_r1 : List Cond := [Cond.fieldLink RX6 13 "KeyGuessModel" "e" "I", Cond.methodLink RX6 62 yX6_in, Cond.static yX6_in, Cond.initialized RX6, Cond.code yX6_in cX6_in 3 (some .boolean), Cond.methodLink RX6 102 yX6_makeRow, Cond.instanceMethod yX6_makeRow, Cond.selects RX6 yX6_makeRow yX6_makeRow, Cond.code yX6_makeRow cX6_makeRow 2 none, Cond.fieldLink RX6 23 "KeyGuessModel" "bits" "[Z", Cond.fieldLink RX6 66 "KeyGuessModel" "nowMany" "I", Cond.fieldLink RX6 69 "KeyGuessModel" "rowMany" "I", Cond.fieldLink RX6 7 "KeyGuessModel" "row" "[I", Cond.fieldLink RX6 27 "KeyGuessModel" "now" "[I", Cond.fieldLink RX6 83 "KeyGuessModel" "newMany" "I", Cond.fieldLink RX6 72 "KeyGuessModel" "oldMany" "I", Cond.fieldLink RX6 92 "KeyGuessModel" "cost" "I", Cond.methodLink RX6 86 yX6_layNow, Cond.instanceMethod yX6_layNow, Cond.selects RX6 yX6_layNow yX6_layNow, Cond.code yX6_layNow cX6_layNow 2 none, Cond.fieldLink RX6 20 "KeyGuessModel" "olds" "[I", Cond.fieldLink RX6 17 "KeyGuessModel" "news" "[I", Cond.methodLink RX6 75 yX6_placeIn]
def wsX6_slack_r2 : List Cond := [Cond.static yX6_placeIn, Cond.code yX6_placeIn cX6_placeIn 4 (some .int), Cond.methodLink RX6 79 yX6_insertNow, Cond.instanceMethod yX6_insertNow, Cond.selects RX6 yX6_insertNow yX6_insertNow, Cond.code yX6_insertNow cX6_insertNow 3 none, Cond.methodLink RX6 89 yX6_setBits, Cond.instanceMethod yX6_setBits, Cond.selects RX6 yX6_setBits yX6_setBits, Cond.code yX6_setBits cX6_setBits 2 none, Cond.methodLink RX6 58 yX6_layLevels, Cond.instanceMethod yX6_layLevels, Cond.selects RX6 yX6_layLevels yX6_layLevels, Cond.code yX6_layLevels cX6_layLevels 3 none, Cond.fieldLink RX6 139 "KeyGuessModel" "levelMany" "I", Cond.fieldLink RX6 122 "KeyGuessModel" "keyMany" "I", Cond.fieldLink RX6 30 "KeyGuessModel" "keys" "[I", Cond.fieldLink RX6 39 "KeyGuessModel" "pieceMany" "[I", Cond.fieldLink RX6 48 "KeyGuessModel" "firstKeys" "[I", Cond.methodLink RX6 142 yX6_layLevel, Cond.instanceMethod yX6_layLevel, Cond.selects RX6 yX6_layLevel yX6_layLevel, Cond.code yX6_layLevel cX6_layLevel 8 none, Cond.fieldLink RX6 111 "KeyGuessModel" "lowUp" "J"]
def wsX6_slack_r3 : List Cond := [Cond.fieldLink RX6 115 "KeyGuessModel" "lowBelow" "J", Cond.fieldLink RX6 42 "KeyGuessModel" "firsts" "[I", Cond.fieldLink RX6 45 "KeyGuessModel" "lasts" "[I", Cond.fieldLink RX6 51 "KeyGuessModel" "ups" "[J", Cond.fieldLink RX6 55 "KeyGuessModel" "belows" "[J", Cond.methodLink RX6 128 yX6_layPieces, Cond.instanceMethod yX6_layPieces, Cond.selects RX6 yX6_layPieces yX6_layPieces, Cond.code yX6_layPieces cX6_layPieces 4 none, Cond.fieldLink RX6 36 "KeyGuessModel" "fewest" "[I", Cond.fieldLink RX6 33 "KeyGuessModel" "reach" "[I", Cond.methodLink RX6 125 yX6_keeps, Cond.instanceMethod yX6_keeps, Cond.selects RX6 yX6_keeps yX6_keeps, Cond.code yX6_keeps cX6_keeps 5 (some .boolean), Cond.methodLink RX6 118 yX6_layLow, Cond.instanceMethod yX6_layLow, Cond.selects RX6 yX6_layLow yX6_layLow, Cond.code yX6_layLow cX6_layLow 8 none, Cond.methodLink RX6 131 yX6_endOf, Cond.instanceMethod yX6_endOf, Cond.selects RX6 yX6_endOf yX6_endOf, Cond.code yX6_endOf cX6_endOf 3 (some .int), Cond.methodLink RX6 135 yX6_divisor]
def wsX6_slack_r4 : List Cond := [Cond.static yX6_divisor, Cond.code yX6_divisor cX6_divisor 10 (some .long)]
def wsX6_slack : List Cond := .code yX6_slack cX6_slack 3 (some .int) :: ((wsX6_slack_r1 ++ (wsX6_slack_r2 ++ (wsX6_slack_r3 ++ wsX6_slack_r4))) ++ wsX60)
def wsX6_place_r1 : List Cond := [Cond.fieldLink RX6 27 "KeyGuessModel" "now" "[I", Cond.fieldLink RX6 66 "KeyGuessModel" "nowMany" "I", Cond.methodLink RX6 95 yX6_isNumber, Cond.static yX6_isNumber, Cond.initialized RX6, Cond.code yX6_isNumber cX6_isNumber 1 (some .boolean), Cond.constant RX6 61 (1000000), Cond.methodLink RX6 62 yX6_in, Cond.static yX6_in, Cond.code yX6_in cX6_in 3 (some .boolean), Cond.methodLink RX6 86 yX6_layNow, Cond.instanceMethod yX6_layNow, Cond.selects RX6 yX6_layNow yX6_layNow, Cond.code yX6_layNow cX6_layNow 2 none, Cond.fieldLink RX6 69 "KeyGuessModel" "rowMany" "I", Cond.fieldLink RX6 20 "KeyGuessModel" "olds" "[I", Cond.fieldLink RX6 72 "KeyGuessModel" "oldMany" "I", Cond.fieldLink RX6 7 "KeyGuessModel" "row" "[I", Cond.fieldLink RX6 83 "KeyGuessModel" "newMany" "I", Cond.fieldLink RX6 17 "KeyGuessModel" "news" "[I", Cond.methodLink RX6 75 yX6_placeIn, Cond.static yX6_placeIn, Cond.code yX6_placeIn cX6_placeIn 4 (some .int), Cond.methodLink RX6 79 yX6_insertNow]
def wsX6_place_r2 : List Cond := [Cond.instanceMethod yX6_insertNow, Cond.selects RX6 yX6_insertNow yX6_insertNow, Cond.code yX6_insertNow cX6_insertNow 3 none]
def wsX6_place : List Cond := .code yX6_place cX6_place 2 (some .int) :: ((wsX6_place_r1 ++ wsX6_place_r2) ++ wsX60)
def wsX6_at : List Cond := .code yX6_at cX6_at 2 (some .int) :: ([.fieldLink RX6 66 "KeyGuessModel" "nowMany" "I", .fieldLink RX6 27 "KeyGuessModel" "now" "[I", .methodLink RX6 86 yX6_layNow, .instanceMethod yX6_layNow, .selects RX6 yX6_layNow yX6_layNow, .initialized RX6, .code yX6_layNow cX6_layNow 2 none, .fieldLink RX6 69 "KeyGuessModel" "rowMany" "I", .fieldLink RX6 20 "KeyGuessModel" "olds" "[I", .fieldLink RX6 72 "KeyGuessModel" "oldMany" "I", .fieldLink RX6 7 "KeyGuessModel" "row" "[I", .fieldLink RX6 83 "KeyGuessModel" "newMany" "I", .fieldLink RX6 17 "KeyGuessModel" "news" "[I", .methodLink RX6 75 yX6_placeIn, .static yX6_placeIn, .code yX6_placeIn cX6_placeIn 4 (some .int), .methodLink RX6 79 yX6_insertNow, .instanceMethod yX6_insertNow, .selects RX6 yX6_insertNow yX6_insertNow, .code yX6_insertNow cX6_insertNow 3 none, .methodLink RX6 62 yX6_in, .static yX6_in, .code yX6_in cX6_in 3 (some .boolean)] ++ wsX60)
def wsX6_isSpan : List Cond := .code yX6_isSpan cX6_isSpan 2 (some .boolean) :: ([.methodLink RX6 95 yX6_isNumber, .static yX6_isNumber, .initialized RX6, .code yX6_isNumber cX6_isNumber 1 (some .boolean), .constant RX6 61 (1000000), .methodLink RX6 62 yX6_in, .static yX6_in, .code yX6_in cX6_in 3 (some .boolean)])
def wsX6_range_r1 : List Cond := [Cond.fieldLink RX6 66 "KeyGuessModel" "nowMany" "I", Cond.fieldLink RX6 27 "KeyGuessModel" "now" "[I", Cond.methodLink RX6 105 yX6_isSpan, Cond.static yX6_isSpan, Cond.initialized RX6, Cond.code yX6_isSpan cX6_isSpan 2 (some .boolean), Cond.methodLink RX6 95 yX6_isNumber, Cond.static yX6_isNumber, Cond.code yX6_isNumber cX6_isNumber 1 (some .boolean), Cond.constant RX6 61 (1000000), Cond.methodLink RX6 62 yX6_in, Cond.static yX6_in, Cond.code yX6_in cX6_in 3 (some .boolean), Cond.methodLink RX6 86 yX6_layNow, Cond.instanceMethod yX6_layNow, Cond.selects RX6 yX6_layNow yX6_layNow, Cond.code yX6_layNow cX6_layNow 2 none, Cond.fieldLink RX6 69 "KeyGuessModel" "rowMany" "I", Cond.fieldLink RX6 20 "KeyGuessModel" "olds" "[I", Cond.fieldLink RX6 72 "KeyGuessModel" "oldMany" "I", Cond.fieldLink RX6 7 "KeyGuessModel" "row" "[I", Cond.fieldLink RX6 83 "KeyGuessModel" "newMany" "I", Cond.fieldLink RX6 17 "KeyGuessModel" "news" "[I", Cond.methodLink RX6 75 yX6_placeIn]
def wsX6_range_r2 : List Cond := [Cond.static yX6_placeIn, Cond.code yX6_placeIn cX6_placeIn 4 (some .int), Cond.methodLink RX6 79 yX6_insertNow, Cond.instanceMethod yX6_insertNow, Cond.selects RX6 yX6_insertNow yX6_insertNow, Cond.code yX6_insertNow cX6_insertNow 3 none]
def wsX6_range : List Cond := .code yX6_range cX6_range 5 (some .int) :: ((wsX6_range_r1 ++ wsX6_range_r2) ++ wsX60)
def wsX6_sum_r1 : List Cond := [Cond.constantLong RX6 109 (-2), Cond.fieldLink RX6 66 "KeyGuessModel" "nowMany" "I", Cond.fieldLink RX6 27 "KeyGuessModel" "now" "[I", Cond.methodLink RX6 105 yX6_isSpan, Cond.static yX6_isSpan, Cond.initialized RX6, Cond.code yX6_isSpan cX6_isSpan 2 (some .boolean), Cond.methodLink RX6 95 yX6_isNumber, Cond.static yX6_isNumber, Cond.code yX6_isNumber cX6_isNumber 1 (some .boolean), Cond.constant RX6 61 (1000000), Cond.methodLink RX6 62 yX6_in, Cond.static yX6_in, Cond.code yX6_in cX6_in 3 (some .boolean), Cond.methodLink RX6 86 yX6_layNow, Cond.instanceMethod yX6_layNow, Cond.selects RX6 yX6_layNow yX6_layNow, Cond.code yX6_layNow cX6_layNow 2 none, Cond.fieldLink RX6 69 "KeyGuessModel" "rowMany" "I", Cond.fieldLink RX6 20 "KeyGuessModel" "olds" "[I", Cond.fieldLink RX6 72 "KeyGuessModel" "oldMany" "I", Cond.fieldLink RX6 7 "KeyGuessModel" "row" "[I", Cond.fieldLink RX6 83 "KeyGuessModel" "newMany" "I", Cond.fieldLink RX6 17 "KeyGuessModel" "news" "[I"]
def wsX6_sum_r2 : List Cond := [Cond.methodLink RX6 75 yX6_placeIn, Cond.static yX6_placeIn, Cond.code yX6_placeIn cX6_placeIn 4 (some .int), Cond.methodLink RX6 79 yX6_insertNow, Cond.instanceMethod yX6_insertNow, Cond.selects RX6 yX6_insertNow yX6_insertNow, Cond.code yX6_insertNow cX6_insertNow 3 none]
def wsX6_sum : List Cond := .code yX6_sum cX6_sum 6 (some .long) :: ((wsX6_sum_r1 ++ wsX6_sum_r2) ++ wsX60)
def wsX6_piecesAt : List Cond := .code yX6_piecesAt cX6_piecesAt 2 (some .int) :: ([.fieldLink RX6 139 "KeyGuessModel" "levelMany" "I", .fieldLink RX6 39 "KeyGuessModel" "pieceMany" "[I"] ++ wsX60)
def wsX6_pieces : List Cond := .code yX6_pieces cX6_pieces 2 (some .int) :: ([.methodLink RX6 62 yX6_in, .static yX6_in, .initialized RX6, .code yX6_in cX6_in 3 (some .boolean), .methodLink RX6 145 yX6_piecesAt, .instanceMethod yX6_piecesAt, .selects RX6 yX6_piecesAt yX6_piecesAt, .code yX6_piecesAt cX6_piecesAt 2 (some .int), .fieldLink RX6 139 "KeyGuessModel" "levelMany" "I", .fieldLink RX6 39 "KeyGuessModel" "pieceMany" "[I"] ++ wsX60)
def wsX6_piece : List Cond := .code yX6_piece cX6_piece 5 (some .int) :: ([.fieldLink RX6 42 "KeyGuessModel" "firsts" "[I", .fieldLink RX6 45 "KeyGuessModel" "lasts" "[I", .fieldLink RX6 48 "KeyGuessModel" "firstKeys" "[I", .fieldLink RX6 51 "KeyGuessModel" "ups" "[J", .fieldLink RX6 55 "KeyGuessModel" "belows" "[J", .methodLink RX6 62 yX6_in, .static yX6_in, .initialized RX6, .code yX6_in cX6_in 3 (some .boolean), .methodLink RX6 145 yX6_piecesAt, .instanceMethod yX6_piecesAt, .selects RX6 yX6_piecesAt yX6_piecesAt, .code yX6_piecesAt cX6_piecesAt 2 (some .int), .fieldLink RX6 139 "KeyGuessModel" "levelMany" "I", .fieldLink RX6 39 "KeyGuessModel" "pieceMany" "[I"] ++ wsX60)
def wsX6_levels : List Cond := .code yX6_levels cX6_levels 1 (some .int) :: ([.fieldLink RX6 139 "KeyGuessModel" "levelMany" "I"] ++ wsX60)
def wsX6_pieceFor : List Cond := .code yX6_pieceFor cX6_pieceFor 4 (some .int) :: ([.fieldLink RX6 48 "KeyGuessModel" "firstKeys" "[I", .methodLink RX6 145 yX6_piecesAt, .instanceMethod yX6_piecesAt, .selects RX6 yX6_piecesAt yX6_piecesAt, .initialized RX6, .code yX6_piecesAt cX6_piecesAt 2 (some .int), .fieldLink RX6 139 "KeyGuessModel" "levelMany" "I", .fieldLink RX6 39 "KeyGuessModel" "pieceMany" "[I"] ++ wsX60)
def wsX6_guessBy : List Cond := .code yX6_guessBy cX6_guessBy 9 (some .int) :: ([.fieldLink RX6 51 "KeyGuessModel" "ups" "[J", .fieldLink RX6 48 "KeyGuessModel" "firstKeys" "[I", .fieldLink RX6 55 "KeyGuessModel" "belows" "[J", .fieldLink RX6 42 "KeyGuessModel" "firsts" "[I", .fieldLink RX6 45 "KeyGuessModel" "lasts" "[I"] ++ wsX60)
def wsX6_guess_r1 : List Cond := [Cond.fieldLink RX6 69 "KeyGuessModel" "rowMany" "I", Cond.methodLink RX6 95 yX6_isNumber, Cond.static yX6_isNumber, Cond.initialized RX6, Cond.code yX6_isNumber cX6_isNumber 1 (some .boolean), Cond.constant RX6 61 (1000000), Cond.methodLink RX6 62 yX6_in, Cond.static yX6_in, Cond.code yX6_in cX6_in 3 (some .boolean), Cond.methodLink RX6 148 yX6_pieceFor, Cond.instanceMethod yX6_pieceFor, Cond.selects RX6 yX6_pieceFor yX6_pieceFor, Cond.code yX6_pieceFor cX6_pieceFor 4 (some .int), Cond.fieldLink RX6 48 "KeyGuessModel" "firstKeys" "[I", Cond.methodLink RX6 145 yX6_piecesAt, Cond.instanceMethod yX6_piecesAt, Cond.selects RX6 yX6_piecesAt yX6_piecesAt, Cond.code yX6_piecesAt cX6_piecesAt 2 (some .int), Cond.fieldLink RX6 139 "KeyGuessModel" "levelMany" "I", Cond.fieldLink RX6 39 "KeyGuessModel" "pieceMany" "[I", Cond.methodLink RX6 151 yX6_guessBy, Cond.instanceMethod yX6_guessBy, Cond.selects RX6 yX6_guessBy yX6_guessBy, Cond.code yX6_guessBy cX6_guessBy 9 (some .int)]
def wsX6_guess_r2 : List Cond := [Cond.fieldLink RX6 51 "KeyGuessModel" "ups" "[J", Cond.fieldLink RX6 55 "KeyGuessModel" "belows" "[J", Cond.fieldLink RX6 42 "KeyGuessModel" "firsts" "[I", Cond.fieldLink RX6 45 "KeyGuessModel" "lasts" "[I"]
def wsX6_guess : List Cond := .code yX6_guess cX6_guess 2 (some .int) :: ((wsX6_guess_r1 ++ wsX6_guess_r2) ++ wsX60)
def wsX6_lookFor_r1 : List Cond := [Cond.fieldLink RX6 155 "KeyGuessModel" "looked" "I", Cond.fieldLink RX6 69 "KeyGuessModel" "rowMany" "I", Cond.fieldLink RX6 13 "KeyGuessModel" "e" "I", Cond.fieldLink RX6 42 "KeyGuessModel" "firsts" "[I", Cond.fieldLink RX6 45 "KeyGuessModel" "lasts" "[I", Cond.fieldLink RX6 7 "KeyGuessModel" "row" "[I", Cond.methodLink RX6 148 yX6_pieceFor, Cond.instanceMethod yX6_pieceFor, Cond.selects RX6 yX6_pieceFor yX6_pieceFor, Cond.initialized RX6, Cond.code yX6_pieceFor cX6_pieceFor 4 (some .int), Cond.fieldLink RX6 48 "KeyGuessModel" "firstKeys" "[I", Cond.methodLink RX6 145 yX6_piecesAt, Cond.instanceMethod yX6_piecesAt, Cond.selects RX6 yX6_piecesAt yX6_piecesAt, Cond.code yX6_piecesAt cX6_piecesAt 2 (some .int), Cond.fieldLink RX6 139 "KeyGuessModel" "levelMany" "I", Cond.fieldLink RX6 39 "KeyGuessModel" "pieceMany" "[I", Cond.methodLink RX6 151 yX6_guessBy, Cond.instanceMethod yX6_guessBy, Cond.selects RX6 yX6_guessBy yX6_guessBy, Cond.code yX6_guessBy cX6_guessBy 9 (some .int), Cond.fieldLink RX6 51 "KeyGuessModel" "ups" "[J", Cond.fieldLink RX6 55 "KeyGuessModel" "belows" "[J"]
def wsX6_lookFor_r2 : List Cond := [Cond.methodLink RX6 62 yX6_in, Cond.static yX6_in, Cond.code yX6_in cX6_in 3 (some .boolean)]
def wsX6_lookFor : List Cond := .code yX6_lookFor cX6_lookFor 6 (some .int) :: ((wsX6_lookFor_r1 ++ wsX6_lookFor_r2) ++ wsX60)
def wsX6_find_r1 : List Cond := [Cond.methodLink RX6 95 yX6_isNumber, Cond.static yX6_isNumber, Cond.initialized RX6, Cond.code yX6_isNumber cX6_isNumber 1 (some .boolean), Cond.constant RX6 61 (1000000), Cond.methodLink RX6 62 yX6_in, Cond.static yX6_in, Cond.code yX6_in cX6_in 3 (some .boolean), Cond.methodLink RX6 158 yX6_lookFor, Cond.instanceMethod yX6_lookFor, Cond.selects RX6 yX6_lookFor yX6_lookFor, Cond.code yX6_lookFor cX6_lookFor 6 (some .int), Cond.fieldLink RX6 155 "KeyGuessModel" "looked" "I", Cond.fieldLink RX6 69 "KeyGuessModel" "rowMany" "I", Cond.fieldLink RX6 13 "KeyGuessModel" "e" "I", Cond.fieldLink RX6 42 "KeyGuessModel" "firsts" "[I", Cond.fieldLink RX6 45 "KeyGuessModel" "lasts" "[I", Cond.fieldLink RX6 7 "KeyGuessModel" "row" "[I", Cond.methodLink RX6 148 yX6_pieceFor, Cond.instanceMethod yX6_pieceFor, Cond.selects RX6 yX6_pieceFor yX6_pieceFor, Cond.code yX6_pieceFor cX6_pieceFor 4 (some .int), Cond.fieldLink RX6 48 "KeyGuessModel" "firstKeys" "[I", Cond.methodLink RX6 145 yX6_piecesAt]
def wsX6_find_r2 : List Cond := [Cond.instanceMethod yX6_piecesAt, Cond.selects RX6 yX6_piecesAt yX6_piecesAt, Cond.code yX6_piecesAt cX6_piecesAt 2 (some .int), Cond.fieldLink RX6 139 "KeyGuessModel" "levelMany" "I", Cond.fieldLink RX6 39 "KeyGuessModel" "pieceMany" "[I", Cond.methodLink RX6 151 yX6_guessBy, Cond.instanceMethod yX6_guessBy, Cond.selects RX6 yX6_guessBy yX6_guessBy, Cond.code yX6_guessBy cX6_guessBy 9 (some .int), Cond.fieldLink RX6 51 "KeyGuessModel" "ups" "[J", Cond.fieldLink RX6 55 "KeyGuessModel" "belows" "[J"]
def wsX6_find : List Cond := .code yX6_find cX6_find 2 (some .int) :: ((wsX6_find_r1 ++ wsX6_find_r2) ++ wsX60)
def wsX6_looks_r1 : List Cond := [Cond.fieldLink RX6 155 "KeyGuessModel" "looked" "I", Cond.methodLink RX6 95 yX6_isNumber, Cond.static yX6_isNumber, Cond.initialized RX6, Cond.code yX6_isNumber cX6_isNumber 1 (some .boolean), Cond.constant RX6 61 (1000000), Cond.methodLink RX6 62 yX6_in, Cond.static yX6_in, Cond.code yX6_in cX6_in 3 (some .boolean), Cond.methodLink RX6 158 yX6_lookFor, Cond.instanceMethod yX6_lookFor, Cond.selects RX6 yX6_lookFor yX6_lookFor, Cond.code yX6_lookFor cX6_lookFor 6 (some .int), Cond.fieldLink RX6 69 "KeyGuessModel" "rowMany" "I", Cond.fieldLink RX6 13 "KeyGuessModel" "e" "I", Cond.fieldLink RX6 42 "KeyGuessModel" "firsts" "[I", Cond.fieldLink RX6 45 "KeyGuessModel" "lasts" "[I", Cond.fieldLink RX6 7 "KeyGuessModel" "row" "[I", Cond.methodLink RX6 148 yX6_pieceFor, Cond.instanceMethod yX6_pieceFor, Cond.selects RX6 yX6_pieceFor yX6_pieceFor, Cond.code yX6_pieceFor cX6_pieceFor 4 (some .int), Cond.fieldLink RX6 48 "KeyGuessModel" "firstKeys" "[I", Cond.methodLink RX6 145 yX6_piecesAt]
def wsX6_looks_r2 : List Cond := [Cond.instanceMethod yX6_piecesAt, Cond.selects RX6 yX6_piecesAt yX6_piecesAt, Cond.code yX6_piecesAt cX6_piecesAt 2 (some .int), Cond.fieldLink RX6 139 "KeyGuessModel" "levelMany" "I", Cond.fieldLink RX6 39 "KeyGuessModel" "pieceMany" "[I", Cond.methodLink RX6 151 yX6_guessBy, Cond.instanceMethod yX6_guessBy, Cond.selects RX6 yX6_guessBy yX6_guessBy, Cond.code yX6_guessBy cX6_guessBy 9 (some .int), Cond.fieldLink RX6 51 "KeyGuessModel" "ups" "[J", Cond.fieldLink RX6 55 "KeyGuessModel" "belows" "[J"]
def wsX6_looks : List Cond := .code yX6_looks cX6_looks 2 (some .int) :: ((wsX6_looks_r1 ++ wsX6_looks_r2) ++ wsX60)
def wsX6_isMaybe : List Cond := .code yX6_isMaybe cX6_isMaybe 2 (some .boolean) :: ([.fieldLink RX6 23 "KeyGuessModel" "bits" "[Z"] ++ wsX60)
def wsX6_maybe : List Cond := .code yX6_maybe cX6_maybe 2 (some .int) :: ([.methodLink RX6 95 yX6_isNumber, .static yX6_isNumber, .initialized RX6, .code yX6_isNumber cX6_isNumber 1 (some .boolean), .constant RX6 61 (1000000), .methodLink RX6 62 yX6_in, .static yX6_in, .code yX6_in cX6_in 3 (some .boolean), .methodLink RX6 161 yX6_isMaybe, .instanceMethod yX6_isMaybe, .selects RX6 yX6_isMaybe yX6_isMaybe, .code yX6_isMaybe cX6_isMaybe 2 (some .boolean), .fieldLink RX6 23 "KeyGuessModel" "bits" "[Z"] ++ wsX60)
def wsX6_wrong_r1 : List Cond := [Cond.fieldLink RX6 27 "KeyGuessModel" "now" "[I", Cond.fieldLink RX6 66 "KeyGuessModel" "nowMany" "I", Cond.methodLink RX6 105 yX6_isSpan, Cond.static yX6_isSpan, Cond.initialized RX6, Cond.code yX6_isSpan cX6_isSpan 2 (some .boolean), Cond.methodLink RX6 95 yX6_isNumber, Cond.static yX6_isNumber, Cond.code yX6_isNumber cX6_isNumber 1 (some .boolean), Cond.constant RX6 61 (1000000), Cond.methodLink RX6 62 yX6_in, Cond.static yX6_in, Cond.code yX6_in cX6_in 3 (some .boolean), Cond.methodLink RX6 86 yX6_layNow, Cond.instanceMethod yX6_layNow, Cond.selects RX6 yX6_layNow yX6_layNow, Cond.code yX6_layNow cX6_layNow 2 none, Cond.fieldLink RX6 69 "KeyGuessModel" "rowMany" "I", Cond.fieldLink RX6 20 "KeyGuessModel" "olds" "[I", Cond.fieldLink RX6 72 "KeyGuessModel" "oldMany" "I", Cond.fieldLink RX6 7 "KeyGuessModel" "row" "[I", Cond.fieldLink RX6 83 "KeyGuessModel" "newMany" "I", Cond.fieldLink RX6 17 "KeyGuessModel" "news" "[I", Cond.methodLink RX6 75 yX6_placeIn]
def wsX6_wrong_r2 : List Cond := [Cond.static yX6_placeIn, Cond.code yX6_placeIn cX6_placeIn 4 (some .int), Cond.methodLink RX6 79 yX6_insertNow, Cond.instanceMethod yX6_insertNow, Cond.selects RX6 yX6_insertNow yX6_insertNow, Cond.code yX6_insertNow cX6_insertNow 3 none, Cond.methodLink RX6 161 yX6_isMaybe, Cond.instanceMethod yX6_isMaybe, Cond.selects RX6 yX6_isMaybe yX6_isMaybe, Cond.code yX6_isMaybe cX6_isMaybe 2 (some .boolean), Cond.fieldLink RX6 23 "KeyGuessModel" "bits" "[Z"]
def wsX6_wrong : List Cond := .code yX6_wrong cX6_wrong 5 (some .int) :: ((wsX6_wrong_r1 ++ wsX6_wrong_r2) ++ wsX60)
def wsX6_piecesWith : List Cond := .code yX6_piecesWith cX6_piecesWith 4 (some .int) :: ([.fieldLink RX6 122 "KeyGuessModel" "keyMany" "I", .fieldLink RX6 66 "KeyGuessModel" "nowMany" "I", .fieldLink RX6 27 "KeyGuessModel" "now" "[I", .fieldLink RX6 30 "KeyGuessModel" "keys" "[I", .fieldLink RX6 36 "KeyGuessModel" "fewest" "[I", .methodLink RX6 128 yX6_layPieces, .instanceMethod yX6_layPieces, .selects RX6 yX6_layPieces yX6_layPieces, .initialized RX6, .code yX6_layPieces cX6_layPieces 4 none, .fieldLink RX6 33 "KeyGuessModel" "reach" "[I", .methodLink RX6 125 yX6_keeps, .instanceMethod yX6_keeps, .selects RX6 yX6_keeps yX6_keeps, .code yX6_keeps cX6_keeps 5 (some .boolean), .fieldLink RX6 111 "KeyGuessModel" "lowUp" "J", .fieldLink RX6 13 "KeyGuessModel" "e" "I", .fieldLink RX6 115 "KeyGuessModel" "lowBelow" "J", .methodLink RX6 118 yX6_layLow, .instanceMethod yX6_layLow, .selects RX6 yX6_layLow yX6_layLow, .code yX6_layLow cX6_layLow 8 none] ++ wsX60)
def wsX6_poison_r1 : List Cond := [Cond.fieldLink RX6 66 "KeyGuessModel" "nowMany" "I", Cond.fieldLink RX6 27 "KeyGuessModel" "now" "[I", Cond.methodLink RX6 105 yX6_isSpan, Cond.static yX6_isSpan, Cond.initialized RX6, Cond.code yX6_isSpan cX6_isSpan 2 (some .boolean), Cond.methodLink RX6 95 yX6_isNumber, Cond.static yX6_isNumber, Cond.code yX6_isNumber cX6_isNumber 1 (some .boolean), Cond.constant RX6 61 (1000000), Cond.methodLink RX6 62 yX6_in, Cond.static yX6_in, Cond.code yX6_in cX6_in 3 (some .boolean), Cond.methodLink RX6 86 yX6_layNow, Cond.instanceMethod yX6_layNow, Cond.selects RX6 yX6_layNow yX6_layNow, Cond.code yX6_layNow cX6_layNow 2 none, Cond.fieldLink RX6 69 "KeyGuessModel" "rowMany" "I", Cond.fieldLink RX6 20 "KeyGuessModel" "olds" "[I", Cond.fieldLink RX6 72 "KeyGuessModel" "oldMany" "I", Cond.fieldLink RX6 7 "KeyGuessModel" "row" "[I", Cond.fieldLink RX6 83 "KeyGuessModel" "newMany" "I", Cond.fieldLink RX6 17 "KeyGuessModel" "news" "[I", Cond.methodLink RX6 75 yX6_placeIn]
def wsX6_poison_r2 : List Cond := [Cond.static yX6_placeIn, Cond.code yX6_placeIn cX6_placeIn 4 (some .int), Cond.methodLink RX6 79 yX6_insertNow, Cond.instanceMethod yX6_insertNow, Cond.selects RX6 yX6_insertNow yX6_insertNow, Cond.code yX6_insertNow cX6_insertNow 3 none, Cond.methodLink RX6 164 yX6_piecesWith, Cond.instanceMethod yX6_piecesWith, Cond.selects RX6 yX6_piecesWith yX6_piecesWith, Cond.code yX6_piecesWith cX6_piecesWith 4 (some .int), Cond.fieldLink RX6 122 "KeyGuessModel" "keyMany" "I", Cond.fieldLink RX6 30 "KeyGuessModel" "keys" "[I", Cond.fieldLink RX6 36 "KeyGuessModel" "fewest" "[I", Cond.methodLink RX6 128 yX6_layPieces, Cond.instanceMethod yX6_layPieces, Cond.selects RX6 yX6_layPieces yX6_layPieces, Cond.code yX6_layPieces cX6_layPieces 4 none, Cond.fieldLink RX6 33 "KeyGuessModel" "reach" "[I", Cond.methodLink RX6 125 yX6_keeps, Cond.instanceMethod yX6_keeps, Cond.selects RX6 yX6_keeps yX6_keeps, Cond.code yX6_keeps cX6_keeps 5 (some .boolean), Cond.fieldLink RX6 111 "KeyGuessModel" "lowUp" "J", Cond.fieldLink RX6 13 "KeyGuessModel" "e" "I"]
def wsX6_poison_r3 : List Cond := [Cond.fieldLink RX6 115 "KeyGuessModel" "lowBelow" "J", Cond.methodLink RX6 118 yX6_layLow, Cond.instanceMethod yX6_layLow, Cond.selects RX6 yX6_layLow yX6_layLow, Cond.code yX6_layLow cX6_layLow 8 none]
def wsX6_poison : List Cond := .code yX6_poison cX6_poison 8 (some .int) :: ((wsX6_poison_r1 ++ (wsX6_poison_r2 ++ wsX6_poison_r3)) ++ wsX60)
def wsX6_count : List Cond := .code yX6_count cX6_count 4 (some .int) :: ([.fieldLink RX6 66 "KeyGuessModel" "nowMany" "I", .fieldLink RX6 69 "KeyGuessModel" "rowMany" "I", .fieldLink RX6 83 "KeyGuessModel" "newMany" "I", .fieldLink RX6 72 "KeyGuessModel" "oldMany" "I", .fieldLink RX6 92 "KeyGuessModel" "cost" "I", .fieldLink RX6 23 "KeyGuessModel" "bits" "[Z", .methodLink RX6 86 yX6_layNow, .instanceMethod yX6_layNow, .selects RX6 yX6_layNow yX6_layNow, .initialized RX6, .code yX6_layNow cX6_layNow 2 none, .fieldLink RX6 20 "KeyGuessModel" "olds" "[I", .fieldLink RX6 7 "KeyGuessModel" "row" "[I", .fieldLink RX6 17 "KeyGuessModel" "news" "[I", .methodLink RX6 75 yX6_placeIn, .static yX6_placeIn, .code yX6_placeIn cX6_placeIn 4 (some .int), .methodLink RX6 79 yX6_insertNow, .instanceMethod yX6_insertNow, .selects RX6 yX6_insertNow yX6_insertNow, .code yX6_insertNow cX6_insertNow 3 none, .fieldLink RX6 27 "KeyGuessModel" "now" "[I"] ++ wsX60)
def wsJ9_max_7cf53 : List Cond := .code yJ9_max_7cf53 cJ9_max_7cf53 2 (some .int) :: ([])
def wsJ9_min_7cf53 : List Cond := .code yJ9_min_7cf53 cJ9_min_7cf53 2 (some .int) :: ([])
def wsL_law_r1 : List Cond := [Cond.classLink RL 7 RX5, Cond.instantiable RX5 11, Cond.initialized RX5, Cond.classLink RL 10 RX6, Cond.instantiable RX6 25, Cond.initialized RX6, Cond.methodLink RL 9 yX5_init, Cond.instanceMethod yX5_init, Cond.code yX5_init cX5_init 1 none, Cond.methodLink RX5 1 objectInit, Cond.instanceMethod objectInit, Cond.code objectInit ⟨#[0xb1]⟩ 1 none, Cond.classLink RX5 7 RX2, Cond.instantiable RX2 2, Cond.initialized RX2, Cond.fieldLink RX5 10 "KeyGuess" "now" "LKeyGuess$Keys;", Cond.fieldLink RX5 16 "KeyGuess" "row" "LKeyGuess$Keys;", Cond.fieldLink RX5 19 "KeyGuess" "tried" "LKeyGuess$Keys;", Cond.classLink RX5 22 RX0, Cond.instantiable RX0 5, Cond.initialized RX0, Cond.fieldLink RX5 25 "KeyGuess" "cuts" "LKeyGuess$Cuts;", Cond.classLink RX5 29 RX4, Cond.instantiable RX4 9]
def wsL_law_r2 : List Cond := [Cond.initialized RX4, Cond.fieldLink RX5 32 "KeyGuess" "tower" "LKeyGuess$Tower;", Cond.classLink RX5 36 RX1, Cond.instantiable RX1 1, Cond.initialized RX1, Cond.fieldLink RX5 39 "KeyGuess" "filter" "LKeyGuess$Filter;", Cond.classLink RX5 43 RX3, Cond.instantiable RX3 2, Cond.initialized RX3, Cond.fieldLink RX5 46 "KeyGuess" "look" "LKeyGuess$Look;", Cond.fieldLink RX5 50 "KeyGuess" "leeway" "I", Cond.methodLink RX5 9 yX2_init, Cond.instanceMethod yX2_init, Cond.code yX2_init cX2_init 1 none, Cond.methodLink RX2 3 objectInit, Cond.arrayClass .int, Cond.fieldLink RX2 9 "KeyGuess$Keys" "cells" "[I", Cond.methodLink RX5 24 yX0_init, Cond.instanceMethod yX0_init, Cond.code yX0_init cX0_init 1 none, Cond.methodLink RX0 3 objectInit, Cond.fieldLink RX0 9 "KeyGuess$Cuts" "cells" "[I", Cond.fieldLink RX0 15 "KeyGuess$Cuts" "fewest" "[I", Cond.fieldLink RX0 18 "KeyGuess$Cuts" "lasts" "[I"]
def wsL_law_r3 : List Cond := [Cond.fieldLink RX0 21 "KeyGuess$Cuts" "slopeNums" "[I", Cond.fieldLink RX0 24 "KeyGuess$Cuts" "slopeDens" "[I", Cond.methodLink RX5 31 yX4_init, Cond.instanceMethod yX4_init, Cond.code yX4_init cX4_init 1 none, Cond.methodLink RX4 3 objectInit, Cond.classLink RX4 9 RX2, Cond.fieldLink RX4 12 "KeyGuess$Tower" "base" "LKeyGuess$Keys;", Cond.fieldLink RX4 18 "KeyGuess$Tower" "starts" "[I", Cond.fieldLink RX4 22 "KeyGuess$Tower" "froms" "[I", Cond.fieldLink RX4 25 "KeyGuess$Tower" "lasts" "[I", Cond.fieldLink RX4 28 "KeyGuess$Tower" "firsts" "[I", Cond.fieldLink RX4 31 "KeyGuess$Tower" "slopeNums" "[I", Cond.fieldLink RX4 34 "KeyGuess$Tower" "slopeDens" "[I", Cond.methodLink RX4 11 yX2_init, Cond.instanceMethod yX1_init, Cond.code yX1_init cX1_init 1 none, Cond.methodLink RX1 1 objectInit, Cond.instanceMethod yX3_init, Cond.code yX3_init cX3_init 1 none, Cond.methodLink RX3 3 objectInit, Cond.methodLink RL 12 yX6_init, Cond.instanceMethod yX6_init, Cond.code yX6_init cX6_init 1 none]
def wsL_law_r4 : List Cond := [Cond.methodLink RX6 1 objectInit, Cond.fieldLink RX6 7 "KeyGuessModel" "row" "[I", Cond.fieldLink RX6 13 "KeyGuessModel" "e" "I", Cond.fieldLink RX6 17 "KeyGuessModel" "news" "[I", Cond.fieldLink RX6 20 "KeyGuessModel" "olds" "[I", Cond.arrayClass .boolean, Cond.fieldLink RX6 23 "KeyGuessModel" "bits" "[Z", Cond.fieldLink RX6 27 "KeyGuessModel" "now" "[I", Cond.fieldLink RX6 30 "KeyGuessModel" "keys" "[I", Cond.fieldLink RX6 33 "KeyGuessModel" "reach" "[I", Cond.fieldLink RX6 36 "KeyGuessModel" "fewest" "[I", Cond.fieldLink RX6 39 "KeyGuessModel" "pieceMany" "[I", Cond.fieldLink RX6 42 "KeyGuessModel" "firsts" "[I", Cond.fieldLink RX6 45 "KeyGuessModel" "lasts" "[I", Cond.fieldLink RX6 48 "KeyGuessModel" "firstKeys" "[I", Cond.arrayClass .long, Cond.fieldLink RX6 51 "KeyGuessModel" "ups" "[J", Cond.fieldLink RX6 55 "KeyGuessModel" "belows" "[J", Cond.methodLink RX6 58 yX6_layLevels, Cond.instanceMethod yX6_layLevels, Cond.selects RX6 yX6_layLevels yX6_layLevels, Cond.code yX6_layLevels cX6_layLevels 3 none, Cond.fieldLink RX6 139 "KeyGuessModel" "levelMany" "I", Cond.fieldLink RX6 69 "KeyGuessModel" "rowMany" "I"]
def wsL_law_r5 : List Cond := [Cond.fieldLink RX6 122 "KeyGuessModel" "keyMany" "I", Cond.methodLink RX6 142 yX6_layLevel, Cond.instanceMethod yX6_layLevel, Cond.selects RX6 yX6_layLevel yX6_layLevel, Cond.code yX6_layLevel cX6_layLevel 8 none, Cond.fieldLink RX6 111 "KeyGuessModel" "lowUp" "J", Cond.fieldLink RX6 115 "KeyGuessModel" "lowBelow" "J", Cond.methodLink RX6 128 yX6_layPieces, Cond.instanceMethod yX6_layPieces, Cond.selects RX6 yX6_layPieces yX6_layPieces, Cond.code yX6_layPieces cX6_layPieces 4 none, Cond.methodLink RX6 125 yX6_keeps, Cond.instanceMethod yX6_keeps, Cond.selects RX6 yX6_keeps yX6_keeps, Cond.code yX6_keeps cX6_keeps 5 (some .boolean), Cond.methodLink RX6 118 yX6_layLow, Cond.instanceMethod yX6_layLow, Cond.selects RX6 yX6_layLow yX6_layLow, Cond.code yX6_layLow cX6_layLow 8 none, Cond.methodLink RX6 131 yX6_endOf, Cond.instanceMethod yX6_endOf, Cond.selects RX6 yX6_endOf yX6_endOf, Cond.code yX6_endOf cX6_endOf 3 (some .int), Cond.methodLink RX6 135 yX6_divisor]
def wsL_law_r6 : List Cond := [Cond.static yX6_divisor, Cond.code yX6_divisor cX6_divisor 10 (some .long), Cond.methodLink RL 13 yX5_put, Cond.instanceMethod yX5_put, Cond.selects RX5 yX5_put yX5_put, Cond.code yX5_put cX5_put 2 (some .int), Cond.fieldLink RX5 65 "KeyGuess" "oldKeys" "I", Cond.fieldLink RX5 71 "KeyGuess" "newKeys" "I", Cond.methodLink RX5 54 yX5_isNumber, Cond.static yX5_isNumber, Cond.code yX5_isNumber cX5_isNumber 1 (some .boolean), Cond.constant RX5 95 (1000000), Cond.methodLink RX5 58 yX2_has, Cond.instanceMethod yX2_has, Cond.selects RX2 yX2_has yX2_has, Cond.code yX2_has cX2_has 3 (some .boolean), Cond.fieldLink RX2 15 "KeyGuess$Keys" "size" "I", Cond.methodLink RX2 19 yX2_below, Cond.instanceMethod yX2_below, Cond.selects RX2 yX2_below yX2_below, Cond.code yX2_below cX2_below 3 (some .int), Cond.methodLink RX5 61 yX2_size, Cond.instanceMethod yX2_size, Cond.selects RX2 yX2_size yX2_size]
def wsL_law_r7 : List Cond := [Cond.code yX2_size cX2_size 1 (some .int), Cond.methodLink RX5 68 yX5_clearAsideIfFull, Cond.instanceMethod yX5_clearAsideIfFull, Cond.selects RX5 yX5_clearAsideIfFull yX5_clearAsideIfFull, Cond.code yX5_clearAsideIfFull cX5_clearAsideIfFull 1 none, Cond.methodLink RX5 82 yX5_makeRow, Cond.instanceMethod yX5_makeRow, Cond.selects RX5 yX5_makeRow yX5_makeRow, Cond.code yX5_makeRow cX5_makeRow 2 none, Cond.fieldLink RX5 85 "KeyGuess" "cost" "I", Cond.methodLink RX5 145 yX2_copy, Cond.instanceMethod yX2_copy, Cond.selects RX2 yX2_copy yX2_copy, Cond.code yX2_copy cX2_copy 3 none, Cond.methodLink RX2 26 yX2_size, Cond.methodLink RX2 23 yX2_key, Cond.instanceMethod yX2_key, Cond.selects RX2 yX2_key yX2_key, Cond.code yX2_key cX2_key 2 (some .int), Cond.methodLink RX2 29 yX2_append, Cond.instanceMethod yX2_append, Cond.selects RX2 yX2_append yX2_append, Cond.code yX2_append cX2_append 2 none, Cond.methodLink RX5 149 yX1_clear]
def wsL_law_r8 : List Cond := [Cond.instanceMethod yX1_clear, Cond.selects RX1 yX1_clear yX1_clear, Cond.code yX1_clear cX1_clear 1 none, Cond.fieldLink RX1 7 "KeyGuess$Filter" "bits" "J", Cond.methodLink RX5 92 yX2_key, Cond.methodLink RX5 78 yX1_add, Cond.instanceMethod yX1_add, Cond.selects RX1 yX1_add yX1_add, Cond.code yX1_add cX1_add 2 none, Cond.methodLink RX1 13 yX1_bitsOf, Cond.static yX1_bitsOf, Cond.code yX1_bitsOf cX1_bitsOf 1 (some .long), Cond.methodLink RX5 152 yX4_build, Cond.instanceMethod yX4_build, Cond.selects RX4 yX4_build yX4_build, Cond.code yX4_build cX4_build 6 none, Cond.fieldLink RX4 37 "KeyGuess$Tower" "height" "I", Cond.fieldLink RX4 49 "KeyGuess$Tower" "size" "I", Cond.methodLink RX4 52 yX2_copy, Cond.methodLink RX4 56 yX2_size, Cond.methodLink RX4 59 yX0_cut, Cond.instanceMethod yX0_cut, Cond.selects RX0 yX0_cut yX0_cut, Cond.code yX0_cut cX0_cut 5 none]
def wsL_law_r9 : List Cond := [Cond.methodLink RX0 33 Lib.Math.min.name, Cond.static Lib.Math.min.name, Cond.initialized "java/lang/Math", Cond.code Lib.Math.min.name Lib.Math.min.code 2 (some .int), Cond.methodLink RX0 27 yX2_size, Cond.methodLink RX0 39 yX2_key, Cond.methodLink RX0 43 yX0_cutFrom, Cond.instanceMethod yX0_cutFrom, Cond.selects RX0 yX0_cutFrom yX0_cutFrom, Cond.code yX0_cutFrom cX0_cutFrom 12 none, Cond.methodLink RX4 65 yX4_raise, Cond.instanceMethod yX4_raise, Cond.selects RX4 yX4_raise yX4_raise, Cond.code yX4_raise cX4_raise 5 none, Cond.methodLink RX4 85 yX4_lay, Cond.instanceMethod yX4_lay, Cond.selects RX4 yX4_lay yX4_lay, Cond.code yX4_lay cX4_lay 6 none, Cond.methodLink RX4 91 yX0_slopeNum, Cond.instanceMethod yX0_slopeNum, Cond.selects RX0 yX0_slopeNum yX0_slopeNum, Cond.code yX0_slopeNum cX0_slopeNum 2 (some .int), Cond.methodLink RX0 47 yX0_isRank, Cond.static yX0_isRank]
def wsL_law_r10 : List Cond := [Cond.code yX0_isRank cX0_isRank 1 (some .boolean), Cond.methodLink RX4 94 yX0_slopeDen, Cond.instanceMethod yX0_slopeDen, Cond.selects RX0 yX0_slopeDen yX0_slopeDen, Cond.code yX0_slopeDen cX0_slopeDen 2 (some .int), Cond.methodLink RX4 97 yX4_commonDivisor, Cond.static yX4_commonDivisor, Cond.code yX4_commonDivisor cX4_commonDivisor 4 (some .int), Cond.methodLink RX4 88 yX0_lastOf, Cond.instanceMethod yX0_lastOf, Cond.selects RX0 yX0_lastOf yX0_lastOf, Cond.code yX0_lastOf cX0_lastOf 2 (some .int), Cond.methodLink RX4 100 yX2_key, Cond.methodLink RX4 41 yX4_width, Cond.instanceMethod yX4_width, Cond.selects RX4 yX4_width yX4_width, Cond.code yX4_width cX4_width 2 (some .int), Cond.methodLink RX4 69 yX4_layBase, Cond.instanceMethod yX4_layBase, Cond.selects RX4 yX4_layBase yX4_layBase, Cond.code yX4_layBase cX4_layBase 3 none, Cond.methodLink RX4 103 yX2_clear, Cond.instanceMethod yX2_clear, Cond.selects RX2 yX2_clear yX2_clear]
def wsL_law_r11 : List Cond := [Cond.code yX2_clear cX2_clear 1 none, Cond.methodLink RX4 106 yX4_tell, Cond.instanceMethod yX4_tell, Cond.selects RX4 yX4_tell yX4_tell, Cond.code yX4_tell cX4_tell 5 (some .int), Cond.methodLink RX4 45 yX4_isPiece, Cond.instanceMethod yX4_isPiece, Cond.selects RX4 yX4_isPiece yX4_isPiece, Cond.code yX4_isPiece cX4_isPiece 2 (some .boolean), Cond.methodLink RX4 110 yX2_append, Cond.methodLink RX5 74 yX2_add, Cond.instanceMethod yX2_add, Cond.selects RX2 yX2_add yX2_add, Cond.code yX2_add cX2_add 4 none, Cond.methodLink RX2 33 yX2_has, Cond.methodLink RL 17 yX6_put, Cond.instanceMethod yX6_put, Cond.selects RX6 yX6_put yX6_put, Cond.code yX6_put cX6_put 3 (some .int), Cond.fieldLink RX6 66 "KeyGuessModel" "nowMany" "I", Cond.fieldLink RX6 72 "KeyGuessModel" "oldMany" "I", Cond.fieldLink RX6 83 "KeyGuessModel" "newMany" "I", Cond.methodLink RX6 95 yX6_isNumber, Cond.static yX6_isNumber]
def wsL_law_r12 : List Cond := [Cond.code yX6_isNumber cX6_isNumber 1 (some .boolean), Cond.constant RX6 61 (1000000), Cond.methodLink RX6 62 yX6_in, Cond.static yX6_in, Cond.code yX6_in cX6_in 3 (some .boolean), Cond.methodLink RX6 99 yX6_isThere, Cond.instanceMethod yX6_isThere, Cond.selects RX6 yX6_isThere yX6_isThere, Cond.code yX6_isThere cX6_isThere 2 (some .boolean), Cond.methodLink RX6 86 yX6_layNow, Cond.instanceMethod yX6_layNow, Cond.selects RX6 yX6_layNow yX6_layNow, Cond.code yX6_layNow cX6_layNow 2 none, Cond.methodLink RX6 75 yX6_placeIn, Cond.static yX6_placeIn, Cond.code yX6_placeIn cX6_placeIn 4 (some .int), Cond.methodLink RX6 79 yX6_insertNow, Cond.instanceMethod yX6_insertNow, Cond.selects RX6 yX6_insertNow yX6_insertNow, Cond.code yX6_insertNow cX6_insertNow 3 none, Cond.methodLink RX6 102 yX6_makeRow, Cond.instanceMethod yX6_makeRow, Cond.selects RX6 yX6_makeRow yX6_makeRow, Cond.code yX6_makeRow cX6_makeRow 2 none]
def wsL_law_r13 : List Cond := [Cond.fieldLink RX6 92 "KeyGuessModel" "cost" "I", Cond.methodLink RX6 89 yX6_setBits, Cond.instanceMethod yX6_setBits, Cond.selects RX6 yX6_setBits yX6_setBits, Cond.code yX6_setBits cX6_setBits 2 none, Cond.methodLink RL 18 yX5_take, Cond.instanceMethod yX5_take, Cond.selects RX5 yX5_take yX5_take, Cond.code yX5_take cX5_take 2 (some .int), Cond.methodLink RX5 79 yX2_drop, Cond.instanceMethod yX2_drop, Cond.selects RX2 yX2_drop yX2_drop, Cond.code yX2_drop cX2_drop 3 none, Cond.methodLink RL 21 yX6_take, Cond.instanceMethod yX6_take, Cond.selects RX6 yX6_take yX6_take, Cond.code yX6_take cX6_take 3 (some .int), Cond.methodLink RL 22 yX5_make, Cond.instanceMethod yX5_make, Cond.selects RX5 yX5_make yX5_make, Cond.code yX5_make cX5_make 1 (some .int), Cond.methodLink RL 26 yX6_make, Cond.instanceMethod yX6_make, Cond.selects RX6 yX6_make yX6_make]
def wsL_law_r14 : List Cond := [Cond.code yX6_make cX6_make 1 (some .int), Cond.methodLink RL 27 yX5_slack, Cond.instanceMethod yX5_slack, Cond.selects RX5 yX5_slack yX5_slack, Cond.code yX5_slack cX5_slack 3 (some .int), Cond.methodLink RL 30 yX6_slack, Cond.instanceMethod yX6_slack, Cond.selects RX6 yX6_slack yX6_slack, Cond.code yX6_slack cX6_slack 3 (some .int), Cond.methodLink RL 31 yX5_place, Cond.instanceMethod yX5_place, Cond.selects RX5 yX5_place yX5_place, Cond.code yX5_place cX5_place 2 (some .int), Cond.methodLink RX5 88 yX2_below, Cond.methodLink RL 34 yX6_place, Cond.instanceMethod yX6_place, Cond.selects RX6 yX6_place yX6_place, Cond.code yX6_place cX6_place 2 (some .int), Cond.methodLink RL 35 yX5_at, Cond.instanceMethod yX5_at, Cond.selects RX5 yX5_at yX5_at, Cond.code yX5_at cX5_at 2 (some .int), Cond.methodLink RL 38 yX6_at, Cond.instanceMethod yX6_at]
def wsL_law_r15 : List Cond := [Cond.selects RX6 yX6_at yX6_at, Cond.code yX6_at cX6_at 2 (some .int), Cond.methodLink RL 39 yX5_range, Cond.instanceMethod yX5_range, Cond.selects RX5 yX5_range yX5_range, Cond.code yX5_range cX5_range 3 (some .int), Cond.methodLink RX5 96 yX5_isSpan, Cond.static yX5_isSpan, Cond.code yX5_isSpan cX5_isSpan 3 (some .boolean), Cond.methodLink RX5 100 yX2_within, Cond.instanceMethod yX2_within, Cond.selects RX2 yX2_within yX2_within, Cond.code yX2_within cX2_within 3 (some .int), Cond.methodLink RL 43 yX6_range, Cond.instanceMethod yX6_range, Cond.selects RX6 yX6_range yX6_range, Cond.code yX6_range cX6_range 5 (some .int), Cond.methodLink RX6 105 yX6_isSpan, Cond.static yX6_isSpan, Cond.code yX6_isSpan cX6_isSpan 2 (some .boolean), Cond.methodLink RL 44 yX5_sum, Cond.instanceMethod yX5_sum, Cond.selects RX5 yX5_sum yX5_sum, Cond.code yX5_sum cX5_sum 3 (some .long)]
def wsL_law_r16 : List Cond := [Cond.constantLong RX5 104 (-2), Cond.methodLink RX5 106 yX2_total, Cond.instanceMethod yX2_total, Cond.selects RX2 yX2_total yX2_total, Cond.code yX2_total cX2_total 7 (some .long), Cond.methodLink RL 48 yX6_sum, Cond.instanceMethod yX6_sum, Cond.selects RX6 yX6_sum yX6_sum, Cond.code yX6_sum cX6_sum 6 (some .long), Cond.constantLong RX6 109 (-2), Cond.methodLink RL 49 yX5_pieces, Cond.instanceMethod yX5_pieces, Cond.selects RX5 yX5_pieces yX5_pieces, Cond.code yX5_pieces cX5_pieces 2 (some .int), Cond.methodLink RX5 110 yX4_width, Cond.methodLink RL 52 yX6_pieces, Cond.instanceMethod yX6_pieces, Cond.selects RX6 yX6_pieces yX6_pieces, Cond.code yX6_pieces cX6_pieces 2 (some .int), Cond.methodLink RX6 145 yX6_piecesAt, Cond.instanceMethod yX6_piecesAt, Cond.selects RX6 yX6_piecesAt yX6_piecesAt, Cond.code yX6_piecesAt cX6_piecesAt 2 (some .int), Cond.methodLink RL 53 yX5_piece]
def wsL_law_r17 : List Cond := [Cond.instanceMethod yX5_piece, Cond.selects RX5 yX5_piece yX5_piece, Cond.code yX5_piece cX5_piece 4 (some .int), Cond.methodLink RX5 113 yX4_tell, Cond.methodLink RL 57 yX6_piece, Cond.instanceMethod yX6_piece, Cond.selects RX6 yX6_piece yX6_piece, Cond.code yX6_piece cX6_piece 5 (some .int), Cond.methodLink RL 58 yX5_levels, Cond.instanceMethod yX5_levels, Cond.selects RX5 yX5_levels yX5_levels, Cond.code yX5_levels cX5_levels 1 (some .int), Cond.methodLink RX5 117 yX4_height, Cond.instanceMethod yX4_height, Cond.selects RX4 yX4_height yX4_height, Cond.code yX4_height cX4_height 1 (some .int), Cond.methodLink RL 61 yX6_levels, Cond.instanceMethod yX6_levels, Cond.selects RX6 yX6_levels yX6_levels, Cond.code yX6_levels cX6_levels 1 (some .int), Cond.methodLink RL 62 yX5_guess, Cond.instanceMethod yX5_guess, Cond.selects RX5 yX5_guess yX5_guess, Cond.code yX5_guess cX5_guess 2 (some .int)]
def wsL_law_r18 : List Cond := [Cond.methodLink RX5 120 yX4_pieceFor, Cond.instanceMethod yX4_pieceFor, Cond.selects RX4 yX4_pieceFor yX4_pieceFor, Cond.code yX4_pieceFor cX4_pieceFor 4 (some .int), Cond.methodLink RX5 123 yX4_rankBy, Cond.instanceMethod yX4_rankBy, Cond.selects RX4 yX4_rankBy yX4_rankBy, Cond.code yX4_rankBy cX4_rankBy 4 (some .int), Cond.methodLink RX4 79 Lib.Math.min.name, Cond.methodLink RX4 82 Lib.Math.max.name, Cond.static Lib.Math.max.name, Cond.code Lib.Math.max.name Lib.Math.max.code 2 (some .int), Cond.methodLink RX4 73 yJ9_floorDiv_7cf53, Cond.static yJ9_floorDiv_7cf53, Cond.initialized RJ9, Cond.code yJ9_floorDiv_7cf53 cJ9_floorDiv_7cf53 3 (some .int), Cond.methodLink RL 65 yX6_guess, Cond.instanceMethod yX6_guess, Cond.selects RX6 yX6_guess yX6_guess, Cond.code yX6_guess cX6_guess 2 (some .int), Cond.methodLink RX6 148 yX6_pieceFor, Cond.instanceMethod yX6_pieceFor, Cond.selects RX6 yX6_pieceFor yX6_pieceFor, Cond.code yX6_pieceFor cX6_pieceFor 4 (some .int)]
def wsL_law_r19 : List Cond := [Cond.methodLink RX6 151 yX6_guessBy, Cond.instanceMethod yX6_guessBy, Cond.selects RX6 yX6_guessBy yX6_guessBy, Cond.code yX6_guessBy cX6_guessBy 9 (some .int), Cond.methodLink RL 66 yX5_find, Cond.instanceMethod yX5_find, Cond.selects RX5 yX5_find yX5_find, Cond.code yX5_find cX5_find 2 (some .int), Cond.methodLink RX5 126 yX3_run, Cond.instanceMethod yX3_run, Cond.selects RX3 yX3_run yX3_run, Cond.code yX3_run cX3_run 9 none, Cond.fieldLink RX3 9 "KeyGuess$Look" "met" "I", Cond.fieldLink RX3 15 "KeyGuess$Look" "seen" "I", Cond.methodLink RX3 18 yX4_height, Cond.methodLink RX3 24 yX4_pieceFor, Cond.methodLink RX3 28 yX4_rankBy, Cond.methodLink RX3 32 yX3_away, Cond.static yX3_away, Cond.code yX3_away cX3_away 1 (some .int), Cond.methodLink RX3 35 yX4_fromOf, Cond.instanceMethod yX4_fromOf, Cond.selects RX4 yX4_fromOf yX4_fromOf, Cond.code yX4_fromOf cX4_fromOf 2 (some .int)]
def wsL_law_r20 : List Cond := [Cond.methodLink RX3 38 yX4_lastOf, Cond.instanceMethod yX4_lastOf, Cond.selects RX4 yX4_lastOf yX4_lastOf, Cond.code yX4_lastOf cX4_lastOf 2 (some .int), Cond.methodLink RX3 41 yX2_key, Cond.methodLink RX5 130 yX3_met, Cond.instanceMethod yX3_met, Cond.selects RX3 yX3_met yX3_met, Cond.code yX3_met cX3_met 1 (some .int), Cond.methodLink RL 69 yX6_find, Cond.instanceMethod yX6_find, Cond.selects RX6 yX6_find yX6_find, Cond.code yX6_find cX6_find 2 (some .int), Cond.methodLink RX6 158 yX6_lookFor, Cond.instanceMethod yX6_lookFor, Cond.selects RX6 yX6_lookFor yX6_lookFor, Cond.code yX6_lookFor cX6_lookFor 6 (some .int), Cond.fieldLink RX6 155 "KeyGuessModel" "looked" "I", Cond.methodLink RL 70 yX5_looks, Cond.instanceMethod yX5_looks, Cond.selects RX5 yX5_looks yX5_looks, Cond.code yX5_looks cX5_looks 2 (some .int), Cond.methodLink RX5 133 yX3_ranksSeen, Cond.instanceMethod yX3_ranksSeen]
def wsL_law_r21 : List Cond := [Cond.selects RX3 yX3_ranksSeen yX3_ranksSeen, Cond.code yX3_ranksSeen cX3_ranksSeen 1 (some .int), Cond.methodLink RL 73 yX6_looks, Cond.instanceMethod yX6_looks, Cond.selects RX6 yX6_looks yX6_looks, Cond.code yX6_looks cX6_looks 2 (some .int), Cond.methodLink RL 74 yX5_maybe, Cond.instanceMethod yX5_maybe, Cond.selects RX5 yX5_maybe yX5_maybe, Cond.code yX5_maybe cX5_maybe 2 (some .int), Cond.methodLink RX5 136 yX1_passes, Cond.instanceMethod yX1_passes, Cond.selects RX1 yX1_passes yX1_passes, Cond.code yX1_passes cX1_passes 4 (some .boolean), Cond.methodLink RL 77 yX6_maybe, Cond.instanceMethod yX6_maybe, Cond.selects RX6 yX6_maybe yX6_maybe, Cond.code yX6_maybe cX6_maybe 2 (some .int), Cond.methodLink RX6 161 yX6_isMaybe, Cond.instanceMethod yX6_isMaybe, Cond.selects RX6 yX6_isMaybe yX6_isMaybe, Cond.code yX6_isMaybe cX6_isMaybe 2 (some .boolean), Cond.methodLink RL 78 yX5_wrong, Cond.instanceMethod yX5_wrong]
def wsL_law_r22 : List Cond := [Cond.selects RX5 yX5_wrong yX5_wrong, Cond.code yX5_wrong cX5_wrong 5 (some .int), Cond.methodLink RL 81 yX6_wrong, Cond.instanceMethod yX6_wrong, Cond.selects RX6 yX6_wrong yX6_wrong, Cond.code yX6_wrong cX6_wrong 5 (some .int), Cond.methodLink RL 82 yX5_poison, Cond.instanceMethod yX5_poison, Cond.selects RX5 yX5_poison yX5_poison, Cond.code yX5_poison cX5_poison 8 (some .int), Cond.methodLink RX5 139 yX5_piecesWith, Cond.instanceMethod yX5_piecesWith, Cond.selects RX5 yX5_piecesWith yX5_piecesWith, Cond.code yX5_piecesWith cX5_piecesWith 2 (some .int), Cond.methodLink RX5 156 yX0_cut, Cond.methodLink RX5 160 yX0_fewestFrom, Cond.instanceMethod yX0_fewestFrom, Cond.selects RX0 yX0_fewestFrom yX0_fewestFrom, Cond.code yX0_fewestFrom cX0_fewestFrom 2 (some .int), Cond.methodLink RL 85 yX6_poison, Cond.instanceMethod yX6_poison, Cond.selects RX6 yX6_poison yX6_poison, Cond.code yX6_poison cX6_poison 8 (some .int), Cond.methodLink RX6 164 yX6_piecesWith]
def wsL_law_r23 : List Cond := [Cond.instanceMethod yX6_piecesWith, Cond.selects RX6 yX6_piecesWith yX6_piecesWith, Cond.code yX6_piecesWith cX6_piecesWith 4 (some .int), Cond.methodLink RL 86 yX5_count, Cond.instanceMethod yX5_count, Cond.selects RX5 yX5_count yX5_count, Cond.code yX5_count cX5_count 2 (some .int), Cond.methodLink RX5 142 yX1_bitsSet, Cond.instanceMethod yX1_bitsSet, Cond.selects RX1 yX1_bitsSet yX1_bitsSet, Cond.code yX1_bitsSet cX1_bitsSet 1 (some .int), Cond.methodLink RX1 17 yJ13_bitCount_95d88, Cond.static yJ13_bitCount_95d88, Cond.initialized RJ13, Cond.code yJ13_bitCount_95d88 cJ13_bitCount_95d88 2 (some .int), Cond.constantLong RJ13 314 (6148914691236517205), Cond.constantLong RJ13 316 (3689348814741910323), Cond.constantLong RJ13 318 (1085102592571150095), Cond.methodLink RL 89 yX6_count, Cond.instanceMethod yX6_count, Cond.selects RX6 yX6_count yX6_count, Cond.code yX6_count cX6_count 4 (some .int)]
def wsL_law : List Cond := (wsL_law_r1 ++ (wsL_law_r2 ++ (wsL_law_r3 ++ (wsL_law_r4 ++ (wsL_law_r5 ++ (wsL_law_r6 ++ (wsL_law_r7 ++ (wsL_law_r8 ++ (wsL_law_r9 ++ (wsL_law_r10 ++ (wsL_law_r11 ++ (wsL_law_r12 ++ (wsL_law_r13 ++ (wsL_law_r14 ++ (wsL_law_r15 ++ (wsL_law_r16 ++ (wsL_law_r17 ++ (wsL_law_r18 ++ (wsL_law_r19 ++ (wsL_law_r20 ++ (wsL_law_r21 ++ (wsL_law_r22 ++ wsL_law_r23)))))))))))))))))))))) ++ wsX50 ++ wsX60 ++ wsX20 ++ wsX00 ++ wsX40 ++ wsX10 ++ wsX30 ++ ([] : List Cond)
theorem inlX0 : ∀ w ∈ wsX00, w ∈ wsL_law := fun _ h => List.mem_append_left _ (List.mem_append_left _ (List.mem_append_left _ (List.mem_append_left _ (List.mem_append_right _ h))))
theorem inlX1 : ∀ w ∈ wsX10, w ∈ wsL_law := fun _ h => List.mem_append_left _ (List.mem_append_left _ (List.mem_append_right _ h))
theorem inlX2 : ∀ w ∈ wsX20, w ∈ wsL_law := fun _ h => List.mem_append_left _ (List.mem_append_left _ (List.mem_append_left _ (List.mem_append_left _ (List.mem_append_left _ (List.mem_append_right _ h)))))
theorem inlX3 : ∀ w ∈ wsX30, w ∈ wsL_law := fun _ h => List.mem_append_left _ (List.mem_append_right _ h)
theorem inlX4 : ∀ w ∈ wsX40, w ∈ wsL_law := fun _ h => List.mem_append_left _ (List.mem_append_left _ (List.mem_append_left _ (List.mem_append_right _ h)))
theorem inlX5 : ∀ w ∈ wsX50, w ∈ wsL_law := fun _ h => List.mem_append_left _ (List.mem_append_left _ (List.mem_append_left _ (List.mem_append_left _ (List.mem_append_left _ (List.mem_append_left _ (List.mem_append_left _ (List.mem_append_right _ h)))))))
theorem inlX6 : ∀ w ∈ wsX60, w ∈ wsL_law := fun _ h => List.mem_append_left _ (List.mem_append_left _ (List.mem_append_left _ (List.mem_append_left _ (List.mem_append_left _ (List.mem_append_left _ (List.mem_append_right _ h))))))
end
section
theorem dX0_init_0 : decode cX0_init 0 = .ok (.aload_n 0, 1) := by decide +kernel
theorem dX0_init_1 : decode cX0_init 1 = .ok (.invokespecial 3, 3) := by decide +kernel
theorem dX0_init_4 : decode cX0_init 4 = .ok (.aload_n 0, 1) := by decide +kernel
theorem dX0_init_5 : decode cX0_init 5 = .ok (.bipush 60, 2) := by decide +kernel
theorem dX0_init_7 : decode cX0_init 7 = .ok (.newarray .int, 2) := by decide +kernel
theorem dX0_init_9 : decode cX0_init 9 = .ok (.putfield 9, 3) := by decide +kernel
theorem dX0_init_12 : decode cX0_init 12 = .ok (.aload_n 0, 1) := by decide +kernel
theorem dX0_init_13 : decode cX0_init 13 = .ok (.bipush 61, 2) := by decide +kernel
theorem dX0_init_15 : decode cX0_init 15 = .ok (.newarray .int, 2) := by decide +kernel
theorem dX0_init_17 : decode cX0_init 17 = .ok (.putfield 15, 3) := by decide +kernel
theorem dX0_init_20 : decode cX0_init 20 = .ok (.aload_n 0, 1) := by decide +kernel
theorem dX0_init_21 : decode cX0_init 21 = .ok (.bipush 60, 2) := by decide +kernel
theorem dX0_init_23 : decode cX0_init 23 = .ok (.newarray .int, 2) := by decide +kernel
theorem dX0_init_25 : decode cX0_init 25 = .ok (.putfield 18, 3) := by decide +kernel
theorem dX0_init_28 : decode cX0_init 28 = .ok (.aload_n 0, 1) := by decide +kernel
theorem dX0_init_29 : decode cX0_init 29 = .ok (.bipush 60, 2) := by decide +kernel
theorem dX0_init_31 : decode cX0_init 31 = .ok (.newarray .int, 2) := by decide +kernel
theorem dX0_init_33 : decode cX0_init 33 = .ok (.putfield 21, 3) := by decide +kernel
theorem dX0_init_36 : decode cX0_init 36 = .ok (.aload_n 0, 1) := by decide +kernel
theorem dX0_init_37 : decode cX0_init 37 = .ok (.bipush 60, 2) := by decide +kernel
theorem dX0_init_39 : decode cX0_init 39 = .ok (.newarray .int, 2) := by decide +kernel
theorem dX0_init_41 : decode cX0_init 41 = .ok (.putfield 24, 3) := by decide +kernel
theorem dX0_init_44 : decode cX0_init 44 = .ok (.return_, 1) := by decide +kernel
set_option maxRecDepth 20000 in
theorem ggX0_cut_X2_size : GoodIn wsX0_cut wsX2_size := goodIn_r _ [11, 12, 31, 32] (by decide +kernel) (by decide +kernel)
set_option maxRecDepth 20000 in
theorem gX0_cut_X2_size : GoodIn wsX0_cut (wsV RX0 27 RX2 yX2_size wsX2_size) := goodIn_app (goodIn_of _ (by decide +kernel)) ggX0_cut_X2_size
set_option maxRecDepth 20000 in
theorem ggX0_cut_X2_key : GoodIn wsX0_cut wsX2_key := goodIn_r _ [16, 12, 17, 31, 32] (by decide +kernel) (by decide +kernel)
set_option maxRecDepth 20000 in
theorem gX0_cut_X2_key : GoodIn wsX0_cut (wsV RX0 39 RX2 yX2_key wsX2_key) := goodIn_app (goodIn_of _ (by decide +kernel)) ggX0_cut_X2_key
set_option maxRecDepth 20000 in
theorem ggX0_cut_X0_cutFrom : GoodIn wsX0_cut wsX0_cutFrom := goodIn_r _ [22, 6, 23, 24, 25, 5, 26, 27, 28, 29, 30] (by decide +kernel) (by decide +kernel)
set_option maxRecDepth 20000 in
theorem gX0_cut_X0_cutFrom : GoodIn wsX0_cut (wsV RX0 43 RX0 yX0_cutFrom wsX0_cutFrom) := goodIn_app (goodIn_of _ (by decide +kernel)) ggX0_cut_X0_cutFrom
theorem dX0_cut_0 : decode cX0_cut 0 = .ok (.aload_n 1, 1) := by decide +kernel
theorem dX0_cut_1 : decode cX0_cut 1 = .ok (.invokevirtual 27, 3) := by decide +kernel
theorem dX0_cut_4 : decode cX0_cut 4 = .ok (.bipush 60, 2) := by decide +kernel
theorem dX0_cut_6 : decode cX0_cut 6 = .ok (.invokestatic 33, 3) := by decide +kernel
theorem dX0_cut_9 : decode cX0_cut 9 = .ok (.istore_n 3, 1) := by decide +kernel
theorem dX0_cut_10 : decode cX0_cut 10 = .ok (.iconst 0, 1) := by decide +kernel
theorem dX0_cut_11 : decode cX0_cut 11 = .ok (.istore 4, 2) := by decide +kernel
theorem dX0_cut_13 : decode cX0_cut 13 = .ok (.iload 4, 2) := by decide +kernel
theorem dX0_cut_15 : decode cX0_cut 15 = .ok (.iload_n 3, 1) := by decide +kernel
theorem dX0_cut_16 : decode cX0_cut 16 = .ok (.if_icmp .ge 22, 3) := by decide +kernel
theorem dX0_cut_19 : decode cX0_cut 19 = .ok (.aload_n 0, 1) := by decide +kernel
theorem dX0_cut_20 : decode cX0_cut 20 = .ok (.getfield 9, 3) := by decide +kernel
theorem dX0_cut_23 : decode cX0_cut 23 = .ok (.iload 4, 2) := by decide +kernel
theorem dX0_cut_25 : decode cX0_cut 25 = .ok (.aload_n 1, 1) := by decide +kernel
theorem dX0_cut_26 : decode cX0_cut 26 = .ok (.iload 4, 2) := by decide +kernel
theorem dX0_cut_28 : decode cX0_cut 28 = .ok (.invokevirtual 39, 3) := by decide +kernel
theorem dX0_cut_31 : decode cX0_cut 31 = .ok (.iastore, 1) := by decide +kernel
theorem dX0_cut_32 : decode cX0_cut 32 = .ok (.iinc 4 1, 3) := by decide +kernel
theorem dX0_cut_35 : decode cX0_cut 35 = .ok (.goto (-22), 3) := by decide +kernel
theorem dX0_cut_38 : decode cX0_cut 38 = .ok (.aload_n 0, 1) := by decide +kernel
theorem dX0_cut_39 : decode cX0_cut 39 = .ok (.getfield 15, 3) := by decide +kernel
theorem dX0_cut_42 : decode cX0_cut 42 = .ok (.iload_n 3, 1) := by decide +kernel
theorem dX0_cut_43 : decode cX0_cut 43 = .ok (.iconst 0, 1) := by decide +kernel
theorem dX0_cut_44 : decode cX0_cut 44 = .ok (.iastore, 1) := by decide +kernel
theorem dX0_cut_45 : decode cX0_cut 45 = .ok (.iload_n 3, 1) := by decide +kernel
theorem dX0_cut_46 : decode cX0_cut 46 = .ok (.iconst 1, 1) := by decide +kernel
theorem dX0_cut_47 : decode cX0_cut 47 = .ok (.isub, 1) := by decide +kernel
theorem dX0_cut_48 : decode cX0_cut 48 = .ok (.istore 4, 2) := by decide +kernel
theorem dX0_cut_50 : decode cX0_cut 50 = .ok (.iload 4, 2) := by decide +kernel
theorem dX0_cut_52 : decode cX0_cut 52 = .ok (.ifCond .lt 17, 3) := by decide +kernel
theorem dX0_cut_55 : decode cX0_cut 55 = .ok (.aload_n 0, 1) := by decide +kernel
theorem dX0_cut_56 : decode cX0_cut 56 = .ok (.iload 4, 2) := by decide +kernel
theorem dX0_cut_58 : decode cX0_cut 58 = .ok (.iload_n 3, 1) := by decide +kernel
theorem dX0_cut_59 : decode cX0_cut 59 = .ok (.iload_n 2, 1) := by decide +kernel
theorem dX0_cut_60 : decode cX0_cut 60 = .ok (.invokevirtual 43, 3) := by decide +kernel
theorem dX0_cut_63 : decode cX0_cut 63 = .ok (.iinc 4 (-1), 3) := by decide +kernel
theorem dX0_cut_66 : decode cX0_cut 66 = .ok (.goto (-16), 3) := by decide +kernel
theorem dX0_cut_69 : decode cX0_cut 69 = .ok (.return_, 1) := by decide +kernel
set_option maxRecDepth 20000 in
theorem ggX0_fewestFrom_X0_isRank : GoodIn wsX0_fewestFrom wsX0_isRank := goodIn_r _ [5] (by decide +kernel) (by decide +kernel)
set_option maxRecDepth 20000 in
theorem gX0_fewestFrom_X0_isRank : GoodIn wsX0_fewestFrom (va_wsS RX0 47 yX0_isRank wsX0_isRank) := goodIn_app (goodIn_of _ (by decide +kernel)) ggX0_fewestFrom_X0_isRank
theorem dX0_fewestFrom_0 : decode cX0_fewestFrom 0 = .ok (.iload_n 1, 1) := by decide +kernel
theorem dX0_fewestFrom_1 : decode cX0_fewestFrom 1 = .ok (.invokestatic 47, 3) := by decide +kernel
theorem dX0_fewestFrom_4 : decode cX0_fewestFrom 4 = .ok (.ifCond .eq 12, 3) := by decide +kernel
theorem dX0_fewestFrom_7 : decode cX0_fewestFrom 7 = .ok (.aload_n 0, 1) := by decide +kernel
theorem dX0_fewestFrom_8 : decode cX0_fewestFrom 8 = .ok (.getfield 15, 3) := by decide +kernel
theorem dX0_fewestFrom_11 : decode cX0_fewestFrom 11 = .ok (.iload_n 1, 1) := by decide +kernel
theorem dX0_fewestFrom_12 : decode cX0_fewestFrom 12 = .ok (.iaload, 1) := by decide +kernel
theorem dX0_fewestFrom_13 : decode cX0_fewestFrom 13 = .ok (.goto 4, 3) := by decide +kernel
theorem dX0_fewestFrom_16 : decode cX0_fewestFrom 16 = .ok (.iconst 0, 1) := by decide +kernel
theorem dX0_fewestFrom_17 : decode cX0_fewestFrom 17 = .ok (.ireturn, 1) := by decide +kernel
set_option maxRecDepth 20000 in
theorem ggX0_lastOf_X0_isRank : GoodIn wsX0_lastOf wsX0_isRank := goodIn_r _ [5] (by decide +kernel) (by decide +kernel)
set_option maxRecDepth 20000 in
theorem gX0_lastOf_X0_isRank : GoodIn wsX0_lastOf (va_wsS RX0 47 yX0_isRank wsX0_isRank) := goodIn_app (goodIn_of _ (by decide +kernel)) ggX0_lastOf_X0_isRank
theorem dX0_lastOf_0 : decode cX0_lastOf 0 = .ok (.iload_n 1, 1) := by decide +kernel
theorem dX0_lastOf_1 : decode cX0_lastOf 1 = .ok (.invokestatic 47, 3) := by decide +kernel
theorem dX0_lastOf_4 : decode cX0_lastOf 4 = .ok (.ifCond .eq 12, 3) := by decide +kernel
theorem dX0_lastOf_7 : decode cX0_lastOf 7 = .ok (.aload_n 0, 1) := by decide +kernel
theorem dX0_lastOf_8 : decode cX0_lastOf 8 = .ok (.getfield 18, 3) := by decide +kernel
theorem dX0_lastOf_11 : decode cX0_lastOf 11 = .ok (.iload_n 1, 1) := by decide +kernel
theorem dX0_lastOf_12 : decode cX0_lastOf 12 = .ok (.iaload, 1) := by decide +kernel
theorem dX0_lastOf_13 : decode cX0_lastOf 13 = .ok (.goto 4, 3) := by decide +kernel
theorem dX0_lastOf_16 : decode cX0_lastOf 16 = .ok (.iload_n 1, 1) := by decide +kernel
theorem dX0_lastOf_17 : decode cX0_lastOf 17 = .ok (.ireturn, 1) := by decide +kernel
set_option maxRecDepth 20000 in
theorem ggX0_slopeNum_X0_isRank : GoodIn wsX0_slopeNum wsX0_isRank := goodIn_r _ [5] (by decide +kernel) (by decide +kernel)
set_option maxRecDepth 20000 in
theorem gX0_slopeNum_X0_isRank : GoodIn wsX0_slopeNum (va_wsS RX0 47 yX0_isRank wsX0_isRank) := goodIn_app (goodIn_of _ (by decide +kernel)) ggX0_slopeNum_X0_isRank
theorem dX0_slopeNum_0 : decode cX0_slopeNum 0 = .ok (.iload_n 1, 1) := by decide +kernel
theorem dX0_slopeNum_1 : decode cX0_slopeNum 1 = .ok (.invokestatic 47, 3) := by decide +kernel
theorem dX0_slopeNum_4 : decode cX0_slopeNum 4 = .ok (.ifCond .eq 12, 3) := by decide +kernel
theorem dX0_slopeNum_7 : decode cX0_slopeNum 7 = .ok (.aload_n 0, 1) := by decide +kernel
theorem dX0_slopeNum_8 : decode cX0_slopeNum 8 = .ok (.getfield 21, 3) := by decide +kernel
theorem dX0_slopeNum_11 : decode cX0_slopeNum 11 = .ok (.iload_n 1, 1) := by decide +kernel
theorem dX0_slopeNum_12 : decode cX0_slopeNum 12 = .ok (.iaload, 1) := by decide +kernel
theorem dX0_slopeNum_13 : decode cX0_slopeNum 13 = .ok (.goto 4, 3) := by decide +kernel
theorem dX0_slopeNum_16 : decode cX0_slopeNum 16 = .ok (.iconst 0, 1) := by decide +kernel
theorem dX0_slopeNum_17 : decode cX0_slopeNum 17 = .ok (.ireturn, 1) := by decide +kernel
set_option maxRecDepth 20000 in
theorem ggX0_slopeDen_X0_isRank : GoodIn wsX0_slopeDen wsX0_isRank := goodIn_r _ [5] (by decide +kernel) (by decide +kernel)
set_option maxRecDepth 20000 in
theorem gX0_slopeDen_X0_isRank : GoodIn wsX0_slopeDen (va_wsS RX0 47 yX0_isRank wsX0_isRank) := goodIn_app (goodIn_of _ (by decide +kernel)) ggX0_slopeDen_X0_isRank
theorem dX0_slopeDen_0 : decode cX0_slopeDen 0 = .ok (.iload_n 1, 1) := by decide +kernel
theorem dX0_slopeDen_1 : decode cX0_slopeDen 1 = .ok (.invokestatic 47, 3) := by decide +kernel
theorem dX0_slopeDen_4 : decode cX0_slopeDen 4 = .ok (.ifCond .eq 12, 3) := by decide +kernel
theorem dX0_slopeDen_7 : decode cX0_slopeDen 7 = .ok (.aload_n 0, 1) := by decide +kernel
theorem dX0_slopeDen_8 : decode cX0_slopeDen 8 = .ok (.getfield 24, 3) := by decide +kernel
theorem dX0_slopeDen_11 : decode cX0_slopeDen 11 = .ok (.iload_n 1, 1) := by decide +kernel
theorem dX0_slopeDen_12 : decode cX0_slopeDen 12 = .ok (.iaload, 1) := by decide +kernel
theorem dX0_slopeDen_13 : decode cX0_slopeDen 13 = .ok (.goto 4, 3) := by decide +kernel
theorem dX0_slopeDen_16 : decode cX0_slopeDen 16 = .ok (.iconst 1, 1) := by decide +kernel
theorem dX0_slopeDen_17 : decode cX0_slopeDen 17 = .ok (.ireturn, 1) := by decide +kernel
theorem dX0_isRank_0 : decode cX0_isRank 0 = .ok (.iload_n 0, 1) := by decide +kernel
theorem dX0_isRank_1 : decode cX0_isRank 1 = .ok (.ifCond .lt 13, 3) := by decide +kernel
theorem dX0_isRank_4 : decode cX0_isRank 4 = .ok (.iload_n 0, 1) := by decide +kernel
theorem dX0_isRank_5 : decode cX0_isRank 5 = .ok (.bipush 60, 2) := by decide +kernel
theorem dX0_isRank_7 : decode cX0_isRank 7 = .ok (.if_icmp .ge 7, 3) := by decide +kernel
theorem dX0_isRank_10 : decode cX0_isRank 10 = .ok (.iconst 1, 1) := by decide +kernel
theorem dX0_isRank_11 : decode cX0_isRank 11 = .ok (.goto 4, 3) := by decide +kernel
theorem dX0_isRank_14 : decode cX0_isRank 14 = .ok (.iconst 0, 1) := by decide +kernel
theorem dX0_isRank_15 : decode cX0_isRank 15 = .ok (.ireturn, 1) := by decide +kernel
theorem dX0_cutFrom_0 : decode cX0_cutFrom 0 = .ok (.iload_n 1, 1) := by decide +kernel
theorem dX0_cutFrom_1 : decode cX0_cutFrom 1 = .ok (.ifCond .lt 14, 3) := by decide +kernel
theorem dX0_cutFrom_4 : decode cX0_cutFrom 4 = .ok (.iload_n 1, 1) := by decide +kernel
theorem dX0_cutFrom_5 : decode cX0_cutFrom 5 = .ok (.iload_n 2, 1) := by decide +kernel
theorem dX0_cutFrom_6 : decode cX0_cutFrom 6 = .ok (.if_icmp .ge 9, 3) := by decide +kernel
theorem dX0_cutFrom_9 : decode cX0_cutFrom 9 = .ok (.iload_n 2, 1) := by decide +kernel
theorem dX0_cutFrom_10 : decode cX0_cutFrom 10 = .ok (.bipush 60, 2) := by decide +kernel
theorem dX0_cutFrom_12 : decode cX0_cutFrom 12 = .ok (.if_icmp .le 4, 3) := by decide +kernel
theorem dX0_cutFrom_15 : decode cX0_cutFrom 15 = .ok (.return_, 1) := by decide +kernel
theorem dX0_cutFrom_16 : decode cX0_cutFrom 16 = .ok (.iconst 0, 1) := by decide +kernel
theorem dX0_cutFrom_17 : decode cX0_cutFrom 17 = .ok (.istore 4, 2) := by decide +kernel
theorem dX0_cutFrom_19 : decode cX0_cutFrom 19 = .ok (.iconst 1, 1) := by decide +kernel
theorem dX0_cutFrom_20 : decode cX0_cutFrom 20 = .ok (.istore 5, 2) := by decide +kernel
theorem dX0_cutFrom_22 : decode cX0_cutFrom 22 = .ok (.iconst 1, 1) := by decide +kernel
theorem dX0_cutFrom_23 : decode cX0_cutFrom 23 = .ok (.istore 6, 2) := by decide +kernel
theorem dX0_cutFrom_25 : decode cX0_cutFrom 25 = .ok (.iconst 0, 1) := by decide +kernel
theorem dX0_cutFrom_26 : decode cX0_cutFrom 26 = .ok (.istore 7, 2) := by decide +kernel
theorem dX0_cutFrom_28 : decode cX0_cutFrom 28 = .ok (.aload_n 0, 1) := by decide +kernel
theorem dX0_cutFrom_29 : decode cX0_cutFrom 29 = .ok (.getfield 15, 3) := by decide +kernel
theorem dX0_cutFrom_32 : decode cX0_cutFrom 32 = .ok (.iload_n 1, 1) := by decide +kernel
theorem dX0_cutFrom_33 : decode cX0_cutFrom 33 = .ok (.aload_n 0, 1) := by decide +kernel
theorem dX0_cutFrom_34 : decode cX0_cutFrom 34 = .ok (.getfield 15, 3) := by decide +kernel
theorem dX0_cutFrom_37 : decode cX0_cutFrom 37 = .ok (.iload_n 1, 1) := by decide +kernel
theorem dX0_cutFrom_38 : decode cX0_cutFrom 38 = .ok (.iconst 1, 1) := by decide +kernel
theorem dX0_cutFrom_39 : decode cX0_cutFrom 39 = .ok (.iadd, 1) := by decide +kernel
theorem dX0_cutFrom_40 : decode cX0_cutFrom 40 = .ok (.iaload, 1) := by decide +kernel
theorem dX0_cutFrom_41 : decode cX0_cutFrom 41 = .ok (.iconst 1, 1) := by decide +kernel
theorem dX0_cutFrom_42 : decode cX0_cutFrom 42 = .ok (.iadd, 1) := by decide +kernel
theorem dX0_cutFrom_43 : decode cX0_cutFrom 43 = .ok (.iastore, 1) := by decide +kernel
theorem dX0_cutFrom_44 : decode cX0_cutFrom 44 = .ok (.aload_n 0, 1) := by decide +kernel
theorem dX0_cutFrom_45 : decode cX0_cutFrom 45 = .ok (.getfield 18, 3) := by decide +kernel
theorem dX0_cutFrom_48 : decode cX0_cutFrom 48 = .ok (.iload_n 1, 1) := by decide +kernel
theorem dX0_cutFrom_49 : decode cX0_cutFrom 49 = .ok (.iload_n 1, 1) := by decide +kernel
theorem dX0_cutFrom_50 : decode cX0_cutFrom 50 = .ok (.iastore, 1) := by decide +kernel
theorem dX0_cutFrom_51 : decode cX0_cutFrom 51 = .ok (.aload_n 0, 1) := by decide +kernel
theorem dX0_cutFrom_52 : decode cX0_cutFrom 52 = .ok (.getfield 21, 3) := by decide +kernel
theorem dX0_cutFrom_55 : decode cX0_cutFrom 55 = .ok (.iload_n 1, 1) := by decide +kernel
theorem dX0_cutFrom_56 : decode cX0_cutFrom 56 = .ok (.iload 4, 2) := by decide +kernel
theorem dX0_cutFrom_58 : decode cX0_cutFrom 58 = .ok (.iastore, 1) := by decide +kernel
theorem dX0_cutFrom_59 : decode cX0_cutFrom 59 = .ok (.aload_n 0, 1) := by decide +kernel
theorem dX0_cutFrom_60 : decode cX0_cutFrom 60 = .ok (.getfield 24, 3) := by decide +kernel
theorem dX0_cutFrom_63 : decode cX0_cutFrom 63 = .ok (.iload_n 1, 1) := by decide +kernel
theorem dX0_cutFrom_64 : decode cX0_cutFrom 64 = .ok (.iload 5, 2) := by decide +kernel
theorem dX0_cutFrom_66 : decode cX0_cutFrom 66 = .ok (.iastore, 1) := by decide +kernel
theorem dX0_cutFrom_67 : decode cX0_cutFrom 67 = .ok (.iload_n 1, 1) := by decide +kernel
theorem dX0_cutFrom_68 : decode cX0_cutFrom 68 = .ok (.iconst 1, 1) := by decide +kernel
theorem dX0_cutFrom_69 : decode cX0_cutFrom 69 = .ok (.iadd, 1) := by decide +kernel
theorem dX0_cutFrom_70 : decode cX0_cutFrom 70 = .ok (.istore 8, 2) := by decide +kernel
theorem dX0_cutFrom_72 : decode cX0_cutFrom 72 = .ok (.iload 8, 2) := by decide +kernel
theorem dX0_cutFrom_74 : decode cX0_cutFrom 74 = .ok (.iload_n 2, 1) := by decide +kernel
theorem dX0_cutFrom_75 : decode cX0_cutFrom 75 = .ok (.if_icmp .ge 160, 3) := by decide +kernel
theorem dX0_cutFrom_78 : decode cX0_cutFrom 78 = .ok (.aload_n 0, 1) := by decide +kernel
theorem dX0_cutFrom_79 : decode cX0_cutFrom 79 = .ok (.getfield 9, 3) := by decide +kernel
theorem dX0_cutFrom_82 : decode cX0_cutFrom 82 = .ok (.iload 8, 2) := by decide +kernel
theorem dX0_cutFrom_84 : decode cX0_cutFrom 84 = .ok (.iaload, 1) := by decide +kernel
theorem dX0_cutFrom_85 : decode cX0_cutFrom 85 = .ok (.aload_n 0, 1) := by decide +kernel
theorem dX0_cutFrom_86 : decode cX0_cutFrom 86 = .ok (.getfield 9, 3) := by decide +kernel
theorem dX0_cutFrom_89 : decode cX0_cutFrom 89 = .ok (.iload_n 1, 1) := by decide +kernel
theorem dX0_cutFrom_90 : decode cX0_cutFrom 90 = .ok (.iaload, 1) := by decide +kernel
theorem dX0_cutFrom_91 : decode cX0_cutFrom 91 = .ok (.isub, 1) := by decide +kernel
theorem dX0_cutFrom_92 : decode cX0_cutFrom 92 = .ok (.istore 9, 2) := by decide +kernel
theorem dX0_cutFrom_94 : decode cX0_cutFrom 94 = .ok (.iload 8, 2) := by decide +kernel
theorem dX0_cutFrom_96 : decode cX0_cutFrom 96 = .ok (.iload_n 1, 1) := by decide +kernel
theorem dX0_cutFrom_97 : decode cX0_cutFrom 97 = .ok (.isub, 1) := by decide +kernel
theorem dX0_cutFrom_98 : decode cX0_cutFrom 98 = .ok (.iload_n 3, 1) := by decide +kernel
theorem dX0_cutFrom_99 : decode cX0_cutFrom 99 = .ok (.isub, 1) := by decide +kernel
theorem dX0_cutFrom_100 : decode cX0_cutFrom 100 = .ok (.istore 10, 2) := by decide +kernel
theorem dX0_cutFrom_102 : decode cX0_cutFrom 102 = .ok (.iload 8, 2) := by decide +kernel
theorem dX0_cutFrom_104 : decode cX0_cutFrom 104 = .ok (.iload_n 1, 1) := by decide +kernel
theorem dX0_cutFrom_105 : decode cX0_cutFrom 105 = .ok (.isub, 1) := by decide +kernel
theorem dX0_cutFrom_106 : decode cX0_cutFrom 106 = .ok (.iload_n 3, 1) := by decide +kernel
theorem dX0_cutFrom_107 : decode cX0_cutFrom 107 = .ok (.iadd, 1) := by decide +kernel
theorem dX0_cutFrom_108 : decode cX0_cutFrom 108 = .ok (.istore 11, 2) := by decide +kernel
theorem dX0_cutFrom_110 : decode cX0_cutFrom 110 = .ok (.iload 10, 2) := by decide +kernel
theorem dX0_cutFrom_112 : decode cX0_cutFrom 112 = .ok (.iload 5, 2) := by decide +kernel
theorem dX0_cutFrom_114 : decode cX0_cutFrom 114 = .ok (.imul, 1) := by decide +kernel
theorem dX0_cutFrom_115 : decode cX0_cutFrom 115 = .ok (.iload 4, 2) := by decide +kernel
theorem dX0_cutFrom_117 : decode cX0_cutFrom 117 = .ok (.iload 9, 2) := by decide +kernel
theorem dX0_cutFrom_119 : decode cX0_cutFrom 119 = .ok (.imul, 1) := by decide +kernel
theorem dX0_cutFrom_120 : decode cX0_cutFrom 120 = .ok (.if_icmp .le 11, 3) := by decide +kernel
theorem dX0_cutFrom_123 : decode cX0_cutFrom 123 = .ok (.iload 10, 2) := by decide +kernel
theorem dX0_cutFrom_125 : decode cX0_cutFrom 125 = .ok (.istore 4, 2) := by decide +kernel
theorem dX0_cutFrom_127 : decode cX0_cutFrom 127 = .ok (.iload 9, 2) := by decide +kernel
theorem dX0_cutFrom_129 : decode cX0_cutFrom 129 = .ok (.istore 5, 2) := by decide +kernel
theorem dX0_cutFrom_131 : decode cX0_cutFrom 131 = .ok (.iload 11, 2) := by decide +kernel
theorem dX0_cutFrom_133 : decode cX0_cutFrom 133 = .ok (.iload 7, 2) := by decide +kernel
theorem dX0_cutFrom_135 : decode cX0_cutFrom 135 = .ok (.imul, 1) := by decide +kernel
theorem dX0_cutFrom_136 : decode cX0_cutFrom 136 = .ok (.iload 6, 2) := by decide +kernel
theorem dX0_cutFrom_138 : decode cX0_cutFrom 138 = .ok (.iload 9, 2) := by decide +kernel
theorem dX0_cutFrom_140 : decode cX0_cutFrom 140 = .ok (.imul, 1) := by decide +kernel
theorem dX0_cutFrom_141 : decode cX0_cutFrom 141 = .ok (.if_icmp .ge 11, 3) := by decide +kernel
theorem dX0_cutFrom_144 : decode cX0_cutFrom 144 = .ok (.iload 11, 2) := by decide +kernel
theorem dX0_cutFrom_146 : decode cX0_cutFrom 146 = .ok (.istore 6, 2) := by decide +kernel
theorem dX0_cutFrom_148 : decode cX0_cutFrom 148 = .ok (.iload 9, 2) := by decide +kernel
theorem dX0_cutFrom_150 : decode cX0_cutFrom 150 = .ok (.istore 7, 2) := by decide +kernel
theorem dX0_cutFrom_152 : decode cX0_cutFrom 152 = .ok (.iload 4, 2) := by decide +kernel
theorem dX0_cutFrom_154 : decode cX0_cutFrom 154 = .ok (.iload 7, 2) := by decide +kernel
theorem dX0_cutFrom_156 : decode cX0_cutFrom 156 = .ok (.imul, 1) := by decide +kernel
theorem dX0_cutFrom_157 : decode cX0_cutFrom 157 = .ok (.iload 6, 2) := by decide +kernel
theorem dX0_cutFrom_159 : decode cX0_cutFrom 159 = .ok (.iload 5, 2) := by decide +kernel
theorem dX0_cutFrom_161 : decode cX0_cutFrom 161 = .ok (.imul, 1) := by decide +kernel
theorem dX0_cutFrom_162 : decode cX0_cutFrom 162 = .ok (.if_icmp .le 6, 3) := by decide +kernel
theorem dX0_cutFrom_165 : decode cX0_cutFrom 165 = .ok (.goto 70, 3) := by decide +kernel
theorem dX0_cutFrom_168 : decode cX0_cutFrom 168 = .ok (.aload_n 0, 1) := by decide +kernel
theorem dX0_cutFrom_169 : decode cX0_cutFrom 169 = .ok (.getfield 15, 3) := by decide +kernel
theorem dX0_cutFrom_172 : decode cX0_cutFrom 172 = .ok (.iload 8, 2) := by decide +kernel
theorem dX0_cutFrom_174 : decode cX0_cutFrom 174 = .ok (.iconst 1, 1) := by decide +kernel
theorem dX0_cutFrom_175 : decode cX0_cutFrom 175 = .ok (.iadd, 1) := by decide +kernel
theorem dX0_cutFrom_176 : decode cX0_cutFrom 176 = .ok (.iaload, 1) := by decide +kernel
theorem dX0_cutFrom_177 : decode cX0_cutFrom 177 = .ok (.iconst 1, 1) := by decide +kernel
theorem dX0_cutFrom_178 : decode cX0_cutFrom 178 = .ok (.iadd, 1) := by decide +kernel
theorem dX0_cutFrom_179 : decode cX0_cutFrom 179 = .ok (.aload_n 0, 1) := by decide +kernel
theorem dX0_cutFrom_180 : decode cX0_cutFrom 180 = .ok (.getfield 15, 3) := by decide +kernel
theorem dX0_cutFrom_183 : decode cX0_cutFrom 183 = .ok (.iload_n 1, 1) := by decide +kernel
theorem dX0_cutFrom_184 : decode cX0_cutFrom 184 = .ok (.iaload, 1) := by decide +kernel
theorem dX0_cutFrom_185 : decode cX0_cutFrom 185 = .ok (.if_icmp .gt 44, 3) := by decide +kernel
theorem dX0_cutFrom_188 : decode cX0_cutFrom 188 = .ok (.aload_n 0, 1) := by decide +kernel
theorem dX0_cutFrom_189 : decode cX0_cutFrom 189 = .ok (.getfield 15, 3) := by decide +kernel
theorem dX0_cutFrom_192 : decode cX0_cutFrom 192 = .ok (.iload_n 1, 1) := by decide +kernel
theorem dX0_cutFrom_193 : decode cX0_cutFrom 193 = .ok (.aload_n 0, 1) := by decide +kernel
theorem dX0_cutFrom_194 : decode cX0_cutFrom 194 = .ok (.getfield 15, 3) := by decide +kernel
theorem dX0_cutFrom_197 : decode cX0_cutFrom 197 = .ok (.iload 8, 2) := by decide +kernel
theorem dX0_cutFrom_199 : decode cX0_cutFrom 199 = .ok (.iconst 1, 1) := by decide +kernel
theorem dX0_cutFrom_200 : decode cX0_cutFrom 200 = .ok (.iadd, 1) := by decide +kernel
theorem dX0_cutFrom_201 : decode cX0_cutFrom 201 = .ok (.iaload, 1) := by decide +kernel
theorem dX0_cutFrom_202 : decode cX0_cutFrom 202 = .ok (.iconst 1, 1) := by decide +kernel
theorem dX0_cutFrom_203 : decode cX0_cutFrom 203 = .ok (.iadd, 1) := by decide +kernel
theorem dX0_cutFrom_204 : decode cX0_cutFrom 204 = .ok (.iastore, 1) := by decide +kernel
theorem dX0_cutFrom_205 : decode cX0_cutFrom 205 = .ok (.aload_n 0, 1) := by decide +kernel
theorem dX0_cutFrom_206 : decode cX0_cutFrom 206 = .ok (.getfield 18, 3) := by decide +kernel
theorem dX0_cutFrom_209 : decode cX0_cutFrom 209 = .ok (.iload_n 1, 1) := by decide +kernel
theorem dX0_cutFrom_210 : decode cX0_cutFrom 210 = .ok (.iload 8, 2) := by decide +kernel
theorem dX0_cutFrom_212 : decode cX0_cutFrom 212 = .ok (.iastore, 1) := by decide +kernel
theorem dX0_cutFrom_213 : decode cX0_cutFrom 213 = .ok (.aload_n 0, 1) := by decide +kernel
theorem dX0_cutFrom_214 : decode cX0_cutFrom 214 = .ok (.getfield 21, 3) := by decide +kernel
theorem dX0_cutFrom_217 : decode cX0_cutFrom 217 = .ok (.iload_n 1, 1) := by decide +kernel
theorem dX0_cutFrom_218 : decode cX0_cutFrom 218 = .ok (.iload 4, 2) := by decide +kernel
theorem dX0_cutFrom_220 : decode cX0_cutFrom 220 = .ok (.iastore, 1) := by decide +kernel
theorem dX0_cutFrom_221 : decode cX0_cutFrom 221 = .ok (.aload_n 0, 1) := by decide +kernel
theorem dX0_cutFrom_222 : decode cX0_cutFrom 222 = .ok (.getfield 24, 3) := by decide +kernel
theorem dX0_cutFrom_225 : decode cX0_cutFrom 225 = .ok (.iload_n 1, 1) := by decide +kernel
theorem dX0_cutFrom_226 : decode cX0_cutFrom 226 = .ok (.iload 5, 2) := by decide +kernel
theorem dX0_cutFrom_228 : decode cX0_cutFrom 228 = .ok (.iastore, 1) := by decide +kernel
theorem dX0_cutFrom_229 : decode cX0_cutFrom 229 = .ok (.iinc 8 1, 3) := by decide +kernel
theorem dX0_cutFrom_232 : decode cX0_cutFrom 232 = .ok (.goto (-160), 3) := by decide +kernel
theorem dX0_cutFrom_235 : decode cX0_cutFrom 235 = .ok (.return_, 1) := by decide +kernel
theorem dX1_init_0 : decode cX1_init 0 = .ok (.aload_n 0, 1) := by decide +kernel
theorem dX1_init_1 : decode cX1_init 1 = .ok (.invokespecial 1, 3) := by decide +kernel
theorem dX1_init_4 : decode cX1_init 4 = .ok (.return_, 1) := by decide +kernel
theorem dX1_clear_0 : decode cX1_clear 0 = .ok (.aload_n 0, 1) := by decide +kernel
theorem dX1_clear_1 : decode cX1_clear 1 = .ok (.lconst 0, 1) := by decide +kernel
theorem dX1_clear_2 : decode cX1_clear 2 = .ok (.putfield 7, 3) := by decide +kernel
theorem dX1_clear_5 : decode cX1_clear 5 = .ok (.return_, 1) := by decide +kernel
set_option maxRecDepth 20000 in
theorem ggX1_add_X1_bitsOf : GoodIn wsX1_add wsX1_bitsOf := goodIn_r _ [5] (by decide +kernel) (by decide +kernel)
set_option maxRecDepth 20000 in
theorem gX1_add_X1_bitsOf : GoodIn wsX1_add (va_wsS RX1 13 yX1_bitsOf wsX1_bitsOf) := goodIn_app (goodIn_of _ (by decide +kernel)) ggX1_add_X1_bitsOf
theorem dX1_add_0 : decode cX1_add 0 = .ok (.aload_n 0, 1) := by decide +kernel
theorem dX1_add_1 : decode cX1_add 1 = .ok (.dup, 1) := by decide +kernel
theorem dX1_add_2 : decode cX1_add 2 = .ok (.getfield 7, 3) := by decide +kernel
theorem dX1_add_5 : decode cX1_add 5 = .ok (.iload_n 1, 1) := by decide +kernel
theorem dX1_add_6 : decode cX1_add 6 = .ok (.invokestatic 13, 3) := by decide +kernel
theorem dX1_add_9 : decode cX1_add 9 = .ok (.lor, 1) := by decide +kernel
theorem dX1_add_10 : decode cX1_add 10 = .ok (.putfield 7, 3) := by decide +kernel
theorem dX1_add_13 : decode cX1_add 13 = .ok (.return_, 1) := by decide +kernel
set_option maxRecDepth 20000 in
theorem ggX1_passes_X1_bitsOf : GoodIn wsX1_passes wsX1_bitsOf := goodIn_r _ [5] (by decide +kernel) (by decide +kernel)
set_option maxRecDepth 20000 in
theorem gX1_passes_X1_bitsOf : GoodIn wsX1_passes (va_wsS RX1 13 yX1_bitsOf wsX1_bitsOf) := goodIn_app (goodIn_of _ (by decide +kernel)) ggX1_passes_X1_bitsOf
theorem dX1_passes_0 : decode cX1_passes 0 = .ok (.iload_n 1, 1) := by decide +kernel
theorem dX1_passes_1 : decode cX1_passes 1 = .ok (.invokestatic 13, 3) := by decide +kernel
theorem dX1_passes_4 : decode cX1_passes 4 = .ok (.lstore_n 2, 1) := by decide +kernel
theorem dX1_passes_5 : decode cX1_passes 5 = .ok (.aload_n 0, 1) := by decide +kernel
theorem dX1_passes_6 : decode cX1_passes 6 = .ok (.getfield 7, 3) := by decide +kernel
theorem dX1_passes_9 : decode cX1_passes 9 = .ok (.lload_n 2, 1) := by decide +kernel
theorem dX1_passes_10 : decode cX1_passes 10 = .ok (.land, 1) := by decide +kernel
theorem dX1_passes_11 : decode cX1_passes 11 = .ok (.lload_n 2, 1) := by decide +kernel
theorem dX1_passes_12 : decode cX1_passes 12 = .ok (.lcmp, 1) := by decide +kernel
theorem dX1_passes_13 : decode cX1_passes 13 = .ok (.ifCond .ne 7, 3) := by decide +kernel
theorem dX1_passes_16 : decode cX1_passes 16 = .ok (.iconst 1, 1) := by decide +kernel
theorem dX1_passes_17 : decode cX1_passes 17 = .ok (.goto 4, 3) := by decide +kernel
theorem dX1_passes_20 : decode cX1_passes 20 = .ok (.iconst 0, 1) := by decide +kernel
theorem dX1_passes_21 : decode cX1_passes 21 = .ok (.ireturn, 1) := by decide +kernel
set_option maxRecDepth 20000 in
theorem ggX1_bitsSet_J13_bitCount_95d88 : GoodIn wsX1_bitsSet wsJ13_bitCount_95d88 := goodIn_r _ [5, 6, 7, 8] (by decide +kernel) (by decide +kernel)
set_option maxRecDepth 20000 in
theorem gX1_bitsSet_J13_bitCount_95d88 : GoodIn wsX1_bitsSet (va_wsS RX1 17 yJ13_bitCount_95d88 wsJ13_bitCount_95d88) := goodIn_app (goodIn_of _ (by decide +kernel)) ggX1_bitsSet_J13_bitCount_95d88
theorem dX1_bitsSet_0 : decode cX1_bitsSet 0 = .ok (.aload_n 0, 1) := by decide +kernel
theorem dX1_bitsSet_1 : decode cX1_bitsSet 1 = .ok (.getfield 7, 3) := by decide +kernel
theorem dX1_bitsSet_4 : decode cX1_bitsSet 4 = .ok (.invokestatic 17, 3) := by decide +kernel
theorem dX1_bitsSet_7 : decode cX1_bitsSet 7 = .ok (.ireturn, 1) := by decide +kernel
theorem dX1_bitsOf_0 : decode cX1_bitsOf 0 = .ok (.lconst 1, 1) := by decide +kernel
theorem dX1_bitsOf_1 : decode cX1_bitsOf 1 = .ok (.iload_n 0, 1) := by decide +kernel
theorem dX1_bitsOf_2 : decode cX1_bitsOf 2 = .ok (.bipush 61, 2) := by decide +kernel
theorem dX1_bitsOf_4 : decode cX1_bitsOf 4 = .ok (.irem, 1) := by decide +kernel
theorem dX1_bitsOf_5 : decode cX1_bitsOf 5 = .ok (.lshl, 1) := by decide +kernel
theorem dX1_bitsOf_6 : decode cX1_bitsOf 6 = .ok (.lconst 1, 1) := by decide +kernel
theorem dX1_bitsOf_7 : decode cX1_bitsOf 7 = .ok (.iload_n 0, 1) := by decide +kernel
theorem dX1_bitsOf_8 : decode cX1_bitsOf 8 = .ok (.bipush 61, 2) := by decide +kernel
theorem dX1_bitsOf_10 : decode cX1_bitsOf 10 = .ok (.idiv, 1) := by decide +kernel
theorem dX1_bitsOf_11 : decode cX1_bitsOf 11 = .ok (.bipush 64, 2) := by decide +kernel
theorem dX1_bitsOf_13 : decode cX1_bitsOf 13 = .ok (.irem, 1) := by decide +kernel
theorem dX1_bitsOf_14 : decode cX1_bitsOf 14 = .ok (.lshl, 1) := by decide +kernel
theorem dX1_bitsOf_15 : decode cX1_bitsOf 15 = .ok (.lor, 1) := by decide +kernel
theorem dX1_bitsOf_16 : decode cX1_bitsOf 16 = .ok (.lreturn, 1) := by decide +kernel
end
section
theorem dX2_init_0 : decode cX2_init 0 = .ok (.aload_n 0, 1) := by decide +kernel
theorem dX2_init_1 : decode cX2_init 1 = .ok (.invokespecial 3, 3) := by decide +kernel
theorem dX2_init_4 : decode cX2_init 4 = .ok (.aload_n 0, 1) := by decide +kernel
theorem dX2_init_5 : decode cX2_init 5 = .ok (.bipush 60, 2) := by decide +kernel
theorem dX2_init_7 : decode cX2_init 7 = .ok (.newarray .int, 2) := by decide +kernel
theorem dX2_init_9 : decode cX2_init 9 = .ok (.putfield 9, 3) := by decide +kernel
theorem dX2_init_12 : decode cX2_init 12 = .ok (.return_, 1) := by decide +kernel
theorem dX2_size_0 : decode cX2_size 0 = .ok (.aload_n 0, 1) := by decide +kernel
theorem dX2_size_1 : decode cX2_size 1 = .ok (.getfield 15, 3) := by decide +kernel
theorem dX2_size_4 : decode cX2_size 4 = .ok (.ireturn, 1) := by decide +kernel
theorem dX2_key_0 : decode cX2_key 0 = .ok (.iload_n 1, 1) := by decide +kernel
theorem dX2_key_1 : decode cX2_key 1 = .ok (.ifCond .lt 20, 3) := by decide +kernel
theorem dX2_key_4 : decode cX2_key 4 = .ok (.iload_n 1, 1) := by decide +kernel
theorem dX2_key_5 : decode cX2_key 5 = .ok (.aload_n 0, 1) := by decide +kernel
theorem dX2_key_6 : decode cX2_key 6 = .ok (.getfield 15, 3) := by decide +kernel
theorem dX2_key_9 : decode cX2_key 9 = .ok (.if_icmp .ge 12, 3) := by decide +kernel
theorem dX2_key_12 : decode cX2_key 12 = .ok (.aload_n 0, 1) := by decide +kernel
theorem dX2_key_13 : decode cX2_key 13 = .ok (.getfield 9, 3) := by decide +kernel
theorem dX2_key_16 : decode cX2_key 16 = .ok (.iload_n 1, 1) := by decide +kernel
theorem dX2_key_17 : decode cX2_key 17 = .ok (.iaload, 1) := by decide +kernel
theorem dX2_key_18 : decode cX2_key 18 = .ok (.goto 4, 3) := by decide +kernel
theorem dX2_key_21 : decode cX2_key 21 = .ok (.iconst (-1), 1) := by decide +kernel
theorem dX2_key_22 : decode cX2_key 22 = .ok (.ireturn, 1) := by decide +kernel
theorem dX2_below_0 : decode cX2_below 0 = .ok (.iconst 0, 1) := by decide +kernel
theorem dX2_below_1 : decode cX2_below 1 = .ok (.istore_n 2, 1) := by decide +kernel
theorem dX2_below_2 : decode cX2_below 2 = .ok (.iload_n 2, 1) := by decide +kernel
theorem dX2_below_3 : decode cX2_below 3 = .ok (.aload_n 0, 1) := by decide +kernel
theorem dX2_below_4 : decode cX2_below 4 = .ok (.getfield 15, 3) := by decide +kernel
theorem dX2_below_7 : decode cX2_below 7 = .ok (.if_icmp .ge 19, 3) := by decide +kernel
theorem dX2_below_10 : decode cX2_below 10 = .ok (.aload_n 0, 1) := by decide +kernel
theorem dX2_below_11 : decode cX2_below 11 = .ok (.getfield 9, 3) := by decide +kernel
theorem dX2_below_14 : decode cX2_below 14 = .ok (.iload_n 2, 1) := by decide +kernel
theorem dX2_below_15 : decode cX2_below 15 = .ok (.iaload, 1) := by decide +kernel
theorem dX2_below_16 : decode cX2_below 16 = .ok (.iload_n 1, 1) := by decide +kernel
theorem dX2_below_17 : decode cX2_below 17 = .ok (.if_icmp .ge 9, 3) := by decide +kernel
theorem dX2_below_20 : decode cX2_below 20 = .ok (.iinc 2 1, 3) := by decide +kernel
theorem dX2_below_23 : decode cX2_below 23 = .ok (.goto (-21), 3) := by decide +kernel
theorem dX2_below_26 : decode cX2_below 26 = .ok (.iload_n 2, 1) := by decide +kernel
theorem dX2_below_27 : decode cX2_below 27 = .ok (.ireturn, 1) := by decide +kernel
set_option maxRecDepth 20000 in
theorem ggX2_has_X2_below : GoodIn wsX2_has wsX2_below := goodIn_r _ [7, 1, 2, 8, 9] (by decide +kernel) (by decide +kernel)
set_option maxRecDepth 20000 in
theorem gX2_has_X2_below : GoodIn wsX2_has (wsV RX2 19 RX2 yX2_below wsX2_below) := goodIn_app (goodIn_of _ (by decide +kernel)) ggX2_has_X2_below
theorem dX2_has_0 : decode cX2_has 0 = .ok (.aload_n 0, 1) := by decide +kernel
theorem dX2_has_1 : decode cX2_has 1 = .ok (.iload_n 1, 1) := by decide +kernel
theorem dX2_has_2 : decode cX2_has 2 = .ok (.invokevirtual 19, 3) := by decide +kernel
theorem dX2_has_5 : decode cX2_has 5 = .ok (.istore_n 2, 1) := by decide +kernel
theorem dX2_has_6 : decode cX2_has 6 = .ok (.iload_n 2, 1) := by decide +kernel
theorem dX2_has_7 : decode cX2_has 7 = .ok (.aload_n 0, 1) := by decide +kernel
theorem dX2_has_8 : decode cX2_has 8 = .ok (.getfield 15, 3) := by decide +kernel
theorem dX2_has_11 : decode cX2_has 11 = .ok (.if_icmp .ge 17, 3) := by decide +kernel
theorem dX2_has_14 : decode cX2_has 14 = .ok (.aload_n 0, 1) := by decide +kernel
theorem dX2_has_15 : decode cX2_has 15 = .ok (.getfield 9, 3) := by decide +kernel
theorem dX2_has_18 : decode cX2_has 18 = .ok (.iload_n 2, 1) := by decide +kernel
theorem dX2_has_19 : decode cX2_has 19 = .ok (.iaload, 1) := by decide +kernel
theorem dX2_has_20 : decode cX2_has 20 = .ok (.iload_n 1, 1) := by decide +kernel
theorem dX2_has_21 : decode cX2_has 21 = .ok (.if_icmp .ne 7, 3) := by decide +kernel
theorem dX2_has_24 : decode cX2_has 24 = .ok (.iconst 1, 1) := by decide +kernel
theorem dX2_has_25 : decode cX2_has 25 = .ok (.goto 4, 3) := by decide +kernel
theorem dX2_has_28 : decode cX2_has 28 = .ok (.iconst 0, 1) := by decide +kernel
theorem dX2_has_29 : decode cX2_has 29 = .ok (.ireturn, 1) := by decide +kernel
set_option maxRecDepth 20000 in
theorem ggX2_within_X2_below : GoodIn wsX2_within wsX2_below := goodIn_r _ [5, 6, 7, 8, 9] (by decide +kernel) (by decide +kernel)
set_option maxRecDepth 20000 in
theorem gX2_within_X2_below : GoodIn wsX2_within (wsV RX2 19 RX2 yX2_below wsX2_below) := goodIn_app (goodIn_of _ (by decide +kernel)) ggX2_within_X2_below
theorem dX2_within_0 : decode cX2_within 0 = .ok (.aload_n 0, 1) := by decide +kernel
theorem dX2_within_1 : decode cX2_within 1 = .ok (.iload_n 2, 1) := by decide +kernel
theorem dX2_within_2 : decode cX2_within 2 = .ok (.iconst 1, 1) := by decide +kernel
theorem dX2_within_3 : decode cX2_within 3 = .ok (.iadd, 1) := by decide +kernel
theorem dX2_within_4 : decode cX2_within 4 = .ok (.invokevirtual 19, 3) := by decide +kernel
theorem dX2_within_7 : decode cX2_within 7 = .ok (.aload_n 0, 1) := by decide +kernel
theorem dX2_within_8 : decode cX2_within 8 = .ok (.iload_n 1, 1) := by decide +kernel
theorem dX2_within_9 : decode cX2_within 9 = .ok (.invokevirtual 19, 3) := by decide +kernel
theorem dX2_within_12 : decode cX2_within 12 = .ok (.isub, 1) := by decide +kernel
theorem dX2_within_13 : decode cX2_within 13 = .ok (.ireturn, 1) := by decide +kernel
set_option maxRecDepth 20000 in
theorem ggX2_total_X2_below : GoodIn wsX2_total wsX2_below := goodIn_r _ [5, 6, 7, 12, 13] (by decide +kernel) (by decide +kernel)
set_option maxRecDepth 20000 in
theorem gX2_total_X2_below : GoodIn wsX2_total (wsV RX2 19 RX2 yX2_below wsX2_below) := goodIn_app (goodIn_of _ (by decide +kernel)) ggX2_total_X2_below
set_option maxRecDepth 20000 in
theorem ggX2_total_X2_key : GoodIn wsX2_total wsX2_key := goodIn_r _ [11, 6, 7, 12, 13] (by decide +kernel) (by decide +kernel)
set_option maxRecDepth 20000 in
theorem gX2_total_X2_key : GoodIn wsX2_total (wsV RX2 23 RX2 yX2_key wsX2_key) := goodIn_app (goodIn_of _ (by decide +kernel)) ggX2_total_X2_key
theorem dX2_total_0 : decode cX2_total 0 = .ok (.lconst 0, 1) := by decide +kernel
theorem dX2_total_1 : decode cX2_total 1 = .ok (.lstore_n 3, 1) := by decide +kernel
theorem dX2_total_2 : decode cX2_total 2 = .ok (.aload_n 0, 1) := by decide +kernel
theorem dX2_total_3 : decode cX2_total 3 = .ok (.iload_n 2, 1) := by decide +kernel
theorem dX2_total_4 : decode cX2_total 4 = .ok (.iconst 1, 1) := by decide +kernel
theorem dX2_total_5 : decode cX2_total 5 = .ok (.iadd, 1) := by decide +kernel
theorem dX2_total_6 : decode cX2_total 6 = .ok (.invokevirtual 19, 3) := by decide +kernel
theorem dX2_total_9 : decode cX2_total 9 = .ok (.istore 5, 2) := by decide +kernel
theorem dX2_total_11 : decode cX2_total 11 = .ok (.aload_n 0, 1) := by decide +kernel
theorem dX2_total_12 : decode cX2_total 12 = .ok (.iload_n 1, 1) := by decide +kernel
theorem dX2_total_13 : decode cX2_total 13 = .ok (.invokevirtual 19, 3) := by decide +kernel
theorem dX2_total_16 : decode cX2_total 16 = .ok (.istore 6, 2) := by decide +kernel
theorem dX2_total_18 : decode cX2_total 18 = .ok (.iload 6, 2) := by decide +kernel
theorem dX2_total_20 : decode cX2_total 20 = .ok (.iload 5, 2) := by decide +kernel
theorem dX2_total_22 : decode cX2_total 22 = .ok (.if_icmp .ge 19, 3) := by decide +kernel
theorem dX2_total_25 : decode cX2_total 25 = .ok (.lload_n 3, 1) := by decide +kernel
theorem dX2_total_26 : decode cX2_total 26 = .ok (.aload_n 0, 1) := by decide +kernel
theorem dX2_total_27 : decode cX2_total 27 = .ok (.iload 6, 2) := by decide +kernel
theorem dX2_total_29 : decode cX2_total 29 = .ok (.invokevirtual 23, 3) := by decide +kernel
theorem dX2_total_32 : decode cX2_total 32 = .ok (.i2l, 1) := by decide +kernel
theorem dX2_total_33 : decode cX2_total 33 = .ok (.ladd, 1) := by decide +kernel
theorem dX2_total_34 : decode cX2_total 34 = .ok (.lstore_n 3, 1) := by decide +kernel
theorem dX2_total_35 : decode cX2_total 35 = .ok (.iinc 6 1, 3) := by decide +kernel
theorem dX2_total_38 : decode cX2_total 38 = .ok (.goto (-20), 3) := by decide +kernel
theorem dX2_total_41 : decode cX2_total 41 = .ok (.lload_n 3, 1) := by decide +kernel
theorem dX2_total_42 : decode cX2_total 42 = .ok (.lreturn, 1) := by decide +kernel
theorem dX2_clear_0 : decode cX2_clear 0 = .ok (.aload_n 0, 1) := by decide +kernel
theorem dX2_clear_1 : decode cX2_clear 1 = .ok (.iconst 0, 1) := by decide +kernel
theorem dX2_clear_2 : decode cX2_clear 2 = .ok (.putfield 15, 3) := by decide +kernel
theorem dX2_clear_5 : decode cX2_clear 5 = .ok (.return_, 1) := by decide +kernel
set_option maxRecDepth 20000 in
theorem ggX2_copy_X2_size : GoodIn wsX2_copy wsX2_size := goodIn_r _ [6, 1, 16, 17] (by decide +kernel) (by decide +kernel)
set_option maxRecDepth 20000 in
theorem gX2_copy_X2_size : GoodIn wsX2_copy (wsV RX2 26 RX2 yX2_size wsX2_size) := goodIn_app (goodIn_of _ (by decide +kernel)) ggX2_copy_X2_size
set_option maxRecDepth 20000 in
theorem ggX2_copy_X2_key : GoodIn wsX2_copy wsX2_key := goodIn_r _ [10, 1, 11, 16, 17] (by decide +kernel) (by decide +kernel)
set_option maxRecDepth 20000 in
theorem gX2_copy_X2_key : GoodIn wsX2_copy (wsV RX2 23 RX2 yX2_key wsX2_key) := goodIn_app (goodIn_of _ (by decide +kernel)) ggX2_copy_X2_key
set_option maxRecDepth 20000 in
theorem ggX2_copy_X2_append : GoodIn wsX2_copy wsX2_append := goodIn_r _ [15, 1, 11, 16, 17] (by decide +kernel) (by decide +kernel)
set_option maxRecDepth 20000 in
theorem gX2_copy_X2_append : GoodIn wsX2_copy (wsV RX2 29 RX2 yX2_append wsX2_append) := goodIn_app (goodIn_of _ (by decide +kernel)) ggX2_copy_X2_append
theorem dX2_copy_0 : decode cX2_copy 0 = .ok (.aload_n 0, 1) := by decide +kernel
theorem dX2_copy_1 : decode cX2_copy 1 = .ok (.iconst 0, 1) := by decide +kernel
theorem dX2_copy_2 : decode cX2_copy 2 = .ok (.putfield 15, 3) := by decide +kernel
theorem dX2_copy_5 : decode cX2_copy 5 = .ok (.iconst 0, 1) := by decide +kernel
theorem dX2_copy_6 : decode cX2_copy 6 = .ok (.istore_n 2, 1) := by decide +kernel
theorem dX2_copy_7 : decode cX2_copy 7 = .ok (.iload_n 2, 1) := by decide +kernel
theorem dX2_copy_8 : decode cX2_copy 8 = .ok (.aload_n 1, 1) := by decide +kernel
theorem dX2_copy_9 : decode cX2_copy 9 = .ok (.invokevirtual 26, 3) := by decide +kernel
theorem dX2_copy_12 : decode cX2_copy 12 = .ok (.if_icmp .ge 18, 3) := by decide +kernel
theorem dX2_copy_15 : decode cX2_copy 15 = .ok (.aload_n 0, 1) := by decide +kernel
theorem dX2_copy_16 : decode cX2_copy 16 = .ok (.aload_n 1, 1) := by decide +kernel
theorem dX2_copy_17 : decode cX2_copy 17 = .ok (.iload_n 2, 1) := by decide +kernel
theorem dX2_copy_18 : decode cX2_copy 18 = .ok (.invokevirtual 23, 3) := by decide +kernel
theorem dX2_copy_21 : decode cX2_copy 21 = .ok (.invokevirtual 29, 3) := by decide +kernel
theorem dX2_copy_24 : decode cX2_copy 24 = .ok (.iinc 2 1, 3) := by decide +kernel
theorem dX2_copy_27 : decode cX2_copy 27 = .ok (.goto (-20), 3) := by decide +kernel
theorem dX2_copy_30 : decode cX2_copy 30 = .ok (.return_, 1) := by decide +kernel
theorem dX2_append_0 : decode cX2_append 0 = .ok (.aload_n 0, 1) := by decide +kernel
theorem dX2_append_1 : decode cX2_append 1 = .ok (.getfield 15, 3) := by decide +kernel
theorem dX2_append_4 : decode cX2_append 4 = .ok (.aload_n 0, 1) := by decide +kernel
theorem dX2_append_5 : decode cX2_append 5 = .ok (.getfield 9, 3) := by decide +kernel
theorem dX2_append_8 : decode cX2_append 8 = .ok (.arraylength, 1) := by decide +kernel
theorem dX2_append_9 : decode cX2_append 9 = .ok (.if_icmp .ge 23, 3) := by decide +kernel
theorem dX2_append_12 : decode cX2_append 12 = .ok (.aload_n 0, 1) := by decide +kernel
theorem dX2_append_13 : decode cX2_append 13 = .ok (.getfield 9, 3) := by decide +kernel
theorem dX2_append_16 : decode cX2_append 16 = .ok (.aload_n 0, 1) := by decide +kernel
theorem dX2_append_17 : decode cX2_append 17 = .ok (.getfield 15, 3) := by decide +kernel
theorem dX2_append_20 : decode cX2_append 20 = .ok (.iload_n 1, 1) := by decide +kernel
theorem dX2_append_21 : decode cX2_append 21 = .ok (.iastore, 1) := by decide +kernel
theorem dX2_append_22 : decode cX2_append 22 = .ok (.aload_n 0, 1) := by decide +kernel
theorem dX2_append_23 : decode cX2_append 23 = .ok (.dup, 1) := by decide +kernel
theorem dX2_append_24 : decode cX2_append 24 = .ok (.getfield 15, 3) := by decide +kernel
theorem dX2_append_27 : decode cX2_append 27 = .ok (.iconst 1, 1) := by decide +kernel
theorem dX2_append_28 : decode cX2_append 28 = .ok (.iadd, 1) := by decide +kernel
theorem dX2_append_29 : decode cX2_append 29 = .ok (.putfield 15, 3) := by decide +kernel
theorem dX2_append_32 : decode cX2_append 32 = .ok (.return_, 1) := by decide +kernel
set_option maxRecDepth 20000 in
theorem ggX2_add_X2_has : GoodIn wsX2_add wsX2_has := goodIn_r _ [7, 1, 2, 8, 9, 10, 6, 11, 12, 13] (by decide +kernel) (by decide +kernel)
set_option maxRecDepth 20000 in
theorem gX2_add_X2_has : GoodIn wsX2_add (wsV RX2 33 RX2 yX2_has wsX2_has) := goodIn_app (goodIn_of _ (by decide +kernel)) ggX2_add_X2_has
set_option maxRecDepth 20000 in
theorem ggX2_add_X2_below : GoodIn wsX2_add wsX2_below := goodIn_r _ [11, 1, 2, 12, 13] (by decide +kernel) (by decide +kernel)
set_option maxRecDepth 20000 in
theorem gX2_add_X2_below : GoodIn wsX2_add (wsV RX2 19 RX2 yX2_below wsX2_below) := goodIn_app (goodIn_of _ (by decide +kernel)) ggX2_add_X2_below
theorem dX2_add_0 : decode cX2_add 0 = .ok (.aload_n 0, 1) := by decide +kernel
theorem dX2_add_1 : decode cX2_add 1 = .ok (.getfield 15, 3) := by decide +kernel
theorem dX2_add_4 : decode cX2_add 4 = .ok (.aload_n 0, 1) := by decide +kernel
theorem dX2_add_5 : decode cX2_add 5 = .ok (.getfield 9, 3) := by decide +kernel
theorem dX2_add_8 : decode cX2_add 8 = .ok (.arraylength, 1) := by decide +kernel
theorem dX2_add_9 : decode cX2_add 9 = .ok (.if_icmp .ge 11, 3) := by decide +kernel
theorem dX2_add_12 : decode cX2_add 12 = .ok (.aload_n 0, 1) := by decide +kernel
theorem dX2_add_13 : decode cX2_add 13 = .ok (.iload_n 1, 1) := by decide +kernel
theorem dX2_add_14 : decode cX2_add 14 = .ok (.invokevirtual 33, 3) := by decide +kernel
theorem dX2_add_17 : decode cX2_add 17 = .ok (.ifCond .eq 4, 3) := by decide +kernel
theorem dX2_add_20 : decode cX2_add 20 = .ok (.return_, 1) := by decide +kernel
theorem dX2_add_21 : decode cX2_add 21 = .ok (.aload_n 0, 1) := by decide +kernel
theorem dX2_add_22 : decode cX2_add 22 = .ok (.iload_n 1, 1) := by decide +kernel
theorem dX2_add_23 : decode cX2_add 23 = .ok (.invokevirtual 19, 3) := by decide +kernel
theorem dX2_add_26 : decode cX2_add 26 = .ok (.istore_n 2, 1) := by decide +kernel
theorem dX2_add_27 : decode cX2_add 27 = .ok (.aload_n 0, 1) := by decide +kernel
theorem dX2_add_28 : decode cX2_add 28 = .ok (.getfield 15, 3) := by decide +kernel
theorem dX2_add_31 : decode cX2_add 31 = .ok (.istore_n 3, 1) := by decide +kernel
theorem dX2_add_32 : decode cX2_add 32 = .ok (.iload_n 3, 1) := by decide +kernel
theorem dX2_add_33 : decode cX2_add 33 = .ok (.iload_n 2, 1) := by decide +kernel
theorem dX2_add_34 : decode cX2_add 34 = .ok (.if_icmp .le 23, 3) := by decide +kernel
theorem dX2_add_37 : decode cX2_add 37 = .ok (.aload_n 0, 1) := by decide +kernel
theorem dX2_add_38 : decode cX2_add 38 = .ok (.getfield 9, 3) := by decide +kernel
theorem dX2_add_41 : decode cX2_add 41 = .ok (.iload_n 3, 1) := by decide +kernel
theorem dX2_add_42 : decode cX2_add 42 = .ok (.aload_n 0, 1) := by decide +kernel
theorem dX2_add_43 : decode cX2_add 43 = .ok (.getfield 9, 3) := by decide +kernel
theorem dX2_add_46 : decode cX2_add 46 = .ok (.iload_n 3, 1) := by decide +kernel
theorem dX2_add_47 : decode cX2_add 47 = .ok (.iconst 1, 1) := by decide +kernel
theorem dX2_add_48 : decode cX2_add 48 = .ok (.isub, 1) := by decide +kernel
theorem dX2_add_49 : decode cX2_add 49 = .ok (.iaload, 1) := by decide +kernel
theorem dX2_add_50 : decode cX2_add 50 = .ok (.iastore, 1) := by decide +kernel
theorem dX2_add_51 : decode cX2_add 51 = .ok (.iinc 3 (-1), 3) := by decide +kernel
theorem dX2_add_54 : decode cX2_add 54 = .ok (.goto (-22), 3) := by decide +kernel
theorem dX2_add_57 : decode cX2_add 57 = .ok (.aload_n 0, 1) := by decide +kernel
theorem dX2_add_58 : decode cX2_add 58 = .ok (.getfield 9, 3) := by decide +kernel
theorem dX2_add_61 : decode cX2_add 61 = .ok (.iload_n 2, 1) := by decide +kernel
theorem dX2_add_62 : decode cX2_add 62 = .ok (.iload_n 1, 1) := by decide +kernel
theorem dX2_add_63 : decode cX2_add 63 = .ok (.iastore, 1) := by decide +kernel
theorem dX2_add_64 : decode cX2_add 64 = .ok (.aload_n 0, 1) := by decide +kernel
theorem dX2_add_65 : decode cX2_add 65 = .ok (.dup, 1) := by decide +kernel
theorem dX2_add_66 : decode cX2_add 66 = .ok (.getfield 15, 3) := by decide +kernel
theorem dX2_add_69 : decode cX2_add 69 = .ok (.iconst 1, 1) := by decide +kernel
theorem dX2_add_70 : decode cX2_add 70 = .ok (.iadd, 1) := by decide +kernel
theorem dX2_add_71 : decode cX2_add 71 = .ok (.putfield 15, 3) := by decide +kernel
theorem dX2_add_74 : decode cX2_add 74 = .ok (.return_, 1) := by decide +kernel
set_option maxRecDepth 20000 in
theorem ggX2_drop_X2_has : GoodIn wsX2_drop wsX2_has := goodIn_r _ [7, 1, 2, 8, 9, 10, 6, 11, 12, 13] (by decide +kernel) (by decide +kernel)
set_option maxRecDepth 20000 in
theorem gX2_drop_X2_has : GoodIn wsX2_drop (wsV RX2 33 RX2 yX2_has wsX2_has) := goodIn_app (goodIn_of _ (by decide +kernel)) ggX2_drop_X2_has
set_option maxRecDepth 20000 in
theorem ggX2_drop_X2_below : GoodIn wsX2_drop wsX2_below := goodIn_r _ [11, 1, 2, 12, 13] (by decide +kernel) (by decide +kernel)
set_option maxRecDepth 20000 in
theorem gX2_drop_X2_below : GoodIn wsX2_drop (wsV RX2 19 RX2 yX2_below wsX2_below) := goodIn_app (goodIn_of _ (by decide +kernel)) ggX2_drop_X2_below
theorem dX2_drop_0 : decode cX2_drop 0 = .ok (.aload_n 0, 1) := by decide +kernel
theorem dX2_drop_1 : decode cX2_drop 1 = .ok (.iload_n 1, 1) := by decide +kernel
theorem dX2_drop_2 : decode cX2_drop 2 = .ok (.invokevirtual 33, 3) := by decide +kernel
theorem dX2_drop_5 : decode cX2_drop 5 = .ok (.ifCond .ne 4, 3) := by decide +kernel
theorem dX2_drop_8 : decode cX2_drop 8 = .ok (.return_, 1) := by decide +kernel
theorem dX2_drop_9 : decode cX2_drop 9 = .ok (.aload_n 0, 1) := by decide +kernel
theorem dX2_drop_10 : decode cX2_drop 10 = .ok (.iload_n 1, 1) := by decide +kernel
theorem dX2_drop_11 : decode cX2_drop 11 = .ok (.invokevirtual 19, 3) := by decide +kernel
theorem dX2_drop_14 : decode cX2_drop 14 = .ok (.iconst 1, 1) := by decide +kernel
theorem dX2_drop_15 : decode cX2_drop 15 = .ok (.iadd, 1) := by decide +kernel
theorem dX2_drop_16 : decode cX2_drop 16 = .ok (.istore_n 2, 1) := by decide +kernel
theorem dX2_drop_17 : decode cX2_drop 17 = .ok (.iload_n 2, 1) := by decide +kernel
theorem dX2_drop_18 : decode cX2_drop 18 = .ok (.aload_n 0, 1) := by decide +kernel
theorem dX2_drop_19 : decode cX2_drop 19 = .ok (.getfield 15, 3) := by decide +kernel
theorem dX2_drop_22 : decode cX2_drop 22 = .ok (.if_icmp .ge 23, 3) := by decide +kernel
theorem dX2_drop_25 : decode cX2_drop 25 = .ok (.aload_n 0, 1) := by decide +kernel
theorem dX2_drop_26 : decode cX2_drop 26 = .ok (.getfield 9, 3) := by decide +kernel
theorem dX2_drop_29 : decode cX2_drop 29 = .ok (.iload_n 2, 1) := by decide +kernel
theorem dX2_drop_30 : decode cX2_drop 30 = .ok (.iconst 1, 1) := by decide +kernel
theorem dX2_drop_31 : decode cX2_drop 31 = .ok (.isub, 1) := by decide +kernel
theorem dX2_drop_32 : decode cX2_drop 32 = .ok (.aload_n 0, 1) := by decide +kernel
theorem dX2_drop_33 : decode cX2_drop 33 = .ok (.getfield 9, 3) := by decide +kernel
theorem dX2_drop_36 : decode cX2_drop 36 = .ok (.iload_n 2, 1) := by decide +kernel
theorem dX2_drop_37 : decode cX2_drop 37 = .ok (.iaload, 1) := by decide +kernel
theorem dX2_drop_38 : decode cX2_drop 38 = .ok (.iastore, 1) := by decide +kernel
theorem dX2_drop_39 : decode cX2_drop 39 = .ok (.iinc 2 1, 3) := by decide +kernel
theorem dX2_drop_42 : decode cX2_drop 42 = .ok (.goto (-25), 3) := by decide +kernel
theorem dX2_drop_45 : decode cX2_drop 45 = .ok (.aload_n 0, 1) := by decide +kernel
theorem dX2_drop_46 : decode cX2_drop 46 = .ok (.dup, 1) := by decide +kernel
theorem dX2_drop_47 : decode cX2_drop 47 = .ok (.getfield 15, 3) := by decide +kernel
theorem dX2_drop_50 : decode cX2_drop 50 = .ok (.iconst 1, 1) := by decide +kernel
theorem dX2_drop_51 : decode cX2_drop 51 = .ok (.isub, 1) := by decide +kernel
theorem dX2_drop_52 : decode cX2_drop 52 = .ok (.putfield 15, 3) := by decide +kernel
theorem dX2_drop_55 : decode cX2_drop 55 = .ok (.return_, 1) := by decide +kernel
theorem dX3_init_0 : decode cX3_init 0 = .ok (.aload_n 0, 1) := by decide +kernel
theorem dX3_init_1 : decode cX3_init 1 = .ok (.invokespecial 3, 3) := by decide +kernel
theorem dX3_init_4 : decode cX3_init 4 = .ok (.return_, 1) := by decide +kernel
theorem dX3_met_0 : decode cX3_met 0 = .ok (.aload_n 0, 1) := by decide +kernel
theorem dX3_met_1 : decode cX3_met 1 = .ok (.getfield 9, 3) := by decide +kernel
theorem dX3_met_4 : decode cX3_met 4 = .ok (.ireturn, 1) := by decide +kernel
theorem dX3_ranksSeen_0 : decode cX3_ranksSeen 0 = .ok (.aload_n 0, 1) := by decide +kernel
theorem dX3_ranksSeen_1 : decode cX3_ranksSeen 1 = .ok (.getfield 15, 3) := by decide +kernel
theorem dX3_ranksSeen_4 : decode cX3_ranksSeen 4 = .ok (.ireturn, 1) := by decide +kernel
set_option maxRecDepth 20000 in
theorem ggX3_run_X4_height : GoodIn wsX3_run wsX4_height := goodIn_r _ [7, 8, 64, 65, 66, 67, 68, 69, 70, 71, 72] (by decide +kernel) (by decide +kernel)
set_option maxRecDepth 20000 in
theorem gX3_run_X4_height : GoodIn wsX3_run (wsV RX3 18 RX4 yX4_height wsX4_height) := goodIn_app (goodIn_of _ (by decide +kernel)) ggX3_run_X4_height
set_option maxRecDepth 20000 in
theorem ggX3_run_X4_pieceFor : GoodIn wsX3_run wsX4_pieceFor := goodIn_r _ [12, 13, 14, 15, 16, 6, 17, 8, 18, 19, 20, 21, 22, 23, 64, 65, 66, 67, 68, 69, 70, 71, 72] (by decide +kernel) (by decide +kernel)
set_option maxRecDepth 20000 in
theorem gX3_run_X4_pieceFor : GoodIn wsX3_run (wsV RX3 24 RX4 yX4_pieceFor wsX4_pieceFor) := goodIn_app (goodIn_of _ (by decide +kernel)) ggX3_run_X4_pieceFor
set_option maxRecDepth 20000 in
theorem ggX3_run_X4_rankBy : GoodIn wsX3_run wsX4_rankBy := goodIn_r _ [27, 28, 29, 13, 30, 31, 32, 33, 34, 35, 36, 37, 38, 19, 20, 21, 6, 22, 23, 39, 40, 41, 42, 64, 65, 66, 67, 68, 69, 70, 71, 72] (by decide +kernel) (by decide +kernel)
set_option maxRecDepth 20000 in
theorem gX3_run_X4_rankBy : GoodIn wsX3_run (wsV RX3 28 RX4 yX4_rankBy wsX4_rankBy) := goodIn_app (goodIn_of _ (by decide +kernel)) ggX3_run_X4_rankBy
set_option maxRecDepth 20000 in
theorem ggX3_run_X3_away : GoodIn wsX3_run wsX3_away := goodIn_r _ [46] (by decide +kernel) (by decide +kernel)
set_option maxRecDepth 20000 in
theorem gX3_run_X3_away : GoodIn wsX3_run (va_wsS RX3 32 yX3_away wsX3_away) := goodIn_app (goodIn_of _ (by decide +kernel)) ggX3_run_X3_away
set_option maxRecDepth 20000 in
theorem ggX3_run_X4_fromOf : GoodIn wsX3_run wsX4_fromOf := goodIn_r _ [50, 30, 19, 20, 21, 6, 22, 23, 64, 65, 66, 67, 68, 69, 70, 71, 72] (by decide +kernel) (by decide +kernel)
set_option maxRecDepth 20000 in
theorem gX3_run_X4_fromOf : GoodIn wsX3_run (wsV RX3 35 RX4 yX4_fromOf wsX4_fromOf) := goodIn_app (goodIn_of _ (by decide +kernel)) ggX3_run_X4_fromOf
set_option maxRecDepth 20000 in
theorem ggX3_run_X4_lastOf : GoodIn wsX3_run wsX4_lastOf := goodIn_r _ [54, 31, 19, 20, 21, 6, 22, 23, 64, 65, 66, 67, 68, 69, 70, 71, 72] (by decide +kernel) (by decide +kernel)
set_option maxRecDepth 20000 in
theorem gX3_run_X4_lastOf : GoodIn wsX3_run (wsV RX3 38 RX4 yX4_lastOf wsX4_lastOf) := goodIn_app (goodIn_of _ (by decide +kernel)) ggX3_run_X4_lastOf
set_option maxRecDepth 20000 in
theorem ggX3_run_X2_key : GoodIn wsX3_run wsX2_key := goodIn_r _ [59, 60, 61, 73, 74] (by decide +kernel) (by decide +kernel)
set_option maxRecDepth 20000 in
theorem gX3_run_X2_key : GoodIn wsX3_run (wsV RX3 41 RX2 yX2_key wsX2_key) := goodIn_app (goodIn_of _ (by decide +kernel)) ggX3_run_X2_key
theorem dX3_run_0 : decode cX3_run 0 = .ok (.aload_n 0, 1) := by decide +kernel
theorem dX3_run_1 : decode cX3_run 1 = .ok (.iconst (-1), 1) := by decide +kernel
theorem dX3_run_2 : decode cX3_run 2 = .ok (.putfield 9, 3) := by decide +kernel
theorem dX3_run_5 : decode cX3_run 5 = .ok (.aload_n 0, 1) := by decide +kernel
theorem dX3_run_6 : decode cX3_run 6 = .ok (.iconst 0, 1) := by decide +kernel
theorem dX3_run_7 : decode cX3_run 7 = .ok (.putfield 15, 3) := by decide +kernel
theorem dX3_run_10 : decode cX3_run 10 = .ok (.aload_n 2, 1) := by decide +kernel
theorem dX3_run_11 : decode cX3_run 11 = .ok (.invokevirtual 18, 3) := by decide +kernel
theorem dX3_run_14 : decode cX3_run 14 = .ok (.ifCond .ne 4, 3) := by decide +kernel
theorem dX3_run_17 : decode cX3_run 17 = .ok (.return_, 1) := by decide +kernel
theorem dX3_run_18 : decode cX3_run 18 = .ok (.aload_n 2, 1) := by decide +kernel
theorem dX3_run_19 : decode cX3_run 19 = .ok (.iload_n 3, 1) := by decide +kernel
theorem dX3_run_20 : decode cX3_run 20 = .ok (.invokevirtual 24, 3) := by decide +kernel
theorem dX3_run_23 : decode cX3_run 23 = .ok (.istore 5, 2) := by decide +kernel
theorem dX3_run_25 : decode cX3_run 25 = .ok (.aload_n 2, 1) := by decide +kernel
theorem dX3_run_26 : decode cX3_run 26 = .ok (.iload 5, 2) := by decide +kernel
theorem dX3_run_28 : decode cX3_run 28 = .ok (.iload_n 3, 1) := by decide +kernel
theorem dX3_run_29 : decode cX3_run 29 = .ok (.invokevirtual 28, 3) := by decide +kernel
theorem dX3_run_32 : decode cX3_run 32 = .ok (.istore 6, 2) := by decide +kernel
theorem dX3_run_34 : decode cX3_run 34 = .ok (.iconst 0, 1) := by decide +kernel
theorem dX3_run_35 : decode cX3_run 35 = .ok (.istore 7, 2) := by decide +kernel
theorem dX3_run_37 : decode cX3_run 37 = .ok (.iload 7, 2) := by decide +kernel
theorem dX3_run_39 : decode cX3_run 39 = .ok (.iconst 2, 1) := by decide +kernel
theorem dX3_run_40 : decode cX3_run 40 = .ok (.iload 4, 2) := by decide +kernel
theorem dX3_run_42 : decode cX3_run 42 = .ok (.imul, 1) := by decide +kernel
theorem dX3_run_43 : decode cX3_run 43 = .ok (.if_icmp .gt 79, 3) := by decide +kernel
theorem dX3_run_46 : decode cX3_run 46 = .ok (.aload_n 0, 1) := by decide +kernel
theorem dX3_run_47 : decode cX3_run 47 = .ok (.getfield 9, 3) := by decide +kernel
theorem dX3_run_50 : decode cX3_run 50 = .ok (.iconst (-1), 1) := by decide +kernel
theorem dX3_run_51 : decode cX3_run 51 = .ok (.if_icmp .ne 71, 3) := by decide +kernel
theorem dX3_run_54 : decode cX3_run 54 = .ok (.iload 6, 2) := by decide +kernel
theorem dX3_run_56 : decode cX3_run 56 = .ok (.iload 7, 2) := by decide +kernel
theorem dX3_run_58 : decode cX3_run 58 = .ok (.invokestatic 32, 3) := by decide +kernel
theorem dX3_run_61 : decode cX3_run 61 = .ok (.iadd, 1) := by decide +kernel
theorem dX3_run_62 : decode cX3_run 62 = .ok (.istore 8, 2) := by decide +kernel
theorem dX3_run_64 : decode cX3_run 64 = .ok (.iload 8, 2) := by decide +kernel
theorem dX3_run_66 : decode cX3_run 66 = .ok (.aload_n 2, 1) := by decide +kernel
theorem dX3_run_67 : decode cX3_run 67 = .ok (.iload 5, 2) := by decide +kernel
theorem dX3_run_69 : decode cX3_run 69 = .ok (.invokevirtual 35, 3) := by decide +kernel
theorem dX3_run_72 : decode cX3_run 72 = .ok (.if_icmp .lt 44, 3) := by decide +kernel
theorem dX3_run_75 : decode cX3_run 75 = .ok (.iload 8, 2) := by decide +kernel
theorem dX3_run_77 : decode cX3_run 77 = .ok (.aload_n 2, 1) := by decide +kernel
theorem dX3_run_78 : decode cX3_run 78 = .ok (.iload 5, 2) := by decide +kernel
theorem dX3_run_80 : decode cX3_run 80 = .ok (.invokevirtual 38, 3) := by decide +kernel
theorem dX3_run_83 : decode cX3_run 83 = .ok (.if_icmp .gt 33, 3) := by decide +kernel
theorem dX3_run_86 : decode cX3_run 86 = .ok (.aload_n 0, 1) := by decide +kernel
theorem dX3_run_87 : decode cX3_run 87 = .ok (.dup, 1) := by decide +kernel
theorem dX3_run_88 : decode cX3_run 88 = .ok (.getfield 15, 3) := by decide +kernel
theorem dX3_run_91 : decode cX3_run 91 = .ok (.iconst 1, 1) := by decide +kernel
theorem dX3_run_92 : decode cX3_run 92 = .ok (.iadd, 1) := by decide +kernel
theorem dX3_run_93 : decode cX3_run 93 = .ok (.putfield 15, 3) := by decide +kernel
theorem dX3_run_96 : decode cX3_run 96 = .ok (.aload_n 0, 1) := by decide +kernel
theorem dX3_run_97 : decode cX3_run 97 = .ok (.aload_n 1, 1) := by decide +kernel
theorem dX3_run_98 : decode cX3_run 98 = .ok (.iload 8, 2) := by decide +kernel
theorem dX3_run_100 : decode cX3_run 100 = .ok (.invokevirtual 41, 3) := by decide +kernel
theorem dX3_run_103 : decode cX3_run 103 = .ok (.iload_n 3, 1) := by decide +kernel
theorem dX3_run_104 : decode cX3_run 104 = .ok (.if_icmp .ne 8, 3) := by decide +kernel
theorem dX3_run_107 : decode cX3_run 107 = .ok (.iload 8, 2) := by decide +kernel
theorem dX3_run_109 : decode cX3_run 109 = .ok (.goto 4, 3) := by decide +kernel
theorem dX3_run_112 : decode cX3_run 112 = .ok (.iconst (-1), 1) := by decide +kernel
theorem dX3_run_113 : decode cX3_run 113 = .ok (.putfield 9, 3) := by decide +kernel
theorem dX3_run_116 : decode cX3_run 116 = .ok (.iinc 7 1, 3) := by decide +kernel
theorem dX3_run_119 : decode cX3_run 119 = .ok (.goto (-82), 3) := by decide +kernel
theorem dX3_run_122 : decode cX3_run 122 = .ok (.return_, 1) := by decide +kernel
theorem dX3_away_0 : decode cX3_away 0 = .ok (.iload_n 0, 1) := by decide +kernel
theorem dX3_away_1 : decode cX3_away 1 = .ok (.iconst 2, 1) := by decide +kernel
theorem dX3_away_2 : decode cX3_away 2 = .ok (.irem, 1) := by decide +kernel
theorem dX3_away_3 : decode cX3_away 3 = .ok (.ifCond .ne 9, 3) := by decide +kernel
theorem dX3_away_6 : decode cX3_away 6 = .ok (.iload_n 0, 1) := by decide +kernel
theorem dX3_away_7 : decode cX3_away 7 = .ok (.iconst 2, 1) := by decide +kernel
theorem dX3_away_8 : decode cX3_away 8 = .ok (.idiv, 1) := by decide +kernel
theorem dX3_away_9 : decode cX3_away 9 = .ok (.goto 9, 3) := by decide +kernel
theorem dX3_away_12 : decode cX3_away 12 = .ok (.iload_n 0, 1) := by decide +kernel
theorem dX3_away_13 : decode cX3_away 13 = .ok (.iconst 1, 1) := by decide +kernel
theorem dX3_away_14 : decode cX3_away 14 = .ok (.iadd, 1) := by decide +kernel
theorem dX3_away_15 : decode cX3_away 15 = .ok (.ineg, 1) := by decide +kernel
theorem dX3_away_16 : decode cX3_away 16 = .ok (.iconst 2, 1) := by decide +kernel
theorem dX3_away_17 : decode cX3_away 17 = .ok (.idiv, 1) := by decide +kernel
theorem dX3_away_18 : decode cX3_away 18 = .ok (.ireturn, 1) := by decide +kernel
set_option maxRecDepth 20000 in
theorem ggX4_init_X2_init : GoodIn wsX4_init wsX2_init := goodIn_r _ [17, 18, 2, 3, 8, 19, 20, 21] (by decide +kernel) (by decide +kernel)
set_option maxRecDepth 20000 in
theorem gX4_init_X2_init : GoodIn wsX4_init (wsX2_init) := ggX4_init_X2_init
end
section
theorem dX4_init_0 : decode cX4_init 0 = .ok (.aload_n 0, 1) := by decide +kernel
theorem dX4_init_1 : decode cX4_init 1 = .ok (.invokespecial 3, 3) := by decide +kernel
theorem dX4_init_4 : decode cX4_init 4 = .ok (.aload_n 0, 1) := by decide +kernel
theorem dX4_init_5 : decode cX4_init 5 = .ok (.new 9, 3) := by decide +kernel
theorem dX4_init_8 : decode cX4_init 8 = .ok (.dup, 1) := by decide +kernel
theorem dX4_init_9 : decode cX4_init 9 = .ok (.invokespecial 11, 3) := by decide +kernel
theorem dX4_init_12 : decode cX4_init 12 = .ok (.putfield 12, 3) := by decide +kernel
theorem dX4_init_15 : decode cX4_init 15 = .ok (.aload_n 0, 1) := by decide +kernel
theorem dX4_init_16 : decode cX4_init 16 = .ok (.bipush 11, 2) := by decide +kernel
theorem dX4_init_18 : decode cX4_init 18 = .ok (.newarray .int, 2) := by decide +kernel
theorem dX4_init_20 : decode cX4_init 20 = .ok (.putfield 18, 3) := by decide +kernel
theorem dX4_init_23 : decode cX4_init 23 = .ok (.aload_n 0, 1) := by decide +kernel
theorem dX4_init_24 : decode cX4_init 24 = .ok (.bipush 60, 2) := by decide +kernel
theorem dX4_init_26 : decode cX4_init 26 = .ok (.newarray .int, 2) := by decide +kernel
theorem dX4_init_28 : decode cX4_init 28 = .ok (.putfield 22, 3) := by decide +kernel
theorem dX4_init_31 : decode cX4_init 31 = .ok (.aload_n 0, 1) := by decide +kernel
theorem dX4_init_32 : decode cX4_init 32 = .ok (.bipush 60, 2) := by decide +kernel
theorem dX4_init_34 : decode cX4_init 34 = .ok (.newarray .int, 2) := by decide +kernel
theorem dX4_init_36 : decode cX4_init 36 = .ok (.putfield 25, 3) := by decide +kernel
theorem dX4_init_39 : decode cX4_init 39 = .ok (.aload_n 0, 1) := by decide +kernel
theorem dX4_init_40 : decode cX4_init 40 = .ok (.bipush 60, 2) := by decide +kernel
theorem dX4_init_42 : decode cX4_init 42 = .ok (.newarray .int, 2) := by decide +kernel
theorem dX4_init_44 : decode cX4_init 44 = .ok (.putfield 28, 3) := by decide +kernel
theorem dX4_init_47 : decode cX4_init 47 = .ok (.aload_n 0, 1) := by decide +kernel
theorem dX4_init_48 : decode cX4_init 48 = .ok (.bipush 60, 2) := by decide +kernel
theorem dX4_init_50 : decode cX4_init 50 = .ok (.newarray .int, 2) := by decide +kernel
theorem dX4_init_52 : decode cX4_init 52 = .ok (.putfield 31, 3) := by decide +kernel
theorem dX4_init_55 : decode cX4_init 55 = .ok (.aload_n 0, 1) := by decide +kernel
theorem dX4_init_56 : decode cX4_init 56 = .ok (.bipush 60, 2) := by decide +kernel
theorem dX4_init_58 : decode cX4_init 58 = .ok (.newarray .int, 2) := by decide +kernel
theorem dX4_init_60 : decode cX4_init 60 = .ok (.putfield 34, 3) := by decide +kernel
theorem dX4_init_63 : decode cX4_init 63 = .ok (.return_, 1) := by decide +kernel
theorem dX4_height_0 : decode cX4_height 0 = .ok (.aload_n 0, 1) := by decide +kernel
theorem dX4_height_1 : decode cX4_height 1 = .ok (.getfield 37, 3) := by decide +kernel
theorem dX4_height_4 : decode cX4_height 4 = .ok (.ireturn, 1) := by decide +kernel
theorem dX4_width_0 : decode cX4_width 0 = .ok (.iload_n 1, 1) := by decide +kernel
theorem dX4_width_1 : decode cX4_width 1 = .ok (.ifCond .lt 35, 3) := by decide +kernel
theorem dX4_width_4 : decode cX4_width 4 = .ok (.iload_n 1, 1) := by decide +kernel
theorem dX4_width_5 : decode cX4_width 5 = .ok (.aload_n 0, 1) := by decide +kernel
theorem dX4_width_6 : decode cX4_width 6 = .ok (.getfield 37, 3) := by decide +kernel
theorem dX4_width_9 : decode cX4_width 9 = .ok (.if_icmp .ge 27, 3) := by decide +kernel
theorem dX4_width_12 : decode cX4_width 12 = .ok (.iload_n 1, 1) := by decide +kernel
theorem dX4_width_13 : decode cX4_width 13 = .ok (.bipush 10, 2) := by decide +kernel
theorem dX4_width_15 : decode cX4_width 15 = .ok (.if_icmp .ge 21, 3) := by decide +kernel
theorem dX4_width_18 : decode cX4_width 18 = .ok (.aload_n 0, 1) := by decide +kernel
theorem dX4_width_19 : decode cX4_width 19 = .ok (.getfield 18, 3) := by decide +kernel
theorem dX4_width_22 : decode cX4_width 22 = .ok (.iload_n 1, 1) := by decide +kernel
theorem dX4_width_23 : decode cX4_width 23 = .ok (.iconst 1, 1) := by decide +kernel
theorem dX4_width_24 : decode cX4_width 24 = .ok (.iadd, 1) := by decide +kernel
theorem dX4_width_25 : decode cX4_width 25 = .ok (.iaload, 1) := by decide +kernel
theorem dX4_width_26 : decode cX4_width 26 = .ok (.aload_n 0, 1) := by decide +kernel
theorem dX4_width_27 : decode cX4_width 27 = .ok (.getfield 18, 3) := by decide +kernel
theorem dX4_width_30 : decode cX4_width 30 = .ok (.iload_n 1, 1) := by decide +kernel
theorem dX4_width_31 : decode cX4_width 31 = .ok (.iaload, 1) := by decide +kernel
theorem dX4_width_32 : decode cX4_width 32 = .ok (.isub, 1) := by decide +kernel
theorem dX4_width_33 : decode cX4_width 33 = .ok (.goto 4, 3) := by decide +kernel
theorem dX4_width_36 : decode cX4_width 36 = .ok (.iconst 0, 1) := by decide +kernel
theorem dX4_width_37 : decode cX4_width 37 = .ok (.ireturn, 1) := by decide +kernel
set_option maxRecDepth 20000 in
theorem ggX4_tell_X4_width : GoodIn wsX4_tell wsX4_width := goodIn_r _ [11, 12, 1, 18, 19, 20, 21, 22, 23, 24, 25, 26] (by decide +kernel) (by decide +kernel)
set_option maxRecDepth 20000 in
theorem gX4_tell_X4_width : GoodIn wsX4_tell (wsV RX4 41 RX4 yX4_width wsX4_width) := goodIn_app (goodIn_of _ (by decide +kernel)) ggX4_tell_X4_width
set_option maxRecDepth 20000 in
theorem ggX4_tell_X4_isPiece : GoodIn wsX4_tell wsX4_isPiece := goodIn_r _ [16, 17, 18, 19, 20, 21, 22, 23, 24, 25, 26] (by decide +kernel) (by decide +kernel)
set_option maxRecDepth 20000 in
theorem gX4_tell_X4_isPiece : GoodIn wsX4_tell (wsV RX4 45 RX4 yX4_isPiece wsX4_isPiece) := goodIn_app (goodIn_of _ (by decide +kernel)) ggX4_tell_X4_isPiece
theorem dX4_tell_0 : decode cX4_tell 0 = .ok (.iload_n 2, 1) := by decide +kernel
theorem dX4_tell_1 : decode cX4_tell 1 = .ok (.ifCond .lt 12, 3) := by decide +kernel
theorem dX4_tell_4 : decode cX4_tell 4 = .ok (.iload_n 2, 1) := by decide +kernel
theorem dX4_tell_5 : decode cX4_tell 5 = .ok (.aload_n 0, 1) := by decide +kernel
theorem dX4_tell_6 : decode cX4_tell 6 = .ok (.iload_n 1, 1) := by decide +kernel
theorem dX4_tell_7 : decode cX4_tell 7 = .ok (.invokevirtual 41, 3) := by decide +kernel
theorem dX4_tell_10 : decode cX4_tell 10 = .ok (.if_icmp .lt 6, 3) := by decide +kernel
theorem dX4_tell_13 : decode cX4_tell 13 = .ok (.bipush (-2), 2) := by decide +kernel
theorem dX4_tell_15 : decode cX4_tell 15 = .ok (.ireturn, 1) := by decide +kernel
theorem dX4_tell_16 : decode cX4_tell 16 = .ok (.aload_n 0, 1) := by decide +kernel
theorem dX4_tell_17 : decode cX4_tell 17 = .ok (.getfield 18, 3) := by decide +kernel
theorem dX4_tell_20 : decode cX4_tell 20 = .ok (.iload_n 1, 1) := by decide +kernel
theorem dX4_tell_21 : decode cX4_tell 21 = .ok (.iaload, 1) := by decide +kernel
theorem dX4_tell_22 : decode cX4_tell 22 = .ok (.iload_n 2, 1) := by decide +kernel
theorem dX4_tell_23 : decode cX4_tell 23 = .ok (.iadd, 1) := by decide +kernel
theorem dX4_tell_24 : decode cX4_tell 24 = .ok (.istore 4, 2) := by decide +kernel
theorem dX4_tell_26 : decode cX4_tell 26 = .ok (.aload_n 0, 1) := by decide +kernel
theorem dX4_tell_27 : decode cX4_tell 27 = .ok (.iload 4, 2) := by decide +kernel
theorem dX4_tell_29 : decode cX4_tell 29 = .ok (.invokevirtual 45, 3) := by decide +kernel
theorem dX4_tell_32 : decode cX4_tell 32 = .ok (.ifCond .ne 6, 3) := by decide +kernel
theorem dX4_tell_35 : decode cX4_tell 35 = .ok (.bipush (-2), 2) := by decide +kernel
theorem dX4_tell_37 : decode cX4_tell 37 = .ok (.ireturn, 1) := by decide +kernel
theorem dX4_tell_38 : decode cX4_tell 38 = .ok (.iload_n 3, 1) := by decide +kernel
theorem dX4_tell_39 : decode cX4_tell 39 = .ok (.tableswitch 73 0 4 #[33, 41, 49, 57, 65], 33) := by decide +kernel
theorem dX4_tell_72 : decode cX4_tell 72 = .ok (.aload_n 0, 1) := by decide +kernel
theorem dX4_tell_73 : decode cX4_tell 73 = .ok (.getfield 22, 3) := by decide +kernel
theorem dX4_tell_76 : decode cX4_tell 76 = .ok (.iload 4, 2) := by decide +kernel
theorem dX4_tell_78 : decode cX4_tell 78 = .ok (.iaload, 1) := by decide +kernel
theorem dX4_tell_79 : decode cX4_tell 79 = .ok (.ireturn, 1) := by decide +kernel
theorem dX4_tell_80 : decode cX4_tell 80 = .ok (.aload_n 0, 1) := by decide +kernel
theorem dX4_tell_81 : decode cX4_tell 81 = .ok (.getfield 25, 3) := by decide +kernel
theorem dX4_tell_84 : decode cX4_tell 84 = .ok (.iload 4, 2) := by decide +kernel
theorem dX4_tell_86 : decode cX4_tell 86 = .ok (.iaload, 1) := by decide +kernel
theorem dX4_tell_87 : decode cX4_tell 87 = .ok (.ireturn, 1) := by decide +kernel
theorem dX4_tell_88 : decode cX4_tell 88 = .ok (.aload_n 0, 1) := by decide +kernel
theorem dX4_tell_89 : decode cX4_tell 89 = .ok (.getfield 28, 3) := by decide +kernel
theorem dX4_tell_92 : decode cX4_tell 92 = .ok (.iload 4, 2) := by decide +kernel
theorem dX4_tell_94 : decode cX4_tell 94 = .ok (.iaload, 1) := by decide +kernel
theorem dX4_tell_95 : decode cX4_tell 95 = .ok (.ireturn, 1) := by decide +kernel
theorem dX4_tell_96 : decode cX4_tell 96 = .ok (.aload_n 0, 1) := by decide +kernel
theorem dX4_tell_97 : decode cX4_tell 97 = .ok (.getfield 31, 3) := by decide +kernel
theorem dX4_tell_100 : decode cX4_tell 100 = .ok (.iload 4, 2) := by decide +kernel
theorem dX4_tell_102 : decode cX4_tell 102 = .ok (.iaload, 1) := by decide +kernel
theorem dX4_tell_103 : decode cX4_tell 103 = .ok (.ireturn, 1) := by decide +kernel
theorem dX4_tell_104 : decode cX4_tell 104 = .ok (.aload_n 0, 1) := by decide +kernel
theorem dX4_tell_105 : decode cX4_tell 105 = .ok (.getfield 34, 3) := by decide +kernel
theorem dX4_tell_108 : decode cX4_tell 108 = .ok (.iload 4, 2) := by decide +kernel
theorem dX4_tell_110 : decode cX4_tell 110 = .ok (.iaload, 1) := by decide +kernel
theorem dX4_tell_111 : decode cX4_tell 111 = .ok (.ireturn, 1) := by decide +kernel
theorem dX4_tell_112 : decode cX4_tell 112 = .ok (.bipush (-2), 2) := by decide +kernel
theorem dX4_tell_114 : decode cX4_tell 114 = .ok (.ireturn, 1) := by decide +kernel
set_option maxRecDepth 20000 in
theorem ggX4_build_X2_copy : GoodIn wsX4_build wsX2_copy := goodIn_r _ [8, 9, 10, 11, 12, 7, 13, 14, 15, 16, 17, 18, 19, 20, 21, 22, 108, 109] (by decide +kernel) (by decide +kernel)
set_option maxRecDepth 20000 in
theorem gX4_build_X2_copy : GoodIn wsX4_build (wsV RX4 52 RX2 yX2_copy wsX2_copy) := goodIn_app (goodIn_of _ (by decide +kernel)) ggX4_build_X2_copy
set_option maxRecDepth 20000 in
theorem ggX4_build_X2_size : GoodIn wsX4_build wsX2_size := goodIn_r _ [13, 9, 108, 109] (by decide +kernel) (by decide +kernel)
set_option maxRecDepth 20000 in
theorem gX4_build_X2_size : GoodIn wsX4_build (wsV RX4 56 RX2 yX2_size wsX2_size) := goodIn_app (goodIn_of _ (by decide +kernel)) ggX4_build_X2_size
set_option maxRecDepth 20000 in
theorem ggX4_build_X0_cut : GoodIn wsX4_build wsX0_cut := goodIn_r _ [28, 29, 30, 31, 32, 33, 34, 35, 11, 12, 7, 13, 9, 36, 15, 16, 17, 18, 37, 38, 39, 27, 40, 41, 42, 43, 110, 111, 112, 113, 114, 108, 109] (by decide +kernel) (by decide +kernel)
set_option maxRecDepth 20000 in
theorem gX4_build_X0_cut : GoodIn wsX4_build (wsV RX4 59 RX0 yX0_cut wsX0_cut) := goodIn_app (goodIn_of _ (by decide +kernel)) ggX4_build_X0_cut
set_option maxRecDepth 20000 in
theorem ggX4_build_X4_raise : GoodIn wsX4_build wsX4_raise := goodIn_r _ [48, 49, 2, 3, 1, 23, 11, 12, 7, 13, 9, 50, 51, 52, 47, 53, 54, 55, 56, 57, 58, 59, 60, 61, 27, 62, 42, 63, 64, 65, 66, 67, 68, 69, 43, 70, 71, 72, 73, 74, 75, 76, 41, 77, 15, 16, 17, 18, 99, 100, 101, 102, 103, 104, 105, 106, 107, 108, 109, 110, 111, 112, 113, 114] (by decide +kernel) (by decide +kernel)
set_option maxRecDepth 20000 in
theorem gX4_build_X4_raise : GoodIn wsX4_build (wsV RX4 65 RX4 yX4_raise wsX4_raise) := goodIn_app (goodIn_of _ (by decide +kernel)) ggX4_build_X4_raise
set_option maxRecDepth 20000 in
theorem ggX4_build_X4_width : GoodIn wsX4_build wsX4_width := goodIn_r _ [81, 1, 49, 99, 100, 101, 102, 103, 104, 105, 106, 107] (by decide +kernel) (by decide +kernel)
set_option maxRecDepth 20000 in
theorem gX4_build_X4_width : GoodIn wsX4_build (wsV RX4 41 RX4 yX4_width wsX4_width) := goodIn_app (goodIn_of _ (by decide +kernel)) ggX4_build_X4_width
set_option maxRecDepth 20000 in
theorem ggX4_build_X4_layBase : GoodIn wsX4_build wsX4_layBase := goodIn_r _ [85, 3, 86, 87, 88, 7, 89, 9, 78, 79, 80, 47, 81, 1, 49, 90, 91, 92, 93, 54, 55, 56, 57, 58, 94, 95, 96, 97, 2, 98, 20, 21, 22, 18, 99, 100, 101, 102, 103, 104, 105, 106, 107, 108, 109] (by decide +kernel) (by decide +kernel)
set_option maxRecDepth 20000 in
theorem gX4_build_X4_layBase : GoodIn wsX4_build (wsV RX4 69 RX4 yX4_layBase wsX4_layBase) := goodIn_app (goodIn_of _ (by decide +kernel)) ggX4_build_X4_layBase
theorem dX4_build_0 : decode cX4_build 0 = .ok (.aload_n 0, 1) := by decide +kernel
theorem dX4_build_1 : decode cX4_build 1 = .ok (.iconst 0, 1) := by decide +kernel
theorem dX4_build_2 : decode cX4_build 2 = .ok (.putfield 37, 3) := by decide +kernel
theorem dX4_build_5 : decode cX4_build 5 = .ok (.aload_n 0, 1) := by decide +kernel
theorem dX4_build_6 : decode cX4_build 6 = .ok (.iconst 0, 1) := by decide +kernel
theorem dX4_build_7 : decode cX4_build 7 = .ok (.putfield 49, 3) := by decide +kernel
theorem dX4_build_10 : decode cX4_build 10 = .ok (.aload_n 0, 1) := by decide +kernel
theorem dX4_build_11 : decode cX4_build 11 = .ok (.getfield 12, 3) := by decide +kernel
theorem dX4_build_14 : decode cX4_build 14 = .ok (.aload_n 1, 1) := by decide +kernel
theorem dX4_build_15 : decode cX4_build 15 = .ok (.invokevirtual 52, 3) := by decide +kernel
theorem dX4_build_18 : decode cX4_build 18 = .ok (.aload_n 0, 1) := by decide +kernel
theorem dX4_build_19 : decode cX4_build 19 = .ok (.getfield 12, 3) := by decide +kernel
theorem dX4_build_22 : decode cX4_build 22 = .ok (.invokevirtual 56, 3) := by decide +kernel
theorem dX4_build_25 : decode cX4_build 25 = .ok (.ifCond .le 7, 3) := by decide +kernel
theorem dX4_build_28 : decode cX4_build 28 = .ok (.iconst 1, 1) := by decide +kernel
theorem dX4_build_29 : decode cX4_build 29 = .ok (.goto 4, 3) := by decide +kernel
theorem dX4_build_32 : decode cX4_build 32 = .ok (.iconst 0, 1) := by decide +kernel
theorem dX4_build_33 : decode cX4_build 33 = .ok (.istore 4, 2) := by decide +kernel
theorem dX4_build_35 : decode cX4_build 35 = .ok (.iconst 0, 1) := by decide +kernel
theorem dX4_build_36 : decode cX4_build 36 = .ok (.istore 5, 2) := by decide +kernel
theorem dX4_build_38 : decode cX4_build 38 = .ok (.iload 5, 2) := by decide +kernel
theorem dX4_build_40 : decode cX4_build 40 = .ok (.bipush 10, 2) := by decide +kernel
theorem dX4_build_42 : decode cX4_build 42 = .ok (.if_icmp .ge 53, 3) := by decide +kernel
theorem dX4_build_45 : decode cX4_build 45 = .ok (.iload 4, 2) := by decide +kernel
theorem dX4_build_47 : decode cX4_build 47 = .ok (.ifCond .eq 48, 3) := by decide +kernel
theorem dX4_build_50 : decode cX4_build 50 = .ok (.aload_n 2, 1) := by decide +kernel
theorem dX4_build_51 : decode cX4_build 51 = .ok (.aload_n 0, 1) := by decide +kernel
theorem dX4_build_52 : decode cX4_build 52 = .ok (.getfield 12, 3) := by decide +kernel
theorem dX4_build_55 : decode cX4_build 55 = .ok (.iload_n 3, 1) := by decide +kernel
theorem dX4_build_56 : decode cX4_build 56 = .ok (.invokevirtual 59, 3) := by decide +kernel
theorem dX4_build_59 : decode cX4_build 59 = .ok (.aload_n 0, 1) := by decide +kernel
theorem dX4_build_60 : decode cX4_build 60 = .ok (.iload 5, 2) := by decide +kernel
theorem dX4_build_62 : decode cX4_build 62 = .ok (.aload_n 2, 1) := by decide +kernel
theorem dX4_build_63 : decode cX4_build 63 = .ok (.invokevirtual 65, 3) := by decide +kernel
theorem dX4_build_66 : decode cX4_build 66 = .ok (.aload_n 0, 1) := by decide +kernel
theorem dX4_build_67 : decode cX4_build 67 = .ok (.iload 5, 2) := by decide +kernel
theorem dX4_build_69 : decode cX4_build 69 = .ok (.invokevirtual 41, 3) := by decide +kernel
theorem dX4_build_72 : decode cX4_build 72 = .ok (.iconst 1, 1) := by decide +kernel
theorem dX4_build_73 : decode cX4_build 73 = .ok (.if_icmp .le 7, 3) := by decide +kernel
theorem dX4_build_76 : decode cX4_build 76 = .ok (.iconst 1, 1) := by decide +kernel
theorem dX4_build_77 : decode cX4_build 77 = .ok (.goto 4, 3) := by decide +kernel
theorem dX4_build_80 : decode cX4_build 80 = .ok (.iconst 0, 1) := by decide +kernel
theorem dX4_build_81 : decode cX4_build 81 = .ok (.istore 4, 2) := by decide +kernel
theorem dX4_build_83 : decode cX4_build 83 = .ok (.aload_n 0, 1) := by decide +kernel
theorem dX4_build_84 : decode cX4_build 84 = .ok (.iload 5, 2) := by decide +kernel
theorem dX4_build_86 : decode cX4_build 86 = .ok (.invokevirtual 69, 3) := by decide +kernel
theorem dX4_build_89 : decode cX4_build 89 = .ok (.iinc 5 1, 3) := by decide +kernel
theorem dX4_build_92 : decode cX4_build 92 = .ok (.goto (-54), 3) := by decide +kernel
theorem dX4_build_95 : decode cX4_build 95 = .ok (.return_, 1) := by decide +kernel
set_option maxRecDepth 20000 in
theorem ggX4_pieceFor_X4_width : GoodIn wsX4_pieceFor wsX4_width := goodIn_r _ [6, 7, 8, 14, 15, 16, 17, 18, 19, 20, 21, 22] (by decide +kernel) (by decide +kernel)
set_option maxRecDepth 20000 in
theorem gX4_pieceFor_X4_width : GoodIn wsX4_pieceFor (wsV RX4 41 RX4 yX4_width wsX4_width) := goodIn_app (goodIn_of _ (by decide +kernel)) ggX4_pieceFor_X4_width
set_option maxRecDepth 20000 in
theorem ggX4_pieceFor_X4_isPiece : GoodIn wsX4_pieceFor wsX4_isPiece := goodIn_r _ [12, 13, 14, 15, 16, 17, 18, 19, 20, 21, 22] (by decide +kernel) (by decide +kernel)
set_option maxRecDepth 20000 in
theorem gX4_pieceFor_X4_isPiece : GoodIn wsX4_pieceFor (wsV RX4 45 RX4 yX4_isPiece wsX4_isPiece) := goodIn_app (goodIn_of _ (by decide +kernel)) ggX4_pieceFor_X4_isPiece
theorem dX4_pieceFor_0 : decode cX4_pieceFor 0 = .ok (.iconst 0, 1) := by decide +kernel
theorem dX4_pieceFor_1 : decode cX4_pieceFor 1 = .ok (.istore_n 2, 1) := by decide +kernel
theorem dX4_pieceFor_2 : decode cX4_pieceFor 2 = .ok (.iconst 1, 1) := by decide +kernel
theorem dX4_pieceFor_3 : decode cX4_pieceFor 3 = .ok (.istore_n 3, 1) := by decide +kernel
theorem dX4_pieceFor_4 : decode cX4_pieceFor 4 = .ok (.iload_n 3, 1) := by decide +kernel
theorem dX4_pieceFor_5 : decode cX4_pieceFor 5 = .ok (.aload_n 0, 1) := by decide +kernel
theorem dX4_pieceFor_6 : decode cX4_pieceFor 6 = .ok (.iconst 0, 1) := by decide +kernel
theorem dX4_pieceFor_7 : decode cX4_pieceFor 7 = .ok (.invokevirtual 41, 3) := by decide +kernel
theorem dX4_pieceFor_10 : decode cX4_pieceFor 10 = .ok (.if_icmp .ge 29, 3) := by decide +kernel
theorem dX4_pieceFor_13 : decode cX4_pieceFor 13 = .ok (.aload_n 0, 1) := by decide +kernel
theorem dX4_pieceFor_14 : decode cX4_pieceFor 14 = .ok (.iload_n 3, 1) := by decide +kernel
theorem dX4_pieceFor_15 : decode cX4_pieceFor 15 = .ok (.invokevirtual 45, 3) := by decide +kernel
theorem dX4_pieceFor_18 : decode cX4_pieceFor 18 = .ok (.ifCond .eq 21, 3) := by decide +kernel
theorem dX4_pieceFor_21 : decode cX4_pieceFor 21 = .ok (.aload_n 0, 1) := by decide +kernel
theorem dX4_pieceFor_22 : decode cX4_pieceFor 22 = .ok (.getfield 28, 3) := by decide +kernel
theorem dX4_pieceFor_25 : decode cX4_pieceFor 25 = .ok (.iload_n 3, 1) := by decide +kernel
theorem dX4_pieceFor_26 : decode cX4_pieceFor 26 = .ok (.iaload, 1) := by decide +kernel
theorem dX4_pieceFor_27 : decode cX4_pieceFor 27 = .ok (.iload_n 1, 1) := by decide +kernel
theorem dX4_pieceFor_28 : decode cX4_pieceFor 28 = .ok (.if_icmp .gt 11, 3) := by decide +kernel
theorem dX4_pieceFor_31 : decode cX4_pieceFor 31 = .ok (.iload_n 3, 1) := by decide +kernel
theorem dX4_pieceFor_32 : decode cX4_pieceFor 32 = .ok (.istore_n 2, 1) := by decide +kernel
theorem dX4_pieceFor_33 : decode cX4_pieceFor 33 = .ok (.iinc 3 1, 3) := by decide +kernel
theorem dX4_pieceFor_36 : decode cX4_pieceFor 36 = .ok (.goto (-32), 3) := by decide +kernel
theorem dX4_pieceFor_39 : decode cX4_pieceFor 39 = .ok (.iload_n 2, 1) := by decide +kernel
theorem dX4_pieceFor_40 : decode cX4_pieceFor 40 = .ok (.ireturn, 1) := by decide +kernel
set_option maxRecDepth 20000 in
theorem ggX4_rankBy_X4_isPiece : GoodIn wsX4_rankBy wsX4_isPiece := goodIn_r _ [17, 18, 23, 24, 25, 26, 27, 28, 29, 30, 31] (by decide +kernel) (by decide +kernel)
set_option maxRecDepth 20000 in
theorem gX4_rankBy_X4_isPiece : GoodIn wsX4_rankBy (wsV RX4 45 RX4 yX4_isPiece wsX4_isPiece) := goodIn_app (goodIn_of _ (by decide +kernel)) ggX4_rankBy_X4_isPiece
set_option maxRecDepth 20000 in
theorem ggX4_rankBy_J9_floorDiv_7cf53 : GoodIn wsX4_rankBy wsJ9_floorDiv_7cf53 := goodIn_r _ [22] (by decide +kernel) (by decide +kernel)
set_option maxRecDepth 20000 in
theorem gX4_rankBy_J9_floorDiv_7cf53 : GoodIn wsX4_rankBy (va_wsS RX4 73 yJ9_floorDiv_7cf53 wsJ9_floorDiv_7cf53) := goodIn_app (goodIn_of _ (by decide +kernel)) ggX4_rankBy_J9_floorDiv_7cf53
theorem dX4_rankBy_0 : decode cX4_rankBy 0 = .ok (.aload_n 0, 1) := by decide +kernel
theorem dX4_rankBy_1 : decode cX4_rankBy 1 = .ok (.iload_n 1, 1) := by decide +kernel
theorem dX4_rankBy_2 : decode cX4_rankBy 2 = .ok (.invokevirtual 45, 3) := by decide +kernel
theorem dX4_rankBy_5 : decode cX4_rankBy 5 = .ok (.ifCond .eq 12, 3) := by decide +kernel
theorem dX4_rankBy_8 : decode cX4_rankBy 8 = .ok (.aload_n 0, 1) := by decide +kernel
theorem dX4_rankBy_9 : decode cX4_rankBy 9 = .ok (.getfield 34, 3) := by decide +kernel
theorem dX4_rankBy_12 : decode cX4_rankBy 12 = .ok (.iload_n 1, 1) := by decide +kernel
theorem dX4_rankBy_13 : decode cX4_rankBy 13 = .ok (.iaload, 1) := by decide +kernel
theorem dX4_rankBy_14 : decode cX4_rankBy 14 = .ok (.ifCond .gt 5, 3) := by decide +kernel
theorem dX4_rankBy_17 : decode cX4_rankBy 17 = .ok (.iconst (-1), 1) := by decide +kernel
theorem dX4_rankBy_18 : decode cX4_rankBy 18 = .ok (.ireturn, 1) := by decide +kernel
theorem dX4_rankBy_19 : decode cX4_rankBy 19 = .ok (.aload_n 0, 1) := by decide +kernel
theorem dX4_rankBy_20 : decode cX4_rankBy 20 = .ok (.getfield 31, 3) := by decide +kernel
theorem dX4_rankBy_23 : decode cX4_rankBy 23 = .ok (.iload_n 1, 1) := by decide +kernel
theorem dX4_rankBy_24 : decode cX4_rankBy 24 = .ok (.iaload, 1) := by decide +kernel
theorem dX4_rankBy_25 : decode cX4_rankBy 25 = .ok (.iload_n 2, 1) := by decide +kernel
theorem dX4_rankBy_26 : decode cX4_rankBy 26 = .ok (.aload_n 0, 1) := by decide +kernel
theorem dX4_rankBy_27 : decode cX4_rankBy 27 = .ok (.getfield 28, 3) := by decide +kernel
theorem dX4_rankBy_30 : decode cX4_rankBy 30 = .ok (.iload_n 1, 1) := by decide +kernel
theorem dX4_rankBy_31 : decode cX4_rankBy 31 = .ok (.iaload, 1) := by decide +kernel
theorem dX4_rankBy_32 : decode cX4_rankBy 32 = .ok (.isub, 1) := by decide +kernel
theorem dX4_rankBy_33 : decode cX4_rankBy 33 = .ok (.imul, 1) := by decide +kernel
theorem dX4_rankBy_34 : decode cX4_rankBy 34 = .ok (.aload_n 0, 1) := by decide +kernel
theorem dX4_rankBy_35 : decode cX4_rankBy 35 = .ok (.getfield 34, 3) := by decide +kernel
theorem dX4_rankBy_38 : decode cX4_rankBy 38 = .ok (.iload_n 1, 1) := by decide +kernel
theorem dX4_rankBy_39 : decode cX4_rankBy 39 = .ok (.iaload, 1) := by decide +kernel
theorem dX4_rankBy_40 : decode cX4_rankBy 40 = .ok (.invokestatic 73, 3) := by decide +kernel
theorem dX4_rankBy_43 : decode cX4_rankBy 43 = .ok (.istore_n 3, 1) := by decide +kernel
theorem dX4_rankBy_44 : decode cX4_rankBy 44 = .ok (.aload_n 0, 1) := by decide +kernel
theorem dX4_rankBy_45 : decode cX4_rankBy 45 = .ok (.getfield 22, 3) := by decide +kernel
theorem dX4_rankBy_48 : decode cX4_rankBy 48 = .ok (.iload_n 1, 1) := by decide +kernel
theorem dX4_rankBy_49 : decode cX4_rankBy 49 = .ok (.iaload, 1) := by decide +kernel
theorem dX4_rankBy_50 : decode cX4_rankBy 50 = .ok (.aload_n 0, 1) := by decide +kernel
theorem dX4_rankBy_51 : decode cX4_rankBy 51 = .ok (.getfield 25, 3) := by decide +kernel
theorem dX4_rankBy_54 : decode cX4_rankBy 54 = .ok (.iload_n 1, 1) := by decide +kernel
theorem dX4_rankBy_55 : decode cX4_rankBy 55 = .ok (.iaload, 1) := by decide +kernel
theorem dX4_rankBy_56 : decode cX4_rankBy 56 = .ok (.aload_n 0, 1) := by decide +kernel
theorem dX4_rankBy_57 : decode cX4_rankBy 57 = .ok (.getfield 22, 3) := by decide +kernel
theorem dX4_rankBy_60 : decode cX4_rankBy 60 = .ok (.iload_n 1, 1) := by decide +kernel
theorem dX4_rankBy_61 : decode cX4_rankBy 61 = .ok (.iaload, 1) := by decide +kernel
theorem dX4_rankBy_62 : decode cX4_rankBy 62 = .ok (.iload_n 3, 1) := by decide +kernel
theorem dX4_rankBy_63 : decode cX4_rankBy 63 = .ok (.iadd, 1) := by decide +kernel
theorem dX4_rankBy_64 : decode cX4_rankBy 64 = .ok (.invokestatic 79, 3) := by decide +kernel
theorem dX4_rankBy_67 : decode cX4_rankBy 67 = .ok (.invokestatic 82, 3) := by decide +kernel
theorem dX4_rankBy_70 : decode cX4_rankBy 70 = .ok (.ireturn, 1) := by decide +kernel
set_option maxRecDepth 20000 in
theorem ggX4_fromOf_X4_isPiece : GoodIn wsX4_fromOf wsX4_isPiece := goodIn_r _ [6, 7, 8, 9, 10, 11, 12, 13, 14, 15, 16] (by decide +kernel) (by decide +kernel)
set_option maxRecDepth 20000 in
theorem gX4_fromOf_X4_isPiece : GoodIn wsX4_fromOf (wsV RX4 45 RX4 yX4_isPiece wsX4_isPiece) := goodIn_app (goodIn_of _ (by decide +kernel)) ggX4_fromOf_X4_isPiece
theorem dX4_fromOf_0 : decode cX4_fromOf 0 = .ok (.aload_n 0, 1) := by decide +kernel
theorem dX4_fromOf_1 : decode cX4_fromOf 1 = .ok (.iload_n 1, 1) := by decide +kernel
theorem dX4_fromOf_2 : decode cX4_fromOf 2 = .ok (.invokevirtual 45, 3) := by decide +kernel
theorem dX4_fromOf_5 : decode cX4_fromOf 5 = .ok (.ifCond .eq 12, 3) := by decide +kernel
theorem dX4_fromOf_8 : decode cX4_fromOf 8 = .ok (.aload_n 0, 1) := by decide +kernel
theorem dX4_fromOf_9 : decode cX4_fromOf 9 = .ok (.getfield 22, 3) := by decide +kernel
theorem dX4_fromOf_12 : decode cX4_fromOf 12 = .ok (.iload_n 1, 1) := by decide +kernel
theorem dX4_fromOf_13 : decode cX4_fromOf 13 = .ok (.iaload, 1) := by decide +kernel
theorem dX4_fromOf_14 : decode cX4_fromOf 14 = .ok (.goto 4, 3) := by decide +kernel
theorem dX4_fromOf_17 : decode cX4_fromOf 17 = .ok (.iconst 0, 1) := by decide +kernel
theorem dX4_fromOf_18 : decode cX4_fromOf 18 = .ok (.ireturn, 1) := by decide +kernel
set_option maxRecDepth 20000 in
theorem ggX4_lastOf_X4_isPiece : GoodIn wsX4_lastOf wsX4_isPiece := goodIn_r _ [6, 7, 8, 9, 10, 11, 12, 13, 14, 15, 16] (by decide +kernel) (by decide +kernel)
set_option maxRecDepth 20000 in
theorem gX4_lastOf_X4_isPiece : GoodIn wsX4_lastOf (wsV RX4 45 RX4 yX4_isPiece wsX4_isPiece) := goodIn_app (goodIn_of _ (by decide +kernel)) ggX4_lastOf_X4_isPiece
theorem dX4_lastOf_0 : decode cX4_lastOf 0 = .ok (.aload_n 0, 1) := by decide +kernel
theorem dX4_lastOf_1 : decode cX4_lastOf 1 = .ok (.iload_n 1, 1) := by decide +kernel
theorem dX4_lastOf_2 : decode cX4_lastOf 2 = .ok (.invokevirtual 45, 3) := by decide +kernel
theorem dX4_lastOf_5 : decode cX4_lastOf 5 = .ok (.ifCond .eq 12, 3) := by decide +kernel
theorem dX4_lastOf_8 : decode cX4_lastOf 8 = .ok (.aload_n 0, 1) := by decide +kernel
theorem dX4_lastOf_9 : decode cX4_lastOf 9 = .ok (.getfield 25, 3) := by decide +kernel
theorem dX4_lastOf_12 : decode cX4_lastOf 12 = .ok (.iload_n 1, 1) := by decide +kernel
theorem dX4_lastOf_13 : decode cX4_lastOf 13 = .ok (.iaload, 1) := by decide +kernel
theorem dX4_lastOf_14 : decode cX4_lastOf 14 = .ok (.goto 4, 3) := by decide +kernel
theorem dX4_lastOf_17 : decode cX4_lastOf 17 = .ok (.iconst (-1), 1) := by decide +kernel
theorem dX4_lastOf_18 : decode cX4_lastOf 18 = .ok (.ireturn, 1) := by decide +kernel
theorem dX4_isPiece_0 : decode cX4_isPiece 0 = .ok (.iload_n 1, 1) := by decide +kernel
theorem dX4_isPiece_1 : decode cX4_isPiece 1 = .ok (.ifCond .lt 21, 3) := by decide +kernel
theorem dX4_isPiece_4 : decode cX4_isPiece 4 = .ok (.iload_n 1, 1) := by decide +kernel
theorem dX4_isPiece_5 : decode cX4_isPiece 5 = .ok (.aload_n 0, 1) := by decide +kernel
theorem dX4_isPiece_6 : decode cX4_isPiece 6 = .ok (.getfield 49, 3) := by decide +kernel
theorem dX4_isPiece_9 : decode cX4_isPiece 9 = .ok (.if_icmp .ge 13, 3) := by decide +kernel
theorem dX4_isPiece_12 : decode cX4_isPiece 12 = .ok (.iload_n 1, 1) := by decide +kernel
theorem dX4_isPiece_13 : decode cX4_isPiece 13 = .ok (.bipush 60, 2) := by decide +kernel
theorem dX4_isPiece_15 : decode cX4_isPiece 15 = .ok (.if_icmp .ge 7, 3) := by decide +kernel
theorem dX4_isPiece_18 : decode cX4_isPiece 18 = .ok (.iconst 1, 1) := by decide +kernel
theorem dX4_isPiece_19 : decode cX4_isPiece 19 = .ok (.goto 4, 3) := by decide +kernel
theorem dX4_isPiece_22 : decode cX4_isPiece 22 = .ok (.iconst 0, 1) := by decide +kernel
theorem dX4_isPiece_23 : decode cX4_isPiece 23 = .ok (.ireturn, 1) := by decide +kernel
set_option maxRecDepth 20000 in
theorem ggX4_raise_X2_size : GoodIn wsX4_raise wsX2_size := goodIn_r _ [9, 10, 57, 58] (by decide +kernel) (by decide +kernel)
set_option maxRecDepth 20000 in
theorem gX4_raise_X2_size : GoodIn wsX4_raise (wsV RX4 56 RX2 yX2_size wsX2_size) := goodIn_app (goodIn_of _ (by decide +kernel)) ggX4_raise_X2_size
set_option maxRecDepth 20000 in
theorem ggX4_raise_X4_lay : GoodIn wsX4_raise wsX4_lay := goodIn_r _ [15, 2, 16, 17, 18, 3, 19, 20, 21, 22, 23, 24, 25, 26, 27, 28, 29, 30, 31, 32, 33, 34, 35, 36, 14, 37, 38, 39, 40, 41, 42, 43, 44, 45, 8, 46, 10, 47, 48, 49, 50, 51, 52, 53, 54, 55, 56, 59, 60, 61, 62, 63, 57, 58] (by decide +kernel) (by decide +kernel)
set_option maxRecDepth 20000 in
theorem gX4_raise_X4_lay : GoodIn wsX4_raise (wsV RX4 85 RX4 yX4_lay wsX4_lay) := goodIn_app (goodIn_of _ (by decide +kernel)) ggX4_raise_X4_lay
set_option maxRecDepth 20000 in
theorem ggX4_raise_X0_lastOf : GoodIn wsX4_raise wsX0_lastOf := goodIn_r _ [41, 42, 27, 28, 24, 29, 59, 60, 61, 62, 63] (by decide +kernel) (by decide +kernel)
set_option maxRecDepth 20000 in
theorem gX4_raise_X0_lastOf : GoodIn wsX4_raise (wsV RX4 88 RX0 yX0_lastOf wsX0_lastOf) := goodIn_app (goodIn_of _ (by decide +kernel)) ggX4_raise_X0_lastOf
theorem dX4_raise_0 : decode cX4_raise 0 = .ok (.iload_n 1, 1) := by decide +kernel
theorem dX4_raise_1 : decode cX4_raise 1 = .ok (.ifCond .lt 9, 3) := by decide +kernel
theorem dX4_raise_4 : decode cX4_raise 4 = .ok (.iload_n 1, 1) := by decide +kernel
theorem dX4_raise_5 : decode cX4_raise 5 = .ok (.bipush 10, 2) := by decide +kernel
theorem dX4_raise_7 : decode cX4_raise 7 = .ok (.if_icmp .lt 4, 3) := by decide +kernel
theorem dX4_raise_10 : decode cX4_raise 10 = .ok (.return_, 1) := by decide +kernel
theorem dX4_raise_11 : decode cX4_raise 11 = .ok (.aload_n 0, 1) := by decide +kernel
theorem dX4_raise_12 : decode cX4_raise 12 = .ok (.getfield 18, 3) := by decide +kernel
theorem dX4_raise_15 : decode cX4_raise 15 = .ok (.iload_n 1, 1) := by decide +kernel
theorem dX4_raise_16 : decode cX4_raise 16 = .ok (.aload_n 0, 1) := by decide +kernel
theorem dX4_raise_17 : decode cX4_raise 17 = .ok (.getfield 49, 3) := by decide +kernel
theorem dX4_raise_20 : decode cX4_raise 20 = .ok (.iastore, 1) := by decide +kernel
theorem dX4_raise_21 : decode cX4_raise 21 = .ok (.iconst 0, 1) := by decide +kernel
theorem dX4_raise_22 : decode cX4_raise 22 = .ok (.istore_n 3, 1) := by decide +kernel
theorem dX4_raise_23 : decode cX4_raise 23 = .ok (.iconst 0, 1) := by decide +kernel
theorem dX4_raise_24 : decode cX4_raise 24 = .ok (.istore 4, 2) := by decide +kernel
theorem dX4_raise_26 : decode cX4_raise 26 = .ok (.iload 4, 2) := by decide +kernel
theorem dX4_raise_28 : decode cX4_raise 28 = .ok (.bipush 60, 2) := by decide +kernel
theorem dX4_raise_30 : decode cX4_raise 30 = .ok (.if_icmp .ge 34, 3) := by decide +kernel
theorem dX4_raise_33 : decode cX4_raise 33 = .ok (.iload_n 3, 1) := by decide +kernel
theorem dX4_raise_34 : decode cX4_raise 34 = .ok (.aload_n 0, 1) := by decide +kernel
theorem dX4_raise_35 : decode cX4_raise 35 = .ok (.getfield 12, 3) := by decide +kernel
theorem dX4_raise_38 : decode cX4_raise 38 = .ok (.invokevirtual 56, 3) := by decide +kernel
theorem dX4_raise_41 : decode cX4_raise 41 = .ok (.if_icmp .ge 23, 3) := by decide +kernel
theorem dX4_raise_44 : decode cX4_raise 44 = .ok (.aload_n 0, 1) := by decide +kernel
theorem dX4_raise_45 : decode cX4_raise 45 = .ok (.iload_n 3, 1) := by decide +kernel
theorem dX4_raise_46 : decode cX4_raise 46 = .ok (.aload_n 2, 1) := by decide +kernel
theorem dX4_raise_47 : decode cX4_raise 47 = .ok (.invokevirtual 85, 3) := by decide +kernel
theorem dX4_raise_50 : decode cX4_raise 50 = .ok (.aload_n 2, 1) := by decide +kernel
theorem dX4_raise_51 : decode cX4_raise 51 = .ok (.iload_n 3, 1) := by decide +kernel
theorem dX4_raise_52 : decode cX4_raise 52 = .ok (.invokevirtual 88, 3) := by decide +kernel
theorem dX4_raise_55 : decode cX4_raise 55 = .ok (.iconst 1, 1) := by decide +kernel
theorem dX4_raise_56 : decode cX4_raise 56 = .ok (.iadd, 1) := by decide +kernel
theorem dX4_raise_57 : decode cX4_raise 57 = .ok (.istore_n 3, 1) := by decide +kernel
theorem dX4_raise_58 : decode cX4_raise 58 = .ok (.iinc 4 1, 3) := by decide +kernel
theorem dX4_raise_61 : decode cX4_raise 61 = .ok (.goto (-35), 3) := by decide +kernel
theorem dX4_raise_64 : decode cX4_raise 64 = .ok (.aload_n 0, 1) := by decide +kernel
theorem dX4_raise_65 : decode cX4_raise 65 = .ok (.getfield 18, 3) := by decide +kernel
theorem dX4_raise_68 : decode cX4_raise 68 = .ok (.iload_n 1, 1) := by decide +kernel
theorem dX4_raise_69 : decode cX4_raise 69 = .ok (.iconst 1, 1) := by decide +kernel
theorem dX4_raise_70 : decode cX4_raise 70 = .ok (.iadd, 1) := by decide +kernel
theorem dX4_raise_71 : decode cX4_raise 71 = .ok (.aload_n 0, 1) := by decide +kernel
theorem dX4_raise_72 : decode cX4_raise 72 = .ok (.getfield 49, 3) := by decide +kernel
theorem dX4_raise_75 : decode cX4_raise 75 = .ok (.iastore, 1) := by decide +kernel
theorem dX4_raise_76 : decode cX4_raise 76 = .ok (.aload_n 0, 1) := by decide +kernel
theorem dX4_raise_77 : decode cX4_raise 77 = .ok (.iload_n 1, 1) := by decide +kernel
theorem dX4_raise_78 : decode cX4_raise 78 = .ok (.iconst 1, 1) := by decide +kernel
theorem dX4_raise_79 : decode cX4_raise 79 = .ok (.iadd, 1) := by decide +kernel
theorem dX4_raise_80 : decode cX4_raise 80 = .ok (.putfield 37, 3) := by decide +kernel
theorem dX4_raise_83 : decode cX4_raise 83 = .ok (.return_, 1) := by decide +kernel
set_option maxRecDepth 20000 in
theorem ggX4_lay_X0_slopeNum : GoodIn wsX4_lay wsX0_slopeNum := goodIn_r _ [12, 13, 14, 15, 11, 16, 47, 48, 49, 50, 51] (by decide +kernel) (by decide +kernel)
set_option maxRecDepth 20000 in
theorem gX4_lay_X0_slopeNum : GoodIn wsX4_lay (wsV RX4 91 RX0 yX0_slopeNum wsX0_slopeNum) := goodIn_app (goodIn_of _ (by decide +kernel)) ggX4_lay_X0_slopeNum
set_option maxRecDepth 20000 in
theorem ggX4_lay_X0_slopeDen : GoodIn wsX4_lay wsX0_slopeDen := goodIn_r _ [20, 21, 14, 15, 11, 16, 47, 48, 49, 50, 51] (by decide +kernel) (by decide +kernel)
set_option maxRecDepth 20000 in
theorem gX4_lay_X0_slopeDen : GoodIn wsX4_lay (wsV RX4 94 RX0 yX0_slopeDen wsX0_slopeDen) := goodIn_app (goodIn_of _ (by decide +kernel)) ggX4_lay_X0_slopeDen
set_option maxRecDepth 20000 in
theorem ggX4_lay_X4_commonDivisor : GoodIn wsX4_lay wsX4_commonDivisor := goodIn_r _ [25] (by decide +kernel) (by decide +kernel)
set_option maxRecDepth 20000 in
theorem gX4_lay_X4_commonDivisor : GoodIn wsX4_lay (va_wsS RX4 97 yX4_commonDivisor wsX4_commonDivisor) := goodIn_app (goodIn_of _ (by decide +kernel)) ggX4_lay_X4_commonDivisor
set_option maxRecDepth 20000 in
theorem ggX4_lay_X0_lastOf : GoodIn wsX4_lay wsX0_lastOf := goodIn_r _ [29, 30, 14, 15, 11, 16, 47, 48, 49, 50, 51] (by decide +kernel) (by decide +kernel)
set_option maxRecDepth 20000 in
theorem gX4_lay_X0_lastOf : GoodIn wsX4_lay (wsV RX4 88 RX0 yX0_lastOf wsX0_lastOf) := goodIn_app (goodIn_of _ (by decide +kernel)) ggX4_lay_X0_lastOf
set_option maxRecDepth 20000 in
theorem ggX4_lay_X2_key : GoodIn wsX4_lay wsX2_key := goodIn_r _ [35, 36, 37, 52, 53] (by decide +kernel) (by decide +kernel)
set_option maxRecDepth 20000 in
theorem gX4_lay_X2_key : GoodIn wsX4_lay (wsV RX4 100 RX2 yX2_key wsX2_key) := goodIn_app (goodIn_of _ (by decide +kernel)) ggX4_lay_X2_key
theorem dX4_lay_0 : decode cX4_lay 0 = .ok (.aload_n 0, 1) := by decide +kernel
theorem dX4_lay_1 : decode cX4_lay 1 = .ok (.getfield 49, 3) := by decide +kernel
theorem dX4_lay_4 : decode cX4_lay 4 = .ok (.ifCond .lt 12, 3) := by decide +kernel
theorem dX4_lay_7 : decode cX4_lay 7 = .ok (.aload_n 0, 1) := by decide +kernel
theorem dX4_lay_8 : decode cX4_lay 8 = .ok (.getfield 49, 3) := by decide +kernel
theorem dX4_lay_11 : decode cX4_lay 11 = .ok (.bipush 60, 2) := by decide +kernel
theorem dX4_lay_13 : decode cX4_lay 13 = .ok (.if_icmp .lt 4, 3) := by decide +kernel
theorem dX4_lay_16 : decode cX4_lay 16 = .ok (.return_, 1) := by decide +kernel
theorem dX4_lay_17 : decode cX4_lay 17 = .ok (.aload_n 2, 1) := by decide +kernel
theorem dX4_lay_18 : decode cX4_lay 18 = .ok (.iload_n 1, 1) := by decide +kernel
theorem dX4_lay_19 : decode cX4_lay 19 = .ok (.invokevirtual 91, 3) := by decide +kernel
theorem dX4_lay_22 : decode cX4_lay 22 = .ok (.istore_n 3, 1) := by decide +kernel
theorem dX4_lay_23 : decode cX4_lay 23 = .ok (.aload_n 2, 1) := by decide +kernel
theorem dX4_lay_24 : decode cX4_lay 24 = .ok (.iload_n 1, 1) := by decide +kernel
theorem dX4_lay_25 : decode cX4_lay 25 = .ok (.invokevirtual 94, 3) := by decide +kernel
theorem dX4_lay_28 : decode cX4_lay 28 = .ok (.istore 4, 2) := by decide +kernel
theorem dX4_lay_30 : decode cX4_lay 30 = .ok (.iload_n 3, 1) := by decide +kernel
theorem dX4_lay_31 : decode cX4_lay 31 = .ok (.iload 4, 2) := by decide +kernel
theorem dX4_lay_33 : decode cX4_lay 33 = .ok (.invokestatic 97, 3) := by decide +kernel
theorem dX4_lay_36 : decode cX4_lay 36 = .ok (.istore 5, 2) := by decide +kernel
theorem dX4_lay_38 : decode cX4_lay 38 = .ok (.aload_n 0, 1) := by decide +kernel
theorem dX4_lay_39 : decode cX4_lay 39 = .ok (.getfield 22, 3) := by decide +kernel
theorem dX4_lay_42 : decode cX4_lay 42 = .ok (.aload_n 0, 1) := by decide +kernel
theorem dX4_lay_43 : decode cX4_lay 43 = .ok (.getfield 49, 3) := by decide +kernel
theorem dX4_lay_46 : decode cX4_lay 46 = .ok (.iload_n 1, 1) := by decide +kernel
theorem dX4_lay_47 : decode cX4_lay 47 = .ok (.iastore, 1) := by decide +kernel
theorem dX4_lay_48 : decode cX4_lay 48 = .ok (.aload_n 0, 1) := by decide +kernel
theorem dX4_lay_49 : decode cX4_lay 49 = .ok (.getfield 25, 3) := by decide +kernel
theorem dX4_lay_52 : decode cX4_lay 52 = .ok (.aload_n 0, 1) := by decide +kernel
theorem dX4_lay_53 : decode cX4_lay 53 = .ok (.getfield 49, 3) := by decide +kernel
theorem dX4_lay_56 : decode cX4_lay 56 = .ok (.aload_n 2, 1) := by decide +kernel
theorem dX4_lay_57 : decode cX4_lay 57 = .ok (.iload_n 1, 1) := by decide +kernel
theorem dX4_lay_58 : decode cX4_lay 58 = .ok (.invokevirtual 88, 3) := by decide +kernel
theorem dX4_lay_61 : decode cX4_lay 61 = .ok (.iastore, 1) := by decide +kernel
theorem dX4_lay_62 : decode cX4_lay 62 = .ok (.aload_n 0, 1) := by decide +kernel
theorem dX4_lay_63 : decode cX4_lay 63 = .ok (.getfield 28, 3) := by decide +kernel
theorem dX4_lay_66 : decode cX4_lay 66 = .ok (.aload_n 0, 1) := by decide +kernel
theorem dX4_lay_67 : decode cX4_lay 67 = .ok (.getfield 49, 3) := by decide +kernel
theorem dX4_lay_70 : decode cX4_lay 70 = .ok (.aload_n 0, 1) := by decide +kernel
theorem dX4_lay_71 : decode cX4_lay 71 = .ok (.getfield 12, 3) := by decide +kernel
theorem dX4_lay_74 : decode cX4_lay 74 = .ok (.iload_n 1, 1) := by decide +kernel
theorem dX4_lay_75 : decode cX4_lay 75 = .ok (.invokevirtual 100, 3) := by decide +kernel
theorem dX4_lay_78 : decode cX4_lay 78 = .ok (.iastore, 1) := by decide +kernel
theorem dX4_lay_79 : decode cX4_lay 79 = .ok (.aload_n 0, 1) := by decide +kernel
theorem dX4_lay_80 : decode cX4_lay 80 = .ok (.getfield 31, 3) := by decide +kernel
theorem dX4_lay_83 : decode cX4_lay 83 = .ok (.aload_n 0, 1) := by decide +kernel
theorem dX4_lay_84 : decode cX4_lay 84 = .ok (.getfield 49, 3) := by decide +kernel
theorem dX4_lay_87 : decode cX4_lay 87 = .ok (.iload 5, 2) := by decide +kernel
theorem dX4_lay_89 : decode cX4_lay 89 = .ok (.ifCond .le 10, 3) := by decide +kernel
theorem dX4_lay_92 : decode cX4_lay 92 = .ok (.iload_n 3, 1) := by decide +kernel
theorem dX4_lay_93 : decode cX4_lay 93 = .ok (.iload 5, 2) := by decide +kernel
theorem dX4_lay_95 : decode cX4_lay 95 = .ok (.idiv, 1) := by decide +kernel
theorem dX4_lay_96 : decode cX4_lay 96 = .ok (.goto 4, 3) := by decide +kernel
theorem dX4_lay_99 : decode cX4_lay 99 = .ok (.iload_n 3, 1) := by decide +kernel
theorem dX4_lay_100 : decode cX4_lay 100 = .ok (.iastore, 1) := by decide +kernel
theorem dX4_lay_101 : decode cX4_lay 101 = .ok (.aload_n 0, 1) := by decide +kernel
theorem dX4_lay_102 : decode cX4_lay 102 = .ok (.getfield 34, 3) := by decide +kernel
theorem dX4_lay_105 : decode cX4_lay 105 = .ok (.aload_n 0, 1) := by decide +kernel
theorem dX4_lay_106 : decode cX4_lay 106 = .ok (.getfield 49, 3) := by decide +kernel
theorem dX4_lay_109 : decode cX4_lay 109 = .ok (.iload 5, 2) := by decide +kernel
theorem dX4_lay_111 : decode cX4_lay 111 = .ok (.ifCond .le 11, 3) := by decide +kernel
theorem dX4_lay_114 : decode cX4_lay 114 = .ok (.iload 4, 2) := by decide +kernel
theorem dX4_lay_116 : decode cX4_lay 116 = .ok (.iload 5, 2) := by decide +kernel
theorem dX4_lay_118 : decode cX4_lay 118 = .ok (.idiv, 1) := by decide +kernel
theorem dX4_lay_119 : decode cX4_lay 119 = .ok (.goto 5, 3) := by decide +kernel
theorem dX4_lay_122 : decode cX4_lay 122 = .ok (.iload 4, 2) := by decide +kernel
theorem dX4_lay_124 : decode cX4_lay 124 = .ok (.iastore, 1) := by decide +kernel
theorem dX4_lay_125 : decode cX4_lay 125 = .ok (.aload_n 0, 1) := by decide +kernel
theorem dX4_lay_126 : decode cX4_lay 126 = .ok (.dup, 1) := by decide +kernel
theorem dX4_lay_127 : decode cX4_lay 127 = .ok (.getfield 49, 3) := by decide +kernel
theorem dX4_lay_130 : decode cX4_lay 130 = .ok (.iconst 1, 1) := by decide +kernel
theorem dX4_lay_131 : decode cX4_lay 131 = .ok (.iadd, 1) := by decide +kernel
theorem dX4_lay_132 : decode cX4_lay 132 = .ok (.putfield 49, 3) := by decide +kernel
theorem dX4_lay_135 : decode cX4_lay 135 = .ok (.return_, 1) := by decide +kernel
set_option maxRecDepth 20000 in
theorem ggX4_layBase_X2_clear : GoodIn wsX4_layBase wsX2_clear := goodIn_r _ [6, 7, 43, 44] (by decide +kernel) (by decide +kernel)
set_option maxRecDepth 20000 in
theorem gX4_layBase_X2_clear : GoodIn wsX4_layBase (wsV RX4 103 RX2 yX2_clear wsX2_clear) := goodIn_app (goodIn_of _ (by decide +kernel)) ggX4_layBase_X2_clear
set_option maxRecDepth 20000 in
theorem ggX4_layBase_X4_width : GoodIn wsX4_layBase wsX4_width := goodIn_r _ [12, 13, 14, 34, 35, 36, 37, 38, 39, 40, 41, 42] (by decide +kernel) (by decide +kernel)
set_option maxRecDepth 20000 in
theorem gX4_layBase_X4_width : GoodIn wsX4_layBase (wsV RX4 41 RX4 yX4_width wsX4_width) := goodIn_app (goodIn_of _ (by decide +kernel)) ggX4_layBase_X4_width
set_option maxRecDepth 20000 in
theorem ggX4_layBase_X4_tell : GoodIn wsX4_layBase wsX4_tell := goodIn_r _ [18, 14, 19, 20, 21, 22, 23, 8, 9, 10, 11, 12, 13, 24, 25, 26, 27, 28, 34, 35, 36, 37, 38, 39, 40, 41, 42] (by decide +kernel) (by decide +kernel)
set_option maxRecDepth 20000 in
theorem gX4_layBase_X4_tell : GoodIn wsX4_layBase (wsV RX4 106 RX4 yX4_tell wsX4_tell) := goodIn_app (goodIn_of _ (by decide +kernel)) ggX4_layBase_X4_tell
set_option maxRecDepth 20000 in
theorem ggX4_layBase_X2_append : GoodIn wsX4_layBase wsX2_append := goodIn_r _ [32, 7, 33, 43, 44] (by decide +kernel) (by decide +kernel)
set_option maxRecDepth 20000 in
theorem gX4_layBase_X2_append : GoodIn wsX4_layBase (wsV RX4 110 RX2 yX2_append wsX2_append) := goodIn_app (goodIn_of _ (by decide +kernel)) ggX4_layBase_X2_append
theorem dX4_layBase_0 : decode cX4_layBase 0 = .ok (.aload_n 0, 1) := by decide +kernel
theorem dX4_layBase_1 : decode cX4_layBase 1 = .ok (.getfield 12, 3) := by decide +kernel
theorem dX4_layBase_4 : decode cX4_layBase 4 = .ok (.invokevirtual 103, 3) := by decide +kernel
theorem dX4_layBase_7 : decode cX4_layBase 7 = .ok (.iconst 0, 1) := by decide +kernel
theorem dX4_layBase_8 : decode cX4_layBase 8 = .ok (.istore_n 2, 1) := by decide +kernel
theorem dX4_layBase_9 : decode cX4_layBase 9 = .ok (.iload_n 2, 1) := by decide +kernel
theorem dX4_layBase_10 : decode cX4_layBase 10 = .ok (.aload_n 0, 1) := by decide +kernel
theorem dX4_layBase_11 : decode cX4_layBase 11 = .ok (.iload_n 1, 1) := by decide +kernel
theorem dX4_layBase_12 : decode cX4_layBase 12 = .ok (.invokevirtual 41, 3) := by decide +kernel
theorem dX4_layBase_15 : decode cX4_layBase 15 = .ok (.if_icmp .ge 23, 3) := by decide +kernel
theorem dX4_layBase_18 : decode cX4_layBase 18 = .ok (.aload_n 0, 1) := by decide +kernel
theorem dX4_layBase_19 : decode cX4_layBase 19 = .ok (.getfield 12, 3) := by decide +kernel
theorem dX4_layBase_22 : decode cX4_layBase 22 = .ok (.aload_n 0, 1) := by decide +kernel
theorem dX4_layBase_23 : decode cX4_layBase 23 = .ok (.iload_n 1, 1) := by decide +kernel
theorem dX4_layBase_24 : decode cX4_layBase 24 = .ok (.iload_n 2, 1) := by decide +kernel
theorem dX4_layBase_25 : decode cX4_layBase 25 = .ok (.iconst 2, 1) := by decide +kernel
theorem dX4_layBase_26 : decode cX4_layBase 26 = .ok (.invokevirtual 106, 3) := by decide +kernel
theorem dX4_layBase_29 : decode cX4_layBase 29 = .ok (.invokevirtual 110, 3) := by decide +kernel
theorem dX4_layBase_32 : decode cX4_layBase 32 = .ok (.iinc 2 1, 3) := by decide +kernel
theorem dX4_layBase_35 : decode cX4_layBase 35 = .ok (.goto (-26), 3) := by decide +kernel
theorem dX4_layBase_38 : decode cX4_layBase 38 = .ok (.return_, 1) := by decide +kernel
theorem dX4_commonDivisor_0 : decode cX4_commonDivisor 0 = .ok (.iconst 0, 1) := by decide +kernel
theorem dX4_commonDivisor_1 : decode cX4_commonDivisor 1 = .ok (.istore_n 2, 1) := by decide +kernel
theorem dX4_commonDivisor_2 : decode cX4_commonDivisor 2 = .ok (.iload_n 2, 1) := by decide +kernel
theorem dX4_commonDivisor_3 : decode cX4_commonDivisor 3 = .ok (.bipush 64, 2) := by decide +kernel
theorem dX4_commonDivisor_5 : decode cX4_commonDivisor 5 = .ok (.if_icmp .ge 21, 3) := by decide +kernel
theorem dX4_commonDivisor_8 : decode cX4_commonDivisor 8 = .ok (.iload_n 1, 1) := by decide +kernel
theorem dX4_commonDivisor_9 : decode cX4_commonDivisor 9 = .ok (.ifCond .eq 17, 3) := by decide +kernel
theorem dX4_commonDivisor_12 : decode cX4_commonDivisor 12 = .ok (.iload_n 0, 1) := by decide +kernel
theorem dX4_commonDivisor_13 : decode cX4_commonDivisor 13 = .ok (.iload_n 1, 1) := by decide +kernel
theorem dX4_commonDivisor_14 : decode cX4_commonDivisor 14 = .ok (.irem, 1) := by decide +kernel
theorem dX4_commonDivisor_15 : decode cX4_commonDivisor 15 = .ok (.istore_n 3, 1) := by decide +kernel
theorem dX4_commonDivisor_16 : decode cX4_commonDivisor 16 = .ok (.iload_n 1, 1) := by decide +kernel
theorem dX4_commonDivisor_17 : decode cX4_commonDivisor 17 = .ok (.istore_n 0, 1) := by decide +kernel
theorem dX4_commonDivisor_18 : decode cX4_commonDivisor 18 = .ok (.iload_n 3, 1) := by decide +kernel
theorem dX4_commonDivisor_19 : decode cX4_commonDivisor 19 = .ok (.istore_n 1, 1) := by decide +kernel
theorem dX4_commonDivisor_20 : decode cX4_commonDivisor 20 = .ok (.iinc 2 1, 3) := by decide +kernel
theorem dX4_commonDivisor_23 : decode cX4_commonDivisor 23 = .ok (.goto (-21), 3) := by decide +kernel
theorem dX4_commonDivisor_26 : decode cX4_commonDivisor 26 = .ok (.iload_n 0, 1) := by decide +kernel
theorem dX4_commonDivisor_27 : decode cX4_commonDivisor 27 = .ok (.ireturn, 1) := by decide +kernel
set_option maxRecDepth 20000 in
theorem ggX5_init_X2_init : GoodIn wsX5_init wsX2_init := goodIn_r _ [29, 30, 2, 3, 31, 32, 61, 62] (by decide +kernel) (by decide +kernel)
set_option maxRecDepth 20000 in
theorem gX5_init_X2_init : GoodIn wsX5_init (wsX2_init) := ggX5_init_X2_init
set_option maxRecDepth 20000 in
theorem ggX5_init_X0_init : GoodIn wsX5_init wsX0_init := goodIn_r _ [35, 36, 2, 3, 31, 37, 38, 39, 40, 41, 74, 75, 76, 77, 78] (by decide +kernel) (by decide +kernel)
set_option maxRecDepth 20000 in
theorem gX5_init_X0_init : GoodIn wsX5_init (wsX0_init) := ggX5_init_X0_init
set_option maxRecDepth 20000 in
theorem ggX5_init_X4_init : GoodIn wsX5_init wsX4_init := goodIn_r _ [44, 45, 2, 3, 46, 5, 6, 47, 31, 48, 49, 50, 51, 52, 53, 54, 28, 29, 30, 32, 61, 62, 79, 80, 81, 82, 83, 84, 85, 86, 87] (by decide +kernel) (by decide +kernel)
set_option maxRecDepth 20000 in
theorem gX5_init_X4_init : GoodIn wsX5_init (wsX4_init) := ggX5_init_X4_init
set_option maxRecDepth 20000 in
theorem ggX5_init_X1_init : GoodIn wsX5_init wsX1_init := goodIn_r _ [56, 57, 2, 3] (by decide +kernel) (by decide +kernel)
set_option maxRecDepth 20000 in
theorem gX5_init_X1_init_n38 : GoodIn wsX5_init (wsX1_init) := ggX5_init_X1_init
set_option maxRecDepth 20000 in
theorem ggX5_init_X3_init : GoodIn wsX5_init wsX3_init := goodIn_r _ [59, 60, 2, 3] (by decide +kernel) (by decide +kernel)
set_option maxRecDepth 20000 in
theorem gX5_init_X3_init_n45 : GoodIn wsX5_init (wsX3_init) := ggX5_init_X3_init
end
section
theorem dX5_init_0 : decode cX5_init 0 = .ok (.aload_n 0, 1) := by decide +kernel
theorem dX5_init_1 : decode cX5_init 1 = .ok (.invokespecial 1, 3) := by decide +kernel
theorem dX5_init_4 : decode cX5_init 4 = .ok (.aload_n 0, 1) := by decide +kernel
theorem dX5_init_5 : decode cX5_init 5 = .ok (.new 7, 3) := by decide +kernel
theorem dX5_init_8 : decode cX5_init 8 = .ok (.dup, 1) := by decide +kernel
theorem dX5_init_9 : decode cX5_init 9 = .ok (.invokespecial 9, 3) := by decide +kernel
theorem dX5_init_12 : decode cX5_init 12 = .ok (.putfield 10, 3) := by decide +kernel
theorem dX5_init_15 : decode cX5_init 15 = .ok (.aload_n 0, 1) := by decide +kernel
theorem dX5_init_16 : decode cX5_init 16 = .ok (.new 7, 3) := by decide +kernel
theorem dX5_init_19 : decode cX5_init 19 = .ok (.dup, 1) := by decide +kernel
theorem dX5_init_20 : decode cX5_init 20 = .ok (.invokespecial 9, 3) := by decide +kernel
theorem dX5_init_23 : decode cX5_init 23 = .ok (.putfield 16, 3) := by decide +kernel
theorem dX5_init_26 : decode cX5_init 26 = .ok (.aload_n 0, 1) := by decide +kernel
theorem dX5_init_27 : decode cX5_init 27 = .ok (.new 7, 3) := by decide +kernel
theorem dX5_init_30 : decode cX5_init 30 = .ok (.dup, 1) := by decide +kernel
theorem dX5_init_31 : decode cX5_init 31 = .ok (.invokespecial 9, 3) := by decide +kernel
theorem dX5_init_34 : decode cX5_init 34 = .ok (.putfield 19, 3) := by decide +kernel
theorem dX5_init_37 : decode cX5_init 37 = .ok (.aload_n 0, 1) := by decide +kernel
theorem dX5_init_38 : decode cX5_init 38 = .ok (.new 22, 3) := by decide +kernel
theorem dX5_init_41 : decode cX5_init 41 = .ok (.dup, 1) := by decide +kernel
theorem dX5_init_42 : decode cX5_init 42 = .ok (.invokespecial 24, 3) := by decide +kernel
theorem dX5_init_45 : decode cX5_init 45 = .ok (.putfield 25, 3) := by decide +kernel
theorem dX5_init_48 : decode cX5_init 48 = .ok (.aload_n 0, 1) := by decide +kernel
theorem dX5_init_49 : decode cX5_init 49 = .ok (.new 29, 3) := by decide +kernel
theorem dX5_init_52 : decode cX5_init 52 = .ok (.dup, 1) := by decide +kernel
theorem dX5_init_53 : decode cX5_init 53 = .ok (.invokespecial 31, 3) := by decide +kernel
theorem dX5_init_56 : decode cX5_init 56 = .ok (.putfield 32, 3) := by decide +kernel
theorem dX5_init_59 : decode cX5_init 59 = .ok (.aload_n 0, 1) := by decide +kernel
theorem dX5_init_60 : decode cX5_init 60 = .ok (.new 36, 3) := by decide +kernel
theorem dX5_init_63 : decode cX5_init 63 = .ok (.dup, 1) := by decide +kernel
theorem dX5_init_64 : decode cX5_init 64 = .ok (.invokespecial 38, 3) := by decide +kernel
theorem dX5_init_67 : decode cX5_init 67 = .ok (.putfield 39, 3) := by decide +kernel
theorem dX5_init_70 : decode cX5_init 70 = .ok (.aload_n 0, 1) := by decide +kernel
theorem dX5_init_71 : decode cX5_init 71 = .ok (.new 43, 3) := by decide +kernel
theorem dX5_init_74 : decode cX5_init 74 = .ok (.dup, 1) := by decide +kernel
theorem dX5_init_75 : decode cX5_init 75 = .ok (.invokespecial 45, 3) := by decide +kernel
theorem dX5_init_78 : decode cX5_init 78 = .ok (.putfield 46, 3) := by decide +kernel
theorem dX5_init_81 : decode cX5_init 81 = .ok (.aload_n 0, 1) := by decide +kernel
theorem dX5_init_82 : decode cX5_init 82 = .ok (.iconst 2, 1) := by decide +kernel
theorem dX5_init_83 : decode cX5_init 83 = .ok (.putfield 50, 3) := by decide +kernel
theorem dX5_init_86 : decode cX5_init 86 = .ok (.return_, 1) := by decide +kernel
set_option maxRecDepth 20000 in
theorem ggX5_put_X5_isNumber : GoodIn wsX5_put wsX5_isNumber := goodIn_r _ [9, 10] (by decide +kernel) (by decide +kernel)
set_option maxRecDepth 20000 in
theorem gX5_put_X5_isNumber : GoodIn wsX5_put (va_wsS RX5 54 yX5_isNumber wsX5_isNumber) := goodIn_app (goodIn_of _ (by decide +kernel)) ggX5_put_X5_isNumber
set_option maxRecDepth 20000 in
theorem ggX5_put_X2_has : GoodIn wsX5_put wsX2_has := goodIn_r _ [15, 16, 17, 18, 19, 20, 14, 21, 165, 166] (by decide +kernel) (by decide +kernel)
set_option maxRecDepth 20000 in
theorem gX5_put_X2_has : GoodIn wsX5_put (wsV RX5 58 RX2 yX2_has wsX2_has) := goodIn_app (goodIn_of _ (by decide +kernel)) ggX5_put_X2_has
set_option maxRecDepth 20000 in
theorem ggX5_put_X2_size : GoodIn wsX5_put wsX2_size := goodIn_r _ [25, 16, 165, 166] (by decide +kernel) (by decide +kernel)
set_option maxRecDepth 20000 in
theorem gX5_put_X2_size : GoodIn wsX5_put (wsV RX5 61 RX2 yX2_size wsX2_size) := goodIn_app (goodIn_of _ (by decide +kernel)) ggX5_put_X2_size
set_option maxRecDepth 20000 in
theorem ggX5_put_X5_clearAsideIfFull : GoodIn wsX5_put wsX5_clearAsideIfFull := goodIn_r _ [29, 4, 3, 30, 31, 32, 8, 33, 2, 1, 34, 5, 35, 36, 37, 38, 39, 40, 14, 41, 16, 42, 23, 24, 25, 43, 44, 45, 46, 17, 47, 48, 49, 50, 22, 51, 52, 53, 54, 55, 56, 57, 58, 59, 60, 61, 62, 63, 64, 65, 66, 67, 68, 69, 70, 71, 72, 73, 74, 75, 76, 77, 78, 79, 80, 81, 82, 83, 84, 85, 86, 87, 88, 89, 90, 91, 92, 93, 94, 95, 96, 97, 98, 99, 100, 101, 102, 103, 104, 105, 106, 107, 108, 109, 110, 111, 112, 113, 114, 115, 116, 117, 118, 119, 120, 121, 122, 123, 124, 125, 126, 127, 128, 129, 130, 131, 132, 133, 134, 135, 136, 137, 138, 139, 140, 141, 142, 143, 144, 145, 146, 147, 148, 154, 155, 156, 157, 158, 159, 160, 161, 162, 163, 164, 165, 166, 167, 168, 169, 170, 171, 172, 173, 174, 175, 176, 177, 178, 179, 180, 181] (by decide +kernel) (by decide +kernel)
set_option maxRecDepth 20000 in
theorem gX5_put_X5_clearAsideIfFull : GoodIn wsX5_put (wsV RX5 68 RX5 yX5_clearAsideIfFull wsX5_clearAsideIfFull) := goodIn_app (goodIn_of _ (by decide +kernel)) ggX5_put_X5_clearAsideIfFull
set_option maxRecDepth 20000 in
theorem ggX5_put_X2_add : GoodIn wsX5_put wsX2_add := goodIn_r _ [152, 16, 17, 153, 12, 13, 14, 15, 18, 19, 20, 21, 165, 166] (by decide +kernel) (by decide +kernel)
set_option maxRecDepth 20000 in
theorem gX5_put_X2_add : GoodIn wsX5_put (wsV RX5 74 RX2 yX2_add wsX2_add) := goodIn_app (goodIn_of _ (by decide +kernel)) ggX5_put_X2_add
set_option maxRecDepth 20000 in
theorem ggX5_put_X1_add : GoodIn wsX5_put wsX1_add := goodIn_r _ [61, 56, 62, 63, 54, 64, 167] (by decide +kernel) (by decide +kernel)
set_option maxRecDepth 20000 in
theorem gX5_put_X1_add : GoodIn wsX5_put (wsV RX5 78 RX1 yX1_add wsX1_add) := goodIn_app (goodIn_of _ (by decide +kernel)) ggX5_put_X1_add
theorem dX5_put_0 : decode cX5_put 0 = .ok (.iload_n 1, 1) := by decide +kernel
theorem dX5_put_1 : decode cX5_put 1 = .ok (.invokestatic 54, 3) := by decide +kernel
theorem dX5_put_4 : decode cX5_put 4 = .ok (.ifCond .ne 6, 3) := by decide +kernel
theorem dX5_put_7 : decode cX5_put 7 = .ok (.bipush (-2), 2) := by decide +kernel
theorem dX5_put_9 : decode cX5_put 9 = .ok (.ireturn, 1) := by decide +kernel
theorem dX5_put_10 : decode cX5_put 10 = .ok (.aload_n 0, 1) := by decide +kernel
theorem dX5_put_11 : decode cX5_put 11 = .ok (.getfield 10, 3) := by decide +kernel
theorem dX5_put_14 : decode cX5_put 14 = .ok (.iload_n 1, 1) := by decide +kernel
theorem dX5_put_15 : decode cX5_put 15 = .ok (.invokevirtual 58, 3) := by decide +kernel
theorem dX5_put_18 : decode cX5_put 18 = .ok (.ifCond .eq 6, 3) := by decide +kernel
theorem dX5_put_21 : decode cX5_put 21 = .ok (.bipush (-3), 2) := by decide +kernel
theorem dX5_put_23 : decode cX5_put 23 = .ok (.ireturn, 1) := by decide +kernel
theorem dX5_put_24 : decode cX5_put 24 = .ok (.aload_n 0, 1) := by decide +kernel
theorem dX5_put_25 : decode cX5_put 25 = .ok (.getfield 10, 3) := by decide +kernel
theorem dX5_put_28 : decode cX5_put 28 = .ok (.invokevirtual 61, 3) := by decide +kernel
theorem dX5_put_31 : decode cX5_put 31 = .ok (.bipush 60, 2) := by decide +kernel
theorem dX5_put_33 : decode cX5_put 33 = .ok (.if_icmp .lt 6, 3) := by decide +kernel
theorem dX5_put_36 : decode cX5_put 36 = .ok (.bipush (-4), 2) := by decide +kernel
theorem dX5_put_38 : decode cX5_put 38 = .ok (.ireturn, 1) := by decide +kernel
theorem dX5_put_39 : decode cX5_put 39 = .ok (.aload_n 0, 1) := by decide +kernel
theorem dX5_put_40 : decode cX5_put 40 = .ok (.getfield 16, 3) := by decide +kernel
theorem dX5_put_43 : decode cX5_put 43 = .ok (.iload_n 1, 1) := by decide +kernel
theorem dX5_put_44 : decode cX5_put 44 = .ok (.invokevirtual 58, 3) := by decide +kernel
theorem dX5_put_47 : decode cX5_put 47 = .ok (.ifCond .eq 16, 3) := by decide +kernel
theorem dX5_put_50 : decode cX5_put 50 = .ok (.aload_n 0, 1) := by decide +kernel
theorem dX5_put_51 : decode cX5_put 51 = .ok (.dup, 1) := by decide +kernel
theorem dX5_put_52 : decode cX5_put 52 = .ok (.getfield 65, 3) := by decide +kernel
theorem dX5_put_55 : decode cX5_put 55 = .ok (.iconst 1, 1) := by decide +kernel
theorem dX5_put_56 : decode cX5_put 56 = .ok (.isub, 1) := by decide +kernel
theorem dX5_put_57 : decode cX5_put 57 = .ok (.putfield 65, 3) := by decide +kernel
theorem dX5_put_60 : decode cX5_put 60 = .ok (.goto 17, 3) := by decide +kernel
theorem dX5_put_63 : decode cX5_put 63 = .ok (.aload_n 0, 1) := by decide +kernel
theorem dX5_put_64 : decode cX5_put 64 = .ok (.invokevirtual 68, 3) := by decide +kernel
theorem dX5_put_67 : decode cX5_put 67 = .ok (.aload_n 0, 1) := by decide +kernel
theorem dX5_put_68 : decode cX5_put 68 = .ok (.dup, 1) := by decide +kernel
theorem dX5_put_69 : decode cX5_put 69 = .ok (.getfield 71, 3) := by decide +kernel
theorem dX5_put_72 : decode cX5_put 72 = .ok (.iconst 1, 1) := by decide +kernel
theorem dX5_put_73 : decode cX5_put 73 = .ok (.iadd, 1) := by decide +kernel
theorem dX5_put_74 : decode cX5_put 74 = .ok (.putfield 71, 3) := by decide +kernel
theorem dX5_put_77 : decode cX5_put 77 = .ok (.aload_n 0, 1) := by decide +kernel
theorem dX5_put_78 : decode cX5_put 78 = .ok (.getfield 10, 3) := by decide +kernel
theorem dX5_put_81 : decode cX5_put 81 = .ok (.iload_n 1, 1) := by decide +kernel
theorem dX5_put_82 : decode cX5_put 82 = .ok (.invokevirtual 74, 3) := by decide +kernel
theorem dX5_put_85 : decode cX5_put 85 = .ok (.aload_n 0, 1) := by decide +kernel
theorem dX5_put_86 : decode cX5_put 86 = .ok (.getfield 39, 3) := by decide +kernel
theorem dX5_put_89 : decode cX5_put 89 = .ok (.iload_n 1, 1) := by decide +kernel
theorem dX5_put_90 : decode cX5_put 90 = .ok (.invokevirtual 78, 3) := by decide +kernel
theorem dX5_put_93 : decode cX5_put 93 = .ok (.aload_n 0, 1) := by decide +kernel
theorem dX5_put_94 : decode cX5_put 94 = .ok (.getfield 10, 3) := by decide +kernel
theorem dX5_put_97 : decode cX5_put 97 = .ok (.invokevirtual 61, 3) := by decide +kernel
theorem dX5_put_100 : decode cX5_put 100 = .ok (.ireturn, 1) := by decide +kernel
set_option maxRecDepth 20000 in
theorem ggX5_take_X5_isNumber : GoodIn wsX5_take wsX5_isNumber := goodIn_r _ [8, 9] (by decide +kernel) (by decide +kernel)
set_option maxRecDepth 20000 in
theorem gX5_take_X5_isNumber : GoodIn wsX5_take (va_wsS RX5 54 yX5_isNumber wsX5_isNumber) := goodIn_app (goodIn_of _ (by decide +kernel)) ggX5_take_X5_isNumber
set_option maxRecDepth 20000 in
theorem ggX5_take_X2_has : GoodIn wsX5_take wsX2_has := goodIn_r _ [14, 15, 16, 17, 18, 19, 13, 20, 165, 166] (by decide +kernel) (by decide +kernel)
set_option maxRecDepth 20000 in
theorem gX5_take_X2_has : GoodIn wsX5_take (wsV RX5 58 RX2 yX2_has wsX2_has) := goodIn_app (goodIn_of _ (by decide +kernel)) ggX5_take_X2_has
set_option maxRecDepth 20000 in
theorem ggX5_take_X5_clearAsideIfFull : GoodIn wsX5_take wsX5_clearAsideIfFull := goodIn_r _ [24, 4, 3, 25, 26, 27, 7, 28, 2, 1, 29, 30, 31, 32, 33, 34, 35, 36, 13, 37, 15, 38, 39, 40, 41, 42, 43, 44, 45, 16, 46, 47, 48, 49, 50, 51, 52, 53, 54, 55, 56, 57, 58, 59, 60, 61, 62, 63, 64, 65, 66, 67, 68, 69, 70, 71, 72, 73, 74, 75, 76, 77, 78, 79, 80, 81, 82, 83, 84, 85, 86, 87, 88, 89, 90, 91, 92, 93, 94, 95, 96, 97, 98, 99, 100, 101, 102, 103, 104, 105, 106, 107, 108, 109, 110, 111, 112, 113, 114, 115, 116, 117, 118, 119, 120, 121, 122, 123, 124, 125, 126, 127, 128, 129, 130, 131, 132, 133, 134, 135, 136, 137, 138, 139, 140, 141, 142, 143, 144, 145, 146, 147, 148, 154, 155, 156, 157, 158, 159, 160, 161, 162, 163, 164, 165, 166, 167, 168, 169, 170, 171, 172, 173, 174, 175, 176, 177, 178, 179, 180, 181] (by decide +kernel) (by decide +kernel)
set_option maxRecDepth 20000 in
theorem gX5_take_X5_clearAsideIfFull : GoodIn wsX5_take (wsV RX5 68 RX5 yX5_clearAsideIfFull wsX5_clearAsideIfFull) := goodIn_app (goodIn_of _ (by decide +kernel)) ggX5_take_X5_clearAsideIfFull
set_option maxRecDepth 20000 in
theorem ggX5_take_X2_drop : GoodIn wsX5_take wsX2_drop := goodIn_r _ [152, 15, 16, 153, 11, 12, 13, 14, 17, 18, 19, 20, 165, 166] (by decide +kernel) (by decide +kernel)
set_option maxRecDepth 20000 in
theorem gX5_take_X2_drop : GoodIn wsX5_take (wsV RX5 79 RX2 yX2_drop wsX2_drop) := goodIn_app (goodIn_of _ (by decide +kernel)) ggX5_take_X2_drop
set_option maxRecDepth 20000 in
theorem ggX5_take_X2_size : GoodIn wsX5_take wsX2_size := goodIn_r _ [41, 15, 165, 166] (by decide +kernel) (by decide +kernel)
set_option maxRecDepth 20000 in
theorem gX5_take_X2_size : GoodIn wsX5_take (wsV RX5 61 RX2 yX2_size wsX2_size) := goodIn_app (goodIn_of _ (by decide +kernel)) ggX5_take_X2_size
theorem dX5_take_0 : decode cX5_take 0 = .ok (.iload_n 1, 1) := by decide +kernel
theorem dX5_take_1 : decode cX5_take 1 = .ok (.invokestatic 54, 3) := by decide +kernel
theorem dX5_take_4 : decode cX5_take 4 = .ok (.ifCond .ne 6, 3) := by decide +kernel
theorem dX5_take_7 : decode cX5_take 7 = .ok (.bipush (-2), 2) := by decide +kernel
theorem dX5_take_9 : decode cX5_take 9 = .ok (.ireturn, 1) := by decide +kernel
theorem dX5_take_10 : decode cX5_take 10 = .ok (.aload_n 0, 1) := by decide +kernel
theorem dX5_take_11 : decode cX5_take 11 = .ok (.getfield 10, 3) := by decide +kernel
theorem dX5_take_14 : decode cX5_take 14 = .ok (.iload_n 1, 1) := by decide +kernel
theorem dX5_take_15 : decode cX5_take 15 = .ok (.invokevirtual 58, 3) := by decide +kernel
theorem dX5_take_18 : decode cX5_take 18 = .ok (.ifCond .ne 6, 3) := by decide +kernel
theorem dX5_take_21 : decode cX5_take 21 = .ok (.bipush (-3), 2) := by decide +kernel
theorem dX5_take_23 : decode cX5_take 23 = .ok (.ireturn, 1) := by decide +kernel
theorem dX5_take_24 : decode cX5_take 24 = .ok (.aload_n 0, 1) := by decide +kernel
theorem dX5_take_25 : decode cX5_take 25 = .ok (.getfield 16, 3) := by decide +kernel
theorem dX5_take_28 : decode cX5_take 28 = .ok (.iload_n 1, 1) := by decide +kernel
theorem dX5_take_29 : decode cX5_take 29 = .ok (.invokevirtual 58, 3) := by decide +kernel
theorem dX5_take_32 : decode cX5_take 32 = .ok (.ifCond .eq 20, 3) := by decide +kernel
theorem dX5_take_35 : decode cX5_take 35 = .ok (.aload_n 0, 1) := by decide +kernel
theorem dX5_take_36 : decode cX5_take 36 = .ok (.invokevirtual 68, 3) := by decide +kernel
theorem dX5_take_39 : decode cX5_take 39 = .ok (.aload_n 0, 1) := by decide +kernel
theorem dX5_take_40 : decode cX5_take 40 = .ok (.dup, 1) := by decide +kernel
theorem dX5_take_41 : decode cX5_take 41 = .ok (.getfield 65, 3) := by decide +kernel
theorem dX5_take_44 : decode cX5_take 44 = .ok (.iconst 1, 1) := by decide +kernel
theorem dX5_take_45 : decode cX5_take 45 = .ok (.iadd, 1) := by decide +kernel
theorem dX5_take_46 : decode cX5_take 46 = .ok (.putfield 65, 3) := by decide +kernel
theorem dX5_take_49 : decode cX5_take 49 = .ok (.goto 13, 3) := by decide +kernel
theorem dX5_take_52 : decode cX5_take 52 = .ok (.aload_n 0, 1) := by decide +kernel
theorem dX5_take_53 : decode cX5_take 53 = .ok (.dup, 1) := by decide +kernel
theorem dX5_take_54 : decode cX5_take 54 = .ok (.getfield 71, 3) := by decide +kernel
theorem dX5_take_57 : decode cX5_take 57 = .ok (.iconst 1, 1) := by decide +kernel
theorem dX5_take_58 : decode cX5_take 58 = .ok (.isub, 1) := by decide +kernel
theorem dX5_take_59 : decode cX5_take 59 = .ok (.putfield 71, 3) := by decide +kernel
theorem dX5_take_62 : decode cX5_take 62 = .ok (.aload_n 0, 1) := by decide +kernel
theorem dX5_take_63 : decode cX5_take 63 = .ok (.getfield 10, 3) := by decide +kernel
theorem dX5_take_66 : decode cX5_take 66 = .ok (.iload_n 1, 1) := by decide +kernel
theorem dX5_take_67 : decode cX5_take 67 = .ok (.invokevirtual 79, 3) := by decide +kernel
theorem dX5_take_70 : decode cX5_take 70 = .ok (.aload_n 0, 1) := by decide +kernel
theorem dX5_take_71 : decode cX5_take 71 = .ok (.getfield 10, 3) := by decide +kernel
theorem dX5_take_74 : decode cX5_take 74 = .ok (.invokevirtual 61, 3) := by decide +kernel
theorem dX5_take_77 : decode cX5_take 77 = .ok (.ireturn, 1) := by decide +kernel
set_option maxRecDepth 20000 in
theorem ggX5_make_X5_makeRow : GoodIn wsX5_make wsX5_makeRow := goodIn_r _ [6, 7, 8, 9, 10, 1, 11, 12, 13, 14, 15, 16, 17, 18, 19, 20, 21, 22, 23, 24, 25, 26, 27, 28, 29, 30, 31, 32, 33, 34, 35, 36, 37, 38, 39, 40, 41, 42, 43, 44, 45, 46, 47, 48, 49, 50, 51, 52, 53, 54, 55, 56, 57, 58, 59, 60, 61, 62, 63, 64, 65, 66, 67, 68, 69, 70, 71, 72, 73, 74, 75, 76, 77, 78, 79, 80, 81, 82, 83, 84, 85, 86, 87, 88, 89, 90, 91, 92, 93, 94, 95, 96, 97, 98, 99, 100, 101, 102, 103, 104, 105, 106, 107, 108, 109, 110, 111, 112, 113, 114, 115, 116, 117, 118, 119, 120, 121, 122, 123, 124, 125, 126, 127, 128, 129, 130, 131, 132, 133, 134, 135, 136, 137, 138, 139, 140, 141, 142, 143, 144, 145, 146, 147, 148, 149, 150, 151, 152, 153, 154, 155, 156, 157, 158, 159, 160] (by decide +kernel) (by decide +kernel)
set_option maxRecDepth 20000 in
theorem gX5_make_X5_makeRow : GoodIn wsX5_make (wsV RX5 82 RX5 yX5_makeRow wsX5_makeRow) := goodIn_app (goodIn_of _ (by decide +kernel)) ggX5_make_X5_makeRow
theorem dX5_make_0 : decode cX5_make 0 = .ok (.aload_n 0, 1) := by decide +kernel
theorem dX5_make_1 : decode cX5_make 1 = .ok (.invokevirtual 82, 3) := by decide +kernel
theorem dX5_make_4 : decode cX5_make 4 = .ok (.aload_n 0, 1) := by decide +kernel
theorem dX5_make_5 : decode cX5_make 5 = .ok (.getfield 85, 3) := by decide +kernel
theorem dX5_make_8 : decode cX5_make 8 = .ok (.ireturn, 1) := by decide +kernel
set_option maxRecDepth 20000 in
theorem ggX5_slack_X5_makeRow : GoodIn wsX5_slack wsX5_makeRow := goodIn_r _ [6, 7, 8, 9, 10, 11, 12, 13, 14, 1, 15, 16, 17, 18, 19, 20, 21, 22, 23, 24, 25, 26, 27, 28, 29, 30, 31, 32, 33, 34, 35, 36, 37, 38, 39, 40, 41, 42, 43, 44, 45, 46, 47, 48, 49, 50, 51, 52, 53, 54, 55, 56, 57, 58, 59, 60, 61, 62, 63, 64, 65, 66, 67, 68, 69, 70, 71, 72, 73, 74, 75, 76, 77, 78, 79, 80, 81, 82, 83, 84, 85, 86, 87, 88, 89, 90, 91, 92, 93, 94, 95, 96, 97, 98, 99, 100, 101, 102, 103, 104, 105, 106, 107, 108, 109, 110, 111, 112, 113, 114, 115, 116, 117, 118, 119, 120, 121, 122, 123, 124, 125, 126, 127, 128, 129, 130, 131, 132, 133, 134, 135, 136, 137, 138, 139, 140, 141, 142, 143, 144, 145, 146, 147, 148, 149, 150, 151, 152, 153, 154, 155, 156, 157, 158, 159, 160] (by decide +kernel) (by decide +kernel)
set_option maxRecDepth 20000 in
theorem gX5_slack_X5_makeRow : GoodIn wsX5_slack (wsV RX5 82 RX5 yX5_makeRow wsX5_makeRow) := goodIn_app (goodIn_of _ (by decide +kernel)) ggX5_slack_X5_makeRow
theorem dX5_slack_0 : decode cX5_slack 0 = .ok (.iload_n 1, 1) := by decide +kernel
theorem dX5_slack_1 : decode cX5_slack 1 = .ok (.ifCond .lt 9, 3) := by decide +kernel
theorem dX5_slack_4 : decode cX5_slack 4 = .ok (.iload_n 1, 1) := by decide +kernel
theorem dX5_slack_5 : decode cX5_slack 5 = .ok (.bipush 8, 2) := by decide +kernel
theorem dX5_slack_7 : decode cX5_slack 7 = .ok (.if_icmp .le 6, 3) := by decide +kernel
theorem dX5_slack_10 : decode cX5_slack 10 = .ok (.bipush (-2), 2) := by decide +kernel
theorem dX5_slack_12 : decode cX5_slack 12 = .ok (.ireturn, 1) := by decide +kernel
theorem dX5_slack_13 : decode cX5_slack 13 = .ok (.aload_n 0, 1) := by decide +kernel
theorem dX5_slack_14 : decode cX5_slack 14 = .ok (.getfield 50, 3) := by decide +kernel
theorem dX5_slack_17 : decode cX5_slack 17 = .ok (.istore_n 2, 1) := by decide +kernel
theorem dX5_slack_18 : decode cX5_slack 18 = .ok (.aload_n 0, 1) := by decide +kernel
theorem dX5_slack_19 : decode cX5_slack 19 = .ok (.iload_n 1, 1) := by decide +kernel
theorem dX5_slack_20 : decode cX5_slack 20 = .ok (.putfield 50, 3) := by decide +kernel
theorem dX5_slack_23 : decode cX5_slack 23 = .ok (.aload_n 0, 1) := by decide +kernel
theorem dX5_slack_24 : decode cX5_slack 24 = .ok (.invokevirtual 82, 3) := by decide +kernel
theorem dX5_slack_27 : decode cX5_slack 27 = .ok (.iload_n 2, 1) := by decide +kernel
theorem dX5_slack_28 : decode cX5_slack 28 = .ok (.ireturn, 1) := by decide +kernel
set_option maxRecDepth 20000 in
theorem ggX5_place_X5_isNumber : GoodIn wsX5_place wsX5_isNumber := goodIn_r _ [5, 6] (by decide +kernel) (by decide +kernel)
set_option maxRecDepth 20000 in
theorem gX5_place_X5_isNumber : GoodIn wsX5_place (va_wsS RX5 54 yX5_isNumber wsX5_isNumber) := goodIn_app (goodIn_of _ (by decide +kernel)) ggX5_place_X5_isNumber
set_option maxRecDepth 20000 in
theorem ggX5_place_X2_has : GoodIn wsX5_place wsX2_has := goodIn_r _ [11, 12, 13, 14, 15, 16, 10, 17, 30, 31] (by decide +kernel) (by decide +kernel)
set_option maxRecDepth 20000 in
theorem gX5_place_X2_has : GoodIn wsX5_place (wsV RX5 58 RX2 yX2_has wsX2_has) := goodIn_app (goodIn_of _ (by decide +kernel)) ggX5_place_X2_has
set_option maxRecDepth 20000 in
theorem ggX5_place_X2_below : GoodIn wsX5_place wsX2_below := goodIn_r _ [17, 12, 13, 30, 31] (by decide +kernel) (by decide +kernel)
set_option maxRecDepth 20000 in
theorem gX5_place_X2_below : GoodIn wsX5_place (wsV RX5 88 RX2 yX2_below wsX2_below) := goodIn_app (goodIn_of _ (by decide +kernel)) ggX5_place_X2_below
theorem dX5_place_0 : decode cX5_place 0 = .ok (.iload_n 1, 1) := by decide +kernel
theorem dX5_place_1 : decode cX5_place 1 = .ok (.invokestatic 54, 3) := by decide +kernel
theorem dX5_place_4 : decode cX5_place 4 = .ok (.ifCond .ne 6, 3) := by decide +kernel
theorem dX5_place_7 : decode cX5_place 7 = .ok (.bipush (-2), 2) := by decide +kernel
theorem dX5_place_9 : decode cX5_place 9 = .ok (.ireturn, 1) := by decide +kernel
theorem dX5_place_10 : decode cX5_place 10 = .ok (.aload_n 0, 1) := by decide +kernel
theorem dX5_place_11 : decode cX5_place 11 = .ok (.getfield 10, 3) := by decide +kernel
theorem dX5_place_14 : decode cX5_place 14 = .ok (.iload_n 1, 1) := by decide +kernel
theorem dX5_place_15 : decode cX5_place 15 = .ok (.invokevirtual 58, 3) := by decide +kernel
theorem dX5_place_18 : decode cX5_place 18 = .ok (.ifCond .eq 14, 3) := by decide +kernel
theorem dX5_place_21 : decode cX5_place 21 = .ok (.aload_n 0, 1) := by decide +kernel
theorem dX5_place_22 : decode cX5_place 22 = .ok (.getfield 10, 3) := by decide +kernel
theorem dX5_place_25 : decode cX5_place 25 = .ok (.iload_n 1, 1) := by decide +kernel
theorem dX5_place_26 : decode cX5_place 26 = .ok (.invokevirtual 88, 3) := by decide +kernel
theorem dX5_place_29 : decode cX5_place 29 = .ok (.goto 4, 3) := by decide +kernel
theorem dX5_place_32 : decode cX5_place 32 = .ok (.iconst (-1), 1) := by decide +kernel
theorem dX5_place_33 : decode cX5_place 33 = .ok (.ireturn, 1) := by decide +kernel
set_option maxRecDepth 20000 in
theorem ggX5_at_X2_size : GoodIn wsX5_at wsX2_size := goodIn_r _ [6, 7, 24, 25] (by decide +kernel) (by decide +kernel)
set_option maxRecDepth 20000 in
theorem gX5_at_X2_size : GoodIn wsX5_at (wsV RX5 61 RX2 yX2_size wsX2_size) := goodIn_app (goodIn_of _ (by decide +kernel)) ggX5_at_X2_size
set_option maxRecDepth 20000 in
theorem ggX5_at_X2_key : GoodIn wsX5_at wsX2_key := goodIn_r _ [11, 7, 12, 24, 25] (by decide +kernel) (by decide +kernel)
set_option maxRecDepth 20000 in
theorem gX5_at_X2_key : GoodIn wsX5_at (wsV RX5 92 RX2 yX2_key wsX2_key) := goodIn_app (goodIn_of _ (by decide +kernel)) ggX5_at_X2_key
theorem dX5_at_0 : decode cX5_at 0 = .ok (.iload_n 1, 1) := by decide +kernel
theorem dX5_at_1 : decode cX5_at 1 = .ok (.ifCond .lt 14, 3) := by decide +kernel
theorem dX5_at_4 : decode cX5_at 4 = .ok (.iload_n 1, 1) := by decide +kernel
theorem dX5_at_5 : decode cX5_at 5 = .ok (.aload_n 0, 1) := by decide +kernel
theorem dX5_at_6 : decode cX5_at 6 = .ok (.getfield 10, 3) := by decide +kernel
theorem dX5_at_9 : decode cX5_at 9 = .ok (.invokevirtual 61, 3) := by decide +kernel
theorem dX5_at_12 : decode cX5_at 12 = .ok (.if_icmp .lt 6, 3) := by decide +kernel
theorem dX5_at_15 : decode cX5_at 15 = .ok (.bipush (-2), 2) := by decide +kernel
theorem dX5_at_17 : decode cX5_at 17 = .ok (.ireturn, 1) := by decide +kernel
theorem dX5_at_18 : decode cX5_at 18 = .ok (.aload_n 0, 1) := by decide +kernel
theorem dX5_at_19 : decode cX5_at 19 = .ok (.getfield 10, 3) := by decide +kernel
theorem dX5_at_22 : decode cX5_at 22 = .ok (.iload_n 1, 1) := by decide +kernel
theorem dX5_at_23 : decode cX5_at 23 = .ok (.invokevirtual 92, 3) := by decide +kernel
theorem dX5_at_26 : decode cX5_at 26 = .ok (.ireturn, 1) := by decide +kernel
set_option maxRecDepth 20000 in
theorem ggX5_range_X5_isSpan : GoodIn wsX5_range wsX5_isSpan := goodIn_r _ [6, 7, 8, 5, 9, 1] (by decide +kernel) (by decide +kernel)
set_option maxRecDepth 20000 in
theorem gX5_range_X5_isSpan : GoodIn wsX5_range (va_wsS RX5 96 yX5_isSpan wsX5_isSpan) := goodIn_app (goodIn_of _ (by decide +kernel)) ggX5_range_X5_isSpan
set_option maxRecDepth 20000 in
theorem ggX5_range_X2_within : GoodIn wsX5_range wsX2_within := goodIn_r _ [14, 15, 16, 17, 13, 18, 19, 20, 32, 33] (by decide +kernel) (by decide +kernel)
set_option maxRecDepth 20000 in
theorem gX5_range_X2_within : GoodIn wsX5_range (wsV RX5 100 RX2 yX2_within wsX2_within) := goodIn_app (goodIn_of _ (by decide +kernel)) ggX5_range_X2_within
theorem dX5_range_0 : decode cX5_range 0 = .ok (.iload_n 1, 1) := by decide +kernel
theorem dX5_range_1 : decode cX5_range 1 = .ok (.iload_n 2, 1) := by decide +kernel
theorem dX5_range_2 : decode cX5_range 2 = .ok (.ldc 95, 2) := by decide +kernel
theorem dX5_range_4 : decode cX5_range 4 = .ok (.invokestatic 96, 3) := by decide +kernel
theorem dX5_range_7 : decode cX5_range 7 = .ok (.ifCond .ne 6, 3) := by decide +kernel
theorem dX5_range_10 : decode cX5_range 10 = .ok (.bipush (-2), 2) := by decide +kernel
theorem dX5_range_12 : decode cX5_range 12 = .ok (.ireturn, 1) := by decide +kernel
theorem dX5_range_13 : decode cX5_range 13 = .ok (.aload_n 0, 1) := by decide +kernel
theorem dX5_range_14 : decode cX5_range 14 = .ok (.getfield 10, 3) := by decide +kernel
theorem dX5_range_17 : decode cX5_range 17 = .ok (.iload_n 1, 1) := by decide +kernel
theorem dX5_range_18 : decode cX5_range 18 = .ok (.iload_n 2, 1) := by decide +kernel
theorem dX5_range_19 : decode cX5_range 19 = .ok (.invokevirtual 100, 3) := by decide +kernel
theorem dX5_range_22 : decode cX5_range 22 = .ok (.ireturn, 1) := by decide +kernel
set_option maxRecDepth 20000 in
theorem ggX5_sum_X5_isSpan : GoodIn wsX5_sum wsX5_isSpan := goodIn_r _ [7, 8, 9, 6, 10, 1] (by decide +kernel) (by decide +kernel)
set_option maxRecDepth 20000 in
theorem gX5_sum_X5_isSpan : GoodIn wsX5_sum (va_wsS RX5 96 yX5_isSpan wsX5_isSpan) := goodIn_app (goodIn_of _ (by decide +kernel)) ggX5_sum_X5_isSpan
set_option maxRecDepth 20000 in
theorem ggX5_sum_X2_total : GoodIn wsX5_sum wsX2_total := goodIn_r _ [15, 16, 17, 18, 14, 19, 20, 21, 22, 23, 24, 25, 37, 38] (by decide +kernel) (by decide +kernel)
set_option maxRecDepth 20000 in
theorem gX5_sum_X2_total : GoodIn wsX5_sum (wsV RX5 106 RX2 yX2_total wsX2_total) := goodIn_app (goodIn_of _ (by decide +kernel)) ggX5_sum_X2_total
theorem dX5_sum_0 : decode cX5_sum 0 = .ok (.iload_n 1, 1) := by decide +kernel
theorem dX5_sum_1 : decode cX5_sum 1 = .ok (.iload_n 2, 1) := by decide +kernel
theorem dX5_sum_2 : decode cX5_sum 2 = .ok (.ldc 95, 2) := by decide +kernel
theorem dX5_sum_4 : decode cX5_sum 4 = .ok (.invokestatic 96, 3) := by decide +kernel
theorem dX5_sum_7 : decode cX5_sum 7 = .ok (.ifCond .ne 7, 3) := by decide +kernel
theorem dX5_sum_10 : decode cX5_sum 10 = .ok (.ldc2_w 104, 3) := by decide +kernel
theorem dX5_sum_13 : decode cX5_sum 13 = .ok (.lreturn, 1) := by decide +kernel
theorem dX5_sum_14 : decode cX5_sum 14 = .ok (.aload_n 0, 1) := by decide +kernel
theorem dX5_sum_15 : decode cX5_sum 15 = .ok (.getfield 10, 3) := by decide +kernel
theorem dX5_sum_18 : decode cX5_sum 18 = .ok (.iload_n 1, 1) := by decide +kernel
theorem dX5_sum_19 : decode cX5_sum 19 = .ok (.iload_n 2, 1) := by decide +kernel
theorem dX5_sum_20 : decode cX5_sum 20 = .ok (.invokevirtual 106, 3) := by decide +kernel
theorem dX5_sum_23 : decode cX5_sum 23 = .ok (.lreturn, 1) := by decide +kernel
set_option maxRecDepth 20000 in
theorem ggX5_pieces_X4_width : GoodIn wsX5_pieces wsX4_width := goodIn_r _ [6, 7, 8, 20, 21, 22, 23, 24, 25, 26, 27, 28] (by decide +kernel) (by decide +kernel)
set_option maxRecDepth 20000 in
theorem gX5_pieces_X4_width : GoodIn wsX5_pieces (wsV RX5 110 RX4 yX4_width wsX4_width) := goodIn_app (goodIn_of _ (by decide +kernel)) ggX5_pieces_X4_width
theorem dX5_pieces_0 : decode cX5_pieces 0 = .ok (.iload_n 1, 1) := by decide +kernel
theorem dX5_pieces_1 : decode cX5_pieces 1 = .ok (.ifCond .lt 9, 3) := by decide +kernel
theorem dX5_pieces_4 : decode cX5_pieces 4 = .ok (.iload_n 1, 1) := by decide +kernel
theorem dX5_pieces_5 : decode cX5_pieces 5 = .ok (.bipush 10, 2) := by decide +kernel
theorem dX5_pieces_7 : decode cX5_pieces 7 = .ok (.if_icmp .lt 6, 3) := by decide +kernel
theorem dX5_pieces_10 : decode cX5_pieces 10 = .ok (.bipush (-2), 2) := by decide +kernel
theorem dX5_pieces_12 : decode cX5_pieces 12 = .ok (.ireturn, 1) := by decide +kernel
theorem dX5_pieces_13 : decode cX5_pieces 13 = .ok (.aload_n 0, 1) := by decide +kernel
theorem dX5_pieces_14 : decode cX5_pieces 14 = .ok (.getfield 32, 3) := by decide +kernel
theorem dX5_pieces_17 : decode cX5_pieces 17 = .ok (.iload_n 1, 1) := by decide +kernel
theorem dX5_pieces_18 : decode cX5_pieces 18 = .ok (.invokevirtual 110, 3) := by decide +kernel
theorem dX5_pieces_21 : decode cX5_pieces 21 = .ok (.ireturn, 1) := by decide +kernel
set_option maxRecDepth 20000 in
theorem ggX5_piece_X4_tell : GoodIn wsX5_piece wsX4_tell := goodIn_r _ [6, 7, 8, 9, 10, 11, 12, 13, 14, 15, 5, 16, 17, 18, 19, 20, 21, 22, 34, 35, 36, 37, 38, 39, 40, 41, 42] (by decide +kernel) (by decide +kernel)
set_option maxRecDepth 20000 in
theorem gX5_piece_X4_tell : GoodIn wsX5_piece (wsV RX5 113 RX4 yX4_tell wsX4_tell) := goodIn_app (goodIn_of _ (by decide +kernel)) ggX5_piece_X4_tell
theorem dX5_piece_0 : decode cX5_piece 0 = .ok (.aload_n 0, 1) := by decide +kernel
theorem dX5_piece_1 : decode cX5_piece 1 = .ok (.getfield 32, 3) := by decide +kernel
theorem dX5_piece_4 : decode cX5_piece 4 = .ok (.iload_n 1, 1) := by decide +kernel
theorem dX5_piece_5 : decode cX5_piece 5 = .ok (.iload_n 2, 1) := by decide +kernel
theorem dX5_piece_6 : decode cX5_piece 6 = .ok (.iload_n 3, 1) := by decide +kernel
theorem dX5_piece_7 : decode cX5_piece 7 = .ok (.invokevirtual 113, 3) := by decide +kernel
theorem dX5_piece_10 : decode cX5_piece 10 = .ok (.ireturn, 1) := by decide +kernel
set_option maxRecDepth 20000 in
theorem ggX5_levels_X4_height : GoodIn wsX5_levels wsX4_height := goodIn_r _ [6, 7, 19, 20, 21, 22, 23, 24, 25, 26, 27] (by decide +kernel) (by decide +kernel)
set_option maxRecDepth 20000 in
theorem gX5_levels_X4_height : GoodIn wsX5_levels (wsV RX5 117 RX4 yX4_height wsX4_height) := goodIn_app (goodIn_of _ (by decide +kernel)) ggX5_levels_X4_height
theorem dX5_levels_0 : decode cX5_levels 0 = .ok (.aload_n 0, 1) := by decide +kernel
theorem dX5_levels_1 : decode cX5_levels 1 = .ok (.getfield 32, 3) := by decide +kernel
theorem dX5_levels_4 : decode cX5_levels 4 = .ok (.invokevirtual 117, 3) := by decide +kernel
theorem dX5_levels_7 : decode cX5_levels 7 = .ok (.ireturn, 1) := by decide +kernel
set_option maxRecDepth 20000 in
theorem ggX5_guess_X5_isNumber : GoodIn wsX5_guess wsX5_isNumber := goodIn_r _ [5, 6] (by decide +kernel) (by decide +kernel)
set_option maxRecDepth 20000 in
theorem gX5_guess_X5_isNumber : GoodIn wsX5_guess (va_wsS RX5 54 yX5_isNumber wsX5_isNumber) := goodIn_app (goodIn_of _ (by decide +kernel)) ggX5_guess_X5_isNumber
set_option maxRecDepth 20000 in
theorem ggX5_guess_X4_height : GoodIn wsX5_guess wsX4_height := goodIn_r _ [11, 12, 58, 59, 60, 61, 62, 63, 64, 65, 66] (by decide +kernel) (by decide +kernel)
set_option maxRecDepth 20000 in
theorem gX5_guess_X4_height : GoodIn wsX5_guess (wsV RX5 117 RX4 yX4_height wsX4_height) := goodIn_app (goodIn_of _ (by decide +kernel)) ggX5_guess_X4_height
set_option maxRecDepth 20000 in
theorem ggX5_guess_X4_pieceFor : GoodIn wsX5_guess wsX4_pieceFor := goodIn_r _ [16, 17, 18, 19, 20, 10, 21, 12, 22, 23, 24, 25, 26, 27, 58, 59, 60, 61, 62, 63, 64, 65, 66] (by decide +kernel) (by decide +kernel)
set_option maxRecDepth 20000 in
theorem gX5_guess_X4_pieceFor : GoodIn wsX5_guess (wsV RX5 120 RX4 yX4_pieceFor wsX4_pieceFor) := goodIn_app (goodIn_of _ (by decide +kernel)) ggX5_guess_X4_pieceFor
set_option maxRecDepth 20000 in
theorem ggX5_guess_X4_rankBy : GoodIn wsX5_guess wsX4_rankBy := goodIn_r _ [31, 32, 33, 17, 34, 35, 36, 37, 38, 39, 40, 41, 42, 23, 24, 25, 10, 26, 27, 43, 44, 45, 46, 58, 59, 60, 61, 62, 63, 64, 65, 66] (by decide +kernel) (by decide +kernel)
set_option maxRecDepth 20000 in
theorem gX5_guess_X4_rankBy : GoodIn wsX5_guess (wsV RX5 123 RX4 yX4_rankBy wsX4_rankBy) := goodIn_app (goodIn_of _ (by decide +kernel)) ggX5_guess_X4_rankBy
theorem dX5_guess_0 : decode cX5_guess 0 = .ok (.iload_n 1, 1) := by decide +kernel
theorem dX5_guess_1 : decode cX5_guess 1 = .ok (.invokestatic 54, 3) := by decide +kernel
theorem dX5_guess_4 : decode cX5_guess 4 = .ok (.ifCond .ne 6, 3) := by decide +kernel
theorem dX5_guess_7 : decode cX5_guess 7 = .ok (.bipush (-2), 2) := by decide +kernel
theorem dX5_guess_9 : decode cX5_guess 9 = .ok (.ireturn, 1) := by decide +kernel
theorem dX5_guess_10 : decode cX5_guess 10 = .ok (.aload_n 0, 1) := by decide +kernel
theorem dX5_guess_11 : decode cX5_guess 11 = .ok (.getfield 32, 3) := by decide +kernel
theorem dX5_guess_14 : decode cX5_guess 14 = .ok (.invokevirtual 117, 3) := by decide +kernel
theorem dX5_guess_17 : decode cX5_guess 17 = .ok (.ifCond .ne 7, 3) := by decide +kernel
theorem dX5_guess_20 : decode cX5_guess 20 = .ok (.iconst (-1), 1) := by decide +kernel
theorem dX5_guess_21 : decode cX5_guess 21 = .ok (.goto 19, 3) := by decide +kernel
theorem dX5_guess_24 : decode cX5_guess 24 = .ok (.aload_n 0, 1) := by decide +kernel
theorem dX5_guess_25 : decode cX5_guess 25 = .ok (.getfield 32, 3) := by decide +kernel
theorem dX5_guess_28 : decode cX5_guess 28 = .ok (.aload_n 0, 1) := by decide +kernel
theorem dX5_guess_29 : decode cX5_guess 29 = .ok (.getfield 32, 3) := by decide +kernel
theorem dX5_guess_32 : decode cX5_guess 32 = .ok (.iload_n 1, 1) := by decide +kernel
theorem dX5_guess_33 : decode cX5_guess 33 = .ok (.invokevirtual 120, 3) := by decide +kernel
theorem dX5_guess_36 : decode cX5_guess 36 = .ok (.iload_n 1, 1) := by decide +kernel
theorem dX5_guess_37 : decode cX5_guess 37 = .ok (.invokevirtual 123, 3) := by decide +kernel
theorem dX5_guess_40 : decode cX5_guess 40 = .ok (.ireturn, 1) := by decide +kernel
set_option maxRecDepth 20000 in
theorem ggX5_find_X5_isNumber : GoodIn wsX5_find wsX5_isNumber := goodIn_r _ [8, 9] (by decide +kernel) (by decide +kernel)
set_option maxRecDepth 20000 in
theorem gX5_find_X5_isNumber : GoodIn wsX5_find (va_wsS RX5 54 yX5_isNumber wsX5_isNumber) := goodIn_app (goodIn_of _ (by decide +kernel)) ggX5_find_X5_isNumber
set_option maxRecDepth 20000 in
theorem ggX5_find_X3_run : GoodIn wsX5_find wsX3_run := goodIn_r _ [14, 15, 16, 17, 18, 19, 20, 21, 22, 23, 24, 25, 26, 27, 28, 29, 30, 31, 32, 33, 34, 35, 36, 37, 38, 39, 40, 41, 42, 43, 44, 45, 46, 47, 48, 49, 50, 51, 52, 53, 54, 55, 56, 57, 58, 13, 59, 60, 61, 62, 63, 64, 65, 66, 67, 68, 69, 70, 71, 72, 73, 74, 90, 91, 92, 93, 94, 95, 96, 97, 98, 99, 100, 101, 102] (by decide +kernel) (by decide +kernel)
end
section
set_option maxRecDepth 20000 in
theorem gX5_find_X3_run : GoodIn wsX5_find (wsV RX5 126 RX3 yX3_run wsX3_run) := goodIn_app (goodIn_of _ (by decide +kernel)) ggX5_find_X3_run
set_option maxRecDepth 20000 in
theorem ggX5_find_X3_met : GoodIn wsX5_find wsX3_met := goodIn_r _ [78, 15, 90, 91] (by decide +kernel) (by decide +kernel)
set_option maxRecDepth 20000 in
theorem gX5_find_X3_met : GoodIn wsX5_find (wsV RX5 130 RX3 yX3_met wsX3_met) := goodIn_app (goodIn_of _ (by decide +kernel)) ggX5_find_X3_met
theorem dX5_find_0 : decode cX5_find 0 = .ok (.iload_n 1, 1) := by decide +kernel
theorem dX5_find_1 : decode cX5_find 1 = .ok (.invokestatic 54, 3) := by decide +kernel
theorem dX5_find_4 : decode cX5_find 4 = .ok (.ifCond .ne 6, 3) := by decide +kernel
theorem dX5_find_7 : decode cX5_find 7 = .ok (.bipush (-2), 2) := by decide +kernel
theorem dX5_find_9 : decode cX5_find 9 = .ok (.ireturn, 1) := by decide +kernel
theorem dX5_find_10 : decode cX5_find 10 = .ok (.aload_n 0, 1) := by decide +kernel
theorem dX5_find_11 : decode cX5_find 11 = .ok (.getfield 46, 3) := by decide +kernel
theorem dX5_find_14 : decode cX5_find 14 = .ok (.aload_n 0, 1) := by decide +kernel
theorem dX5_find_15 : decode cX5_find 15 = .ok (.getfield 16, 3) := by decide +kernel
theorem dX5_find_18 : decode cX5_find 18 = .ok (.aload_n 0, 1) := by decide +kernel
theorem dX5_find_19 : decode cX5_find 19 = .ok (.getfield 32, 3) := by decide +kernel
theorem dX5_find_22 : decode cX5_find 22 = .ok (.iload_n 1, 1) := by decide +kernel
theorem dX5_find_23 : decode cX5_find 23 = .ok (.aload_n 0, 1) := by decide +kernel
theorem dX5_find_24 : decode cX5_find 24 = .ok (.getfield 50, 3) := by decide +kernel
theorem dX5_find_27 : decode cX5_find 27 = .ok (.invokevirtual 126, 3) := by decide +kernel
theorem dX5_find_30 : decode cX5_find 30 = .ok (.aload_n 0, 1) := by decide +kernel
theorem dX5_find_31 : decode cX5_find 31 = .ok (.getfield 46, 3) := by decide +kernel
theorem dX5_find_34 : decode cX5_find 34 = .ok (.invokevirtual 130, 3) := by decide +kernel
theorem dX5_find_37 : decode cX5_find 37 = .ok (.ireturn, 1) := by decide +kernel
set_option maxRecDepth 20000 in
theorem ggX5_looks_X5_isNumber : GoodIn wsX5_looks wsX5_isNumber := goodIn_r _ [8, 9] (by decide +kernel) (by decide +kernel)
set_option maxRecDepth 20000 in
theorem gX5_looks_X5_isNumber : GoodIn wsX5_looks (va_wsS RX5 54 yX5_isNumber wsX5_isNumber) := goodIn_app (goodIn_of _ (by decide +kernel)) ggX5_looks_X5_isNumber
set_option maxRecDepth 20000 in
theorem ggX5_looks_X3_run : GoodIn wsX5_looks wsX3_run := goodIn_r _ [14, 15, 16, 17, 18, 19, 20, 21, 22, 23, 24, 25, 26, 27, 28, 29, 30, 31, 32, 33, 34, 35, 36, 37, 38, 39, 40, 41, 42, 43, 44, 45, 46, 47, 48, 49, 50, 51, 52, 53, 54, 55, 56, 57, 58, 13, 59, 60, 61, 62, 63, 64, 65, 66, 67, 68, 69, 70, 71, 72, 73, 74, 90, 91, 92, 93, 94, 95, 96, 97, 98, 99, 100, 101, 102] (by decide +kernel) (by decide +kernel)
set_option maxRecDepth 20000 in
theorem gX5_looks_X3_run : GoodIn wsX5_looks (wsV RX5 126 RX3 yX3_run wsX3_run) := goodIn_app (goodIn_of _ (by decide +kernel)) ggX5_looks_X3_run
set_option maxRecDepth 20000 in
theorem ggX5_looks_X3_ranksSeen : GoodIn wsX5_looks wsX3_ranksSeen := goodIn_r _ [78, 16, 90, 91] (by decide +kernel) (by decide +kernel)
set_option maxRecDepth 20000 in
theorem gX5_looks_X3_ranksSeen : GoodIn wsX5_looks (wsV RX5 133 RX3 yX3_ranksSeen wsX3_ranksSeen) := goodIn_app (goodIn_of _ (by decide +kernel)) ggX5_looks_X3_ranksSeen
theorem dX5_looks_0 : decode cX5_looks 0 = .ok (.iload_n 1, 1) := by decide +kernel
theorem dX5_looks_1 : decode cX5_looks 1 = .ok (.invokestatic 54, 3) := by decide +kernel
theorem dX5_looks_4 : decode cX5_looks 4 = .ok (.ifCond .ne 6, 3) := by decide +kernel
theorem dX5_looks_7 : decode cX5_looks 7 = .ok (.bipush (-2), 2) := by decide +kernel
theorem dX5_looks_9 : decode cX5_looks 9 = .ok (.ireturn, 1) := by decide +kernel
theorem dX5_looks_10 : decode cX5_looks 10 = .ok (.aload_n 0, 1) := by decide +kernel
theorem dX5_looks_11 : decode cX5_looks 11 = .ok (.getfield 46, 3) := by decide +kernel
theorem dX5_looks_14 : decode cX5_looks 14 = .ok (.aload_n 0, 1) := by decide +kernel
theorem dX5_looks_15 : decode cX5_looks 15 = .ok (.getfield 16, 3) := by decide +kernel
theorem dX5_looks_18 : decode cX5_looks 18 = .ok (.aload_n 0, 1) := by decide +kernel
theorem dX5_looks_19 : decode cX5_looks 19 = .ok (.getfield 32, 3) := by decide +kernel
theorem dX5_looks_22 : decode cX5_looks 22 = .ok (.iload_n 1, 1) := by decide +kernel
theorem dX5_looks_23 : decode cX5_looks 23 = .ok (.aload_n 0, 1) := by decide +kernel
theorem dX5_looks_24 : decode cX5_looks 24 = .ok (.getfield 50, 3) := by decide +kernel
theorem dX5_looks_27 : decode cX5_looks 27 = .ok (.invokevirtual 126, 3) := by decide +kernel
theorem dX5_looks_30 : decode cX5_looks 30 = .ok (.aload_n 0, 1) := by decide +kernel
theorem dX5_looks_31 : decode cX5_looks 31 = .ok (.getfield 46, 3) := by decide +kernel
theorem dX5_looks_34 : decode cX5_looks 34 = .ok (.invokevirtual 133, 3) := by decide +kernel
theorem dX5_looks_37 : decode cX5_looks 37 = .ok (.ireturn, 1) := by decide +kernel
set_option maxRecDepth 20000 in
theorem ggX5_maybe_X5_isNumber : GoodIn wsX5_maybe wsX5_isNumber := goodIn_r _ [5, 6] (by decide +kernel) (by decide +kernel)
set_option maxRecDepth 20000 in
theorem gX5_maybe_X5_isNumber : GoodIn wsX5_maybe (va_wsS RX5 54 yX5_isNumber wsX5_isNumber) := goodIn_app (goodIn_of _ (by decide +kernel)) ggX5_maybe_X5_isNumber
set_option maxRecDepth 20000 in
theorem ggX5_maybe_X1_passes : GoodIn wsX5_maybe wsX1_passes := goodIn_r _ [11, 12, 13, 14, 10, 15, 27] (by decide +kernel) (by decide +kernel)
set_option maxRecDepth 20000 in
theorem gX5_maybe_X1_passes : GoodIn wsX5_maybe (wsV RX5 136 RX1 yX1_passes wsX1_passes) := goodIn_app (goodIn_of _ (by decide +kernel)) ggX5_maybe_X1_passes
theorem dX5_maybe_0 : decode cX5_maybe 0 = .ok (.iload_n 1, 1) := by decide +kernel
theorem dX5_maybe_1 : decode cX5_maybe 1 = .ok (.invokestatic 54, 3) := by decide +kernel
theorem dX5_maybe_4 : decode cX5_maybe 4 = .ok (.ifCond .ne 6, 3) := by decide +kernel
theorem dX5_maybe_7 : decode cX5_maybe 7 = .ok (.bipush (-2), 2) := by decide +kernel
theorem dX5_maybe_9 : decode cX5_maybe 9 = .ok (.ireturn, 1) := by decide +kernel
theorem dX5_maybe_10 : decode cX5_maybe 10 = .ok (.aload_n 0, 1) := by decide +kernel
theorem dX5_maybe_11 : decode cX5_maybe 11 = .ok (.getfield 39, 3) := by decide +kernel
theorem dX5_maybe_14 : decode cX5_maybe 14 = .ok (.iload_n 1, 1) := by decide +kernel
theorem dX5_maybe_15 : decode cX5_maybe 15 = .ok (.invokevirtual 136, 3) := by decide +kernel
theorem dX5_maybe_18 : decode cX5_maybe 18 = .ok (.ifCond .eq 7, 3) := by decide +kernel
theorem dX5_maybe_21 : decode cX5_maybe 21 = .ok (.iconst 1, 1) := by decide +kernel
theorem dX5_maybe_22 : decode cX5_maybe 22 = .ok (.goto 4, 3) := by decide +kernel
theorem dX5_maybe_25 : decode cX5_maybe 25 = .ok (.iconst 0, 1) := by decide +kernel
theorem dX5_maybe_26 : decode cX5_maybe 26 = .ok (.ireturn, 1) := by decide +kernel
set_option maxRecDepth 20000 in
theorem ggX5_wrong_X5_isSpan : GoodIn wsX5_wrong wsX5_isSpan := goodIn_r _ [6, 7, 8, 5, 9, 10] (by decide +kernel) (by decide +kernel)
set_option maxRecDepth 20000 in
theorem gX5_wrong_X5_isSpan : GoodIn wsX5_wrong (va_wsS RX5 96 yX5_isSpan wsX5_isSpan) := goodIn_app (goodIn_of _ (by decide +kernel)) ggX5_wrong_X5_isSpan
set_option maxRecDepth 20000 in
theorem ggX5_wrong_X1_passes : GoodIn wsX5_wrong wsX1_passes := goodIn_r _ [15, 16, 17, 18, 14, 19, 42] (by decide +kernel) (by decide +kernel)
set_option maxRecDepth 20000 in
theorem gX5_wrong_X1_passes : GoodIn wsX5_wrong (wsV RX5 136 RX1 yX1_passes wsX1_passes) := goodIn_app (goodIn_of _ (by decide +kernel)) ggX5_wrong_X1_passes
set_option maxRecDepth 20000 in
theorem ggX5_wrong_X2_within : GoodIn wsX5_wrong wsX2_within := goodIn_r _ [24, 25, 26, 27, 23, 28, 29, 30, 43, 44] (by decide +kernel) (by decide +kernel)
set_option maxRecDepth 20000 in
theorem gX5_wrong_X2_within : GoodIn wsX5_wrong (wsV RX5 100 RX2 yX2_within wsX2_within) := goodIn_app (goodIn_of _ (by decide +kernel)) ggX5_wrong_X2_within
theorem dX5_wrong_0 : decode cX5_wrong 0 = .ok (.iload_n 1, 1) := by decide +kernel
theorem dX5_wrong_1 : decode cX5_wrong 1 = .ok (.iload_n 2, 1) := by decide +kernel
theorem dX5_wrong_2 : decode cX5_wrong 2 = .ok (.sipush 2000, 3) := by decide +kernel
theorem dX5_wrong_5 : decode cX5_wrong 5 = .ok (.invokestatic 96, 3) := by decide +kernel
theorem dX5_wrong_8 : decode cX5_wrong 8 = .ok (.ifCond .ne 6, 3) := by decide +kernel
theorem dX5_wrong_11 : decode cX5_wrong 11 = .ok (.bipush (-2), 2) := by decide +kernel
theorem dX5_wrong_13 : decode cX5_wrong 13 = .ok (.ireturn, 1) := by decide +kernel
theorem dX5_wrong_14 : decode cX5_wrong 14 = .ok (.iconst 0, 1) := by decide +kernel
theorem dX5_wrong_15 : decode cX5_wrong 15 = .ok (.istore_n 3, 1) := by decide +kernel
theorem dX5_wrong_16 : decode cX5_wrong 16 = .ok (.iload_n 1, 1) := by decide +kernel
theorem dX5_wrong_17 : decode cX5_wrong 17 = .ok (.istore 4, 2) := by decide +kernel
theorem dX5_wrong_19 : decode cX5_wrong 19 = .ok (.iload 4, 2) := by decide +kernel
theorem dX5_wrong_21 : decode cX5_wrong 21 = .ok (.iload_n 2, 1) := by decide +kernel
theorem dX5_wrong_22 : decode cX5_wrong 22 = .ok (.if_icmp .gt 24, 3) := by decide +kernel
theorem dX5_wrong_25 : decode cX5_wrong 25 = .ok (.aload_n 0, 1) := by decide +kernel
theorem dX5_wrong_26 : decode cX5_wrong 26 = .ok (.getfield 39, 3) := by decide +kernel
theorem dX5_wrong_29 : decode cX5_wrong 29 = .ok (.iload 4, 2) := by decide +kernel
theorem dX5_wrong_31 : decode cX5_wrong 31 = .ok (.invokevirtual 136, 3) := by decide +kernel
theorem dX5_wrong_34 : decode cX5_wrong 34 = .ok (.ifCond .eq 6, 3) := by decide +kernel
theorem dX5_wrong_37 : decode cX5_wrong 37 = .ok (.iinc 3 1, 3) := by decide +kernel
theorem dX5_wrong_40 : decode cX5_wrong 40 = .ok (.iinc 4 1, 3) := by decide +kernel
theorem dX5_wrong_43 : decode cX5_wrong 43 = .ok (.goto (-24), 3) := by decide +kernel
theorem dX5_wrong_46 : decode cX5_wrong 46 = .ok (.iload_n 3, 1) := by decide +kernel
theorem dX5_wrong_47 : decode cX5_wrong 47 = .ok (.aload_n 0, 1) := by decide +kernel
theorem dX5_wrong_48 : decode cX5_wrong 48 = .ok (.getfield 10, 3) := by decide +kernel
theorem dX5_wrong_51 : decode cX5_wrong 51 = .ok (.iload_n 1, 1) := by decide +kernel
theorem dX5_wrong_52 : decode cX5_wrong 52 = .ok (.iload_n 2, 1) := by decide +kernel
theorem dX5_wrong_53 : decode cX5_wrong 53 = .ok (.invokevirtual 100, 3) := by decide +kernel
theorem dX5_wrong_56 : decode cX5_wrong 56 = .ok (.isub, 1) := by decide +kernel
theorem dX5_wrong_57 : decode cX5_wrong 57 = .ok (.ireturn, 1) := by decide +kernel
set_option maxRecDepth 20000 in
theorem ggX5_poison_X5_isSpan : GoodIn wsX5_poison wsX5_isSpan := goodIn_r _ [5, 6, 7, 4, 8, 9] (by decide +kernel) (by decide +kernel)
set_option maxRecDepth 20000 in
theorem gX5_poison_X5_isSpan : GoodIn wsX5_poison (va_wsS RX5 96 yX5_isSpan wsX5_isSpan) := goodIn_app (goodIn_of _ (by decide +kernel)) ggX5_poison_X5_isSpan
set_option maxRecDepth 20000 in
theorem ggX5_poison_X2_size : GoodIn wsX5_poison wsX2_size := goodIn_r _ [14, 15, 88, 89] (by decide +kernel) (by decide +kernel)
set_option maxRecDepth 20000 in
theorem gX5_poison_X2_size : GoodIn wsX5_poison (wsV RX5 61 RX2 yX2_size wsX2_size) := goodIn_app (goodIn_of _ (by decide +kernel)) ggX5_poison_X2_size
set_option maxRecDepth 20000 in
theorem ggX5_poison_X2_has : GoodIn wsX5_poison wsX2_has := goodIn_r _ [19, 15, 20, 21, 22, 23, 13, 24, 88, 89] (by decide +kernel) (by decide +kernel)
set_option maxRecDepth 20000 in
theorem gX5_poison_X2_has : GoodIn wsX5_poison (wsV RX5 58 RX2 yX2_has wsX2_has) := goodIn_app (goodIn_of _ (by decide +kernel)) ggX5_poison_X2_has
set_option maxRecDepth 20000 in
theorem ggX5_poison_X5_piecesWith : GoodIn wsX5_poison wsX5_piecesWith := goodIn_r _ [28, 29, 1, 30, 31, 32, 33, 34, 13, 35, 15, 36, 11, 12, 14, 37, 38, 39, 40, 20, 41, 42, 43, 44, 45, 46, 47, 48, 49, 17, 18, 19, 21, 22, 23, 24, 50, 51, 52, 53, 54, 55, 56, 57, 58, 59, 60, 61, 62, 63, 64, 65, 66, 67, 68, 69, 70, 71, 72, 73, 74, 75, 76, 77, 78, 79, 80, 81, 82, 83, 84, 85, 86, 87, 88, 89, 90, 91, 92, 93, 94] (by decide +kernel) (by decide +kernel)
set_option maxRecDepth 20000 in
theorem gX5_poison_X5_piecesWith : GoodIn wsX5_poison (wsV RX5 139 RX5 yX5_piecesWith wsX5_piecesWith) := goodIn_app (goodIn_of _ (by decide +kernel)) ggX5_poison_X5_piecesWith
theorem dX5_poison_0 : decode cX5_poison 0 = .ok (.iload_n 1, 1) := by decide +kernel
theorem dX5_poison_1 : decode cX5_poison 1 = .ok (.iload_n 2, 1) := by decide +kernel
theorem dX5_poison_2 : decode cX5_poison 2 = .ok (.bipush 40, 2) := by decide +kernel
theorem dX5_poison_4 : decode cX5_poison 4 = .ok (.invokestatic 96, 3) := by decide +kernel
theorem dX5_poison_7 : decode cX5_poison 7 = .ok (.ifCond .eq 12, 3) := by decide +kernel
theorem dX5_poison_10 : decode cX5_poison 10 = .ok (.iload_n 3, 1) := by decide +kernel
theorem dX5_poison_11 : decode cX5_poison 11 = .ok (.ifCond .lt 8, 3) := by decide +kernel
theorem dX5_poison_14 : decode cX5_poison 14 = .ok (.iload_n 3, 1) := by decide +kernel
theorem dX5_poison_15 : decode cX5_poison 15 = .ok (.iconst 1, 1) := by decide +kernel
theorem dX5_poison_16 : decode cX5_poison 16 = .ok (.if_icmp .le 6, 3) := by decide +kernel
theorem dX5_poison_19 : decode cX5_poison 19 = .ok (.bipush (-2), 2) := by decide +kernel
theorem dX5_poison_21 : decode cX5_poison 21 = .ok (.ireturn, 1) := by decide +kernel
theorem dX5_poison_22 : decode cX5_poison 22 = .ok (.aload_n 0, 1) := by decide +kernel
theorem dX5_poison_23 : decode cX5_poison 23 = .ok (.getfield 10, 3) := by decide +kernel
theorem dX5_poison_26 : decode cX5_poison 26 = .ok (.invokevirtual 61, 3) := by decide +kernel
theorem dX5_poison_29 : decode cX5_poison 29 = .ok (.bipush 60, 2) := by decide +kernel
theorem dX5_poison_31 : decode cX5_poison 31 = .ok (.if_icmp .lt 6, 3) := by decide +kernel
theorem dX5_poison_34 : decode cX5_poison 34 = .ok (.bipush (-4), 2) := by decide +kernel
theorem dX5_poison_36 : decode cX5_poison 36 = .ok (.ireturn, 1) := by decide +kernel
theorem dX5_poison_37 : decode cX5_poison 37 = .ok (.iconst (-1), 1) := by decide +kernel
theorem dX5_poison_38 : decode cX5_poison 38 = .ok (.istore 4, 2) := by decide +kernel
theorem dX5_poison_40 : decode cX5_poison 40 = .ok (.iconst (-1), 1) := by decide +kernel
theorem dX5_poison_41 : decode cX5_poison 41 = .ok (.istore 5, 2) := by decide +kernel
theorem dX5_poison_43 : decode cX5_poison 43 = .ok (.iload_n 1, 1) := by decide +kernel
theorem dX5_poison_44 : decode cX5_poison 44 = .ok (.istore 6, 2) := by decide +kernel
theorem dX5_poison_46 : decode cX5_poison 46 = .ok (.iload 6, 2) := by decide +kernel
theorem dX5_poison_48 : decode cX5_poison 48 = .ok (.iload_n 2, 1) := by decide +kernel
theorem dX5_poison_49 : decode cX5_poison 49 = .ok (.if_icmp .gt 48, 3) := by decide +kernel
theorem dX5_poison_52 : decode cX5_poison 52 = .ok (.aload_n 0, 1) := by decide +kernel
theorem dX5_poison_53 : decode cX5_poison 53 = .ok (.getfield 10, 3) := by decide +kernel
theorem dX5_poison_56 : decode cX5_poison 56 = .ok (.iload 6, 2) := by decide +kernel
theorem dX5_poison_58 : decode cX5_poison 58 = .ok (.invokevirtual 58, 3) := by decide +kernel
theorem dX5_poison_61 : decode cX5_poison 61 = .ok (.ifCond .eq 7, 3) := by decide +kernel
theorem dX5_poison_64 : decode cX5_poison 64 = .ok (.iconst (-1), 1) := by decide +kernel
theorem dX5_poison_65 : decode cX5_poison 65 = .ok (.goto 9, 3) := by decide +kernel
theorem dX5_poison_68 : decode cX5_poison 68 = .ok (.aload_n 0, 1) := by decide +kernel
theorem dX5_poison_69 : decode cX5_poison 69 = .ok (.iload 6, 2) := by decide +kernel
theorem dX5_poison_71 : decode cX5_poison 71 = .ok (.invokevirtual 139, 3) := by decide +kernel
theorem dX5_poison_74 : decode cX5_poison 74 = .ok (.istore 7, 2) := by decide +kernel
theorem dX5_poison_76 : decode cX5_poison 76 = .ok (.iload 7, 2) := by decide +kernel
theorem dX5_poison_78 : decode cX5_poison 78 = .ok (.iload 5, 2) := by decide +kernel
theorem dX5_poison_80 : decode cX5_poison 80 = .ok (.if_icmp .le 11, 3) := by decide +kernel
theorem dX5_poison_83 : decode cX5_poison 83 = .ok (.iload 7, 2) := by decide +kernel
theorem dX5_poison_85 : decode cX5_poison 85 = .ok (.istore 5, 2) := by decide +kernel
theorem dX5_poison_87 : decode cX5_poison 87 = .ok (.iload 6, 2) := by decide +kernel
theorem dX5_poison_89 : decode cX5_poison 89 = .ok (.istore 4, 2) := by decide +kernel
theorem dX5_poison_91 : decode cX5_poison 91 = .ok (.iinc 6 1, 3) := by decide +kernel
theorem dX5_poison_94 : decode cX5_poison 94 = .ok (.goto (-48), 3) := by decide +kernel
theorem dX5_poison_97 : decode cX5_poison 97 = .ok (.iload_n 3, 1) := by decide +kernel
theorem dX5_poison_98 : decode cX5_poison 98 = .ok (.ifCond .ne 8, 3) := by decide +kernel
theorem dX5_poison_101 : decode cX5_poison 101 = .ok (.iload 4, 2) := by decide +kernel
theorem dX5_poison_103 : decode cX5_poison 103 = .ok (.goto 5, 3) := by decide +kernel
theorem dX5_poison_106 : decode cX5_poison 106 = .ok (.iload 5, 2) := by decide +kernel
theorem dX5_poison_108 : decode cX5_poison 108 = .ok (.ireturn, 1) := by decide +kernel
set_option maxRecDepth 20000 in
theorem ggX5_count_X2_size : GoodIn wsX5_count wsX2_size := goodIn_r _ [11, 12, 37, 38] (by decide +kernel) (by decide +kernel)
set_option maxRecDepth 20000 in
theorem gX5_count_X2_size : GoodIn wsX5_count (wsV RX5 61 RX2 yX2_size wsX2_size) := goodIn_app (goodIn_of _ (by decide +kernel)) ggX5_count_X2_size
set_option maxRecDepth 20000 in
theorem ggX5_count_X1_bitsSet : GoodIn wsX5_count wsX1_bitsSet := goodIn_r _ [17, 18, 19, 20, 21, 22, 23, 24, 25, 39] (by decide +kernel) (by decide +kernel)
set_option maxRecDepth 20000 in
theorem gX5_count_X1_bitsSet : GoodIn wsX5_count (wsV RX5 142 RX1 yX1_bitsSet wsX1_bitsSet) := goodIn_app (goodIn_of _ (by decide +kernel)) ggX5_count_X1_bitsSet
theorem dX5_count_0 : decode cX5_count 0 = .ok (.iload_n 1, 1) := by decide +kernel
theorem dX5_count_1 : decode cX5_count 1 = .ok (.tableswitch 78 0 5 #[39, 47, 55, 60, 65, 70], 39) := by decide +kernel
theorem dX5_count_40 : decode cX5_count 40 = .ok (.aload_n 0, 1) := by decide +kernel
theorem dX5_count_41 : decode cX5_count 41 = .ok (.getfield 10, 3) := by decide +kernel
theorem dX5_count_44 : decode cX5_count 44 = .ok (.invokevirtual 61, 3) := by decide +kernel
theorem dX5_count_47 : decode cX5_count 47 = .ok (.ireturn, 1) := by decide +kernel
theorem dX5_count_48 : decode cX5_count 48 = .ok (.aload_n 0, 1) := by decide +kernel
theorem dX5_count_49 : decode cX5_count 49 = .ok (.getfield 16, 3) := by decide +kernel
theorem dX5_count_52 : decode cX5_count 52 = .ok (.invokevirtual 61, 3) := by decide +kernel
theorem dX5_count_55 : decode cX5_count 55 = .ok (.ireturn, 1) := by decide +kernel
theorem dX5_count_56 : decode cX5_count 56 = .ok (.aload_n 0, 1) := by decide +kernel
theorem dX5_count_57 : decode cX5_count 57 = .ok (.getfield 71, 3) := by decide +kernel
theorem dX5_count_60 : decode cX5_count 60 = .ok (.ireturn, 1) := by decide +kernel
theorem dX5_count_61 : decode cX5_count 61 = .ok (.aload_n 0, 1) := by decide +kernel
theorem dX5_count_62 : decode cX5_count 62 = .ok (.getfield 65, 3) := by decide +kernel
theorem dX5_count_65 : decode cX5_count 65 = .ok (.ireturn, 1) := by decide +kernel
theorem dX5_count_66 : decode cX5_count 66 = .ok (.aload_n 0, 1) := by decide +kernel
theorem dX5_count_67 : decode cX5_count 67 = .ok (.getfield 85, 3) := by decide +kernel
theorem dX5_count_70 : decode cX5_count 70 = .ok (.ireturn, 1) := by decide +kernel
theorem dX5_count_71 : decode cX5_count 71 = .ok (.aload_n 0, 1) := by decide +kernel
theorem dX5_count_72 : decode cX5_count 72 = .ok (.getfield 39, 3) := by decide +kernel
theorem dX5_count_75 : decode cX5_count 75 = .ok (.invokevirtual 142, 3) := by decide +kernel
theorem dX5_count_78 : decode cX5_count 78 = .ok (.ireturn, 1) := by decide +kernel
theorem dX5_count_79 : decode cX5_count 79 = .ok (.bipush (-2), 2) := by decide +kernel
theorem dX5_count_81 : decode cX5_count 81 = .ok (.ireturn, 1) := by decide +kernel
theorem dX5_isNumber_0 : decode cX5_isNumber 0 = .ok (.iload_n 0, 1) := by decide +kernel
theorem dX5_isNumber_1 : decode cX5_isNumber 1 = .ok (.ifCond .lt 13, 3) := by decide +kernel
theorem dX5_isNumber_4 : decode cX5_isNumber 4 = .ok (.iload_n 0, 1) := by decide +kernel
theorem dX5_isNumber_5 : decode cX5_isNumber 5 = .ok (.ldc 95, 2) := by decide +kernel
theorem dX5_isNumber_7 : decode cX5_isNumber 7 = .ok (.if_icmp .gt 7, 3) := by decide +kernel
theorem dX5_isNumber_10 : decode cX5_isNumber 10 = .ok (.iconst 1, 1) := by decide +kernel
theorem dX5_isNumber_11 : decode cX5_isNumber 11 = .ok (.goto 4, 3) := by decide +kernel
theorem dX5_isNumber_14 : decode cX5_isNumber 14 = .ok (.iconst 0, 1) := by decide +kernel
theorem dX5_isNumber_15 : decode cX5_isNumber 15 = .ok (.ireturn, 1) := by decide +kernel
set_option maxRecDepth 20000 in
theorem ggX5_isSpan_X5_isNumber : GoodIn wsX5_isSpan wsX5_isNumber := goodIn_r _ [4, 5] (by decide +kernel) (by decide +kernel)
set_option maxRecDepth 20000 in
theorem gX5_isSpan_X5_isNumber : GoodIn wsX5_isSpan (va_wsS RX5 54 yX5_isNumber wsX5_isNumber) := goodIn_app (goodIn_of _ (by decide +kernel)) ggX5_isSpan_X5_isNumber
theorem dX5_isSpan_0 : decode cX5_isSpan 0 = .ok (.iload_n 0, 1) := by decide +kernel
theorem dX5_isSpan_1 : decode cX5_isSpan 1 = .ok (.invokestatic 54, 3) := by decide +kernel
theorem dX5_isSpan_4 : decode cX5_isSpan 4 = .ok (.ifCond .eq 26, 3) := by decide +kernel
theorem dX5_isSpan_7 : decode cX5_isSpan 7 = .ok (.iload_n 1, 1) := by decide +kernel
theorem dX5_isSpan_8 : decode cX5_isSpan 8 = .ok (.invokestatic 54, 3) := by decide +kernel
theorem dX5_isSpan_11 : decode cX5_isSpan 11 = .ok (.ifCond .eq 19, 3) := by decide +kernel
theorem dX5_isSpan_14 : decode cX5_isSpan 14 = .ok (.iload_n 0, 1) := by decide +kernel
theorem dX5_isSpan_15 : decode cX5_isSpan 15 = .ok (.iload_n 1, 1) := by decide +kernel
theorem dX5_isSpan_16 : decode cX5_isSpan 16 = .ok (.if_icmp .gt 14, 3) := by decide +kernel
theorem dX5_isSpan_19 : decode cX5_isSpan 19 = .ok (.iload_n 1, 1) := by decide +kernel
theorem dX5_isSpan_20 : decode cX5_isSpan 20 = .ok (.iload_n 0, 1) := by decide +kernel
theorem dX5_isSpan_21 : decode cX5_isSpan 21 = .ok (.isub, 1) := by decide +kernel
theorem dX5_isSpan_22 : decode cX5_isSpan 22 = .ok (.iload_n 2, 1) := by decide +kernel
theorem dX5_isSpan_23 : decode cX5_isSpan 23 = .ok (.if_icmp .gt 7, 3) := by decide +kernel
theorem dX5_isSpan_26 : decode cX5_isSpan 26 = .ok (.iconst 1, 1) := by decide +kernel
theorem dX5_isSpan_27 : decode cX5_isSpan 27 = .ok (.goto 4, 3) := by decide +kernel
theorem dX5_isSpan_30 : decode cX5_isSpan 30 = .ok (.iconst 0, 1) := by decide +kernel
theorem dX5_isSpan_31 : decode cX5_isSpan 31 = .ok (.ireturn, 1) := by decide +kernel
set_option maxRecDepth 20000 in
theorem ggX5_clearAsideIfFull_X5_makeRow : GoodIn wsX5_clearAsideIfFull wsX5_makeRow := goodIn_r _ [7, 8, 9, 1, 2, 10, 11, 12, 13, 14, 15, 16, 17, 18, 19, 20, 21, 22, 23, 24, 25, 26, 27, 28, 29, 30, 31, 32, 33, 34, 35, 36, 37, 38, 39, 40, 41, 42, 43, 44, 45, 46, 47, 48, 49, 50, 51, 52, 53, 54, 55, 56, 57, 58, 59, 60, 61, 62, 63, 64, 65, 66, 67, 68, 69, 70, 71, 72, 73, 74, 75, 76, 77, 78, 79, 80, 81, 82, 83, 84, 85, 86, 87, 88, 89, 90, 91, 92, 93, 94, 95, 96, 97, 98, 99, 100, 101, 102, 103, 104, 105, 106, 107, 108, 109, 110, 111, 112, 113, 114, 115, 116, 117, 118, 119, 120, 121, 122, 123, 124, 125, 126, 127, 128, 129, 130, 131, 132, 133, 134, 135, 136, 137, 138, 139, 140, 141, 142, 143, 144, 145, 146, 147, 148, 149, 150, 151, 152, 153, 154, 155, 156, 157, 158, 159, 160] (by decide +kernel) (by decide +kernel)
set_option maxRecDepth 20000 in
theorem gX5_clearAsideIfFull_X5_makeRow : GoodIn wsX5_clearAsideIfFull (wsV RX5 82 RX5 yX5_makeRow wsX5_makeRow) := goodIn_app (goodIn_of _ (by decide +kernel)) ggX5_clearAsideIfFull_X5_makeRow
theorem dX5_clearAsideIfFull_0 : decode cX5_clearAsideIfFull 0 = .ok (.aload_n 0, 1) := by decide +kernel
theorem dX5_clearAsideIfFull_1 : decode cX5_clearAsideIfFull 1 = .ok (.getfield 71, 3) := by decide +kernel
theorem dX5_clearAsideIfFull_4 : decode cX5_clearAsideIfFull 4 = .ok (.aload_n 0, 1) := by decide +kernel
theorem dX5_clearAsideIfFull_5 : decode cX5_clearAsideIfFull 5 = .ok (.getfield 65, 3) := by decide +kernel
theorem dX5_clearAsideIfFull_8 : decode cX5_clearAsideIfFull 8 = .ok (.iadd, 1) := by decide +kernel
theorem dX5_clearAsideIfFull_9 : decode cX5_clearAsideIfFull 9 = .ok (.bipush 8, 2) := by decide +kernel
theorem dX5_clearAsideIfFull_11 : decode cX5_clearAsideIfFull 11 = .ok (.if_icmp .lt 7, 3) := by decide +kernel
theorem dX5_clearAsideIfFull_14 : decode cX5_clearAsideIfFull 14 = .ok (.aload_n 0, 1) := by decide +kernel
theorem dX5_clearAsideIfFull_15 : decode cX5_clearAsideIfFull 15 = .ok (.invokevirtual 82, 3) := by decide +kernel
theorem dX5_clearAsideIfFull_18 : decode cX5_clearAsideIfFull 18 = .ok (.return_, 1) := by decide +kernel
set_option maxRecDepth 20000 in
theorem ggX5_makeRow_X2_copy : GoodIn wsX5_makeRow wsX2_copy := goodIn_r _ [14, 15, 16, 17, 18, 13, 19, 20, 21, 22, 23, 24, 25, 26, 27, 28, 139, 140] (by decide +kernel) (by decide +kernel)
set_option maxRecDepth 20000 in
theorem gX5_makeRow_X2_copy : GoodIn wsX5_makeRow (wsV RX5 145 RX2 yX2_copy wsX2_copy) := goodIn_app (goodIn_of _ (by decide +kernel)) ggX5_makeRow_X2_copy
set_option maxRecDepth 20000 in
theorem ggX5_makeRow_X2_size : GoodIn wsX5_makeRow wsX2_size := goodIn_r _ [19, 15, 139, 140] (by decide +kernel) (by decide +kernel)
set_option maxRecDepth 20000 in
theorem gX5_makeRow_X2_size : GoodIn wsX5_makeRow (wsV RX5 61 RX2 yX2_size wsX2_size) := goodIn_app (goodIn_of _ (by decide +kernel)) ggX5_makeRow_X2_size
set_option maxRecDepth 20000 in
theorem ggX5_makeRow_X1_clear : GoodIn wsX5_makeRow wsX1_clear := goodIn_r _ [34, 35, 141] (by decide +kernel) (by decide +kernel)
set_option maxRecDepth 20000 in
theorem gX5_makeRow_X1_clear : GoodIn wsX5_makeRow (wsV RX5 149 RX1 yX1_clear wsX1_clear) := goodIn_app (goodIn_of _ (by decide +kernel)) ggX5_makeRow_X1_clear
set_option maxRecDepth 20000 in
theorem ggX5_makeRow_X2_key : GoodIn wsX5_makeRow wsX2_key := goodIn_r _ [23, 15, 24, 139, 140] (by decide +kernel) (by decide +kernel)
set_option maxRecDepth 20000 in
theorem gX5_makeRow_X2_key : GoodIn wsX5_makeRow (wsV RX5 92 RX2 yX2_key wsX2_key) := goodIn_app (goodIn_of _ (by decide +kernel)) ggX5_makeRow_X2_key
set_option maxRecDepth 20000 in
theorem ggX5_makeRow_X1_add : GoodIn wsX5_makeRow wsX1_add := goodIn_r _ [40, 35, 41, 42, 33, 43, 141] (by decide +kernel) (by decide +kernel)
set_option maxRecDepth 20000 in
theorem gX5_makeRow_X1_add : GoodIn wsX5_makeRow (wsV RX5 78 RX1 yX1_add wsX1_add) := goodIn_app (goodIn_of _ (by decide +kernel)) ggX5_makeRow_X1_add
set_option maxRecDepth 20000 in
theorem ggX5_makeRow_X4_build : GoodIn wsX5_makeRow wsX4_build := goodIn_r _ [48, 49, 50, 51, 52, 11, 12, 13, 14, 15, 16, 17, 18, 19, 20, 21, 22, 23, 24, 25, 26, 27, 28, 53, 54, 55, 56, 57, 58, 59, 60, 61, 62, 63, 64, 65, 66, 67, 68, 69, 70, 71, 72, 73, 74, 75, 76, 47, 77, 78, 79, 80, 81, 82, 83, 84, 85, 86, 87, 88, 89, 90, 91, 92, 93, 94, 95, 96, 97, 98, 99, 100, 101, 102, 103, 104, 105, 106, 107, 108, 109, 110, 111, 112, 113, 114, 115, 116, 117, 118, 119, 120, 121, 122, 123, 124, 125, 126, 127, 142, 143, 144, 145, 146, 147, 148, 149, 150, 139, 140, 151, 152, 153, 154, 155] (by decide +kernel) (by decide +kernel)
set_option maxRecDepth 20000 in
theorem gX5_makeRow_X4_build : GoodIn wsX5_makeRow (wsV RX5 152 RX4 yX4_build wsX4_build) := goodIn_app (goodIn_of _ (by decide +kernel)) ggX5_makeRow_X4_build
theorem dX5_makeRow_0 : decode cX5_makeRow 0 = .ok (.aload_n 0, 1) := by decide +kernel
theorem dX5_makeRow_1 : decode cX5_makeRow 1 = .ok (.getfield 16, 3) := by decide +kernel
theorem dX5_makeRow_4 : decode cX5_makeRow 4 = .ok (.aload_n 0, 1) := by decide +kernel
theorem dX5_makeRow_5 : decode cX5_makeRow 5 = .ok (.getfield 10, 3) := by decide +kernel
theorem dX5_makeRow_8 : decode cX5_makeRow 8 = .ok (.invokevirtual 145, 3) := by decide +kernel
theorem dX5_makeRow_11 : decode cX5_makeRow 11 = .ok (.aload_n 0, 1) := by decide +kernel
theorem dX5_makeRow_12 : decode cX5_makeRow 12 = .ok (.iconst 0, 1) := by decide +kernel
theorem dX5_makeRow_13 : decode cX5_makeRow 13 = .ok (.putfield 71, 3) := by decide +kernel
theorem dX5_makeRow_16 : decode cX5_makeRow 16 = .ok (.aload_n 0, 1) := by decide +kernel
theorem dX5_makeRow_17 : decode cX5_makeRow 17 = .ok (.iconst 0, 1) := by decide +kernel
theorem dX5_makeRow_18 : decode cX5_makeRow 18 = .ok (.putfield 65, 3) := by decide +kernel
theorem dX5_makeRow_21 : decode cX5_makeRow 21 = .ok (.aload_n 0, 1) := by decide +kernel
theorem dX5_makeRow_22 : decode cX5_makeRow 22 = .ok (.dup, 1) := by decide +kernel
theorem dX5_makeRow_23 : decode cX5_makeRow 23 = .ok (.getfield 85, 3) := by decide +kernel
theorem dX5_makeRow_26 : decode cX5_makeRow 26 = .ok (.aload_n 0, 1) := by decide +kernel
theorem dX5_makeRow_27 : decode cX5_makeRow 27 = .ok (.getfield 16, 3) := by decide +kernel
theorem dX5_makeRow_30 : decode cX5_makeRow 30 = .ok (.invokevirtual 61, 3) := by decide +kernel
theorem dX5_makeRow_33 : decode cX5_makeRow 33 = .ok (.iadd, 1) := by decide +kernel
theorem dX5_makeRow_34 : decode cX5_makeRow 34 = .ok (.putfield 85, 3) := by decide +kernel
theorem dX5_makeRow_37 : decode cX5_makeRow 37 = .ok (.aload_n 0, 1) := by decide +kernel
theorem dX5_makeRow_38 : decode cX5_makeRow 38 = .ok (.getfield 39, 3) := by decide +kernel
theorem dX5_makeRow_41 : decode cX5_makeRow 41 = .ok (.invokevirtual 149, 3) := by decide +kernel
theorem dX5_makeRow_44 : decode cX5_makeRow 44 = .ok (.iconst 0, 1) := by decide +kernel
theorem dX5_makeRow_45 : decode cX5_makeRow 45 = .ok (.istore_n 1, 1) := by decide +kernel
theorem dX5_makeRow_46 : decode cX5_makeRow 46 = .ok (.iload_n 1, 1) := by decide +kernel
theorem dX5_makeRow_47 : decode cX5_makeRow 47 = .ok (.aload_n 0, 1) := by decide +kernel
theorem dX5_makeRow_48 : decode cX5_makeRow 48 = .ok (.getfield 16, 3) := by decide +kernel
theorem dX5_makeRow_51 : decode cX5_makeRow 51 = .ok (.invokevirtual 61, 3) := by decide +kernel
theorem dX5_makeRow_54 : decode cX5_makeRow 54 = .ok (.if_icmp .ge 24, 3) := by decide +kernel
theorem dX5_makeRow_57 : decode cX5_makeRow 57 = .ok (.aload_n 0, 1) := by decide +kernel
theorem dX5_makeRow_58 : decode cX5_makeRow 58 = .ok (.getfield 39, 3) := by decide +kernel
theorem dX5_makeRow_61 : decode cX5_makeRow 61 = .ok (.aload_n 0, 1) := by decide +kernel
theorem dX5_makeRow_62 : decode cX5_makeRow 62 = .ok (.getfield 16, 3) := by decide +kernel
theorem dX5_makeRow_65 : decode cX5_makeRow 65 = .ok (.iload_n 1, 1) := by decide +kernel
theorem dX5_makeRow_66 : decode cX5_makeRow 66 = .ok (.invokevirtual 92, 3) := by decide +kernel
theorem dX5_makeRow_69 : decode cX5_makeRow 69 = .ok (.invokevirtual 78, 3) := by decide +kernel
theorem dX5_makeRow_72 : decode cX5_makeRow 72 = .ok (.iinc 1 1, 3) := by decide +kernel
theorem dX5_makeRow_75 : decode cX5_makeRow 75 = .ok (.goto (-29), 3) := by decide +kernel
theorem dX5_makeRow_78 : decode cX5_makeRow 78 = .ok (.aload_n 0, 1) := by decide +kernel
theorem dX5_makeRow_79 : decode cX5_makeRow 79 = .ok (.getfield 32, 3) := by decide +kernel
theorem dX5_makeRow_82 : decode cX5_makeRow 82 = .ok (.aload_n 0, 1) := by decide +kernel
theorem dX5_makeRow_83 : decode cX5_makeRow 83 = .ok (.getfield 16, 3) := by decide +kernel
theorem dX5_makeRow_86 : decode cX5_makeRow 86 = .ok (.aload_n 0, 1) := by decide +kernel
theorem dX5_makeRow_87 : decode cX5_makeRow 87 = .ok (.getfield 25, 3) := by decide +kernel
theorem dX5_makeRow_90 : decode cX5_makeRow 90 = .ok (.aload_n 0, 1) := by decide +kernel
theorem dX5_makeRow_91 : decode cX5_makeRow 91 = .ok (.getfield 50, 3) := by decide +kernel
theorem dX5_makeRow_94 : decode cX5_makeRow 94 = .ok (.invokevirtual 152, 3) := by decide +kernel
theorem dX5_makeRow_97 : decode cX5_makeRow 97 = .ok (.return_, 1) := by decide +kernel
set_option maxRecDepth 20000 in
theorem ggX5_piecesWith_X2_copy : GoodIn wsX5_piecesWith wsX2_copy := goodIn_r _ [9, 10, 11, 12, 13, 8, 14, 15, 16, 17, 18, 19, 20, 21, 22, 23, 74, 75] (by decide +kernel) (by decide +kernel)
set_option maxRecDepth 20000 in
theorem gX5_piecesWith_X2_copy : GoodIn wsX5_piecesWith (wsV RX5 145 RX2 yX2_copy wsX2_copy) := goodIn_app (goodIn_of _ (by decide +kernel)) ggX5_piecesWith_X2_copy
set_option maxRecDepth 20000 in
theorem ggX5_piecesWith_X2_add : GoodIn wsX5_piecesWith wsX2_add := goodIn_r _ [27, 10, 19, 28, 29, 30, 8, 31, 32, 33, 34, 35, 74, 75] (by decide +kernel) (by decide +kernel)
set_option maxRecDepth 20000 in
theorem gX5_piecesWith_X2_add : GoodIn wsX5_piecesWith (wsV RX5 74 RX2 yX2_add wsX2_add) := goodIn_app (goodIn_of _ (by decide +kernel)) ggX5_piecesWith_X2_add
set_option maxRecDepth 20000 in
theorem ggX5_piecesWith_X0_cut : GoodIn wsX5_piecesWith wsX0_cut := goodIn_r _ [40, 41, 42, 43, 44, 45, 46, 47, 12, 13, 8, 14, 10, 48, 16, 17, 18, 19, 49, 50, 51, 39, 52, 53, 54, 55, 76, 77, 78, 79, 80, 74, 75] (by decide +kernel) (by decide +kernel)
set_option maxRecDepth 20000 in
theorem gX5_piecesWith_X0_cut : GoodIn wsX5_piecesWith (wsV RX5 156 RX0 yX0_cut wsX0_cut) := goodIn_app (goodIn_of _ (by decide +kernel)) ggX5_piecesWith_X0_cut
set_option maxRecDepth 20000 in
theorem ggX5_piecesWith_X0_fewestFrom : GoodIn wsX5_piecesWith wsX0_fewestFrom := goodIn_r _ [59, 46, 60, 61, 39, 62, 76, 77, 78, 79, 80] (by decide +kernel) (by decide +kernel)
set_option maxRecDepth 20000 in
theorem gX5_piecesWith_X0_fewestFrom : GoodIn wsX5_piecesWith (wsV RX5 160 RX0 yX0_fewestFrom wsX0_fewestFrom) := goodIn_app (goodIn_of _ (by decide +kernel)) ggX5_piecesWith_X0_fewestFrom
theorem dX5_piecesWith_0 : decode cX5_piecesWith 0 = .ok (.aload_n 0, 1) := by decide +kernel
theorem dX5_piecesWith_1 : decode cX5_piecesWith 1 = .ok (.getfield 19, 3) := by decide +kernel
theorem dX5_piecesWith_4 : decode cX5_piecesWith 4 = .ok (.aload_n 0, 1) := by decide +kernel
theorem dX5_piecesWith_5 : decode cX5_piecesWith 5 = .ok (.getfield 10, 3) := by decide +kernel
theorem dX5_piecesWith_8 : decode cX5_piecesWith 8 = .ok (.invokevirtual 145, 3) := by decide +kernel
theorem dX5_piecesWith_11 : decode cX5_piecesWith 11 = .ok (.aload_n 0, 1) := by decide +kernel
theorem dX5_piecesWith_12 : decode cX5_piecesWith 12 = .ok (.getfield 19, 3) := by decide +kernel
theorem dX5_piecesWith_15 : decode cX5_piecesWith 15 = .ok (.iload_n 1, 1) := by decide +kernel
theorem dX5_piecesWith_16 : decode cX5_piecesWith 16 = .ok (.invokevirtual 74, 3) := by decide +kernel
theorem dX5_piecesWith_19 : decode cX5_piecesWith 19 = .ok (.aload_n 0, 1) := by decide +kernel
theorem dX5_piecesWith_20 : decode cX5_piecesWith 20 = .ok (.getfield 25, 3) := by decide +kernel
theorem dX5_piecesWith_23 : decode cX5_piecesWith 23 = .ok (.aload_n 0, 1) := by decide +kernel
theorem dX5_piecesWith_24 : decode cX5_piecesWith 24 = .ok (.getfield 19, 3) := by decide +kernel
theorem dX5_piecesWith_27 : decode cX5_piecesWith 27 = .ok (.aload_n 0, 1) := by decide +kernel
theorem dX5_piecesWith_28 : decode cX5_piecesWith 28 = .ok (.getfield 50, 3) := by decide +kernel
theorem dX5_piecesWith_31 : decode cX5_piecesWith 31 = .ok (.invokevirtual 156, 3) := by decide +kernel
theorem dX5_piecesWith_34 : decode cX5_piecesWith 34 = .ok (.aload_n 0, 1) := by decide +kernel
theorem dX5_piecesWith_35 : decode cX5_piecesWith 35 = .ok (.getfield 25, 3) := by decide +kernel
theorem dX5_piecesWith_38 : decode cX5_piecesWith 38 = .ok (.iconst 0, 1) := by decide +kernel
theorem dX5_piecesWith_39 : decode cX5_piecesWith 39 = .ok (.invokevirtual 160, 3) := by decide +kernel
theorem dX5_piecesWith_42 : decode cX5_piecesWith 42 = .ok (.ireturn, 1) := by decide +kernel
set_option maxRecDepth 20000 in
theorem ggX6_init_X6_layLevels : GoodIn wsX6_init wsX6_layLevels := goodIn_r _ [26, 27, 28, 29, 12, 5, 15, 18, 30, 31, 32, 25, 33, 34, 35, 16, 17, 20, 21, 36, 37, 38, 39, 14, 13, 40, 41, 42, 43, 6, 44, 45, 46, 47, 48, 49, 50, 51, 52, 53, 54, 55, 56, 57, 58, 59, 60, 61, 62, 63, 64, 65, 66, 67, 68, 69, 70, 71, 72, 73, 74, 75, 76, 77, 78, 79] (by decide +kernel) (by decide +kernel)
set_option maxRecDepth 20000 in
theorem gX6_init_X6_layLevels : GoodIn wsX6_init (wsV RX6 58 RX6 yX6_layLevels wsX6_layLevels) := goodIn_app (goodIn_of _ (by decide +kernel)) ggX6_init_X6_layLevels
end
section
theorem dX6_init_0 : decode cX6_init 0 = .ok (.aload_n 0, 1) := by decide +kernel
theorem dX6_init_1 : decode cX6_init 1 = .ok (.invokespecial 1, 3) := by decide +kernel
theorem dX6_init_4 : decode cX6_init 4 = .ok (.aload_n 0, 1) := by decide +kernel
theorem dX6_init_5 : decode cX6_init 5 = .ok (.bipush 61, 2) := by decide +kernel
theorem dX6_init_7 : decode cX6_init 7 = .ok (.newarray .int, 2) := by decide +kernel
theorem dX6_init_9 : decode cX6_init 9 = .ok (.putfield 7, 3) := by decide +kernel
theorem dX6_init_12 : decode cX6_init 12 = .ok (.aload_n 0, 1) := by decide +kernel
theorem dX6_init_13 : decode cX6_init 13 = .ok (.iconst 2, 1) := by decide +kernel
theorem dX6_init_14 : decode cX6_init 14 = .ok (.putfield 13, 3) := by decide +kernel
theorem dX6_init_17 : decode cX6_init 17 = .ok (.aload_n 0, 1) := by decide +kernel
theorem dX6_init_18 : decode cX6_init 18 = .ok (.bipush 9, 2) := by decide +kernel
theorem dX6_init_20 : decode cX6_init 20 = .ok (.newarray .int, 2) := by decide +kernel
theorem dX6_init_22 : decode cX6_init 22 = .ok (.putfield 17, 3) := by decide +kernel
theorem dX6_init_25 : decode cX6_init 25 = .ok (.aload_n 0, 1) := by decide +kernel
theorem dX6_init_26 : decode cX6_init 26 = .ok (.bipush 9, 2) := by decide +kernel
theorem dX6_init_28 : decode cX6_init 28 = .ok (.newarray .int, 2) := by decide +kernel
theorem dX6_init_30 : decode cX6_init 30 = .ok (.putfield 20, 3) := by decide +kernel
theorem dX6_init_33 : decode cX6_init 33 = .ok (.aload_n 0, 1) := by decide +kernel
theorem dX6_init_34 : decode cX6_init 34 = .ok (.bipush 64, 2) := by decide +kernel
theorem dX6_init_36 : decode cX6_init 36 = .ok (.newarray .boolean, 2) := by decide +kernel
theorem dX6_init_38 : decode cX6_init 38 = .ok (.putfield 23, 3) := by decide +kernel
theorem dX6_init_41 : decode cX6_init 41 = .ok (.aload_n 0, 1) := by decide +kernel
theorem dX6_init_42 : decode cX6_init 42 = .ok (.bipush 70, 2) := by decide +kernel
theorem dX6_init_44 : decode cX6_init 44 = .ok (.newarray .int, 2) := by decide +kernel
theorem dX6_init_46 : decode cX6_init 46 = .ok (.putfield 27, 3) := by decide +kernel
theorem dX6_init_49 : decode cX6_init 49 = .ok (.aload_n 0, 1) := by decide +kernel
theorem dX6_init_50 : decode cX6_init 50 = .ok (.bipush 70, 2) := by decide +kernel
theorem dX6_init_52 : decode cX6_init 52 = .ok (.newarray .int, 2) := by decide +kernel
theorem dX6_init_54 : decode cX6_init 54 = .ok (.putfield 30, 3) := by decide +kernel
theorem dX6_init_57 : decode cX6_init 57 = .ok (.aload_n 0, 1) := by decide +kernel
theorem dX6_init_58 : decode cX6_init 58 = .ok (.bipush 70, 2) := by decide +kernel
theorem dX6_init_60 : decode cX6_init 60 = .ok (.newarray .int, 2) := by decide +kernel
theorem dX6_init_62 : decode cX6_init 62 = .ok (.putfield 33, 3) := by decide +kernel
theorem dX6_init_65 : decode cX6_init 65 = .ok (.aload_n 0, 1) := by decide +kernel
theorem dX6_init_66 : decode cX6_init 66 = .ok (.bipush 71, 2) := by decide +kernel
theorem dX6_init_68 : decode cX6_init 68 = .ok (.newarray .int, 2) := by decide +kernel
theorem dX6_init_70 : decode cX6_init 70 = .ok (.putfield 36, 3) := by decide +kernel
theorem dX6_init_73 : decode cX6_init 73 = .ok (.aload_n 0, 1) := by decide +kernel
theorem dX6_init_74 : decode cX6_init 74 = .ok (.bipush 10, 2) := by decide +kernel
theorem dX6_init_76 : decode cX6_init 76 = .ok (.newarray .int, 2) := by decide +kernel
theorem dX6_init_78 : decode cX6_init 78 = .ok (.putfield 39, 3) := by decide +kernel
theorem dX6_init_81 : decode cX6_init 81 = .ok (.aload_n 0, 1) := by decide +kernel
theorem dX6_init_82 : decode cX6_init 82 = .ok (.sipush 600, 3) := by decide +kernel
theorem dX6_init_85 : decode cX6_init 85 = .ok (.newarray .int, 2) := by decide +kernel
theorem dX6_init_87 : decode cX6_init 87 = .ok (.putfield 42, 3) := by decide +kernel
theorem dX6_init_90 : decode cX6_init 90 = .ok (.aload_n 0, 1) := by decide +kernel
theorem dX6_init_91 : decode cX6_init 91 = .ok (.sipush 600, 3) := by decide +kernel
theorem dX6_init_94 : decode cX6_init 94 = .ok (.newarray .int, 2) := by decide +kernel
theorem dX6_init_96 : decode cX6_init 96 = .ok (.putfield 45, 3) := by decide +kernel
theorem dX6_init_99 : decode cX6_init 99 = .ok (.aload_n 0, 1) := by decide +kernel
theorem dX6_init_100 : decode cX6_init 100 = .ok (.sipush 600, 3) := by decide +kernel
theorem dX6_init_103 : decode cX6_init 103 = .ok (.newarray .int, 2) := by decide +kernel
theorem dX6_init_105 : decode cX6_init 105 = .ok (.putfield 48, 3) := by decide +kernel
theorem dX6_init_108 : decode cX6_init 108 = .ok (.aload_n 0, 1) := by decide +kernel
theorem dX6_init_109 : decode cX6_init 109 = .ok (.sipush 600, 3) := by decide +kernel
theorem dX6_init_112 : decode cX6_init 112 = .ok (.newarray .long, 2) := by decide +kernel
theorem dX6_init_114 : decode cX6_init 114 = .ok (.putfield 51, 3) := by decide +kernel
theorem dX6_init_117 : decode cX6_init 117 = .ok (.aload_n 0, 1) := by decide +kernel
theorem dX6_init_118 : decode cX6_init 118 = .ok (.sipush 600, 3) := by decide +kernel
theorem dX6_init_121 : decode cX6_init 121 = .ok (.newarray .long, 2) := by decide +kernel
theorem dX6_init_123 : decode cX6_init 123 = .ok (.putfield 55, 3) := by decide +kernel
theorem dX6_init_126 : decode cX6_init 126 = .ok (.aload_n 0, 1) := by decide +kernel
theorem dX6_init_127 : decode cX6_init 127 = .ok (.invokevirtual 58, 3) := by decide +kernel
theorem dX6_init_130 : decode cX6_init 130 = .ok (.return_, 1) := by decide +kernel
theorem dX6_in_0 : decode cX6_in 0 = .ok (.iload_n 0, 1) := by decide +kernel
theorem dX6_in_1 : decode cX6_in 1 = .ok (.iload_n 1, 1) := by decide +kernel
theorem dX6_in_2 : decode cX6_in 2 = .ok (.if_icmp .lt 12, 3) := by decide +kernel
theorem dX6_in_5 : decode cX6_in 5 = .ok (.iload_n 0, 1) := by decide +kernel
theorem dX6_in_6 : decode cX6_in 6 = .ok (.iload_n 2, 1) := by decide +kernel
theorem dX6_in_7 : decode cX6_in 7 = .ok (.if_icmp .gt 7, 3) := by decide +kernel
theorem dX6_in_10 : decode cX6_in 10 = .ok (.iconst 1, 1) := by decide +kernel
theorem dX6_in_11 : decode cX6_in 11 = .ok (.goto 4, 3) := by decide +kernel
theorem dX6_in_14 : decode cX6_in 14 = .ok (.iconst 0, 1) := by decide +kernel
theorem dX6_in_15 : decode cX6_in 15 = .ok (.ireturn, 1) := by decide +kernel
set_option maxRecDepth 20000 in
theorem ggX6_isNumber_X6_in : GoodIn wsX6_isNumber wsX6_in := goodIn_r _ [5] (by decide +kernel) (by decide +kernel)
set_option maxRecDepth 20000 in
theorem gX6_isNumber_X6_in : GoodIn wsX6_isNumber (va_wsS RX6 62 yX6_in wsX6_in) := goodIn_app (goodIn_of _ (by decide +kernel)) ggX6_isNumber_X6_in
theorem dX6_isNumber_0 : decode cX6_isNumber 0 = .ok (.iload_n 0, 1) := by decide +kernel
theorem dX6_isNumber_1 : decode cX6_isNumber 1 = .ok (.iconst 0, 1) := by decide +kernel
theorem dX6_isNumber_2 : decode cX6_isNumber 2 = .ok (.ldc 61, 2) := by decide +kernel
theorem dX6_isNumber_4 : decode cX6_isNumber 4 = .ok (.invokestatic 62, 3) := by decide +kernel
theorem dX6_isNumber_7 : decode cX6_isNumber 7 = .ok (.ireturn, 1) := by decide +kernel
theorem dX6_placeIn_0 : decode cX6_placeIn 0 = .ok (.iconst 0, 1) := by decide +kernel
theorem dX6_placeIn_1 : decode cX6_placeIn 1 = .ok (.istore_n 3, 1) := by decide +kernel
theorem dX6_placeIn_2 : decode cX6_placeIn 2 = .ok (.iload_n 3, 1) := by decide +kernel
theorem dX6_placeIn_3 : decode cX6_placeIn 3 = .ok (.iload_n 1, 1) := by decide +kernel
theorem dX6_placeIn_4 : decode cX6_placeIn 4 = .ok (.if_icmp .ge 18, 3) := by decide +kernel
theorem dX6_placeIn_7 : decode cX6_placeIn 7 = .ok (.aload_n 0, 1) := by decide +kernel
theorem dX6_placeIn_8 : decode cX6_placeIn 8 = .ok (.iload_n 3, 1) := by decide +kernel
theorem dX6_placeIn_9 : decode cX6_placeIn 9 = .ok (.iaload, 1) := by decide +kernel
theorem dX6_placeIn_10 : decode cX6_placeIn 10 = .ok (.iload_n 2, 1) := by decide +kernel
theorem dX6_placeIn_11 : decode cX6_placeIn 11 = .ok (.if_icmp .ne 5, 3) := by decide +kernel
theorem dX6_placeIn_14 : decode cX6_placeIn 14 = .ok (.iload_n 3, 1) := by decide +kernel
theorem dX6_placeIn_15 : decode cX6_placeIn 15 = .ok (.ireturn, 1) := by decide +kernel
theorem dX6_placeIn_16 : decode cX6_placeIn 16 = .ok (.iinc 3 1, 3) := by decide +kernel
theorem dX6_placeIn_19 : decode cX6_placeIn 19 = .ok (.goto (-17), 3) := by decide +kernel
theorem dX6_placeIn_22 : decode cX6_placeIn 22 = .ok (.iconst (-1), 1) := by decide +kernel
theorem dX6_placeIn_23 : decode cX6_placeIn 23 = .ok (.ireturn, 1) := by decide +kernel
theorem dX6_insertNow_0 : decode cX6_insertNow 0 = .ok (.aload_n 0, 1) := by decide +kernel
theorem dX6_insertNow_1 : decode cX6_insertNow 1 = .ok (.getfield 66, 3) := by decide +kernel
theorem dX6_insertNow_4 : decode cX6_insertNow 4 = .ok (.istore_n 2, 1) := by decide +kernel
theorem dX6_insertNow_5 : decode cX6_insertNow 5 = .ok (.iload_n 2, 1) := by decide +kernel
theorem dX6_insertNow_6 : decode cX6_insertNow 6 = .ok (.ifCond .le 35, 3) := by decide +kernel
theorem dX6_insertNow_9 : decode cX6_insertNow 9 = .ok (.aload_n 0, 1) := by decide +kernel
theorem dX6_insertNow_10 : decode cX6_insertNow 10 = .ok (.getfield 27, 3) := by decide +kernel
theorem dX6_insertNow_13 : decode cX6_insertNow 13 = .ok (.iload_n 2, 1) := by decide +kernel
theorem dX6_insertNow_14 : decode cX6_insertNow 14 = .ok (.iconst 1, 1) := by decide +kernel
theorem dX6_insertNow_15 : decode cX6_insertNow 15 = .ok (.isub, 1) := by decide +kernel
theorem dX6_insertNow_16 : decode cX6_insertNow 16 = .ok (.iaload, 1) := by decide +kernel
theorem dX6_insertNow_17 : decode cX6_insertNow 17 = .ok (.iload_n 1, 1) := by decide +kernel
theorem dX6_insertNow_18 : decode cX6_insertNow 18 = .ok (.if_icmp .le 23, 3) := by decide +kernel
theorem dX6_insertNow_21 : decode cX6_insertNow 21 = .ok (.aload_n 0, 1) := by decide +kernel
theorem dX6_insertNow_22 : decode cX6_insertNow 22 = .ok (.getfield 27, 3) := by decide +kernel
theorem dX6_insertNow_25 : decode cX6_insertNow 25 = .ok (.iload_n 2, 1) := by decide +kernel
theorem dX6_insertNow_26 : decode cX6_insertNow 26 = .ok (.aload_n 0, 1) := by decide +kernel
theorem dX6_insertNow_27 : decode cX6_insertNow 27 = .ok (.getfield 27, 3) := by decide +kernel
theorem dX6_insertNow_30 : decode cX6_insertNow 30 = .ok (.iload_n 2, 1) := by decide +kernel
theorem dX6_insertNow_31 : decode cX6_insertNow 31 = .ok (.iconst 1, 1) := by decide +kernel
theorem dX6_insertNow_32 : decode cX6_insertNow 32 = .ok (.isub, 1) := by decide +kernel
theorem dX6_insertNow_33 : decode cX6_insertNow 33 = .ok (.iaload, 1) := by decide +kernel
theorem dX6_insertNow_34 : decode cX6_insertNow 34 = .ok (.iastore, 1) := by decide +kernel
theorem dX6_insertNow_35 : decode cX6_insertNow 35 = .ok (.iinc 2 (-1), 3) := by decide +kernel
theorem dX6_insertNow_38 : decode cX6_insertNow 38 = .ok (.goto (-33), 3) := by decide +kernel
theorem dX6_insertNow_41 : decode cX6_insertNow 41 = .ok (.aload_n 0, 1) := by decide +kernel
theorem dX6_insertNow_42 : decode cX6_insertNow 42 = .ok (.getfield 27, 3) := by decide +kernel
theorem dX6_insertNow_45 : decode cX6_insertNow 45 = .ok (.iload_n 2, 1) := by decide +kernel
theorem dX6_insertNow_46 : decode cX6_insertNow 46 = .ok (.iload_n 1, 1) := by decide +kernel
theorem dX6_insertNow_47 : decode cX6_insertNow 47 = .ok (.iastore, 1) := by decide +kernel
theorem dX6_insertNow_48 : decode cX6_insertNow 48 = .ok (.aload_n 0, 1) := by decide +kernel
theorem dX6_insertNow_49 : decode cX6_insertNow 49 = .ok (.dup, 1) := by decide +kernel
theorem dX6_insertNow_50 : decode cX6_insertNow 50 = .ok (.getfield 66, 3) := by decide +kernel
theorem dX6_insertNow_53 : decode cX6_insertNow 53 = .ok (.iconst 1, 1) := by decide +kernel
theorem dX6_insertNow_54 : decode cX6_insertNow 54 = .ok (.iadd, 1) := by decide +kernel
theorem dX6_insertNow_55 : decode cX6_insertNow 55 = .ok (.putfield 66, 3) := by decide +kernel
theorem dX6_insertNow_58 : decode cX6_insertNow 58 = .ok (.return_, 1) := by decide +kernel
set_option maxRecDepth 20000 in
theorem ggX6_layNow_X6_placeIn : GoodIn wsX6_layNow wsX6_placeIn := goodIn_r _ [11] (by decide +kernel) (by decide +kernel)
set_option maxRecDepth 20000 in
theorem gX6_layNow_X6_placeIn : GoodIn wsX6_layNow (va_wsS RX6 75 yX6_placeIn wsX6_placeIn) := goodIn_app (goodIn_of _ (by decide +kernel)) ggX6_layNow_X6_placeIn
set_option maxRecDepth 20000 in
theorem ggX6_layNow_X6_insertNow : GoodIn wsX6_layNow wsX6_insertNow := goodIn_r _ [15, 1, 16, 17, 18, 19, 20, 21, 22, 23, 24, 25, 26, 27, 28, 29, 30, 31, 32, 33, 34, 35, 36, 37, 38, 39, 40, 41] (by decide +kernel) (by decide +kernel)
set_option maxRecDepth 20000 in
theorem gX6_layNow_X6_insertNow : GoodIn wsX6_layNow (wsV RX6 79 RX6 yX6_insertNow wsX6_insertNow) := goodIn_app (goodIn_of _ (by decide +kernel)) ggX6_layNow_X6_insertNow
theorem dX6_layNow_0 : decode cX6_layNow 0 = .ok (.aload_n 0, 1) := by decide +kernel
theorem dX6_layNow_1 : decode cX6_layNow 1 = .ok (.iconst 0, 1) := by decide +kernel
theorem dX6_layNow_2 : decode cX6_layNow 2 = .ok (.putfield 66, 3) := by decide +kernel
theorem dX6_layNow_5 : decode cX6_layNow 5 = .ok (.iconst 0, 1) := by decide +kernel
theorem dX6_layNow_6 : decode cX6_layNow 6 = .ok (.istore_n 1, 1) := by decide +kernel
theorem dX6_layNow_7 : decode cX6_layNow 7 = .ok (.iload_n 1, 1) := by decide +kernel
theorem dX6_layNow_8 : decode cX6_layNow 8 = .ok (.aload_n 0, 1) := by decide +kernel
theorem dX6_layNow_9 : decode cX6_layNow 9 = .ok (.getfield 69, 3) := by decide +kernel
theorem dX6_layNow_12 : decode cX6_layNow 12 = .ok (.if_icmp .ge 40, 3) := by decide +kernel
theorem dX6_layNow_15 : decode cX6_layNow 15 = .ok (.aload_n 0, 1) := by decide +kernel
theorem dX6_layNow_16 : decode cX6_layNow 16 = .ok (.getfield 20, 3) := by decide +kernel
theorem dX6_layNow_19 : decode cX6_layNow 19 = .ok (.aload_n 0, 1) := by decide +kernel
theorem dX6_layNow_20 : decode cX6_layNow 20 = .ok (.getfield 72, 3) := by decide +kernel
theorem dX6_layNow_23 : decode cX6_layNow 23 = .ok (.aload_n 0, 1) := by decide +kernel
theorem dX6_layNow_24 : decode cX6_layNow 24 = .ok (.getfield 7, 3) := by decide +kernel
theorem dX6_layNow_27 : decode cX6_layNow 27 = .ok (.iload_n 1, 1) := by decide +kernel
theorem dX6_layNow_28 : decode cX6_layNow 28 = .ok (.iaload, 1) := by decide +kernel
theorem dX6_layNow_29 : decode cX6_layNow 29 = .ok (.invokestatic 75, 3) := by decide +kernel
theorem dX6_layNow_32 : decode cX6_layNow 32 = .ok (.iconst (-1), 1) := by decide +kernel
theorem dX6_layNow_33 : decode cX6_layNow 33 = .ok (.if_icmp .ne 13, 3) := by decide +kernel
theorem dX6_layNow_36 : decode cX6_layNow 36 = .ok (.aload_n 0, 1) := by decide +kernel
theorem dX6_layNow_37 : decode cX6_layNow 37 = .ok (.aload_n 0, 1) := by decide +kernel
theorem dX6_layNow_38 : decode cX6_layNow 38 = .ok (.getfield 7, 3) := by decide +kernel
theorem dX6_layNow_41 : decode cX6_layNow 41 = .ok (.iload_n 1, 1) := by decide +kernel
theorem dX6_layNow_42 : decode cX6_layNow 42 = .ok (.iaload, 1) := by decide +kernel
theorem dX6_layNow_43 : decode cX6_layNow 43 = .ok (.invokevirtual 79, 3) := by decide +kernel
theorem dX6_layNow_46 : decode cX6_layNow 46 = .ok (.iinc 1 1, 3) := by decide +kernel
theorem dX6_layNow_49 : decode cX6_layNow 49 = .ok (.goto (-42), 3) := by decide +kernel
theorem dX6_layNow_52 : decode cX6_layNow 52 = .ok (.iconst 0, 1) := by decide +kernel
theorem dX6_layNow_53 : decode cX6_layNow 53 = .ok (.istore_n 1, 1) := by decide +kernel
theorem dX6_layNow_54 : decode cX6_layNow 54 = .ok (.iload_n 1, 1) := by decide +kernel
theorem dX6_layNow_55 : decode cX6_layNow 55 = .ok (.aload_n 0, 1) := by decide +kernel
theorem dX6_layNow_56 : decode cX6_layNow 56 = .ok (.getfield 83, 3) := by decide +kernel
theorem dX6_layNow_59 : decode cX6_layNow 59 = .ok (.if_icmp .ge 19, 3) := by decide +kernel
theorem dX6_layNow_62 : decode cX6_layNow 62 = .ok (.aload_n 0, 1) := by decide +kernel
theorem dX6_layNow_63 : decode cX6_layNow 63 = .ok (.aload_n 0, 1) := by decide +kernel
theorem dX6_layNow_64 : decode cX6_layNow 64 = .ok (.getfield 17, 3) := by decide +kernel
theorem dX6_layNow_67 : decode cX6_layNow 67 = .ok (.iload_n 1, 1) := by decide +kernel
theorem dX6_layNow_68 : decode cX6_layNow 68 = .ok (.iaload, 1) := by decide +kernel
theorem dX6_layNow_69 : decode cX6_layNow 69 = .ok (.invokevirtual 79, 3) := by decide +kernel
theorem dX6_layNow_72 : decode cX6_layNow 72 = .ok (.iinc 1 1, 3) := by decide +kernel
theorem dX6_layNow_75 : decode cX6_layNow 75 = .ok (.goto (-21), 3) := by decide +kernel
theorem dX6_layNow_78 : decode cX6_layNow 78 = .ok (.return_, 1) := by decide +kernel
set_option maxRecDepth 20000 in
theorem ggX6_isThere_X6_layNow : GoodIn wsX6_isThere wsX6_layNow := goodIn_r _ [7, 2, 8, 9, 10, 11, 12, 13, 14, 15, 6, 16, 17, 18, 19, 20, 1, 21, 22, 23, 24, 25, 26, 27, 28, 29, 30, 31, 32, 33, 34, 35, 36, 37, 38, 39, 40, 41, 42, 43, 44, 45] (by decide +kernel) (by decide +kernel)
set_option maxRecDepth 20000 in
theorem gX6_isThere_X6_layNow : GoodIn wsX6_isThere (wsV RX6 86 RX6 yX6_layNow wsX6_layNow) := goodIn_app (goodIn_of _ (by decide +kernel)) ggX6_isThere_X6_layNow
set_option maxRecDepth 20000 in
theorem ggX6_isThere_X6_placeIn : GoodIn wsX6_isThere wsX6_placeIn := goodIn_r _ [16] (by decide +kernel) (by decide +kernel)
set_option maxRecDepth 20000 in
theorem gX6_isThere_X6_placeIn : GoodIn wsX6_isThere (va_wsS RX6 75 yX6_placeIn wsX6_placeIn) := goodIn_app (goodIn_of _ (by decide +kernel)) ggX6_isThere_X6_placeIn
theorem dX6_isThere_0 : decode cX6_isThere 0 = .ok (.aload_n 0, 1) := by decide +kernel
theorem dX6_isThere_1 : decode cX6_isThere 1 = .ok (.invokevirtual 86, 3) := by decide +kernel
theorem dX6_isThere_4 : decode cX6_isThere 4 = .ok (.aload_n 0, 1) := by decide +kernel
theorem dX6_isThere_5 : decode cX6_isThere 5 = .ok (.getfield 27, 3) := by decide +kernel
theorem dX6_isThere_8 : decode cX6_isThere 8 = .ok (.aload_n 0, 1) := by decide +kernel
theorem dX6_isThere_9 : decode cX6_isThere 9 = .ok (.getfield 66, 3) := by decide +kernel
theorem dX6_isThere_12 : decode cX6_isThere 12 = .ok (.iload_n 1, 1) := by decide +kernel
theorem dX6_isThere_13 : decode cX6_isThere 13 = .ok (.invokestatic 75, 3) := by decide +kernel
theorem dX6_isThere_16 : decode cX6_isThere 16 = .ok (.iconst (-1), 1) := by decide +kernel
theorem dX6_isThere_17 : decode cX6_isThere 17 = .ok (.if_icmp .eq 7, 3) := by decide +kernel
theorem dX6_isThere_20 : decode cX6_isThere 20 = .ok (.iconst 1, 1) := by decide +kernel
theorem dX6_isThere_21 : decode cX6_isThere 21 = .ok (.goto 4, 3) := by decide +kernel
theorem dX6_isThere_24 : decode cX6_isThere 24 = .ok (.iconst 0, 1) := by decide +kernel
theorem dX6_isThere_25 : decode cX6_isThere 25 = .ok (.ireturn, 1) := by decide +kernel
theorem dX6_setBits_0 : decode cX6_setBits 0 = .ok (.aload_n 0, 1) := by decide +kernel
theorem dX6_setBits_1 : decode cX6_setBits 1 = .ok (.getfield 23, 3) := by decide +kernel
theorem dX6_setBits_4 : decode cX6_setBits 4 = .ok (.iload_n 1, 1) := by decide +kernel
theorem dX6_setBits_5 : decode cX6_setBits 5 = .ok (.bipush 61, 2) := by decide +kernel
theorem dX6_setBits_7 : decode cX6_setBits 7 = .ok (.irem, 1) := by decide +kernel
theorem dX6_setBits_8 : decode cX6_setBits 8 = .ok (.iconst 1, 1) := by decide +kernel
theorem dX6_setBits_9 : decode cX6_setBits 9 = .ok (.bastore, 1) := by decide +kernel
theorem dX6_setBits_10 : decode cX6_setBits 10 = .ok (.aload_n 0, 1) := by decide +kernel
theorem dX6_setBits_11 : decode cX6_setBits 11 = .ok (.getfield 23, 3) := by decide +kernel
theorem dX6_setBits_14 : decode cX6_setBits 14 = .ok (.iload_n 1, 1) := by decide +kernel
theorem dX6_setBits_15 : decode cX6_setBits 15 = .ok (.bipush 61, 2) := by decide +kernel
theorem dX6_setBits_17 : decode cX6_setBits 17 = .ok (.idiv, 1) := by decide +kernel
theorem dX6_setBits_18 : decode cX6_setBits 18 = .ok (.bipush 64, 2) := by decide +kernel
theorem dX6_setBits_20 : decode cX6_setBits 20 = .ok (.irem, 1) := by decide +kernel
theorem dX6_setBits_21 : decode cX6_setBits 21 = .ok (.iconst 1, 1) := by decide +kernel
theorem dX6_setBits_22 : decode cX6_setBits 22 = .ok (.bastore, 1) := by decide +kernel
theorem dX6_setBits_23 : decode cX6_setBits 23 = .ok (.return_, 1) := by decide +kernel
set_option maxRecDepth 20000 in
theorem ggX6_makeRow_X6_layNow : GoodIn wsX6_makeRow wsX6_layNow := goodIn_r _ [13, 2, 3, 14, 7, 4, 6, 15, 16, 17, 12, 18, 19, 20, 21, 22, 5, 68, 69, 70, 71, 72, 73, 74, 75, 76, 77, 78, 79, 80, 81, 82, 83, 84, 85, 86, 87, 88, 89, 90, 91, 92] (by decide +kernel) (by decide +kernel)
set_option maxRecDepth 20000 in
theorem gX6_makeRow_X6_layNow : GoodIn wsX6_makeRow (wsV RX6 86 RX6 yX6_layNow wsX6_layNow) := goodIn_app (goodIn_of _ (by decide +kernel)) ggX6_makeRow_X6_layNow
set_option maxRecDepth 20000 in
theorem ggX6_makeRow_X6_setBits : GoodIn wsX6_makeRow wsX6_setBits := goodIn_r _ [26, 1, 68, 69, 70, 71, 72, 73, 74, 75, 76, 77, 78, 79, 80, 81, 82, 83, 84, 85, 86, 87, 88, 89, 90, 91, 92] (by decide +kernel) (by decide +kernel)
set_option maxRecDepth 20000 in
theorem gX6_makeRow_X6_setBits : GoodIn wsX6_makeRow (wsV RX6 89 RX6 yX6_setBits wsX6_setBits) := goodIn_app (goodIn_of _ (by decide +kernel)) ggX6_makeRow_X6_setBits
set_option maxRecDepth 20000 in
theorem ggX6_makeRow_X6_layLevels : GoodIn wsX6_makeRow wsX6_layLevels := goodIn_r _ [30, 31, 3, 32, 33, 4, 34, 35, 36, 37, 38, 12, 39, 40, 41, 42, 43, 44, 45, 46, 47, 48, 49, 50, 51, 52, 53, 54, 55, 56, 57, 58, 59, 60, 61, 62, 63, 64, 65, 66, 67, 68, 69, 70, 71, 72, 73, 74, 75, 76, 77, 78, 79, 80, 81, 82, 83, 84, 85, 86, 87, 88, 89, 90, 91, 92] (by decide +kernel) (by decide +kernel)
set_option maxRecDepth 20000 in
theorem gX6_makeRow_X6_layLevels : GoodIn wsX6_makeRow (wsV RX6 58 RX6 yX6_layLevels wsX6_layLevels) := goodIn_app (goodIn_of _ (by decide +kernel)) ggX6_makeRow_X6_layLevels
theorem dX6_makeRow_0 : decode cX6_makeRow 0 = .ok (.aload_n 0, 1) := by decide +kernel
theorem dX6_makeRow_1 : decode cX6_makeRow 1 = .ok (.invokevirtual 86, 3) := by decide +kernel
theorem dX6_makeRow_4 : decode cX6_makeRow 4 = .ok (.iconst 0, 1) := by decide +kernel
theorem dX6_makeRow_5 : decode cX6_makeRow 5 = .ok (.istore_n 1, 1) := by decide +kernel
theorem dX6_makeRow_6 : decode cX6_makeRow 6 = .ok (.iload_n 1, 1) := by decide +kernel
theorem dX6_makeRow_7 : decode cX6_makeRow 7 = .ok (.bipush 64, 2) := by decide +kernel
theorem dX6_makeRow_9 : decode cX6_makeRow 9 = .ok (.if_icmp .ge 16, 3) := by decide +kernel
theorem dX6_makeRow_12 : decode cX6_makeRow 12 = .ok (.aload_n 0, 1) := by decide +kernel
theorem dX6_makeRow_13 : decode cX6_makeRow 13 = .ok (.getfield 23, 3) := by decide +kernel
theorem dX6_makeRow_16 : decode cX6_makeRow 16 = .ok (.iload_n 1, 1) := by decide +kernel
theorem dX6_makeRow_17 : decode cX6_makeRow 17 = .ok (.iconst 0, 1) := by decide +kernel
theorem dX6_makeRow_18 : decode cX6_makeRow 18 = .ok (.bastore, 1) := by decide +kernel
theorem dX6_makeRow_19 : decode cX6_makeRow 19 = .ok (.iinc 1 1, 3) := by decide +kernel
theorem dX6_makeRow_22 : decode cX6_makeRow 22 = .ok (.goto (-16), 3) := by decide +kernel
theorem dX6_makeRow_25 : decode cX6_makeRow 25 = .ok (.aload_n 0, 1) := by decide +kernel
theorem dX6_makeRow_26 : decode cX6_makeRow 26 = .ok (.aload_n 0, 1) := by decide +kernel
theorem dX6_makeRow_27 : decode cX6_makeRow 27 = .ok (.getfield 66, 3) := by decide +kernel
theorem dX6_makeRow_30 : decode cX6_makeRow 30 = .ok (.putfield 69, 3) := by decide +kernel
theorem dX6_makeRow_33 : decode cX6_makeRow 33 = .ok (.iconst 0, 1) := by decide +kernel
theorem dX6_makeRow_34 : decode cX6_makeRow 34 = .ok (.istore_n 1, 1) := by decide +kernel
theorem dX6_makeRow_35 : decode cX6_makeRow 35 = .ok (.iload_n 1, 1) := by decide +kernel
theorem dX6_makeRow_36 : decode cX6_makeRow 36 = .ok (.aload_n 0, 1) := by decide +kernel
theorem dX6_makeRow_37 : decode cX6_makeRow 37 = .ok (.getfield 66, 3) := by decide +kernel
theorem dX6_makeRow_40 : decode cX6_makeRow 40 = .ok (.if_icmp .ge 31, 3) := by decide +kernel
theorem dX6_makeRow_43 : decode cX6_makeRow 43 = .ok (.aload_n 0, 1) := by decide +kernel
theorem dX6_makeRow_44 : decode cX6_makeRow 44 = .ok (.getfield 7, 3) := by decide +kernel
theorem dX6_makeRow_47 : decode cX6_makeRow 47 = .ok (.iload_n 1, 1) := by decide +kernel
theorem dX6_makeRow_48 : decode cX6_makeRow 48 = .ok (.aload_n 0, 1) := by decide +kernel
theorem dX6_makeRow_49 : decode cX6_makeRow 49 = .ok (.getfield 27, 3) := by decide +kernel
theorem dX6_makeRow_52 : decode cX6_makeRow 52 = .ok (.iload_n 1, 1) := by decide +kernel
theorem dX6_makeRow_53 : decode cX6_makeRow 53 = .ok (.iaload, 1) := by decide +kernel
theorem dX6_makeRow_54 : decode cX6_makeRow 54 = .ok (.iastore, 1) := by decide +kernel
theorem dX6_makeRow_55 : decode cX6_makeRow 55 = .ok (.aload_n 0, 1) := by decide +kernel
theorem dX6_makeRow_56 : decode cX6_makeRow 56 = .ok (.aload_n 0, 1) := by decide +kernel
theorem dX6_makeRow_57 : decode cX6_makeRow 57 = .ok (.getfield 27, 3) := by decide +kernel
theorem dX6_makeRow_60 : decode cX6_makeRow 60 = .ok (.iload_n 1, 1) := by decide +kernel
theorem dX6_makeRow_61 : decode cX6_makeRow 61 = .ok (.iaload, 1) := by decide +kernel
theorem dX6_makeRow_62 : decode cX6_makeRow 62 = .ok (.invokevirtual 89, 3) := by decide +kernel
theorem dX6_makeRow_65 : decode cX6_makeRow 65 = .ok (.iinc 1 1, 3) := by decide +kernel
theorem dX6_makeRow_68 : decode cX6_makeRow 68 = .ok (.goto (-33), 3) := by decide +kernel
theorem dX6_makeRow_71 : decode cX6_makeRow 71 = .ok (.aload_n 0, 1) := by decide +kernel
theorem dX6_makeRow_72 : decode cX6_makeRow 72 = .ok (.iconst 0, 1) := by decide +kernel
theorem dX6_makeRow_73 : decode cX6_makeRow 73 = .ok (.putfield 83, 3) := by decide +kernel
theorem dX6_makeRow_76 : decode cX6_makeRow 76 = .ok (.aload_n 0, 1) := by decide +kernel
theorem dX6_makeRow_77 : decode cX6_makeRow 77 = .ok (.iconst 0, 1) := by decide +kernel
theorem dX6_makeRow_78 : decode cX6_makeRow 78 = .ok (.putfield 72, 3) := by decide +kernel
theorem dX6_makeRow_81 : decode cX6_makeRow 81 = .ok (.aload_n 0, 1) := by decide +kernel
theorem dX6_makeRow_82 : decode cX6_makeRow 82 = .ok (.dup, 1) := by decide +kernel
theorem dX6_makeRow_83 : decode cX6_makeRow 83 = .ok (.getfield 92, 3) := by decide +kernel
theorem dX6_makeRow_86 : decode cX6_makeRow 86 = .ok (.aload_n 0, 1) := by decide +kernel
theorem dX6_makeRow_87 : decode cX6_makeRow 87 = .ok (.getfield 69, 3) := by decide +kernel
theorem dX6_makeRow_90 : decode cX6_makeRow 90 = .ok (.iadd, 1) := by decide +kernel
theorem dX6_makeRow_91 : decode cX6_makeRow 91 = .ok (.putfield 92, 3) := by decide +kernel
theorem dX6_makeRow_94 : decode cX6_makeRow 94 = .ok (.aload_n 0, 1) := by decide +kernel
theorem dX6_makeRow_95 : decode cX6_makeRow 95 = .ok (.invokevirtual 58, 3) := by decide +kernel
theorem dX6_makeRow_98 : decode cX6_makeRow 98 = .ok (.return_, 1) := by decide +kernel
set_option maxRecDepth 20000 in
theorem ggX6_put_X6_isNumber : GoodIn wsX6_put wsX6_isNumber := goodIn_r _ [9, 10, 11, 12, 8, 13] (by decide +kernel) (by decide +kernel)
set_option maxRecDepth 20000 in
theorem gX6_put_X6_isNumber : GoodIn wsX6_put (va_wsS RX6 95 yX6_isNumber wsX6_isNumber) := goodIn_app (goodIn_of _ (by decide +kernel)) ggX6_put_X6_isNumber
set_option maxRecDepth 20000 in
theorem ggX6_put_X6_isThere : GoodIn wsX6_put wsX6_isThere := goodIn_r _ [17, 18, 1, 19, 20, 21, 8, 22, 23, 2, 3, 24, 4, 5, 25, 26, 27, 28, 29, 30, 31, 83, 84, 85, 86, 87, 88, 89, 90, 91, 92, 93, 94, 95, 96, 97, 98, 99, 100, 101, 102, 103, 104, 105, 106, 107] (by decide +kernel) (by decide +kernel)
set_option maxRecDepth 20000 in
theorem gX6_put_X6_isThere : GoodIn wsX6_put (wsV RX6 99 RX6 yX6_isThere wsX6_isThere) := goodIn_app (goodIn_of _ (by decide +kernel)) ggX6_put_X6_isThere
set_option maxRecDepth 20000 in
theorem ggX6_put_X6_placeIn : GoodIn wsX6_put wsX6_placeIn := goodIn_r _ [27] (by decide +kernel) (by decide +kernel)
set_option maxRecDepth 20000 in
theorem gX6_put_X6_placeIn : GoodIn wsX6_put (va_wsS RX6 75 yX6_placeIn wsX6_placeIn) := goodIn_app (goodIn_of _ (by decide +kernel)) ggX6_put_X6_placeIn
set_option maxRecDepth 20000 in
theorem ggX6_put_X6_makeRow : GoodIn wsX6_put wsX6_makeRow := goodIn_r _ [35, 36, 1, 23, 24, 18, 4, 3, 37, 19, 20, 21, 8, 22, 2, 5, 25, 26, 27, 28, 29, 30, 31, 38, 39, 40, 41, 42, 43, 44, 45, 46, 47, 48, 49, 50, 51, 52, 53, 54, 55, 56, 57, 58, 59, 60, 61, 62, 63, 64, 65, 66, 67, 68, 69, 70, 71, 72, 73, 74, 75, 76, 77, 78, 79, 80, 81, 82, 83, 84, 85, 86, 87, 88, 89, 90, 91, 92, 93, 94, 95, 96, 97, 98, 99, 100, 101, 102, 103, 104, 105, 106, 107] (by decide +kernel) (by decide +kernel)
set_option maxRecDepth 20000 in
theorem gX6_put_X6_makeRow : GoodIn wsX6_put (wsV RX6 102 RX6 yX6_makeRow wsX6_makeRow) := goodIn_app (goodIn_of _ (by decide +kernel)) ggX6_put_X6_makeRow
set_option maxRecDepth 20000 in
theorem ggX6_put_X6_setBits : GoodIn wsX6_put wsX6_setBits := goodIn_r _ [41, 36, 83, 84, 85, 86, 87, 88, 89, 90, 91, 92, 93, 94, 95, 96, 97, 98, 99, 100, 101, 102, 103, 104, 105, 106, 107] (by decide +kernel) (by decide +kernel)
set_option maxRecDepth 20000 in
theorem gX6_put_X6_setBits : GoodIn wsX6_put (wsV RX6 89 RX6 yX6_setBits wsX6_setBits) := goodIn_app (goodIn_of _ (by decide +kernel)) ggX6_put_X6_setBits
set_option maxRecDepth 20000 in
theorem ggX6_put_X6_layNow : GoodIn wsX6_put wsX6_layNow := goodIn_r _ [22, 1, 23, 2, 3, 24, 4, 5, 25, 26, 8, 27, 28, 29, 30, 31, 18, 83, 84, 85, 86, 87, 88, 89, 90, 91, 92, 93, 94, 95, 96, 97, 98, 99, 100, 101, 102, 103, 104, 105, 106, 107] (by decide +kernel) (by decide +kernel)
set_option maxRecDepth 20000 in
theorem gX6_put_X6_layNow : GoodIn wsX6_put (wsV RX6 86 RX6 yX6_layNow wsX6_layNow) := goodIn_app (goodIn_of _ (by decide +kernel)) ggX6_put_X6_layNow
theorem dX6_put_0 : decode cX6_put 0 = .ok (.iload_n 1, 1) := by decide +kernel
theorem dX6_put_1 : decode cX6_put 1 = .ok (.invokestatic 95, 3) := by decide +kernel
theorem dX6_put_4 : decode cX6_put 4 = .ok (.ifCond .ne 6, 3) := by decide +kernel
theorem dX6_put_7 : decode cX6_put 7 = .ok (.bipush (-2), 2) := by decide +kernel
theorem dX6_put_9 : decode cX6_put 9 = .ok (.ireturn, 1) := by decide +kernel
theorem dX6_put_10 : decode cX6_put 10 = .ok (.aload_n 0, 1) := by decide +kernel
theorem dX6_put_11 : decode cX6_put 11 = .ok (.iload_n 1, 1) := by decide +kernel
theorem dX6_put_12 : decode cX6_put 12 = .ok (.invokevirtual 99, 3) := by decide +kernel
theorem dX6_put_15 : decode cX6_put 15 = .ok (.ifCond .eq 6, 3) := by decide +kernel
theorem dX6_put_18 : decode cX6_put 18 = .ok (.bipush (-3), 2) := by decide +kernel
theorem dX6_put_20 : decode cX6_put 20 = .ok (.ireturn, 1) := by decide +kernel
theorem dX6_put_21 : decode cX6_put 21 = .ok (.aload_n 0, 1) := by decide +kernel
theorem dX6_put_22 : decode cX6_put 22 = .ok (.getfield 66, 3) := by decide +kernel
theorem dX6_put_25 : decode cX6_put 25 = .ok (.bipush 60, 2) := by decide +kernel
theorem dX6_put_27 : decode cX6_put 27 = .ok (.if_icmp .ne 6, 3) := by decide +kernel
theorem dX6_put_30 : decode cX6_put 30 = .ok (.bipush (-4), 2) := by decide +kernel
theorem dX6_put_32 : decode cX6_put 32 = .ok (.ireturn, 1) := by decide +kernel
theorem dX6_put_33 : decode cX6_put 33 = .ok (.aload_n 0, 1) := by decide +kernel
theorem dX6_put_34 : decode cX6_put 34 = .ok (.getfield 20, 3) := by decide +kernel
theorem dX6_put_37 : decode cX6_put 37 = .ok (.aload_n 0, 1) := by decide +kernel
theorem dX6_put_38 : decode cX6_put 38 = .ok (.getfield 72, 3) := by decide +kernel
theorem dX6_put_41 : decode cX6_put 41 = .ok (.iload_n 1, 1) := by decide +kernel
theorem dX6_put_42 : decode cX6_put 42 = .ok (.invokestatic 75, 3) := by decide +kernel
theorem dX6_put_45 : decode cX6_put 45 = .ok (.istore_n 2, 1) := by decide +kernel
theorem dX6_put_46 : decode cX6_put 46 = .ok (.iload_n 2, 1) := by decide +kernel
theorem dX6_put_47 : decode cX6_put 47 = .ok (.iconst (-1), 1) := by decide +kernel
theorem dX6_put_48 : decode cX6_put 48 = .ok (.if_icmp .eq 31, 3) := by decide +kernel
theorem dX6_put_51 : decode cX6_put 51 = .ok (.aload_n 0, 1) := by decide +kernel
theorem dX6_put_52 : decode cX6_put 52 = .ok (.dup, 1) := by decide +kernel
theorem dX6_put_53 : decode cX6_put 53 = .ok (.getfield 72, 3) := by decide +kernel
theorem dX6_put_56 : decode cX6_put 56 = .ok (.iconst 1, 1) := by decide +kernel
theorem dX6_put_57 : decode cX6_put 57 = .ok (.isub, 1) := by decide +kernel
theorem dX6_put_58 : decode cX6_put 58 = .ok (.putfield 72, 3) := by decide +kernel
theorem dX6_put_61 : decode cX6_put 61 = .ok (.aload_n 0, 1) := by decide +kernel
theorem dX6_put_62 : decode cX6_put 62 = .ok (.getfield 20, 3) := by decide +kernel
theorem dX6_put_65 : decode cX6_put 65 = .ok (.iload_n 2, 1) := by decide +kernel
theorem dX6_put_66 : decode cX6_put 66 = .ok (.aload_n 0, 1) := by decide +kernel
theorem dX6_put_67 : decode cX6_put 67 = .ok (.getfield 20, 3) := by decide +kernel
theorem dX6_put_70 : decode cX6_put 70 = .ok (.aload_n 0, 1) := by decide +kernel
theorem dX6_put_71 : decode cX6_put 71 = .ok (.getfield 72, 3) := by decide +kernel
theorem dX6_put_74 : decode cX6_put 74 = .ok (.iaload, 1) := by decide +kernel
theorem dX6_put_75 : decode cX6_put 75 = .ok (.iastore, 1) := by decide +kernel
theorem dX6_put_76 : decode cX6_put 76 = .ok (.goto 41, 3) := by decide +kernel
theorem dX6_put_79 : decode cX6_put 79 = .ok (.aload_n 0, 1) := by decide +kernel
theorem dX6_put_80 : decode cX6_put 80 = .ok (.getfield 83, 3) := by decide +kernel
theorem dX6_put_83 : decode cX6_put 83 = .ok (.aload_n 0, 1) := by decide +kernel
theorem dX6_put_84 : decode cX6_put 84 = .ok (.getfield 72, 3) := by decide +kernel
theorem dX6_put_87 : decode cX6_put 87 = .ok (.iadd, 1) := by decide +kernel
theorem dX6_put_88 : decode cX6_put 88 = .ok (.bipush 8, 2) := by decide +kernel
theorem dX6_put_90 : decode cX6_put 90 = .ok (.if_icmp .ne 7, 3) := by decide +kernel
theorem dX6_put_93 : decode cX6_put 93 = .ok (.aload_n 0, 1) := by decide +kernel
theorem dX6_put_94 : decode cX6_put 94 = .ok (.invokevirtual 102, 3) := by decide +kernel
theorem dX6_put_97 : decode cX6_put 97 = .ok (.aload_n 0, 1) := by decide +kernel
theorem dX6_put_98 : decode cX6_put 98 = .ok (.getfield 17, 3) := by decide +kernel
theorem dX6_put_101 : decode cX6_put 101 = .ok (.aload_n 0, 1) := by decide +kernel
theorem dX6_put_102 : decode cX6_put 102 = .ok (.getfield 83, 3) := by decide +kernel
theorem dX6_put_105 : decode cX6_put 105 = .ok (.iload_n 1, 1) := by decide +kernel
theorem dX6_put_106 : decode cX6_put 106 = .ok (.iastore, 1) := by decide +kernel
theorem dX6_put_107 : decode cX6_put 107 = .ok (.aload_n 0, 1) := by decide +kernel
theorem dX6_put_108 : decode cX6_put 108 = .ok (.dup, 1) := by decide +kernel
theorem dX6_put_109 : decode cX6_put 109 = .ok (.getfield 83, 3) := by decide +kernel
theorem dX6_put_112 : decode cX6_put 112 = .ok (.iconst 1, 1) := by decide +kernel
theorem dX6_put_113 : decode cX6_put 113 = .ok (.iadd, 1) := by decide +kernel
theorem dX6_put_114 : decode cX6_put 114 = .ok (.putfield 83, 3) := by decide +kernel
theorem dX6_put_117 : decode cX6_put 117 = .ok (.aload_n 0, 1) := by decide +kernel
theorem dX6_put_118 : decode cX6_put 118 = .ok (.iload_n 1, 1) := by decide +kernel
theorem dX6_put_119 : decode cX6_put 119 = .ok (.invokevirtual 89, 3) := by decide +kernel
theorem dX6_put_122 : decode cX6_put 122 = .ok (.aload_n 0, 1) := by decide +kernel
theorem dX6_put_123 : decode cX6_put 123 = .ok (.invokevirtual 86, 3) := by decide +kernel
theorem dX6_put_126 : decode cX6_put 126 = .ok (.aload_n 0, 1) := by decide +kernel
theorem dX6_put_127 : decode cX6_put 127 = .ok (.getfield 66, 3) := by decide +kernel
theorem dX6_put_130 : decode cX6_put 130 = .ok (.ireturn, 1) := by decide +kernel
set_option maxRecDepth 20000 in
theorem ggX6_take_X6_isNumber : GoodIn wsX6_take wsX6_isNumber := goodIn_r _ [9, 10, 11, 12, 8, 13] (by decide +kernel) (by decide +kernel)
set_option maxRecDepth 20000 in
theorem gX6_take_X6_isNumber : GoodIn wsX6_take (va_wsS RX6 95 yX6_isNumber wsX6_isNumber) := goodIn_app (goodIn_of _ (by decide +kernel)) ggX6_take_X6_isNumber
set_option maxRecDepth 20000 in
theorem ggX6_take_X6_isThere : GoodIn wsX6_take wsX6_isThere := goodIn_r _ [17, 18, 5, 19, 20, 21, 8, 22, 23, 4, 3, 24, 2, 1, 25, 26, 27, 28, 29, 30, 31, 83, 84, 85, 86, 87, 88, 89, 90, 91, 92, 93, 94, 95, 96, 97, 98, 99, 100, 101, 102, 103, 104, 105, 106, 107] (by decide +kernel) (by decide +kernel)
set_option maxRecDepth 20000 in
theorem gX6_take_X6_isThere : GoodIn wsX6_take (wsV RX6 99 RX6 yX6_isThere wsX6_isThere) := goodIn_app (goodIn_of _ (by decide +kernel)) ggX6_take_X6_isThere
set_option maxRecDepth 20000 in
theorem ggX6_take_X6_placeIn : GoodIn wsX6_take wsX6_placeIn := goodIn_r _ [27] (by decide +kernel) (by decide +kernel)
set_option maxRecDepth 20000 in
theorem gX6_take_X6_placeIn : GoodIn wsX6_take (va_wsS RX6 75 yX6_placeIn wsX6_placeIn) := goodIn_app (goodIn_of _ (by decide +kernel)) ggX6_take_X6_placeIn
set_option maxRecDepth 20000 in
theorem ggX6_take_X6_makeRow : GoodIn wsX6_take wsX6_makeRow := goodIn_r _ [35, 36, 5, 23, 24, 18, 2, 3, 37, 19, 20, 21, 8, 22, 4, 1, 25, 26, 27, 28, 29, 30, 31, 38, 39, 40, 41, 42, 43, 44, 45, 46, 47, 48, 49, 50, 51, 52, 53, 54, 55, 56, 57, 58, 59, 60, 61, 62, 63, 64, 65, 66, 67, 68, 69, 70, 71, 72, 73, 74, 75, 76, 77, 78, 79, 80, 81, 82, 83, 84, 85, 86, 87, 88, 89, 90, 91, 92, 93, 94, 95, 96, 97, 98, 99, 100, 101, 102, 103, 104, 105, 106, 107] (by decide +kernel) (by decide +kernel)
set_option maxRecDepth 20000 in
theorem gX6_take_X6_makeRow : GoodIn wsX6_take (wsV RX6 102 RX6 yX6_makeRow wsX6_makeRow) := goodIn_app (goodIn_of _ (by decide +kernel)) ggX6_take_X6_makeRow
set_option maxRecDepth 20000 in
theorem ggX6_take_X6_layNow : GoodIn wsX6_take wsX6_layNow := goodIn_r _ [22, 5, 23, 4, 3, 24, 2, 1, 25, 26, 8, 27, 28, 29, 30, 31, 18, 83, 84, 85, 86, 87, 88, 89, 90, 91, 92, 93, 94, 95, 96, 97, 98, 99, 100, 101, 102, 103, 104, 105, 106, 107] (by decide +kernel) (by decide +kernel)
set_option maxRecDepth 20000 in
theorem gX6_take_X6_layNow : GoodIn wsX6_take (wsV RX6 86 RX6 yX6_layNow wsX6_layNow) := goodIn_app (goodIn_of _ (by decide +kernel)) ggX6_take_X6_layNow
theorem dX6_take_0 : decode cX6_take 0 = .ok (.iload_n 1, 1) := by decide +kernel
theorem dX6_take_1 : decode cX6_take 1 = .ok (.invokestatic 95, 3) := by decide +kernel
theorem dX6_take_4 : decode cX6_take 4 = .ok (.ifCond .ne 6, 3) := by decide +kernel
theorem dX6_take_7 : decode cX6_take 7 = .ok (.bipush (-2), 2) := by decide +kernel
theorem dX6_take_9 : decode cX6_take 9 = .ok (.ireturn, 1) := by decide +kernel
theorem dX6_take_10 : decode cX6_take 10 = .ok (.aload_n 0, 1) := by decide +kernel
theorem dX6_take_11 : decode cX6_take 11 = .ok (.iload_n 1, 1) := by decide +kernel
theorem dX6_take_12 : decode cX6_take 12 = .ok (.invokevirtual 99, 3) := by decide +kernel
theorem dX6_take_15 : decode cX6_take 15 = .ok (.ifCond .ne 6, 3) := by decide +kernel
theorem dX6_take_18 : decode cX6_take 18 = .ok (.bipush (-3), 2) := by decide +kernel
theorem dX6_take_20 : decode cX6_take 20 = .ok (.ireturn, 1) := by decide +kernel
theorem dX6_take_21 : decode cX6_take 21 = .ok (.aload_n 0, 1) := by decide +kernel
theorem dX6_take_22 : decode cX6_take 22 = .ok (.getfield 17, 3) := by decide +kernel
theorem dX6_take_25 : decode cX6_take 25 = .ok (.aload_n 0, 1) := by decide +kernel
theorem dX6_take_26 : decode cX6_take 26 = .ok (.getfield 83, 3) := by decide +kernel
theorem dX6_take_29 : decode cX6_take 29 = .ok (.iload_n 1, 1) := by decide +kernel
theorem dX6_take_30 : decode cX6_take 30 = .ok (.invokestatic 75, 3) := by decide +kernel
theorem dX6_take_33 : decode cX6_take 33 = .ok (.istore_n 2, 1) := by decide +kernel
theorem dX6_take_34 : decode cX6_take 34 = .ok (.iload_n 2, 1) := by decide +kernel
theorem dX6_take_35 : decode cX6_take 35 = .ok (.iconst (-1), 1) := by decide +kernel
end
section
theorem dX6_take_36 : decode cX6_take 36 = .ok (.if_icmp .eq 31, 3) := by decide +kernel
theorem dX6_take_39 : decode cX6_take 39 = .ok (.aload_n 0, 1) := by decide +kernel
theorem dX6_take_40 : decode cX6_take 40 = .ok (.dup, 1) := by decide +kernel
theorem dX6_take_41 : decode cX6_take 41 = .ok (.getfield 83, 3) := by decide +kernel
theorem dX6_take_44 : decode cX6_take 44 = .ok (.iconst 1, 1) := by decide +kernel
theorem dX6_take_45 : decode cX6_take 45 = .ok (.isub, 1) := by decide +kernel
theorem dX6_take_46 : decode cX6_take 46 = .ok (.putfield 83, 3) := by decide +kernel
theorem dX6_take_49 : decode cX6_take 49 = .ok (.aload_n 0, 1) := by decide +kernel
theorem dX6_take_50 : decode cX6_take 50 = .ok (.getfield 17, 3) := by decide +kernel
theorem dX6_take_53 : decode cX6_take 53 = .ok (.iload_n 2, 1) := by decide +kernel
theorem dX6_take_54 : decode cX6_take 54 = .ok (.aload_n 0, 1) := by decide +kernel
theorem dX6_take_55 : decode cX6_take 55 = .ok (.getfield 17, 3) := by decide +kernel
theorem dX6_take_58 : decode cX6_take 58 = .ok (.aload_n 0, 1) := by decide +kernel
theorem dX6_take_59 : decode cX6_take 59 = .ok (.getfield 83, 3) := by decide +kernel
theorem dX6_take_62 : decode cX6_take 62 = .ok (.iaload, 1) := by decide +kernel
theorem dX6_take_63 : decode cX6_take 63 = .ok (.iastore, 1) := by decide +kernel
theorem dX6_take_64 : decode cX6_take 64 = .ok (.goto 41, 3) := by decide +kernel
theorem dX6_take_67 : decode cX6_take 67 = .ok (.aload_n 0, 1) := by decide +kernel
theorem dX6_take_68 : decode cX6_take 68 = .ok (.getfield 83, 3) := by decide +kernel
theorem dX6_take_71 : decode cX6_take 71 = .ok (.aload_n 0, 1) := by decide +kernel
theorem dX6_take_72 : decode cX6_take 72 = .ok (.getfield 72, 3) := by decide +kernel
theorem dX6_take_75 : decode cX6_take 75 = .ok (.iadd, 1) := by decide +kernel
theorem dX6_take_76 : decode cX6_take 76 = .ok (.bipush 8, 2) := by decide +kernel
theorem dX6_take_78 : decode cX6_take 78 = .ok (.if_icmp .ne 7, 3) := by decide +kernel
theorem dX6_take_81 : decode cX6_take 81 = .ok (.aload_n 0, 1) := by decide +kernel
theorem dX6_take_82 : decode cX6_take 82 = .ok (.invokevirtual 102, 3) := by decide +kernel
theorem dX6_take_85 : decode cX6_take 85 = .ok (.aload_n 0, 1) := by decide +kernel
theorem dX6_take_86 : decode cX6_take 86 = .ok (.getfield 20, 3) := by decide +kernel
theorem dX6_take_89 : decode cX6_take 89 = .ok (.aload_n 0, 1) := by decide +kernel
theorem dX6_take_90 : decode cX6_take 90 = .ok (.getfield 72, 3) := by decide +kernel
theorem dX6_take_93 : decode cX6_take 93 = .ok (.iload_n 1, 1) := by decide +kernel
theorem dX6_take_94 : decode cX6_take 94 = .ok (.iastore, 1) := by decide +kernel
theorem dX6_take_95 : decode cX6_take 95 = .ok (.aload_n 0, 1) := by decide +kernel
theorem dX6_take_96 : decode cX6_take 96 = .ok (.dup, 1) := by decide +kernel
theorem dX6_take_97 : decode cX6_take 97 = .ok (.getfield 72, 3) := by decide +kernel
theorem dX6_take_100 : decode cX6_take 100 = .ok (.iconst 1, 1) := by decide +kernel
theorem dX6_take_101 : decode cX6_take 101 = .ok (.iadd, 1) := by decide +kernel
theorem dX6_take_102 : decode cX6_take 102 = .ok (.putfield 72, 3) := by decide +kernel
theorem dX6_take_105 : decode cX6_take 105 = .ok (.aload_n 0, 1) := by decide +kernel
theorem dX6_take_106 : decode cX6_take 106 = .ok (.invokevirtual 86, 3) := by decide +kernel
theorem dX6_take_109 : decode cX6_take 109 = .ok (.aload_n 0, 1) := by decide +kernel
theorem dX6_take_110 : decode cX6_take 110 = .ok (.getfield 66, 3) := by decide +kernel
theorem dX6_take_113 : decode cX6_take 113 = .ok (.ireturn, 1) := by decide +kernel
set_option maxRecDepth 20000 in
theorem ggX6_make_X6_makeRow : GoodIn wsX6_make wsX6_makeRow := goodIn_r _ [6, 7, 8, 9, 10, 11, 12, 13, 1, 14, 15, 16, 5, 17, 18, 19, 20, 21, 22, 23, 24, 25, 26, 27, 28, 29, 30, 31, 32, 33, 34, 35, 36, 37, 38, 39, 40, 41, 42, 43, 44, 45, 46, 47, 48, 49, 50, 51, 52, 53, 54, 55, 56, 57, 58, 59, 60, 61, 62, 63, 64, 65, 66, 67, 68, 69, 70, 71, 72, 73, 74, 75, 76, 77, 78, 79, 80, 81, 82, 83, 84, 85, 86, 87, 88, 89, 90, 91, 92, 93, 94, 95, 96] (by decide +kernel) (by decide +kernel)
set_option maxRecDepth 20000 in
theorem gX6_make_X6_makeRow : GoodIn wsX6_make (wsV RX6 102 RX6 yX6_makeRow wsX6_makeRow) := goodIn_app (goodIn_of _ (by decide +kernel)) ggX6_make_X6_makeRow
theorem dX6_make_0 : decode cX6_make 0 = .ok (.aload_n 0, 1) := by decide +kernel
theorem dX6_make_1 : decode cX6_make 1 = .ok (.invokevirtual 102, 3) := by decide +kernel
theorem dX6_make_4 : decode cX6_make 4 = .ok (.aload_n 0, 1) := by decide +kernel
theorem dX6_make_5 : decode cX6_make 5 = .ok (.getfield 92, 3) := by decide +kernel
theorem dX6_make_8 : decode cX6_make 8 = .ok (.ireturn, 1) := by decide +kernel
set_option maxRecDepth 20000 in
theorem ggX6_slack_X6_in : GoodIn wsX6_slack wsX6_in := goodIn_r _ [5] (by decide +kernel) (by decide +kernel)
set_option maxRecDepth 20000 in
theorem gX6_slack_X6_in : GoodIn wsX6_slack (va_wsS RX6 62 yX6_in wsX6_in) := goodIn_app (goodIn_of _ (by decide +kernel)) ggX6_slack_X6_in
set_option maxRecDepth 20000 in
theorem ggX6_slack_X6_makeRow : GoodIn wsX6_slack wsX6_makeRow := goodIn_r _ [9, 10, 11, 12, 13, 14, 15, 16, 17, 18, 19, 20, 4, 21, 22, 23, 24, 25, 26, 27, 28, 29, 30, 31, 32, 33, 34, 35, 36, 37, 38, 39, 40, 41, 42, 43, 44, 45, 46, 47, 48, 49, 50, 51, 52, 53, 54, 55, 56, 57, 58, 59, 60, 61, 62, 63, 1, 64, 65, 66, 67, 68, 69, 70, 71, 72, 73, 74, 75, 76, 77, 78, 79, 80, 81, 82, 83, 84, 85, 86, 87, 88, 89, 90, 91, 92, 93, 94, 95, 96, 97, 98, 99] (by decide +kernel) (by decide +kernel)
set_option maxRecDepth 20000 in
theorem gX6_slack_X6_makeRow : GoodIn wsX6_slack (wsV RX6 102 RX6 yX6_makeRow wsX6_makeRow) := goodIn_app (goodIn_of _ (by decide +kernel)) ggX6_slack_X6_makeRow
theorem dX6_slack_0 : decode cX6_slack 0 = .ok (.iload_n 1, 1) := by decide +kernel
theorem dX6_slack_1 : decode cX6_slack 1 = .ok (.iconst 0, 1) := by decide +kernel
theorem dX6_slack_2 : decode cX6_slack 2 = .ok (.bipush 8, 2) := by decide +kernel
theorem dX6_slack_4 : decode cX6_slack 4 = .ok (.invokestatic 62, 3) := by decide +kernel
theorem dX6_slack_7 : decode cX6_slack 7 = .ok (.ifCond .ne 6, 3) := by decide +kernel
theorem dX6_slack_10 : decode cX6_slack 10 = .ok (.bipush (-2), 2) := by decide +kernel
theorem dX6_slack_12 : decode cX6_slack 12 = .ok (.ireturn, 1) := by decide +kernel
theorem dX6_slack_13 : decode cX6_slack 13 = .ok (.aload_n 0, 1) := by decide +kernel
theorem dX6_slack_14 : decode cX6_slack 14 = .ok (.getfield 13, 3) := by decide +kernel
theorem dX6_slack_17 : decode cX6_slack 17 = .ok (.istore_n 2, 1) := by decide +kernel
theorem dX6_slack_18 : decode cX6_slack 18 = .ok (.aload_n 0, 1) := by decide +kernel
theorem dX6_slack_19 : decode cX6_slack 19 = .ok (.iload_n 1, 1) := by decide +kernel
theorem dX6_slack_20 : decode cX6_slack 20 = .ok (.putfield 13, 3) := by decide +kernel
theorem dX6_slack_23 : decode cX6_slack 23 = .ok (.aload_n 0, 1) := by decide +kernel
theorem dX6_slack_24 : decode cX6_slack 24 = .ok (.invokevirtual 102, 3) := by decide +kernel
theorem dX6_slack_27 : decode cX6_slack 27 = .ok (.iload_n 2, 1) := by decide +kernel
theorem dX6_slack_28 : decode cX6_slack 28 = .ok (.ireturn, 1) := by decide +kernel
set_option maxRecDepth 20000 in
theorem ggX6_place_X6_isNumber : GoodIn wsX6_place wsX6_isNumber := goodIn_r _ [6, 7, 8, 9, 5, 10] (by decide +kernel) (by decide +kernel)
set_option maxRecDepth 20000 in
theorem gX6_place_X6_isNumber : GoodIn wsX6_place (va_wsS RX6 95 yX6_isNumber wsX6_isNumber) := goodIn_app (goodIn_of _ (by decide +kernel)) ggX6_place_X6_isNumber
set_option maxRecDepth 20000 in
theorem ggX6_place_X6_layNow : GoodIn wsX6_place wsX6_layNow := goodIn_r _ [14, 2, 15, 16, 17, 18, 19, 20, 21, 22, 5, 23, 24, 25, 26, 27, 1, 28, 29, 30, 31, 32, 33, 34, 35, 36, 37, 38, 39, 40, 41, 42, 43, 44, 45, 46, 47, 48, 49, 50, 51, 52] (by decide +kernel) (by decide +kernel)
set_option maxRecDepth 20000 in
theorem gX6_place_X6_layNow : GoodIn wsX6_place (wsV RX6 86 RX6 yX6_layNow wsX6_layNow) := goodIn_app (goodIn_of _ (by decide +kernel)) ggX6_place_X6_layNow
set_option maxRecDepth 20000 in
theorem ggX6_place_X6_placeIn : GoodIn wsX6_place wsX6_placeIn := goodIn_r _ [23] (by decide +kernel) (by decide +kernel)
set_option maxRecDepth 20000 in
theorem gX6_place_X6_placeIn : GoodIn wsX6_place (va_wsS RX6 75 yX6_placeIn wsX6_placeIn) := goodIn_app (goodIn_of _ (by decide +kernel)) ggX6_place_X6_placeIn
theorem dX6_place_0 : decode cX6_place 0 = .ok (.iload_n 1, 1) := by decide +kernel
theorem dX6_place_1 : decode cX6_place 1 = .ok (.invokestatic 95, 3) := by decide +kernel
theorem dX6_place_4 : decode cX6_place 4 = .ok (.ifCond .ne 6, 3) := by decide +kernel
theorem dX6_place_7 : decode cX6_place 7 = .ok (.bipush (-2), 2) := by decide +kernel
theorem dX6_place_9 : decode cX6_place 9 = .ok (.ireturn, 1) := by decide +kernel
theorem dX6_place_10 : decode cX6_place 10 = .ok (.aload_n 0, 1) := by decide +kernel
theorem dX6_place_11 : decode cX6_place 11 = .ok (.invokevirtual 86, 3) := by decide +kernel
theorem dX6_place_14 : decode cX6_place 14 = .ok (.aload_n 0, 1) := by decide +kernel
theorem dX6_place_15 : decode cX6_place 15 = .ok (.getfield 27, 3) := by decide +kernel
theorem dX6_place_18 : decode cX6_place 18 = .ok (.aload_n 0, 1) := by decide +kernel
theorem dX6_place_19 : decode cX6_place 19 = .ok (.getfield 66, 3) := by decide +kernel
theorem dX6_place_22 : decode cX6_place 22 = .ok (.iload_n 1, 1) := by decide +kernel
theorem dX6_place_23 : decode cX6_place 23 = .ok (.invokestatic 75, 3) := by decide +kernel
theorem dX6_place_26 : decode cX6_place 26 = .ok (.ireturn, 1) := by decide +kernel
set_option maxRecDepth 20000 in
theorem ggX6_at_X6_layNow : GoodIn wsX6_at wsX6_layNow := goodIn_r _ [7, 1, 8, 9, 10, 11, 12, 13, 14, 15, 6, 16, 17, 18, 19, 20, 2, 24, 25, 26, 27, 28, 29, 30, 31, 32, 33, 34, 35, 36, 37, 38, 39, 40, 41, 42, 43, 44, 45, 46, 47, 48] (by decide +kernel) (by decide +kernel)
set_option maxRecDepth 20000 in
theorem gX6_at_X6_layNow : GoodIn wsX6_at (wsV RX6 86 RX6 yX6_layNow wsX6_layNow) := goodIn_app (goodIn_of _ (by decide +kernel)) ggX6_at_X6_layNow
set_option maxRecDepth 20000 in
theorem ggX6_at_X6_in : GoodIn wsX6_at wsX6_in := goodIn_r _ [23] (by decide +kernel) (by decide +kernel)
set_option maxRecDepth 20000 in
theorem gX6_at_X6_in : GoodIn wsX6_at (va_wsS RX6 62 yX6_in wsX6_in) := goodIn_app (goodIn_of _ (by decide +kernel)) ggX6_at_X6_in
theorem dX6_at_0 : decode cX6_at 0 = .ok (.aload_n 0, 1) := by decide +kernel
theorem dX6_at_1 : decode cX6_at 1 = .ok (.invokevirtual 86, 3) := by decide +kernel
theorem dX6_at_4 : decode cX6_at 4 = .ok (.iload_n 1, 1) := by decide +kernel
theorem dX6_at_5 : decode cX6_at 5 = .ok (.iconst 0, 1) := by decide +kernel
theorem dX6_at_6 : decode cX6_at 6 = .ok (.aload_n 0, 1) := by decide +kernel
theorem dX6_at_7 : decode cX6_at 7 = .ok (.getfield 66, 3) := by decide +kernel
theorem dX6_at_10 : decode cX6_at 10 = .ok (.iconst 1, 1) := by decide +kernel
theorem dX6_at_11 : decode cX6_at 11 = .ok (.isub, 1) := by decide +kernel
theorem dX6_at_12 : decode cX6_at 12 = .ok (.invokestatic 62, 3) := by decide +kernel
theorem dX6_at_15 : decode cX6_at 15 = .ok (.ifCond .eq 12, 3) := by decide +kernel
theorem dX6_at_18 : decode cX6_at 18 = .ok (.aload_n 0, 1) := by decide +kernel
theorem dX6_at_19 : decode cX6_at 19 = .ok (.getfield 27, 3) := by decide +kernel
theorem dX6_at_22 : decode cX6_at 22 = .ok (.iload_n 1, 1) := by decide +kernel
theorem dX6_at_23 : decode cX6_at 23 = .ok (.iaload, 1) := by decide +kernel
theorem dX6_at_24 : decode cX6_at 24 = .ok (.goto 5, 3) := by decide +kernel
theorem dX6_at_27 : decode cX6_at 27 = .ok (.bipush (-2), 2) := by decide +kernel
theorem dX6_at_29 : decode cX6_at 29 = .ok (.ireturn, 1) := by decide +kernel
set_option maxRecDepth 20000 in
theorem ggX6_isSpan_X6_isNumber : GoodIn wsX6_isSpan wsX6_isNumber := goodIn_r _ [4, 5, 6, 7, 3, 8] (by decide +kernel) (by decide +kernel)
set_option maxRecDepth 20000 in
theorem gX6_isSpan_X6_isNumber : GoodIn wsX6_isSpan (va_wsS RX6 95 yX6_isNumber wsX6_isNumber) := goodIn_app (goodIn_of _ (by decide +kernel)) ggX6_isSpan_X6_isNumber
theorem dX6_isSpan_0 : decode cX6_isSpan 0 = .ok (.iload_n 0, 1) := by decide +kernel
theorem dX6_isSpan_1 : decode cX6_isSpan 1 = .ok (.invokestatic 95, 3) := by decide +kernel
theorem dX6_isSpan_4 : decode cX6_isSpan 4 = .ok (.ifCond .eq 19, 3) := by decide +kernel
theorem dX6_isSpan_7 : decode cX6_isSpan 7 = .ok (.iload_n 1, 1) := by decide +kernel
theorem dX6_isSpan_8 : decode cX6_isSpan 8 = .ok (.invokestatic 95, 3) := by decide +kernel
theorem dX6_isSpan_11 : decode cX6_isSpan 11 = .ok (.ifCond .eq 12, 3) := by decide +kernel
theorem dX6_isSpan_14 : decode cX6_isSpan 14 = .ok (.iload_n 0, 1) := by decide +kernel
theorem dX6_isSpan_15 : decode cX6_isSpan 15 = .ok (.iload_n 1, 1) := by decide +kernel
theorem dX6_isSpan_16 : decode cX6_isSpan 16 = .ok (.if_icmp .gt 7, 3) := by decide +kernel
theorem dX6_isSpan_19 : decode cX6_isSpan 19 = .ok (.iconst 1, 1) := by decide +kernel
theorem dX6_isSpan_20 : decode cX6_isSpan 20 = .ok (.goto 4, 3) := by decide +kernel
theorem dX6_isSpan_23 : decode cX6_isSpan 23 = .ok (.iconst 0, 1) := by decide +kernel
theorem dX6_isSpan_24 : decode cX6_isSpan 24 = .ok (.ireturn, 1) := by decide +kernel
set_option maxRecDepth 20000 in
theorem ggX6_range_X6_isSpan : GoodIn wsX6_range wsX6_isSpan := goodIn_r _ [6, 7, 8, 5, 9, 10, 11, 12, 13] (by decide +kernel) (by decide +kernel)
set_option maxRecDepth 20000 in
theorem gX6_range_X6_isSpan : GoodIn wsX6_range (va_wsS RX6 105 yX6_isSpan wsX6_isSpan) := goodIn_app (goodIn_of _ (by decide +kernel)) ggX6_range_X6_isSpan
set_option maxRecDepth 20000 in
theorem ggX6_range_X6_layNow : GoodIn wsX6_range wsX6_layNow := goodIn_r _ [17, 1, 18, 19, 20, 21, 22, 23, 24, 25, 5, 26, 27, 28, 29, 30, 2, 31, 32, 33, 34, 35, 36, 37, 38, 39, 40, 41, 42, 43, 44, 45, 46, 47, 48, 49, 50, 51, 52, 53, 54, 55] (by decide +kernel) (by decide +kernel)
set_option maxRecDepth 20000 in
theorem gX6_range_X6_layNow : GoodIn wsX6_range (wsV RX6 86 RX6 yX6_layNow wsX6_layNow) := goodIn_app (goodIn_of _ (by decide +kernel)) ggX6_range_X6_layNow
set_option maxRecDepth 20000 in
theorem ggX6_range_X6_in : GoodIn wsX6_range wsX6_in := goodIn_r _ [13] (by decide +kernel) (by decide +kernel)
set_option maxRecDepth 20000 in
theorem gX6_range_X6_in : GoodIn wsX6_range (va_wsS RX6 62 yX6_in wsX6_in) := goodIn_app (goodIn_of _ (by decide +kernel)) ggX6_range_X6_in
theorem dX6_range_0 : decode cX6_range 0 = .ok (.iload_n 1, 1) := by decide +kernel
theorem dX6_range_1 : decode cX6_range 1 = .ok (.iload_n 2, 1) := by decide +kernel
theorem dX6_range_2 : decode cX6_range 2 = .ok (.invokestatic 105, 3) := by decide +kernel
theorem dX6_range_5 : decode cX6_range 5 = .ok (.ifCond .ne 6, 3) := by decide +kernel
theorem dX6_range_8 : decode cX6_range 8 = .ok (.bipush (-2), 2) := by decide +kernel
theorem dX6_range_10 : decode cX6_range 10 = .ok (.ireturn, 1) := by decide +kernel
theorem dX6_range_11 : decode cX6_range 11 = .ok (.aload_n 0, 1) := by decide +kernel
theorem dX6_range_12 : decode cX6_range 12 = .ok (.invokevirtual 86, 3) := by decide +kernel
theorem dX6_range_15 : decode cX6_range 15 = .ok (.iconst 0, 1) := by decide +kernel
theorem dX6_range_16 : decode cX6_range 16 = .ok (.istore_n 3, 1) := by decide +kernel
theorem dX6_range_17 : decode cX6_range 17 = .ok (.iconst 0, 1) := by decide +kernel
theorem dX6_range_18 : decode cX6_range 18 = .ok (.istore 4, 2) := by decide +kernel
theorem dX6_range_20 : decode cX6_range 20 = .ok (.iload 4, 2) := by decide +kernel
theorem dX6_range_22 : decode cX6_range 22 = .ok (.aload_n 0, 1) := by decide +kernel
theorem dX6_range_23 : decode cX6_range 23 = .ok (.getfield 66, 3) := by decide +kernel
theorem dX6_range_26 : decode cX6_range 26 = .ok (.if_icmp .ge 32, 3) := by decide +kernel
theorem dX6_range_29 : decode cX6_range 29 = .ok (.iload_n 3, 1) := by decide +kernel
theorem dX6_range_30 : decode cX6_range 30 = .ok (.aload_n 0, 1) := by decide +kernel
theorem dX6_range_31 : decode cX6_range 31 = .ok (.getfield 27, 3) := by decide +kernel
theorem dX6_range_34 : decode cX6_range 34 = .ok (.iload 4, 2) := by decide +kernel
theorem dX6_range_36 : decode cX6_range 36 = .ok (.iaload, 1) := by decide +kernel
theorem dX6_range_37 : decode cX6_range 37 = .ok (.iload_n 1, 1) := by decide +kernel
theorem dX6_range_38 : decode cX6_range 38 = .ok (.iload_n 2, 1) := by decide +kernel
theorem dX6_range_39 : decode cX6_range 39 = .ok (.invokestatic 62, 3) := by decide +kernel
theorem dX6_range_42 : decode cX6_range 42 = .ok (.ifCond .eq 7, 3) := by decide +kernel
theorem dX6_range_45 : decode cX6_range 45 = .ok (.iconst 1, 1) := by decide +kernel
theorem dX6_range_46 : decode cX6_range 46 = .ok (.goto 4, 3) := by decide +kernel
theorem dX6_range_49 : decode cX6_range 49 = .ok (.iconst 0, 1) := by decide +kernel
theorem dX6_range_50 : decode cX6_range 50 = .ok (.iadd, 1) := by decide +kernel
theorem dX6_range_51 : decode cX6_range 51 = .ok (.istore_n 3, 1) := by decide +kernel
theorem dX6_range_52 : decode cX6_range 52 = .ok (.iinc 4 1, 3) := by decide +kernel
theorem dX6_range_55 : decode cX6_range 55 = .ok (.goto (-35), 3) := by decide +kernel
theorem dX6_range_58 : decode cX6_range 58 = .ok (.iload_n 3, 1) := by decide +kernel
theorem dX6_range_59 : decode cX6_range 59 = .ok (.ireturn, 1) := by decide +kernel
set_option maxRecDepth 20000 in
theorem ggX6_sum_X6_isSpan : GoodIn wsX6_sum wsX6_isSpan := goodIn_r _ [7, 8, 9, 6, 10, 11, 12, 13, 14] (by decide +kernel) (by decide +kernel)
set_option maxRecDepth 20000 in
theorem gX6_sum_X6_isSpan : GoodIn wsX6_sum (va_wsS RX6 105 yX6_isSpan wsX6_isSpan) := goodIn_app (goodIn_of _ (by decide +kernel)) ggX6_sum_X6_isSpan
set_option maxRecDepth 20000 in
theorem ggX6_sum_X6_layNow : GoodIn wsX6_sum wsX6_layNow := goodIn_r _ [18, 2, 19, 20, 21, 22, 23, 24, 25, 26, 6, 27, 28, 29, 30, 31, 3, 32, 33, 34, 35, 36, 37, 38, 39, 40, 41, 42, 43, 44, 45, 46, 47, 48, 49, 50, 51, 52, 53, 54, 55, 56] (by decide +kernel) (by decide +kernel)
set_option maxRecDepth 20000 in
theorem gX6_sum_X6_layNow : GoodIn wsX6_sum (wsV RX6 86 RX6 yX6_layNow wsX6_layNow) := goodIn_app (goodIn_of _ (by decide +kernel)) ggX6_sum_X6_layNow
set_option maxRecDepth 20000 in
theorem ggX6_sum_X6_in : GoodIn wsX6_sum wsX6_in := goodIn_r _ [14] (by decide +kernel) (by decide +kernel)
set_option maxRecDepth 20000 in
theorem gX6_sum_X6_in : GoodIn wsX6_sum (va_wsS RX6 62 yX6_in wsX6_in) := goodIn_app (goodIn_of _ (by decide +kernel)) ggX6_sum_X6_in
theorem dX6_sum_0 : decode cX6_sum 0 = .ok (.iload_n 1, 1) := by decide +kernel
theorem dX6_sum_1 : decode cX6_sum 1 = .ok (.iload_n 2, 1) := by decide +kernel
theorem dX6_sum_2 : decode cX6_sum 2 = .ok (.invokestatic 105, 3) := by decide +kernel
theorem dX6_sum_5 : decode cX6_sum 5 = .ok (.ifCond .ne 7, 3) := by decide +kernel
theorem dX6_sum_8 : decode cX6_sum 8 = .ok (.ldc2_w 109, 3) := by decide +kernel
theorem dX6_sum_11 : decode cX6_sum 11 = .ok (.lreturn, 1) := by decide +kernel
theorem dX6_sum_12 : decode cX6_sum 12 = .ok (.aload_n 0, 1) := by decide +kernel
theorem dX6_sum_13 : decode cX6_sum 13 = .ok (.invokevirtual 86, 3) := by decide +kernel
theorem dX6_sum_16 : decode cX6_sum 16 = .ok (.lconst 0, 1) := by decide +kernel
theorem dX6_sum_17 : decode cX6_sum 17 = .ok (.lstore_n 3, 1) := by decide +kernel
theorem dX6_sum_18 : decode cX6_sum 18 = .ok (.iconst 0, 1) := by decide +kernel
theorem dX6_sum_19 : decode cX6_sum 19 = .ok (.istore 5, 2) := by decide +kernel
theorem dX6_sum_21 : decode cX6_sum 21 = .ok (.iload 5, 2) := by decide +kernel
theorem dX6_sum_23 : decode cX6_sum 23 = .ok (.aload_n 0, 1) := by decide +kernel
theorem dX6_sum_24 : decode cX6_sum 24 = .ok (.getfield 66, 3) := by decide +kernel
theorem dX6_sum_27 : decode cX6_sum 27 = .ok (.if_icmp .ge 39, 3) := by decide +kernel
theorem dX6_sum_30 : decode cX6_sum 30 = .ok (.lload_n 3, 1) := by decide +kernel
theorem dX6_sum_31 : decode cX6_sum 31 = .ok (.aload_n 0, 1) := by decide +kernel
theorem dX6_sum_32 : decode cX6_sum 32 = .ok (.getfield 27, 3) := by decide +kernel
theorem dX6_sum_35 : decode cX6_sum 35 = .ok (.iload 5, 2) := by decide +kernel
theorem dX6_sum_37 : decode cX6_sum 37 = .ok (.iaload, 1) := by decide +kernel
theorem dX6_sum_38 : decode cX6_sum 38 = .ok (.iload_n 1, 1) := by decide +kernel
theorem dX6_sum_39 : decode cX6_sum 39 = .ok (.iload_n 2, 1) := by decide +kernel
theorem dX6_sum_40 : decode cX6_sum 40 = .ok (.invokestatic 62, 3) := by decide +kernel
theorem dX6_sum_43 : decode cX6_sum 43 = .ok (.ifCond .eq 14, 3) := by decide +kernel
theorem dX6_sum_46 : decode cX6_sum 46 = .ok (.aload_n 0, 1) := by decide +kernel
theorem dX6_sum_47 : decode cX6_sum 47 = .ok (.getfield 27, 3) := by decide +kernel
theorem dX6_sum_50 : decode cX6_sum 50 = .ok (.iload 5, 2) := by decide +kernel
theorem dX6_sum_52 : decode cX6_sum 52 = .ok (.iaload, 1) := by decide +kernel
theorem dX6_sum_53 : decode cX6_sum 53 = .ok (.i2l, 1) := by decide +kernel
theorem dX6_sum_54 : decode cX6_sum 54 = .ok (.goto 4, 3) := by decide +kernel
theorem dX6_sum_57 : decode cX6_sum 57 = .ok (.lconst 0, 1) := by decide +kernel
theorem dX6_sum_58 : decode cX6_sum 58 = .ok (.ladd, 1) := by decide +kernel
theorem dX6_sum_59 : decode cX6_sum 59 = .ok (.lstore_n 3, 1) := by decide +kernel
theorem dX6_sum_60 : decode cX6_sum 60 = .ok (.iinc 5 1, 3) := by decide +kernel
theorem dX6_sum_63 : decode cX6_sum 63 = .ok (.goto (-42), 3) := by decide +kernel
theorem dX6_sum_66 : decode cX6_sum 66 = .ok (.lload_n 3, 1) := by decide +kernel
theorem dX6_sum_67 : decode cX6_sum 67 = .ok (.lreturn, 1) := by decide +kernel
theorem dX6_layLow_0 : decode cX6_layLow 0 = .ok (.aload_n 0, 1) := by decide +kernel
theorem dX6_layLow_1 : decode cX6_layLow 1 = .ok (.lconst 0, 1) := by decide +kernel
theorem dX6_layLow_2 : decode cX6_layLow 2 = .ok (.putfield 111, 3) := by decide +kernel
theorem dX6_layLow_5 : decode cX6_layLow 5 = .ok (.aload_n 0, 1) := by decide +kernel
theorem dX6_layLow_6 : decode cX6_layLow 6 = .ok (.lconst 1, 1) := by decide +kernel
theorem dX6_layLow_7 : decode cX6_layLow 7 = .ok (.putfield 115, 3) := by decide +kernel
theorem dX6_layLow_10 : decode cX6_layLow 10 = .ok (.iload_n 1, 1) := by decide +kernel
theorem dX6_layLow_11 : decode cX6_layLow 11 = .ok (.iconst 1, 1) := by decide +kernel
theorem dX6_layLow_12 : decode cX6_layLow 12 = .ok (.iadd, 1) := by decide +kernel
theorem dX6_layLow_13 : decode cX6_layLow 13 = .ok (.istore_n 3, 1) := by decide +kernel
theorem dX6_layLow_14 : decode cX6_layLow 14 = .ok (.iload_n 3, 1) := by decide +kernel
theorem dX6_layLow_15 : decode cX6_layLow 15 = .ok (.iload_n 2, 1) := by decide +kernel
theorem dX6_layLow_16 : decode cX6_layLow 16 = .ok (.if_icmp .gt 66, 3) := by decide +kernel
theorem dX6_layLow_19 : decode cX6_layLow 19 = .ok (.iload_n 3, 1) := by decide +kernel
theorem dX6_layLow_20 : decode cX6_layLow 20 = .ok (.aload_n 0, 1) := by decide +kernel
theorem dX6_layLow_21 : decode cX6_layLow 21 = .ok (.getfield 13, 3) := by decide +kernel
theorem dX6_layLow_24 : decode cX6_layLow 24 = .ok (.isub, 1) := by decide +kernel
theorem dX6_layLow_25 : decode cX6_layLow 25 = .ok (.iload_n 1, 1) := by decide +kernel
theorem dX6_layLow_26 : decode cX6_layLow 26 = .ok (.isub, 1) := by decide +kernel
theorem dX6_layLow_27 : decode cX6_layLow 27 = .ok (.i2l, 1) := by decide +kernel
theorem dX6_layLow_28 : decode cX6_layLow 28 = .ok (.lstore 4, 2) := by decide +kernel
theorem dX6_layLow_30 : decode cX6_layLow 30 = .ok (.aload_n 0, 1) := by decide +kernel
theorem dX6_layLow_31 : decode cX6_layLow 31 = .ok (.getfield 30, 3) := by decide +kernel
theorem dX6_layLow_34 : decode cX6_layLow 34 = .ok (.iload_n 3, 1) := by decide +kernel
theorem dX6_layLow_35 : decode cX6_layLow 35 = .ok (.iaload, 1) := by decide +kernel
theorem dX6_layLow_36 : decode cX6_layLow 36 = .ok (.aload_n 0, 1) := by decide +kernel
theorem dX6_layLow_37 : decode cX6_layLow 37 = .ok (.getfield 30, 3) := by decide +kernel
theorem dX6_layLow_40 : decode cX6_layLow 40 = .ok (.iload_n 1, 1) := by decide +kernel
theorem dX6_layLow_41 : decode cX6_layLow 41 = .ok (.iaload, 1) := by decide +kernel
theorem dX6_layLow_42 : decode cX6_layLow 42 = .ok (.isub, 1) := by decide +kernel
theorem dX6_layLow_43 : decode cX6_layLow 43 = .ok (.i2l, 1) := by decide +kernel
theorem dX6_layLow_44 : decode cX6_layLow 44 = .ok (.lstore 6, 2) := by decide +kernel
theorem dX6_layLow_46 : decode cX6_layLow 46 = .ok (.lload 4, 2) := by decide +kernel
theorem dX6_layLow_48 : decode cX6_layLow 48 = .ok (.aload_n 0, 1) := by decide +kernel
theorem dX6_layLow_49 : decode cX6_layLow 49 = .ok (.getfield 115, 3) := by decide +kernel
theorem dX6_layLow_52 : decode cX6_layLow 52 = .ok (.lmul, 1) := by decide +kernel
theorem dX6_layLow_53 : decode cX6_layLow 53 = .ok (.aload_n 0, 1) := by decide +kernel
theorem dX6_layLow_54 : decode cX6_layLow 54 = .ok (.getfield 111, 3) := by decide +kernel
theorem dX6_layLow_57 : decode cX6_layLow 57 = .ok (.lload 6, 2) := by decide +kernel
theorem dX6_layLow_59 : decode cX6_layLow 59 = .ok (.lmul, 1) := by decide +kernel
theorem dX6_layLow_60 : decode cX6_layLow 60 = .ok (.lcmp, 1) := by decide +kernel
theorem dX6_layLow_61 : decode cX6_layLow 61 = .ok (.ifCond .le 15, 3) := by decide +kernel
theorem dX6_layLow_64 : decode cX6_layLow 64 = .ok (.aload_n 0, 1) := by decide +kernel
theorem dX6_layLow_65 : decode cX6_layLow 65 = .ok (.lload 4, 2) := by decide +kernel
theorem dX6_layLow_67 : decode cX6_layLow 67 = .ok (.putfield 111, 3) := by decide +kernel
theorem dX6_layLow_70 : decode cX6_layLow 70 = .ok (.aload_n 0, 1) := by decide +kernel
theorem dX6_layLow_71 : decode cX6_layLow 71 = .ok (.lload 6, 2) := by decide +kernel
theorem dX6_layLow_73 : decode cX6_layLow 73 = .ok (.putfield 115, 3) := by decide +kernel
theorem dX6_layLow_76 : decode cX6_layLow 76 = .ok (.iinc 3 1, 3) := by decide +kernel
theorem dX6_layLow_79 : decode cX6_layLow 79 = .ok (.goto (-65), 3) := by decide +kernel
theorem dX6_layLow_82 : decode cX6_layLow 82 = .ok (.return_, 1) := by decide +kernel
set_option maxRecDepth 20000 in
theorem ggX6_keeps_X6_layLow : GoodIn wsX6_keeps wsX6_layLow := goodIn_r _ [9, 1, 4, 3, 2, 10, 11, 12, 13, 14, 15, 16, 17, 18, 19, 20, 21, 22, 23, 24, 25, 26, 27, 28, 29, 30, 31, 32, 33, 34] (by decide +kernel) (by decide +kernel)
set_option maxRecDepth 20000 in
theorem gX6_keeps_X6_layLow : GoodIn wsX6_keeps (wsV RX6 118 RX6 yX6_layLow wsX6_layLow) := goodIn_app (goodIn_of _ (by decide +kernel)) ggX6_keeps_X6_layLow
theorem dX6_keeps_0 : decode cX6_keeps 0 = .ok (.aload_n 0, 1) := by decide +kernel
theorem dX6_keeps_1 : decode cX6_keeps 1 = .ok (.iload_n 1, 1) := by decide +kernel
theorem dX6_keeps_2 : decode cX6_keeps 2 = .ok (.iload_n 2, 1) := by decide +kernel
theorem dX6_keeps_3 : decode cX6_keeps 3 = .ok (.invokevirtual 118, 3) := by decide +kernel
theorem dX6_keeps_6 : decode cX6_keeps 6 = .ok (.iconst 1, 1) := by decide +kernel
theorem dX6_keeps_7 : decode cX6_keeps 7 = .ok (.istore_n 3, 1) := by decide +kernel
theorem dX6_keeps_8 : decode cX6_keeps 8 = .ok (.iload_n 1, 1) := by decide +kernel
theorem dX6_keeps_9 : decode cX6_keeps 9 = .ok (.iconst 1, 1) := by decide +kernel
theorem dX6_keeps_10 : decode cX6_keeps 10 = .ok (.iadd, 1) := by decide +kernel
theorem dX6_keeps_11 : decode cX6_keeps 11 = .ok (.istore 4, 2) := by decide +kernel
theorem dX6_keeps_13 : decode cX6_keeps 13 = .ok (.iload 4, 2) := by decide +kernel
theorem dX6_keeps_15 : decode cX6_keeps 15 = .ok (.iload_n 2, 1) := by decide +kernel
theorem dX6_keeps_16 : decode cX6_keeps 16 = .ok (.if_icmp .gt 58, 3) := by decide +kernel
theorem dX6_keeps_19 : decode cX6_keeps 19 = .ok (.iload_n 3, 1) := by decide +kernel
theorem dX6_keeps_20 : decode cX6_keeps 20 = .ok (.ifCond .eq 46, 3) := by decide +kernel
theorem dX6_keeps_23 : decode cX6_keeps 23 = .ok (.aload_n 0, 1) := by decide +kernel
theorem dX6_keeps_24 : decode cX6_keeps 24 = .ok (.getfield 111, 3) := by decide +kernel
theorem dX6_keeps_27 : decode cX6_keeps 27 = .ok (.aload_n 0, 1) := by decide +kernel
theorem dX6_keeps_28 : decode cX6_keeps 28 = .ok (.getfield 30, 3) := by decide +kernel
theorem dX6_keeps_31 : decode cX6_keeps 31 = .ok (.iload 4, 2) := by decide +kernel
theorem dX6_keeps_33 : decode cX6_keeps 33 = .ok (.iaload, 1) := by decide +kernel
theorem dX6_keeps_34 : decode cX6_keeps 34 = .ok (.aload_n 0, 1) := by decide +kernel
theorem dX6_keeps_35 : decode cX6_keeps 35 = .ok (.getfield 30, 3) := by decide +kernel
theorem dX6_keeps_38 : decode cX6_keeps 38 = .ok (.iload_n 1, 1) := by decide +kernel
theorem dX6_keeps_39 : decode cX6_keeps 39 = .ok (.iaload, 1) := by decide +kernel
theorem dX6_keeps_40 : decode cX6_keeps 40 = .ok (.isub, 1) := by decide +kernel
theorem dX6_keeps_41 : decode cX6_keeps 41 = .ok (.i2l, 1) := by decide +kernel
theorem dX6_keeps_42 : decode cX6_keeps 42 = .ok (.lmul, 1) := by decide +kernel
theorem dX6_keeps_43 : decode cX6_keeps 43 = .ok (.iload 4, 2) := by decide +kernel
theorem dX6_keeps_45 : decode cX6_keeps 45 = .ok (.aload_n 0, 1) := by decide +kernel
theorem dX6_keeps_46 : decode cX6_keeps 46 = .ok (.getfield 13, 3) := by decide +kernel
theorem dX6_keeps_49 : decode cX6_keeps 49 = .ok (.iadd, 1) := by decide +kernel
theorem dX6_keeps_50 : decode cX6_keeps 50 = .ok (.iload_n 1, 1) := by decide +kernel
theorem dX6_keeps_51 : decode cX6_keeps 51 = .ok (.isub, 1) := by decide +kernel
theorem dX6_keeps_52 : decode cX6_keeps 52 = .ok (.i2l, 1) := by decide +kernel
theorem dX6_keeps_53 : decode cX6_keeps 53 = .ok (.aload_n 0, 1) := by decide +kernel
theorem dX6_keeps_54 : decode cX6_keeps 54 = .ok (.getfield 115, 3) := by decide +kernel
theorem dX6_keeps_57 : decode cX6_keeps 57 = .ok (.lmul, 1) := by decide +kernel
theorem dX6_keeps_58 : decode cX6_keeps 58 = .ok (.lcmp, 1) := by decide +kernel
theorem dX6_keeps_59 : decode cX6_keeps 59 = .ok (.ifCond .gt 7, 3) := by decide +kernel
theorem dX6_keeps_62 : decode cX6_keeps 62 = .ok (.iconst 1, 1) := by decide +kernel
theorem dX6_keeps_63 : decode cX6_keeps 63 = .ok (.goto 4, 3) := by decide +kernel
theorem dX6_keeps_66 : decode cX6_keeps 66 = .ok (.iconst 0, 1) := by decide +kernel
theorem dX6_keeps_67 : decode cX6_keeps 67 = .ok (.istore_n 3, 1) := by decide +kernel
theorem dX6_keeps_68 : decode cX6_keeps 68 = .ok (.iinc 4 1, 3) := by decide +kernel
theorem dX6_keeps_71 : decode cX6_keeps 71 = .ok (.goto (-58), 3) := by decide +kernel
theorem dX6_keeps_74 : decode cX6_keeps 74 = .ok (.iload_n 3, 1) := by decide +kernel
theorem dX6_keeps_75 : decode cX6_keeps 75 = .ok (.ireturn, 1) := by decide +kernel
set_option maxRecDepth 20000 in
theorem ggX6_layPieces_X6_keeps : GoodIn wsX6_layPieces wsX6_keeps := goodIn_r _ [8, 9, 10, 11, 12, 13, 14, 15, 7, 16, 17, 18, 19, 20, 21, 22, 23, 24, 25, 26, 27, 28, 29, 30, 31, 32, 33, 34, 35, 36, 37, 38, 39, 40, 41] (by decide +kernel) (by decide +kernel)
set_option maxRecDepth 20000 in
theorem gX6_layPieces_X6_keeps : GoodIn wsX6_layPieces (wsV RX6 125 RX6 yX6_keeps wsX6_keeps) := goodIn_app (goodIn_of _ (by decide +kernel)) ggX6_layPieces_X6_keeps
theorem dX6_layPieces_0 : decode cX6_layPieces 0 = .ok (.aload_n 0, 1) := by decide +kernel
theorem dX6_layPieces_1 : decode cX6_layPieces 1 = .ok (.getfield 36, 3) := by decide +kernel
theorem dX6_layPieces_4 : decode cX6_layPieces 4 = .ok (.aload_n 0, 1) := by decide +kernel
theorem dX6_layPieces_5 : decode cX6_layPieces 5 = .ok (.getfield 122, 3) := by decide +kernel
theorem dX6_layPieces_8 : decode cX6_layPieces 8 = .ok (.iconst 0, 1) := by decide +kernel
theorem dX6_layPieces_9 : decode cX6_layPieces 9 = .ok (.iastore, 1) := by decide +kernel
theorem dX6_layPieces_10 : decode cX6_layPieces 10 = .ok (.aload_n 0, 1) := by decide +kernel
theorem dX6_layPieces_11 : decode cX6_layPieces 11 = .ok (.getfield 122, 3) := by decide +kernel
theorem dX6_layPieces_14 : decode cX6_layPieces 14 = .ok (.iconst 1, 1) := by decide +kernel
theorem dX6_layPieces_15 : decode cX6_layPieces 15 = .ok (.isub, 1) := by decide +kernel
theorem dX6_layPieces_16 : decode cX6_layPieces 16 = .ok (.istore_n 1, 1) := by decide +kernel
theorem dX6_layPieces_17 : decode cX6_layPieces 17 = .ok (.iload_n 1, 1) := by decide +kernel
theorem dX6_layPieces_18 : decode cX6_layPieces 18 = .ok (.ifCond .lt 110, 3) := by decide +kernel
theorem dX6_layPieces_21 : decode cX6_layPieces 21 = .ok (.iload_n 1, 1) := by decide +kernel
theorem dX6_layPieces_22 : decode cX6_layPieces 22 = .ok (.istore_n 2, 1) := by decide +kernel
theorem dX6_layPieces_23 : decode cX6_layPieces 23 = .ok (.iload_n 2, 1) := by decide +kernel
theorem dX6_layPieces_24 : decode cX6_layPieces 24 = .ok (.iconst 1, 1) := by decide +kernel
theorem dX6_layPieces_25 : decode cX6_layPieces 25 = .ok (.iadd, 1) := by decide +kernel
theorem dX6_layPieces_26 : decode cX6_layPieces 26 = .ok (.aload_n 0, 1) := by decide +kernel
theorem dX6_layPieces_27 : decode cX6_layPieces 27 = .ok (.getfield 122, 3) := by decide +kernel
theorem dX6_layPieces_30 : decode cX6_layPieces 30 = .ok (.if_icmp .ge 20, 3) := by decide +kernel
theorem dX6_layPieces_33 : decode cX6_layPieces 33 = .ok (.aload_n 0, 1) := by decide +kernel
theorem dX6_layPieces_34 : decode cX6_layPieces 34 = .ok (.iload_n 1, 1) := by decide +kernel
theorem dX6_layPieces_35 : decode cX6_layPieces 35 = .ok (.iload_n 2, 1) := by decide +kernel
theorem dX6_layPieces_36 : decode cX6_layPieces 36 = .ok (.iconst 1, 1) := by decide +kernel
theorem dX6_layPieces_37 : decode cX6_layPieces 37 = .ok (.iadd, 1) := by decide +kernel
theorem dX6_layPieces_38 : decode cX6_layPieces 38 = .ok (.invokevirtual 125, 3) := by decide +kernel
theorem dX6_layPieces_41 : decode cX6_layPieces 41 = .ok (.ifCond .eq 9, 3) := by decide +kernel
theorem dX6_layPieces_44 : decode cX6_layPieces 44 = .ok (.iinc 2 1, 3) := by decide +kernel
theorem dX6_layPieces_47 : decode cX6_layPieces 47 = .ok (.goto (-24), 3) := by decide +kernel
theorem dX6_layPieces_50 : decode cX6_layPieces 50 = .ok (.aload_n 0, 1) := by decide +kernel
theorem dX6_layPieces_51 : decode cX6_layPieces 51 = .ok (.getfield 33, 3) := by decide +kernel
theorem dX6_layPieces_54 : decode cX6_layPieces 54 = .ok (.iload_n 1, 1) := by decide +kernel
theorem dX6_layPieces_55 : decode cX6_layPieces 55 = .ok (.iload_n 2, 1) := by decide +kernel
theorem dX6_layPieces_56 : decode cX6_layPieces 56 = .ok (.iastore, 1) := by decide +kernel
theorem dX6_layPieces_57 : decode cX6_layPieces 57 = .ok (.aload_n 0, 1) := by decide +kernel
theorem dX6_layPieces_58 : decode cX6_layPieces 58 = .ok (.getfield 36, 3) := by decide +kernel
theorem dX6_layPieces_61 : decode cX6_layPieces 61 = .ok (.iload_n 1, 1) := by decide +kernel
theorem dX6_layPieces_62 : decode cX6_layPieces 62 = .ok (.bipush 68, 2) := by decide +kernel
theorem dX6_layPieces_64 : decode cX6_layPieces 64 = .ok (.iastore, 1) := by decide +kernel
theorem dX6_layPieces_65 : decode cX6_layPieces 65 = .ok (.iload_n 1, 1) := by decide +kernel
theorem dX6_layPieces_66 : decode cX6_layPieces 66 = .ok (.istore_n 3, 1) := by decide +kernel
theorem dX6_layPieces_67 : decode cX6_layPieces 67 = .ok (.iload_n 3, 1) := by decide +kernel
theorem dX6_layPieces_68 : decode cX6_layPieces 68 = .ok (.iload_n 2, 1) := by decide +kernel
theorem dX6_layPieces_69 : decode cX6_layPieces 69 = .ok (.if_icmp .gt 53, 3) := by decide +kernel
theorem dX6_layPieces_72 : decode cX6_layPieces 72 = .ok (.aload_n 0, 1) := by decide +kernel
theorem dX6_layPieces_73 : decode cX6_layPieces 73 = .ok (.getfield 36, 3) := by decide +kernel
theorem dX6_layPieces_76 : decode cX6_layPieces 76 = .ok (.iload_n 1, 1) := by decide +kernel
theorem dX6_layPieces_77 : decode cX6_layPieces 77 = .ok (.aload_n 0, 1) := by decide +kernel
theorem dX6_layPieces_78 : decode cX6_layPieces 78 = .ok (.getfield 36, 3) := by decide +kernel
theorem dX6_layPieces_81 : decode cX6_layPieces 81 = .ok (.iload_n 3, 1) := by decide +kernel
theorem dX6_layPieces_82 : decode cX6_layPieces 82 = .ok (.iconst 1, 1) := by decide +kernel
theorem dX6_layPieces_83 : decode cX6_layPieces 83 = .ok (.iadd, 1) := by decide +kernel
theorem dX6_layPieces_84 : decode cX6_layPieces 84 = .ok (.iaload, 1) := by decide +kernel
theorem dX6_layPieces_85 : decode cX6_layPieces 85 = .ok (.iconst 1, 1) := by decide +kernel
theorem dX6_layPieces_86 : decode cX6_layPieces 86 = .ok (.iadd, 1) := by decide +kernel
theorem dX6_layPieces_87 : decode cX6_layPieces 87 = .ok (.aload_n 0, 1) := by decide +kernel
theorem dX6_layPieces_88 : decode cX6_layPieces 88 = .ok (.getfield 36, 3) := by decide +kernel
theorem dX6_layPieces_91 : decode cX6_layPieces 91 = .ok (.iload_n 1, 1) := by decide +kernel
theorem dX6_layPieces_92 : decode cX6_layPieces 92 = .ok (.iaload, 1) := by decide +kernel
theorem dX6_layPieces_93 : decode cX6_layPieces 93 = .ok (.if_icmp .ge 16, 3) := by decide +kernel
theorem dX6_layPieces_96 : decode cX6_layPieces 96 = .ok (.aload_n 0, 1) := by decide +kernel
theorem dX6_layPieces_97 : decode cX6_layPieces 97 = .ok (.getfield 36, 3) := by decide +kernel
theorem dX6_layPieces_100 : decode cX6_layPieces 100 = .ok (.iload_n 3, 1) := by decide +kernel
theorem dX6_layPieces_101 : decode cX6_layPieces 101 = .ok (.iconst 1, 1) := by decide +kernel
theorem dX6_layPieces_102 : decode cX6_layPieces 102 = .ok (.iadd, 1) := by decide +kernel
theorem dX6_layPieces_103 : decode cX6_layPieces 103 = .ok (.iaload, 1) := by decide +kernel
theorem dX6_layPieces_104 : decode cX6_layPieces 104 = .ok (.iconst 1, 1) := by decide +kernel
theorem dX6_layPieces_105 : decode cX6_layPieces 105 = .ok (.iadd, 1) := by decide +kernel
theorem dX6_layPieces_106 : decode cX6_layPieces 106 = .ok (.goto 9, 3) := by decide +kernel
theorem dX6_layPieces_109 : decode cX6_layPieces 109 = .ok (.aload_n 0, 1) := by decide +kernel
theorem dX6_layPieces_110 : decode cX6_layPieces 110 = .ok (.getfield 36, 3) := by decide +kernel
theorem dX6_layPieces_113 : decode cX6_layPieces 113 = .ok (.iload_n 1, 1) := by decide +kernel
theorem dX6_layPieces_114 : decode cX6_layPieces 114 = .ok (.iaload, 1) := by decide +kernel
theorem dX6_layPieces_115 : decode cX6_layPieces 115 = .ok (.iastore, 1) := by decide +kernel
theorem dX6_layPieces_116 : decode cX6_layPieces 116 = .ok (.iinc 3 1, 3) := by decide +kernel
theorem dX6_layPieces_119 : decode cX6_layPieces 119 = .ok (.goto (-52), 3) := by decide +kernel
theorem dX6_layPieces_122 : decode cX6_layPieces 122 = .ok (.iinc 1 (-1), 3) := by decide +kernel
theorem dX6_layPieces_125 : decode cX6_layPieces 125 = .ok (.goto (-108), 3) := by decide +kernel
theorem dX6_layPieces_128 : decode cX6_layPieces 128 = .ok (.return_, 1) := by decide +kernel
theorem dX6_endOf_0 : decode cX6_endOf 0 = .ok (.aload_n 0, 1) := by decide +kernel
theorem dX6_endOf_1 : decode cX6_endOf 1 = .ok (.getfield 33, 3) := by decide +kernel
end
section
theorem dX6_endOf_4 : decode cX6_endOf 4 = .ok (.iload_n 1, 1) := by decide +kernel
theorem dX6_endOf_5 : decode cX6_endOf 5 = .ok (.iaload, 1) := by decide +kernel
theorem dX6_endOf_6 : decode cX6_endOf 6 = .ok (.istore_n 2, 1) := by decide +kernel
theorem dX6_endOf_7 : decode cX6_endOf 7 = .ok (.aload_n 0, 1) := by decide +kernel
theorem dX6_endOf_8 : decode cX6_endOf 8 = .ok (.getfield 36, 3) := by decide +kernel
theorem dX6_endOf_11 : decode cX6_endOf 11 = .ok (.iload_n 2, 1) := by decide +kernel
theorem dX6_endOf_12 : decode cX6_endOf 12 = .ok (.iconst 1, 1) := by decide +kernel
theorem dX6_endOf_13 : decode cX6_endOf 13 = .ok (.iadd, 1) := by decide +kernel
theorem dX6_endOf_14 : decode cX6_endOf 14 = .ok (.iaload, 1) := by decide +kernel
theorem dX6_endOf_15 : decode cX6_endOf 15 = .ok (.iconst 1, 1) := by decide +kernel
theorem dX6_endOf_16 : decode cX6_endOf 16 = .ok (.iadd, 1) := by decide +kernel
theorem dX6_endOf_17 : decode cX6_endOf 17 = .ok (.aload_n 0, 1) := by decide +kernel
theorem dX6_endOf_18 : decode cX6_endOf 18 = .ok (.getfield 36, 3) := by decide +kernel
theorem dX6_endOf_21 : decode cX6_endOf 21 = .ok (.iload_n 1, 1) := by decide +kernel
theorem dX6_endOf_22 : decode cX6_endOf 22 = .ok (.iaload, 1) := by decide +kernel
theorem dX6_endOf_23 : decode cX6_endOf 23 = .ok (.if_icmp .eq 9, 3) := by decide +kernel
theorem dX6_endOf_26 : decode cX6_endOf 26 = .ok (.iinc 2 (-1), 3) := by decide +kernel
theorem dX6_endOf_29 : decode cX6_endOf 29 = .ok (.goto (-22), 3) := by decide +kernel
theorem dX6_endOf_32 : decode cX6_endOf 32 = .ok (.iload_n 2, 1) := by decide +kernel
theorem dX6_endOf_33 : decode cX6_endOf 33 = .ok (.ireturn, 1) := by decide +kernel
theorem dX6_divisor_0 : decode cX6_divisor 0 = .ok (.lload_n 0, 1) := by decide +kernel
theorem dX6_divisor_1 : decode cX6_divisor 1 = .ok (.lstore 4, 2) := by decide +kernel
theorem dX6_divisor_3 : decode cX6_divisor 3 = .ok (.lload_n 2, 1) := by decide +kernel
theorem dX6_divisor_4 : decode cX6_divisor 4 = .ok (.lstore 6, 2) := by decide +kernel
theorem dX6_divisor_6 : decode cX6_divisor 6 = .ok (.lload 6, 2) := by decide +kernel
theorem dX6_divisor_8 : decode cX6_divisor 8 = .ok (.lconst 0, 1) := by decide +kernel
theorem dX6_divisor_9 : decode cX6_divisor 9 = .ok (.lcmp, 1) := by decide +kernel
theorem dX6_divisor_10 : decode cX6_divisor 10 = .ok (.ifCond .eq 21, 3) := by decide +kernel
theorem dX6_divisor_13 : decode cX6_divisor 13 = .ok (.lload 4, 2) := by decide +kernel
theorem dX6_divisor_15 : decode cX6_divisor 15 = .ok (.lload 6, 2) := by decide +kernel
theorem dX6_divisor_17 : decode cX6_divisor 17 = .ok (.lrem, 1) := by decide +kernel
theorem dX6_divisor_18 : decode cX6_divisor 18 = .ok (.lstore 8, 2) := by decide +kernel
theorem dX6_divisor_20 : decode cX6_divisor 20 = .ok (.lload 6, 2) := by decide +kernel
theorem dX6_divisor_22 : decode cX6_divisor 22 = .ok (.lstore 4, 2) := by decide +kernel
theorem dX6_divisor_24 : decode cX6_divisor 24 = .ok (.lload 8, 2) := by decide +kernel
theorem dX6_divisor_26 : decode cX6_divisor 26 = .ok (.lstore 6, 2) := by decide +kernel
theorem dX6_divisor_28 : decode cX6_divisor 28 = .ok (.goto (-22), 3) := by decide +kernel
theorem dX6_divisor_31 : decode cX6_divisor 31 = .ok (.lload 4, 2) := by decide +kernel
theorem dX6_divisor_33 : decode cX6_divisor 33 = .ok (.lreturn, 1) := by decide +kernel
set_option maxRecDepth 20000 in
theorem ggX6_layLevel_X6_layPieces : GoodIn wsX6_layLevel wsX6_layPieces := goodIn_r _ [15, 16, 1, 17, 18, 19, 20, 14, 21, 2, 7, 22, 3, 23, 24, 25, 26, 34, 35, 36, 37, 38, 39, 40, 41, 42, 43, 44, 45, 46, 47, 48, 49, 50, 51, 52, 53, 54, 55, 56, 57, 58] (by decide +kernel) (by decide +kernel)
set_option maxRecDepth 20000 in
theorem gX6_layLevel_X6_layPieces : GoodIn wsX6_layLevel (wsV RX6 128 RX6 yX6_layPieces wsX6_layPieces) := goodIn_app (goodIn_of _ (by decide +kernel)) ggX6_layLevel_X6_layPieces
set_option maxRecDepth 20000 in
theorem ggX6_layLevel_X6_endOf : GoodIn wsX6_layLevel wsX6_endOf := goodIn_r _ [30, 17, 16, 34, 35, 36, 37, 38, 39, 40, 41, 42, 43, 44, 45, 46, 47, 48, 49, 50, 51, 52, 53, 54, 55, 56, 57, 58] (by decide +kernel) (by decide +kernel)
set_option maxRecDepth 20000 in
theorem gX6_layLevel_X6_endOf : GoodIn wsX6_layLevel (wsV RX6 131 RX6 yX6_endOf wsX6_endOf) := goodIn_app (goodIn_of _ (by decide +kernel)) ggX6_layLevel_X6_endOf
set_option maxRecDepth 20000 in
theorem ggX6_layLevel_X6_layLow : GoodIn wsX6_layLevel wsX6_layLow := goodIn_r _ [26, 2, 3, 22, 7, 34, 35, 36, 37, 38, 39, 40, 41, 42, 43, 44, 45, 46, 47, 48, 49, 50, 51, 52, 53, 54, 55, 56, 57, 58] (by decide +kernel) (by decide +kernel)
set_option maxRecDepth 20000 in
theorem gX6_layLevel_X6_layLow : GoodIn wsX6_layLevel (wsV RX6 118 RX6 yX6_layLow wsX6_layLow) := goodIn_app (goodIn_of _ (by decide +kernel)) ggX6_layLevel_X6_layLow
set_option maxRecDepth 20000 in
theorem ggX6_layLevel_X6_divisor : GoodIn wsX6_layLevel wsX6_divisor := goodIn_r _ [33] (by decide +kernel) (by decide +kernel)
set_option maxRecDepth 20000 in
theorem gX6_layLevel_X6_divisor : GoodIn wsX6_layLevel (va_wsS RX6 135 yX6_divisor wsX6_divisor) := goodIn_app (goodIn_of _ (by decide +kernel)) ggX6_layLevel_X6_divisor
theorem dX6_layLevel_0 : decode cX6_layLevel 0 = .ok (.aload_n 0, 1) := by decide +kernel
theorem dX6_layLevel_1 : decode cX6_layLevel 1 = .ok (.invokevirtual 128, 3) := by decide +kernel
theorem dX6_layLevel_4 : decode cX6_layLevel 4 = .ok (.iconst 0, 1) := by decide +kernel
theorem dX6_layLevel_5 : decode cX6_layLevel 5 = .ok (.istore_n 2, 1) := by decide +kernel
theorem dX6_layLevel_6 : decode cX6_layLevel 6 = .ok (.iconst 0, 1) := by decide +kernel
theorem dX6_layLevel_7 : decode cX6_layLevel 7 = .ok (.istore_n 3, 1) := by decide +kernel
theorem dX6_layLevel_8 : decode cX6_layLevel 8 = .ok (.iload_n 3, 1) := by decide +kernel
theorem dX6_layLevel_9 : decode cX6_layLevel 9 = .ok (.aload_n 0, 1) := by decide +kernel
theorem dX6_layLevel_10 : decode cX6_layLevel 10 = .ok (.getfield 122, 3) := by decide +kernel
theorem dX6_layLevel_13 : decode cX6_layLevel 13 = .ok (.if_icmp .ge 107, 3) := by decide +kernel
theorem dX6_layLevel_16 : decode cX6_layLevel 16 = .ok (.bipush 60, 2) := by decide +kernel
theorem dX6_layLevel_18 : decode cX6_layLevel 18 = .ok (.iload_n 1, 1) := by decide +kernel
theorem dX6_layLevel_19 : decode cX6_layLevel 19 = .ok (.imul, 1) := by decide +kernel
theorem dX6_layLevel_20 : decode cX6_layLevel 20 = .ok (.iload_n 2, 1) := by decide +kernel
theorem dX6_layLevel_21 : decode cX6_layLevel 21 = .ok (.iadd, 1) := by decide +kernel
theorem dX6_layLevel_22 : decode cX6_layLevel 22 = .ok (.istore 4, 2) := by decide +kernel
theorem dX6_layLevel_24 : decode cX6_layLevel 24 = .ok (.aload_n 0, 1) := by decide +kernel
theorem dX6_layLevel_25 : decode cX6_layLevel 25 = .ok (.iload_n 3, 1) := by decide +kernel
theorem dX6_layLevel_26 : decode cX6_layLevel 26 = .ok (.invokevirtual 131, 3) := by decide +kernel
theorem dX6_layLevel_29 : decode cX6_layLevel 29 = .ok (.istore 5, 2) := by decide +kernel
theorem dX6_layLevel_31 : decode cX6_layLevel 31 = .ok (.aload_n 0, 1) := by decide +kernel
theorem dX6_layLevel_32 : decode cX6_layLevel 32 = .ok (.iload_n 3, 1) := by decide +kernel
theorem dX6_layLevel_33 : decode cX6_layLevel 33 = .ok (.iload 5, 2) := by decide +kernel
theorem dX6_layLevel_35 : decode cX6_layLevel 35 = .ok (.invokevirtual 118, 3) := by decide +kernel
theorem dX6_layLevel_38 : decode cX6_layLevel 38 = .ok (.aload_n 0, 1) := by decide +kernel
theorem dX6_layLevel_39 : decode cX6_layLevel 39 = .ok (.getfield 111, 3) := by decide +kernel
theorem dX6_layLevel_42 : decode cX6_layLevel 42 = .ok (.aload_n 0, 1) := by decide +kernel
theorem dX6_layLevel_43 : decode cX6_layLevel 43 = .ok (.getfield 115, 3) := by decide +kernel
theorem dX6_layLevel_46 : decode cX6_layLevel 46 = .ok (.invokestatic 135, 3) := by decide +kernel
theorem dX6_layLevel_49 : decode cX6_layLevel 49 = .ok (.lstore 6, 2) := by decide +kernel
theorem dX6_layLevel_51 : decode cX6_layLevel 51 = .ok (.aload_n 0, 1) := by decide +kernel
theorem dX6_layLevel_52 : decode cX6_layLevel 52 = .ok (.getfield 42, 3) := by decide +kernel
theorem dX6_layLevel_55 : decode cX6_layLevel 55 = .ok (.iload 4, 2) := by decide +kernel
theorem dX6_layLevel_57 : decode cX6_layLevel 57 = .ok (.iload_n 3, 1) := by decide +kernel
theorem dX6_layLevel_58 : decode cX6_layLevel 58 = .ok (.iastore, 1) := by decide +kernel
theorem dX6_layLevel_59 : decode cX6_layLevel 59 = .ok (.aload_n 0, 1) := by decide +kernel
theorem dX6_layLevel_60 : decode cX6_layLevel 60 = .ok (.getfield 45, 3) := by decide +kernel
theorem dX6_layLevel_63 : decode cX6_layLevel 63 = .ok (.iload 4, 2) := by decide +kernel
theorem dX6_layLevel_65 : decode cX6_layLevel 65 = .ok (.iload 5, 2) := by decide +kernel
theorem dX6_layLevel_67 : decode cX6_layLevel 67 = .ok (.iastore, 1) := by decide +kernel
theorem dX6_layLevel_68 : decode cX6_layLevel 68 = .ok (.aload_n 0, 1) := by decide +kernel
theorem dX6_layLevel_69 : decode cX6_layLevel 69 = .ok (.getfield 48, 3) := by decide +kernel
theorem dX6_layLevel_72 : decode cX6_layLevel 72 = .ok (.iload 4, 2) := by decide +kernel
theorem dX6_layLevel_74 : decode cX6_layLevel 74 = .ok (.aload_n 0, 1) := by decide +kernel
theorem dX6_layLevel_75 : decode cX6_layLevel 75 = .ok (.getfield 30, 3) := by decide +kernel
theorem dX6_layLevel_78 : decode cX6_layLevel 78 = .ok (.iload_n 3, 1) := by decide +kernel
theorem dX6_layLevel_79 : decode cX6_layLevel 79 = .ok (.iaload, 1) := by decide +kernel
theorem dX6_layLevel_80 : decode cX6_layLevel 80 = .ok (.iastore, 1) := by decide +kernel
theorem dX6_layLevel_81 : decode cX6_layLevel 81 = .ok (.aload_n 0, 1) := by decide +kernel
theorem dX6_layLevel_82 : decode cX6_layLevel 82 = .ok (.getfield 51, 3) := by decide +kernel
theorem dX6_layLevel_85 : decode cX6_layLevel 85 = .ok (.iload 4, 2) := by decide +kernel
theorem dX6_layLevel_87 : decode cX6_layLevel 87 = .ok (.aload_n 0, 1) := by decide +kernel
theorem dX6_layLevel_88 : decode cX6_layLevel 88 = .ok (.getfield 111, 3) := by decide +kernel
theorem dX6_layLevel_91 : decode cX6_layLevel 91 = .ok (.lload 6, 2) := by decide +kernel
theorem dX6_layLevel_93 : decode cX6_layLevel 93 = .ok (.ldiv, 1) := by decide +kernel
theorem dX6_layLevel_94 : decode cX6_layLevel 94 = .ok (.lastore, 1) := by decide +kernel
theorem dX6_layLevel_95 : decode cX6_layLevel 95 = .ok (.aload_n 0, 1) := by decide +kernel
theorem dX6_layLevel_96 : decode cX6_layLevel 96 = .ok (.getfield 55, 3) := by decide +kernel
theorem dX6_layLevel_99 : decode cX6_layLevel 99 = .ok (.iload 4, 2) := by decide +kernel
theorem dX6_layLevel_101 : decode cX6_layLevel 101 = .ok (.aload_n 0, 1) := by decide +kernel
theorem dX6_layLevel_102 : decode cX6_layLevel 102 = .ok (.getfield 115, 3) := by decide +kernel
theorem dX6_layLevel_105 : decode cX6_layLevel 105 = .ok (.lload 6, 2) := by decide +kernel
theorem dX6_layLevel_107 : decode cX6_layLevel 107 = .ok (.ldiv, 1) := by decide +kernel
theorem dX6_layLevel_108 : decode cX6_layLevel 108 = .ok (.lastore, 1) := by decide +kernel
theorem dX6_layLevel_109 : decode cX6_layLevel 109 = .ok (.iinc 2 1, 3) := by decide +kernel
theorem dX6_layLevel_112 : decode cX6_layLevel 112 = .ok (.iload 5, 2) := by decide +kernel
theorem dX6_layLevel_114 : decode cX6_layLevel 114 = .ok (.iconst 1, 1) := by decide +kernel
theorem dX6_layLevel_115 : decode cX6_layLevel 115 = .ok (.iadd, 1) := by decide +kernel
theorem dX6_layLevel_116 : decode cX6_layLevel 116 = .ok (.istore_n 3, 1) := by decide +kernel
theorem dX6_layLevel_117 : decode cX6_layLevel 117 = .ok (.goto (-109), 3) := by decide +kernel
theorem dX6_layLevel_120 : decode cX6_layLevel 120 = .ok (.aload_n 0, 1) := by decide +kernel
theorem dX6_layLevel_121 : decode cX6_layLevel 121 = .ok (.getfield 39, 3) := by decide +kernel
theorem dX6_layLevel_124 : decode cX6_layLevel 124 = .ok (.iload_n 1, 1) := by decide +kernel
theorem dX6_layLevel_125 : decode cX6_layLevel 125 = .ok (.iload_n 2, 1) := by decide +kernel
theorem dX6_layLevel_126 : decode cX6_layLevel 126 = .ok (.iastore, 1) := by decide +kernel
theorem dX6_layLevel_127 : decode cX6_layLevel 127 = .ok (.return_, 1) := by decide +kernel
set_option maxRecDepth 20000 in
theorem ggX6_layLevels_X6_layLevel : GoodIn wsX6_layLevels wsX6_layLevel := goodIn_r _ [12, 3, 13, 14, 15, 16, 7, 4, 17, 18, 6, 19, 20, 21, 11, 22, 23, 24, 25, 26, 27, 28, 29, 30, 31, 32, 33, 34, 35, 36, 37, 38, 39, 40, 41, 42, 43, 44, 45, 46, 47, 48, 49, 50, 51, 52, 53, 54, 55, 56, 57, 58, 59, 60, 61, 62, 63, 64, 65] (by decide +kernel) (by decide +kernel)
set_option maxRecDepth 20000 in
theorem gX6_layLevels_X6_layLevel : GoodIn wsX6_layLevels (wsV RX6 142 RX6 yX6_layLevel wsX6_layLevel) := goodIn_app (goodIn_of _ (by decide +kernel)) ggX6_layLevels_X6_layLevel
theorem dX6_layLevels_0 : decode cX6_layLevels 0 = .ok (.aload_n 0, 1) := by decide +kernel
theorem dX6_layLevels_1 : decode cX6_layLevels 1 = .ok (.iconst 0, 1) := by decide +kernel
theorem dX6_layLevels_2 : decode cX6_layLevels 2 = .ok (.putfield 139, 3) := by decide +kernel
theorem dX6_layLevels_5 : decode cX6_layLevels 5 = .ok (.aload_n 0, 1) := by decide +kernel
theorem dX6_layLevels_6 : decode cX6_layLevels 6 = .ok (.aload_n 0, 1) := by decide +kernel
theorem dX6_layLevels_7 : decode cX6_layLevels 7 = .ok (.getfield 69, 3) := by decide +kernel
theorem dX6_layLevels_10 : decode cX6_layLevels 10 = .ok (.putfield 122, 3) := by decide +kernel
theorem dX6_layLevels_13 : decode cX6_layLevels 13 = .ok (.iconst 0, 1) := by decide +kernel
theorem dX6_layLevels_14 : decode cX6_layLevels 14 = .ok (.istore_n 1, 1) := by decide +kernel
theorem dX6_layLevels_15 : decode cX6_layLevels 15 = .ok (.iload_n 1, 1) := by decide +kernel
theorem dX6_layLevels_16 : decode cX6_layLevels 16 = .ok (.aload_n 0, 1) := by decide +kernel
theorem dX6_layLevels_17 : decode cX6_layLevels 17 = .ok (.getfield 69, 3) := by decide +kernel
theorem dX6_layLevels_20 : decode cX6_layLevels 20 = .ok (.if_icmp .ge 21, 3) := by decide +kernel
theorem dX6_layLevels_23 : decode cX6_layLevels 23 = .ok (.aload_n 0, 1) := by decide +kernel
theorem dX6_layLevels_24 : decode cX6_layLevels 24 = .ok (.getfield 30, 3) := by decide +kernel
theorem dX6_layLevels_27 : decode cX6_layLevels 27 = .ok (.iload_n 1, 1) := by decide +kernel
theorem dX6_layLevels_28 : decode cX6_layLevels 28 = .ok (.aload_n 0, 1) := by decide +kernel
theorem dX6_layLevels_29 : decode cX6_layLevels 29 = .ok (.getfield 7, 3) := by decide +kernel
theorem dX6_layLevels_32 : decode cX6_layLevels 32 = .ok (.iload_n 1, 1) := by decide +kernel
theorem dX6_layLevels_33 : decode cX6_layLevels 33 = .ok (.iaload, 1) := by decide +kernel
theorem dX6_layLevels_34 : decode cX6_layLevels 34 = .ok (.iastore, 1) := by decide +kernel
theorem dX6_layLevels_35 : decode cX6_layLevels 35 = .ok (.iinc 1 1, 3) := by decide +kernel
theorem dX6_layLevels_38 : decode cX6_layLevels 38 = .ok (.goto (-23), 3) := by decide +kernel
theorem dX6_layLevels_41 : decode cX6_layLevels 41 = .ok (.aload_n 0, 1) := by decide +kernel
theorem dX6_layLevels_42 : decode cX6_layLevels 42 = .ok (.getfield 69, 3) := by decide +kernel
theorem dX6_layLevels_45 : decode cX6_layLevels 45 = .ok (.ifCond .le 7, 3) := by decide +kernel
theorem dX6_layLevels_48 : decode cX6_layLevels 48 = .ok (.iconst 1, 1) := by decide +kernel
theorem dX6_layLevels_49 : decode cX6_layLevels 49 = .ok (.goto 4, 3) := by decide +kernel
theorem dX6_layLevels_52 : decode cX6_layLevels 52 = .ok (.iconst 0, 1) := by decide +kernel
theorem dX6_layLevels_53 : decode cX6_layLevels 53 = .ok (.istore_n 1, 1) := by decide +kernel
theorem dX6_layLevels_54 : decode cX6_layLevels 54 = .ok (.iload_n 1, 1) := by decide +kernel
theorem dX6_layLevels_55 : decode cX6_layLevels 55 = .ok (.ifCond .eq 87, 3) := by decide +kernel
theorem dX6_layLevels_58 : decode cX6_layLevels 58 = .ok (.aload_n 0, 1) := by decide +kernel
theorem dX6_layLevels_59 : decode cX6_layLevels 59 = .ok (.aload_n 0, 1) := by decide +kernel
theorem dX6_layLevels_60 : decode cX6_layLevels 60 = .ok (.getfield 139, 3) := by decide +kernel
theorem dX6_layLevels_63 : decode cX6_layLevels 63 = .ok (.invokevirtual 142, 3) := by decide +kernel
theorem dX6_layLevels_66 : decode cX6_layLevels 66 = .ok (.aload_n 0, 1) := by decide +kernel
theorem dX6_layLevels_67 : decode cX6_layLevels 67 = .ok (.aload_n 0, 1) := by decide +kernel
theorem dX6_layLevels_68 : decode cX6_layLevels 68 = .ok (.getfield 39, 3) := by decide +kernel
theorem dX6_layLevels_71 : decode cX6_layLevels 71 = .ok (.aload_n 0, 1) := by decide +kernel
theorem dX6_layLevels_72 : decode cX6_layLevels 72 = .ok (.getfield 139, 3) := by decide +kernel
theorem dX6_layLevels_75 : decode cX6_layLevels 75 = .ok (.iaload, 1) := by decide +kernel
theorem dX6_layLevels_76 : decode cX6_layLevels 76 = .ok (.putfield 122, 3) := by decide +kernel
theorem dX6_layLevels_79 : decode cX6_layLevels 79 = .ok (.iconst 0, 1) := by decide +kernel
theorem dX6_layLevels_80 : decode cX6_layLevels 80 = .ok (.istore_n 2, 1) := by decide +kernel
theorem dX6_layLevels_81 : decode cX6_layLevels 81 = .ok (.iload_n 2, 1) := by decide +kernel
theorem dX6_layLevels_82 : decode cX6_layLevels 82 = .ok (.aload_n 0, 1) := by decide +kernel
theorem dX6_layLevels_83 : decode cX6_layLevels 83 = .ok (.getfield 122, 3) := by decide +kernel
theorem dX6_layLevels_86 : decode cX6_layLevels 86 = .ok (.if_icmp .ge 29, 3) := by decide +kernel
theorem dX6_layLevels_89 : decode cX6_layLevels 89 = .ok (.aload_n 0, 1) := by decide +kernel
theorem dX6_layLevels_90 : decode cX6_layLevels 90 = .ok (.getfield 30, 3) := by decide +kernel
theorem dX6_layLevels_93 : decode cX6_layLevels 93 = .ok (.iload_n 2, 1) := by decide +kernel
theorem dX6_layLevels_94 : decode cX6_layLevels 94 = .ok (.aload_n 0, 1) := by decide +kernel
theorem dX6_layLevels_95 : decode cX6_layLevels 95 = .ok (.getfield 48, 3) := by decide +kernel
theorem dX6_layLevels_98 : decode cX6_layLevels 98 = .ok (.bipush 60, 2) := by decide +kernel
theorem dX6_layLevels_100 : decode cX6_layLevels 100 = .ok (.aload_n 0, 1) := by decide +kernel
theorem dX6_layLevels_101 : decode cX6_layLevels 101 = .ok (.getfield 139, 3) := by decide +kernel
theorem dX6_layLevels_104 : decode cX6_layLevels 104 = .ok (.imul, 1) := by decide +kernel
theorem dX6_layLevels_105 : decode cX6_layLevels 105 = .ok (.iload_n 2, 1) := by decide +kernel
theorem dX6_layLevels_106 : decode cX6_layLevels 106 = .ok (.iadd, 1) := by decide +kernel
theorem dX6_layLevels_107 : decode cX6_layLevels 107 = .ok (.iaload, 1) := by decide +kernel
theorem dX6_layLevels_108 : decode cX6_layLevels 108 = .ok (.iastore, 1) := by decide +kernel
theorem dX6_layLevels_109 : decode cX6_layLevels 109 = .ok (.iinc 2 1, 3) := by decide +kernel
theorem dX6_layLevels_112 : decode cX6_layLevels 112 = .ok (.goto (-31), 3) := by decide +kernel
theorem dX6_layLevels_115 : decode cX6_layLevels 115 = .ok (.aload_n 0, 1) := by decide +kernel
theorem dX6_layLevels_116 : decode cX6_layLevels 116 = .ok (.getfield 122, 3) := by decide +kernel
theorem dX6_layLevels_119 : decode cX6_layLevels 119 = .ok (.iconst 1, 1) := by decide +kernel
theorem dX6_layLevels_120 : decode cX6_layLevels 120 = .ok (.if_icmp .le 7, 3) := by decide +kernel
theorem dX6_layLevels_123 : decode cX6_layLevels 123 = .ok (.iconst 1, 1) := by decide +kernel
theorem dX6_layLevels_124 : decode cX6_layLevels 124 = .ok (.goto 4, 3) := by decide +kernel
theorem dX6_layLevels_127 : decode cX6_layLevels 127 = .ok (.iconst 0, 1) := by decide +kernel
theorem dX6_layLevels_128 : decode cX6_layLevels 128 = .ok (.istore_n 1, 1) := by decide +kernel
theorem dX6_layLevels_129 : decode cX6_layLevels 129 = .ok (.aload_n 0, 1) := by decide +kernel
theorem dX6_layLevels_130 : decode cX6_layLevels 130 = .ok (.dup, 1) := by decide +kernel
theorem dX6_layLevels_131 : decode cX6_layLevels 131 = .ok (.getfield 139, 3) := by decide +kernel
theorem dX6_layLevels_134 : decode cX6_layLevels 134 = .ok (.iconst 1, 1) := by decide +kernel
theorem dX6_layLevels_135 : decode cX6_layLevels 135 = .ok (.iadd, 1) := by decide +kernel
theorem dX6_layLevels_136 : decode cX6_layLevels 136 = .ok (.putfield 139, 3) := by decide +kernel
theorem dX6_layLevels_139 : decode cX6_layLevels 139 = .ok (.goto (-85), 3) := by decide +kernel
theorem dX6_layLevels_142 : decode cX6_layLevels 142 = .ok (.return_, 1) := by decide +kernel
theorem dX6_piecesAt_0 : decode cX6_piecesAt 0 = .ok (.iload_n 1, 1) := by decide +kernel
theorem dX6_piecesAt_1 : decode cX6_piecesAt 1 = .ok (.aload_n 0, 1) := by decide +kernel
theorem dX6_piecesAt_2 : decode cX6_piecesAt 2 = .ok (.getfield 139, 3) := by decide +kernel
theorem dX6_piecesAt_5 : decode cX6_piecesAt 5 = .ok (.if_icmp .ge 12, 3) := by decide +kernel
theorem dX6_piecesAt_8 : decode cX6_piecesAt 8 = .ok (.aload_n 0, 1) := by decide +kernel
theorem dX6_piecesAt_9 : decode cX6_piecesAt 9 = .ok (.getfield 39, 3) := by decide +kernel
theorem dX6_piecesAt_12 : decode cX6_piecesAt 12 = .ok (.iload_n 1, 1) := by decide +kernel
theorem dX6_piecesAt_13 : decode cX6_piecesAt 13 = .ok (.iaload, 1) := by decide +kernel
theorem dX6_piecesAt_14 : decode cX6_piecesAt 14 = .ok (.goto 4, 3) := by decide +kernel
theorem dX6_piecesAt_17 : decode cX6_piecesAt 17 = .ok (.iconst 0, 1) := by decide +kernel
theorem dX6_piecesAt_18 : decode cX6_piecesAt 18 = .ok (.ireturn, 1) := by decide +kernel
set_option maxRecDepth 20000 in
theorem ggX6_pieces_X6_in : GoodIn wsX6_pieces wsX6_in := goodIn_r _ [4] (by decide +kernel) (by decide +kernel)
set_option maxRecDepth 20000 in
theorem gX6_pieces_X6_in : GoodIn wsX6_pieces (va_wsS RX6 62 yX6_in wsX6_in) := goodIn_app (goodIn_of _ (by decide +kernel)) ggX6_pieces_X6_in
set_option maxRecDepth 20000 in
theorem ggX6_pieces_X6_piecesAt : GoodIn wsX6_pieces wsX6_piecesAt := goodIn_r _ [8, 9, 10, 11, 12, 13, 14, 15, 16, 17, 18, 19, 20, 21, 22, 23, 24, 25, 26, 27, 28, 29, 30, 31, 32, 33, 34, 35] (by decide +kernel) (by decide +kernel)
set_option maxRecDepth 20000 in
theorem gX6_pieces_X6_piecesAt : GoodIn wsX6_pieces (wsV RX6 145 RX6 yX6_piecesAt wsX6_piecesAt) := goodIn_app (goodIn_of _ (by decide +kernel)) ggX6_pieces_X6_piecesAt
theorem dX6_pieces_0 : decode cX6_pieces 0 = .ok (.iload_n 1, 1) := by decide +kernel
theorem dX6_pieces_1 : decode cX6_pieces 1 = .ok (.iconst 0, 1) := by decide +kernel
theorem dX6_pieces_2 : decode cX6_pieces 2 = .ok (.bipush 9, 2) := by decide +kernel
theorem dX6_pieces_4 : decode cX6_pieces 4 = .ok (.invokestatic 62, 3) := by decide +kernel
theorem dX6_pieces_7 : decode cX6_pieces 7 = .ok (.ifCond .eq 11, 3) := by decide +kernel
theorem dX6_pieces_10 : decode cX6_pieces 10 = .ok (.aload_n 0, 1) := by decide +kernel
theorem dX6_pieces_11 : decode cX6_pieces 11 = .ok (.iload_n 1, 1) := by decide +kernel
theorem dX6_pieces_12 : decode cX6_pieces 12 = .ok (.invokevirtual 145, 3) := by decide +kernel
theorem dX6_pieces_15 : decode cX6_pieces 15 = .ok (.goto 5, 3) := by decide +kernel
theorem dX6_pieces_18 : decode cX6_pieces 18 = .ok (.bipush (-2), 2) := by decide +kernel
theorem dX6_pieces_20 : decode cX6_pieces 20 = .ok (.ireturn, 1) := by decide +kernel
set_option maxRecDepth 20000 in
theorem ggX6_piece_X6_in : GoodIn wsX6_piece wsX6_in := goodIn_r _ [9] (by decide +kernel) (by decide +kernel)
set_option maxRecDepth 20000 in
theorem gX6_piece_X6_in : GoodIn wsX6_piece (va_wsS RX6 62 yX6_in wsX6_in) := goodIn_app (goodIn_of _ (by decide +kernel)) ggX6_piece_X6_in
set_option maxRecDepth 20000 in
theorem ggX6_piece_X6_piecesAt : GoodIn wsX6_piece wsX6_piecesAt := goodIn_r _ [13, 14, 15, 16, 17, 18, 19, 20, 21, 22, 23, 24, 25, 26, 27, 28, 29, 30, 31, 32, 33, 34, 35, 36, 37, 38, 39, 40] (by decide +kernel) (by decide +kernel)
set_option maxRecDepth 20000 in
theorem gX6_piece_X6_piecesAt : GoodIn wsX6_piece (wsV RX6 145 RX6 yX6_piecesAt wsX6_piecesAt) := goodIn_app (goodIn_of _ (by decide +kernel)) ggX6_piece_X6_piecesAt
theorem dX6_piece_0 : decode cX6_piece 0 = .ok (.iload_n 1, 1) := by decide +kernel
theorem dX6_piece_1 : decode cX6_piece 1 = .ok (.iconst 0, 1) := by decide +kernel
theorem dX6_piece_2 : decode cX6_piece 2 = .ok (.bipush 9, 2) := by decide +kernel
theorem dX6_piece_4 : decode cX6_piece 4 = .ok (.invokestatic 62, 3) := by decide +kernel
theorem dX6_piece_7 : decode cX6_piece 7 = .ok (.ifCond .eq 18, 3) := by decide +kernel
theorem dX6_piece_10 : decode cX6_piece 10 = .ok (.iload_n 2, 1) := by decide +kernel
theorem dX6_piece_11 : decode cX6_piece 11 = .ok (.iconst 0, 1) := by decide +kernel
theorem dX6_piece_12 : decode cX6_piece 12 = .ok (.aload_n 0, 1) := by decide +kernel
theorem dX6_piece_13 : decode cX6_piece 13 = .ok (.iload_n 1, 1) := by decide +kernel
theorem dX6_piece_14 : decode cX6_piece 14 = .ok (.invokevirtual 145, 3) := by decide +kernel
theorem dX6_piece_17 : decode cX6_piece 17 = .ok (.iconst 1, 1) := by decide +kernel
theorem dX6_piece_18 : decode cX6_piece 18 = .ok (.isub, 1) := by decide +kernel
theorem dX6_piece_19 : decode cX6_piece 19 = .ok (.invokestatic 62, 3) := by decide +kernel
theorem dX6_piece_22 : decode cX6_piece 22 = .ok (.ifCond .ne 6, 3) := by decide +kernel
theorem dX6_piece_25 : decode cX6_piece 25 = .ok (.bipush (-2), 2) := by decide +kernel
theorem dX6_piece_27 : decode cX6_piece 27 = .ok (.ireturn, 1) := by decide +kernel
theorem dX6_piece_28 : decode cX6_piece 28 = .ok (.bipush 60, 2) := by decide +kernel
theorem dX6_piece_30 : decode cX6_piece 30 = .ok (.iload_n 1, 1) := by decide +kernel
theorem dX6_piece_31 : decode cX6_piece 31 = .ok (.imul, 1) := by decide +kernel
theorem dX6_piece_32 : decode cX6_piece 32 = .ok (.iload_n 2, 1) := by decide +kernel
theorem dX6_piece_33 : decode cX6_piece 33 = .ok (.iadd, 1) := by decide +kernel
theorem dX6_piece_34 : decode cX6_piece 34 = .ok (.istore 4, 2) := by decide +kernel
theorem dX6_piece_36 : decode cX6_piece 36 = .ok (.iload_n 3, 1) := by decide +kernel
theorem dX6_piece_37 : decode cX6_piece 37 = .ok (.tableswitch 77 0 4 #[35, 43, 51, 59, 68], 35) := by decide +kernel
theorem dX6_piece_72 : decode cX6_piece 72 = .ok (.aload_n 0, 1) := by decide +kernel
theorem dX6_piece_73 : decode cX6_piece 73 = .ok (.getfield 42, 3) := by decide +kernel
theorem dX6_piece_76 : decode cX6_piece 76 = .ok (.iload 4, 2) := by decide +kernel
theorem dX6_piece_78 : decode cX6_piece 78 = .ok (.iaload, 1) := by decide +kernel
theorem dX6_piece_79 : decode cX6_piece 79 = .ok (.ireturn, 1) := by decide +kernel
theorem dX6_piece_80 : decode cX6_piece 80 = .ok (.aload_n 0, 1) := by decide +kernel
theorem dX6_piece_81 : decode cX6_piece 81 = .ok (.getfield 45, 3) := by decide +kernel
theorem dX6_piece_84 : decode cX6_piece 84 = .ok (.iload 4, 2) := by decide +kernel
theorem dX6_piece_86 : decode cX6_piece 86 = .ok (.iaload, 1) := by decide +kernel
theorem dX6_piece_87 : decode cX6_piece 87 = .ok (.ireturn, 1) := by decide +kernel
theorem dX6_piece_88 : decode cX6_piece 88 = .ok (.aload_n 0, 1) := by decide +kernel
theorem dX6_piece_89 : decode cX6_piece 89 = .ok (.getfield 48, 3) := by decide +kernel
theorem dX6_piece_92 : decode cX6_piece 92 = .ok (.iload 4, 2) := by decide +kernel
theorem dX6_piece_94 : decode cX6_piece 94 = .ok (.iaload, 1) := by decide +kernel
theorem dX6_piece_95 : decode cX6_piece 95 = .ok (.ireturn, 1) := by decide +kernel
theorem dX6_piece_96 : decode cX6_piece 96 = .ok (.aload_n 0, 1) := by decide +kernel
theorem dX6_piece_97 : decode cX6_piece 97 = .ok (.getfield 51, 3) := by decide +kernel
theorem dX6_piece_100 : decode cX6_piece 100 = .ok (.iload 4, 2) := by decide +kernel
theorem dX6_piece_102 : decode cX6_piece 102 = .ok (.laload, 1) := by decide +kernel
theorem dX6_piece_103 : decode cX6_piece 103 = .ok (.l2i, 1) := by decide +kernel
theorem dX6_piece_104 : decode cX6_piece 104 = .ok (.ireturn, 1) := by decide +kernel
theorem dX6_piece_105 : decode cX6_piece 105 = .ok (.aload_n 0, 1) := by decide +kernel
theorem dX6_piece_106 : decode cX6_piece 106 = .ok (.getfield 55, 3) := by decide +kernel
theorem dX6_piece_109 : decode cX6_piece 109 = .ok (.iload 4, 2) := by decide +kernel
theorem dX6_piece_111 : decode cX6_piece 111 = .ok (.laload, 1) := by decide +kernel
theorem dX6_piece_112 : decode cX6_piece 112 = .ok (.l2i, 1) := by decide +kernel
theorem dX6_piece_113 : decode cX6_piece 113 = .ok (.ireturn, 1) := by decide +kernel
theorem dX6_piece_114 : decode cX6_piece 114 = .ok (.bipush (-2), 2) := by decide +kernel
theorem dX6_piece_116 : decode cX6_piece 116 = .ok (.ireturn, 1) := by decide +kernel
theorem dX6_levels_0 : decode cX6_levels 0 = .ok (.aload_n 0, 1) := by decide +kernel
theorem dX6_levels_1 : decode cX6_levels 1 = .ok (.getfield 139, 3) := by decide +kernel
theorem dX6_levels_4 : decode cX6_levels 4 = .ok (.ireturn, 1) := by decide +kernel
set_option maxRecDepth 20000 in
theorem ggX6_pieceFor_X6_piecesAt : GoodIn wsX6_pieceFor wsX6_piecesAt := goodIn_r _ [6, 7, 8, 9, 10, 11, 12, 13, 14, 15, 16, 17, 18, 19, 20, 21, 22, 23, 24, 25, 26, 27, 28, 29, 30, 31, 32, 33] (by decide +kernel) (by decide +kernel)
set_option maxRecDepth 20000 in
theorem gX6_pieceFor_X6_piecesAt : GoodIn wsX6_pieceFor (wsV RX6 145 RX6 yX6_piecesAt wsX6_piecesAt) := goodIn_app (goodIn_of _ (by decide +kernel)) ggX6_pieceFor_X6_piecesAt
theorem dX6_pieceFor_0 : decode cX6_pieceFor 0 = .ok (.iconst 0, 1) := by decide +kernel
theorem dX6_pieceFor_1 : decode cX6_pieceFor 1 = .ok (.istore_n 2, 1) := by decide +kernel
theorem dX6_pieceFor_2 : decode cX6_pieceFor 2 = .ok (.iconst 1, 1) := by decide +kernel
theorem dX6_pieceFor_3 : decode cX6_pieceFor 3 = .ok (.istore_n 3, 1) := by decide +kernel
theorem dX6_pieceFor_4 : decode cX6_pieceFor 4 = .ok (.iload_n 3, 1) := by decide +kernel
theorem dX6_pieceFor_5 : decode cX6_pieceFor 5 = .ok (.aload_n 0, 1) := by decide +kernel
theorem dX6_pieceFor_6 : decode cX6_pieceFor 6 = .ok (.iconst 0, 1) := by decide +kernel
theorem dX6_pieceFor_7 : decode cX6_pieceFor 7 = .ok (.invokevirtual 145, 3) := by decide +kernel
theorem dX6_pieceFor_10 : decode cX6_pieceFor 10 = .ok (.if_icmp .ge 25, 3) := by decide +kernel
theorem dX6_pieceFor_13 : decode cX6_pieceFor 13 = .ok (.aload_n 0, 1) := by decide +kernel
theorem dX6_pieceFor_14 : decode cX6_pieceFor 14 = .ok (.getfield 48, 3) := by decide +kernel
theorem dX6_pieceFor_17 : decode cX6_pieceFor 17 = .ok (.iload_n 3, 1) := by decide +kernel
theorem dX6_pieceFor_18 : decode cX6_pieceFor 18 = .ok (.iaload, 1) := by decide +kernel
theorem dX6_pieceFor_19 : decode cX6_pieceFor 19 = .ok (.iload_n 1, 1) := by decide +kernel
theorem dX6_pieceFor_20 : decode cX6_pieceFor 20 = .ok (.if_icmp .gt 7, 3) := by decide +kernel
theorem dX6_pieceFor_23 : decode cX6_pieceFor 23 = .ok (.iload_n 3, 1) := by decide +kernel
theorem dX6_pieceFor_24 : decode cX6_pieceFor 24 = .ok (.goto 4, 3) := by decide +kernel
theorem dX6_pieceFor_27 : decode cX6_pieceFor 27 = .ok (.iload_n 2, 1) := by decide +kernel
theorem dX6_pieceFor_28 : decode cX6_pieceFor 28 = .ok (.istore_n 2, 1) := by decide +kernel
theorem dX6_pieceFor_29 : decode cX6_pieceFor 29 = .ok (.iinc 3 1, 3) := by decide +kernel
theorem dX6_pieceFor_32 : decode cX6_pieceFor 32 = .ok (.goto (-28), 3) := by decide +kernel
theorem dX6_pieceFor_35 : decode cX6_pieceFor 35 = .ok (.iload_n 2, 1) := by decide +kernel
theorem dX6_pieceFor_36 : decode cX6_pieceFor 36 = .ok (.ireturn, 1) := by decide +kernel
theorem dX6_guessBy_0 : decode cX6_guessBy 0 = .ok (.aload_n 0, 1) := by decide +kernel
theorem dX6_guessBy_1 : decode cX6_guessBy 1 = .ok (.getfield 51, 3) := by decide +kernel
theorem dX6_guessBy_4 : decode cX6_guessBy 4 = .ok (.iload_n 1, 1) := by decide +kernel
theorem dX6_guessBy_5 : decode cX6_guessBy 5 = .ok (.laload, 1) := by decide +kernel
theorem dX6_guessBy_6 : decode cX6_guessBy 6 = .ok (.iload_n 2, 1) := by decide +kernel
theorem dX6_guessBy_7 : decode cX6_guessBy 7 = .ok (.aload_n 0, 1) := by decide +kernel
theorem dX6_guessBy_8 : decode cX6_guessBy 8 = .ok (.getfield 48, 3) := by decide +kernel
theorem dX6_guessBy_11 : decode cX6_guessBy 11 = .ok (.iload_n 1, 1) := by decide +kernel
theorem dX6_guessBy_12 : decode cX6_guessBy 12 = .ok (.iaload, 1) := by decide +kernel
theorem dX6_guessBy_13 : decode cX6_guessBy 13 = .ok (.isub, 1) := by decide +kernel
theorem dX6_guessBy_14 : decode cX6_guessBy 14 = .ok (.i2l, 1) := by decide +kernel
theorem dX6_guessBy_15 : decode cX6_guessBy 15 = .ok (.lmul, 1) := by decide +kernel
theorem dX6_guessBy_16 : decode cX6_guessBy 16 = .ok (.lstore_n 3, 1) := by decide +kernel
theorem dX6_guessBy_17 : decode cX6_guessBy 17 = .ok (.lload_n 3, 1) := by decide +kernel
theorem dX6_guessBy_18 : decode cX6_guessBy 18 = .ok (.lconst 0, 1) := by decide +kernel
theorem dX6_guessBy_19 : decode cX6_guessBy 19 = .ok (.lcmp, 1) := by decide +kernel
theorem dX6_guessBy_20 : decode cX6_guessBy 20 = .ok (.ifCond .lt 14, 3) := by decide +kernel
theorem dX6_guessBy_23 : decode cX6_guessBy 23 = .ok (.lload_n 3, 1) := by decide +kernel
theorem dX6_guessBy_24 : decode cX6_guessBy 24 = .ok (.aload_n 0, 1) := by decide +kernel
theorem dX6_guessBy_25 : decode cX6_guessBy 25 = .ok (.getfield 55, 3) := by decide +kernel
theorem dX6_guessBy_28 : decode cX6_guessBy 28 = .ok (.iload_n 1, 1) := by decide +kernel
theorem dX6_guessBy_29 : decode cX6_guessBy 29 = .ok (.laload, 1) := by decide +kernel
theorem dX6_guessBy_30 : decode cX6_guessBy 30 = .ok (.ldiv, 1) := by decide +kernel
theorem dX6_guessBy_31 : decode cX6_guessBy 31 = .ok (.goto 21, 3) := by decide +kernel
theorem dX6_guessBy_34 : decode cX6_guessBy 34 = .ok (.aload_n 0, 1) := by decide +kernel
theorem dX6_guessBy_35 : decode cX6_guessBy 35 = .ok (.getfield 55, 3) := by decide +kernel
theorem dX6_guessBy_38 : decode cX6_guessBy 38 = .ok (.iload_n 1, 1) := by decide +kernel
theorem dX6_guessBy_39 : decode cX6_guessBy 39 = .ok (.laload, 1) := by decide +kernel
theorem dX6_guessBy_40 : decode cX6_guessBy 40 = .ok (.lconst 1, 1) := by decide +kernel
theorem dX6_guessBy_41 : decode cX6_guessBy 41 = .ok (.lsub, 1) := by decide +kernel
theorem dX6_guessBy_42 : decode cX6_guessBy 42 = .ok (.lload_n 3, 1) := by decide +kernel
theorem dX6_guessBy_43 : decode cX6_guessBy 43 = .ok (.lsub, 1) := by decide +kernel
theorem dX6_guessBy_44 : decode cX6_guessBy 44 = .ok (.aload_n 0, 1) := by decide +kernel
theorem dX6_guessBy_45 : decode cX6_guessBy 45 = .ok (.getfield 55, 3) := by decide +kernel
theorem dX6_guessBy_48 : decode cX6_guessBy 48 = .ok (.iload_n 1, 1) := by decide +kernel
theorem dX6_guessBy_49 : decode cX6_guessBy 49 = .ok (.laload, 1) := by decide +kernel
theorem dX6_guessBy_50 : decode cX6_guessBy 50 = .ok (.ldiv, 1) := by decide +kernel
theorem dX6_guessBy_51 : decode cX6_guessBy 51 = .ok (.lneg, 1) := by decide +kernel
theorem dX6_guessBy_52 : decode cX6_guessBy 52 = .ok (.lstore 5, 2) := by decide +kernel
theorem dX6_guessBy_54 : decode cX6_guessBy 54 = .ok (.aload_n 0, 1) := by decide +kernel
theorem dX6_guessBy_55 : decode cX6_guessBy 55 = .ok (.getfield 42, 3) := by decide +kernel
theorem dX6_guessBy_58 : decode cX6_guessBy 58 = .ok (.iload_n 1, 1) := by decide +kernel
theorem dX6_guessBy_59 : decode cX6_guessBy 59 = .ok (.iaload, 1) := by decide +kernel
theorem dX6_guessBy_60 : decode cX6_guessBy 60 = .ok (.i2l, 1) := by decide +kernel
theorem dX6_guessBy_61 : decode cX6_guessBy 61 = .ok (.lload 5, 2) := by decide +kernel
theorem dX6_guessBy_63 : decode cX6_guessBy 63 = .ok (.ladd, 1) := by decide +kernel
theorem dX6_guessBy_64 : decode cX6_guessBy 64 = .ok (.lstore 7, 2) := by decide +kernel
theorem dX6_guessBy_66 : decode cX6_guessBy 66 = .ok (.lload 7, 2) := by decide +kernel
theorem dX6_guessBy_68 : decode cX6_guessBy 68 = .ok (.aload_n 0, 1) := by decide +kernel
theorem dX6_guessBy_69 : decode cX6_guessBy 69 = .ok (.getfield 42, 3) := by decide +kernel
theorem dX6_guessBy_72 : decode cX6_guessBy 72 = .ok (.iload_n 1, 1) := by decide +kernel
theorem dX6_guessBy_73 : decode cX6_guessBy 73 = .ok (.iaload, 1) := by decide +kernel
theorem dX6_guessBy_74 : decode cX6_guessBy 74 = .ok (.i2l, 1) := by decide +kernel
theorem dX6_guessBy_75 : decode cX6_guessBy 75 = .ok (.lcmp, 1) := by decide +kernel
theorem dX6_guessBy_76 : decode cX6_guessBy 76 = .ok (.ifCond .ge 12, 3) := by decide +kernel
theorem dX6_guessBy_79 : decode cX6_guessBy 79 = .ok (.aload_n 0, 1) := by decide +kernel
theorem dX6_guessBy_80 : decode cX6_guessBy 80 = .ok (.getfield 42, 3) := by decide +kernel
theorem dX6_guessBy_83 : decode cX6_guessBy 83 = .ok (.iload_n 1, 1) := by decide +kernel
theorem dX6_guessBy_84 : decode cX6_guessBy 84 = .ok (.iaload, 1) := by decide +kernel
theorem dX6_guessBy_85 : decode cX6_guessBy 85 = .ok (.goto 28, 3) := by decide +kernel
theorem dX6_guessBy_88 : decode cX6_guessBy 88 = .ok (.lload 7, 2) := by decide +kernel
theorem dX6_guessBy_90 : decode cX6_guessBy 90 = .ok (.aload_n 0, 1) := by decide +kernel
theorem dX6_guessBy_91 : decode cX6_guessBy 91 = .ok (.getfield 45, 3) := by decide +kernel
theorem dX6_guessBy_94 : decode cX6_guessBy 94 = .ok (.iload_n 1, 1) := by decide +kernel
theorem dX6_guessBy_95 : decode cX6_guessBy 95 = .ok (.iaload, 1) := by decide +kernel
theorem dX6_guessBy_96 : decode cX6_guessBy 96 = .ok (.i2l, 1) := by decide +kernel
theorem dX6_guessBy_97 : decode cX6_guessBy 97 = .ok (.lcmp, 1) := by decide +kernel
theorem dX6_guessBy_98 : decode cX6_guessBy 98 = .ok (.ifCond .le 12, 3) := by decide +kernel
theorem dX6_guessBy_101 : decode cX6_guessBy 101 = .ok (.aload_n 0, 1) := by decide +kernel
theorem dX6_guessBy_102 : decode cX6_guessBy 102 = .ok (.getfield 45, 3) := by decide +kernel
theorem dX6_guessBy_105 : decode cX6_guessBy 105 = .ok (.iload_n 1, 1) := by decide +kernel
theorem dX6_guessBy_106 : decode cX6_guessBy 106 = .ok (.iaload, 1) := by decide +kernel
theorem dX6_guessBy_107 : decode cX6_guessBy 107 = .ok (.goto 6, 3) := by decide +kernel
theorem dX6_guessBy_110 : decode cX6_guessBy 110 = .ok (.lload 7, 2) := by decide +kernel
theorem dX6_guessBy_112 : decode cX6_guessBy 112 = .ok (.l2i, 1) := by decide +kernel
theorem dX6_guessBy_113 : decode cX6_guessBy 113 = .ok (.ireturn, 1) := by decide +kernel
set_option maxRecDepth 20000 in
theorem ggX6_guess_X6_isNumber : GoodIn wsX6_guess wsX6_isNumber := goodIn_r _ [5, 6, 7, 8, 4, 9] (by decide +kernel) (by decide +kernel)
set_option maxRecDepth 20000 in
theorem gX6_guess_X6_isNumber : GoodIn wsX6_guess (va_wsS RX6 95 yX6_isNumber wsX6_isNumber) := goodIn_app (goodIn_of _ (by decide +kernel)) ggX6_guess_X6_isNumber
set_option maxRecDepth 20000 in
theorem ggX6_guess_X6_pieceFor : GoodIn wsX6_guess wsX6_pieceFor := goodIn_r _ [13, 14, 15, 16, 17, 4, 18, 19, 20, 29, 30, 31, 32, 33, 34, 35, 36, 37, 38, 39, 40, 41, 42, 43, 44, 45, 46, 47, 48, 49, 50, 51, 52, 53] (by decide +kernel) (by decide +kernel)
set_option maxRecDepth 20000 in
theorem gX6_guess_X6_pieceFor : GoodIn wsX6_guess (wsV RX6 148 RX6 yX6_pieceFor wsX6_pieceFor) := goodIn_app (goodIn_of _ (by decide +kernel)) ggX6_guess_X6_pieceFor
set_option maxRecDepth 20000 in
theorem ggX6_guess_X6_guessBy : GoodIn wsX6_guess wsX6_guessBy := goodIn_r _ [24, 25, 14, 26, 27, 28, 29, 30, 31, 32, 33, 34, 35, 36, 37, 38, 39, 40, 41, 42, 43, 44, 45, 46, 47, 48, 49, 50, 51, 52, 53] (by decide +kernel) (by decide +kernel)
set_option maxRecDepth 20000 in
theorem gX6_guess_X6_guessBy : GoodIn wsX6_guess (wsV RX6 151 RX6 yX6_guessBy wsX6_guessBy) := goodIn_app (goodIn_of _ (by decide +kernel)) ggX6_guess_X6_guessBy
theorem dX6_guess_0 : decode cX6_guess 0 = .ok (.iload_n 1, 1) := by decide +kernel
theorem dX6_guess_1 : decode cX6_guess 1 = .ok (.invokestatic 95, 3) := by decide +kernel
theorem dX6_guess_4 : decode cX6_guess 4 = .ok (.ifCond .ne 6, 3) := by decide +kernel
theorem dX6_guess_7 : decode cX6_guess 7 = .ok (.bipush (-2), 2) := by decide +kernel
theorem dX6_guess_9 : decode cX6_guess 9 = .ok (.ireturn, 1) := by decide +kernel
theorem dX6_guess_10 : decode cX6_guess 10 = .ok (.aload_n 0, 1) := by decide +kernel
end
section
theorem dX6_guess_11 : decode cX6_guess 11 = .ok (.getfield 69, 3) := by decide +kernel
theorem dX6_guess_14 : decode cX6_guess 14 = .ok (.ifCond .ne 7, 3) := by decide +kernel
theorem dX6_guess_17 : decode cX6_guess 17 = .ok (.iconst (-1), 1) := by decide +kernel
theorem dX6_guess_18 : decode cX6_guess 18 = .ok (.goto 13, 3) := by decide +kernel
theorem dX6_guess_21 : decode cX6_guess 21 = .ok (.aload_n 0, 1) := by decide +kernel
theorem dX6_guess_22 : decode cX6_guess 22 = .ok (.aload_n 0, 1) := by decide +kernel
theorem dX6_guess_23 : decode cX6_guess 23 = .ok (.iload_n 1, 1) := by decide +kernel
theorem dX6_guess_24 : decode cX6_guess 24 = .ok (.invokevirtual 148, 3) := by decide +kernel
theorem dX6_guess_27 : decode cX6_guess 27 = .ok (.iload_n 1, 1) := by decide +kernel
theorem dX6_guess_28 : decode cX6_guess 28 = .ok (.invokevirtual 151, 3) := by decide +kernel
theorem dX6_guess_31 : decode cX6_guess 31 = .ok (.ireturn, 1) := by decide +kernel
set_option maxRecDepth 20000 in
theorem ggX6_lookFor_X6_pieceFor : GoodIn wsX6_lookFor wsX6_pieceFor := goodIn_r _ [11, 12, 13, 14, 15, 10, 16, 17, 18, 28, 29, 30, 31, 32, 33, 34, 35, 36, 37, 38, 39, 40, 41, 42, 43, 44, 45, 46, 47, 48, 49, 50, 51, 52] (by decide +kernel) (by decide +kernel)
set_option maxRecDepth 20000 in
theorem gX6_lookFor_X6_pieceFor : GoodIn wsX6_lookFor (wsV RX6 148 RX6 yX6_pieceFor wsX6_pieceFor) := goodIn_app (goodIn_of _ (by decide +kernel)) ggX6_lookFor_X6_pieceFor
set_option maxRecDepth 20000 in
theorem ggX6_lookFor_X6_guessBy : GoodIn wsX6_lookFor wsX6_guessBy := goodIn_r _ [22, 23, 12, 24, 4, 5, 28, 29, 30, 31, 32, 33, 34, 35, 36, 37, 38, 39, 40, 41, 42, 43, 44, 45, 46, 47, 48, 49, 50, 51, 52] (by decide +kernel) (by decide +kernel)
set_option maxRecDepth 20000 in
theorem gX6_lookFor_X6_guessBy : GoodIn wsX6_lookFor (wsV RX6 151 RX6 yX6_guessBy wsX6_guessBy) := goodIn_app (goodIn_of _ (by decide +kernel)) ggX6_lookFor_X6_guessBy
set_option maxRecDepth 20000 in
theorem ggX6_lookFor_X6_in : GoodIn wsX6_lookFor wsX6_in := goodIn_r _ [27] (by decide +kernel) (by decide +kernel)
set_option maxRecDepth 20000 in
theorem gX6_lookFor_X6_in : GoodIn wsX6_lookFor (va_wsS RX6 62 yX6_in wsX6_in) := goodIn_app (goodIn_of _ (by decide +kernel)) ggX6_lookFor_X6_in
theorem dX6_lookFor_0 : decode cX6_lookFor 0 = .ok (.aload_n 0, 1) := by decide +kernel
theorem dX6_lookFor_1 : decode cX6_lookFor 1 = .ok (.iconst 0, 1) := by decide +kernel
theorem dX6_lookFor_2 : decode cX6_lookFor 2 = .ok (.putfield 155, 3) := by decide +kernel
theorem dX6_lookFor_5 : decode cX6_lookFor 5 = .ok (.aload_n 0, 1) := by decide +kernel
theorem dX6_lookFor_6 : decode cX6_lookFor 6 = .ok (.getfield 69, 3) := by decide +kernel
theorem dX6_lookFor_9 : decode cX6_lookFor 9 = .ok (.ifCond .ne 5, 3) := by decide +kernel
theorem dX6_lookFor_12 : decode cX6_lookFor 12 = .ok (.iconst (-1), 1) := by decide +kernel
theorem dX6_lookFor_13 : decode cX6_lookFor 13 = .ok (.ireturn, 1) := by decide +kernel
theorem dX6_lookFor_14 : decode cX6_lookFor 14 = .ok (.aload_n 0, 1) := by decide +kernel
theorem dX6_lookFor_15 : decode cX6_lookFor 15 = .ok (.iload_n 1, 1) := by decide +kernel
theorem dX6_lookFor_16 : decode cX6_lookFor 16 = .ok (.invokevirtual 148, 3) := by decide +kernel
theorem dX6_lookFor_19 : decode cX6_lookFor 19 = .ok (.istore_n 2, 1) := by decide +kernel
theorem dX6_lookFor_20 : decode cX6_lookFor 20 = .ok (.aload_n 0, 1) := by decide +kernel
theorem dX6_lookFor_21 : decode cX6_lookFor 21 = .ok (.iload_n 2, 1) := by decide +kernel
theorem dX6_lookFor_22 : decode cX6_lookFor 22 = .ok (.iload_n 1, 1) := by decide +kernel
theorem dX6_lookFor_23 : decode cX6_lookFor 23 = .ok (.invokevirtual 151, 3) := by decide +kernel
theorem dX6_lookFor_26 : decode cX6_lookFor 26 = .ok (.istore_n 3, 1) := by decide +kernel
theorem dX6_lookFor_27 : decode cX6_lookFor 27 = .ok (.iconst 0, 1) := by decide +kernel
theorem dX6_lookFor_28 : decode cX6_lookFor 28 = .ok (.istore 4, 2) := by decide +kernel
theorem dX6_lookFor_30 : decode cX6_lookFor 30 = .ok (.iload 4, 2) := by decide +kernel
theorem dX6_lookFor_32 : decode cX6_lookFor 32 = .ok (.iconst 2, 1) := by decide +kernel
theorem dX6_lookFor_33 : decode cX6_lookFor 33 = .ok (.aload_n 0, 1) := by decide +kernel
theorem dX6_lookFor_34 : decode cX6_lookFor 34 = .ok (.getfield 13, 3) := by decide +kernel
theorem dX6_lookFor_37 : decode cX6_lookFor 37 = .ok (.imul, 1) := by decide +kernel
theorem dX6_lookFor_38 : decode cX6_lookFor 38 = .ok (.if_icmp .gt 80, 3) := by decide +kernel
theorem dX6_lookFor_41 : decode cX6_lookFor 41 = .ok (.iload 4, 2) := by decide +kernel
theorem dX6_lookFor_43 : decode cX6_lookFor 43 = .ok (.iconst 2, 1) := by decide +kernel
theorem dX6_lookFor_44 : decode cX6_lookFor 44 = .ok (.irem, 1) := by decide +kernel
theorem dX6_lookFor_45 : decode cX6_lookFor 45 = .ok (.iconst 1, 1) := by decide +kernel
theorem dX6_lookFor_46 : decode cX6_lookFor 46 = .ok (.if_icmp .ne 14, 3) := by decide +kernel
theorem dX6_lookFor_49 : decode cX6_lookFor 49 = .ok (.iload_n 3, 1) := by decide +kernel
theorem dX6_lookFor_50 : decode cX6_lookFor 50 = .ok (.iload 4, 2) := by decide +kernel
theorem dX6_lookFor_52 : decode cX6_lookFor 52 = .ok (.iconst 1, 1) := by decide +kernel
theorem dX6_lookFor_53 : decode cX6_lookFor 53 = .ok (.iadd, 1) := by decide +kernel
theorem dX6_lookFor_54 : decode cX6_lookFor 54 = .ok (.iconst 2, 1) := by decide +kernel
theorem dX6_lookFor_55 : decode cX6_lookFor 55 = .ok (.idiv, 1) := by decide +kernel
theorem dX6_lookFor_56 : decode cX6_lookFor 56 = .ok (.isub, 1) := by decide +kernel
theorem dX6_lookFor_57 : decode cX6_lookFor 57 = .ok (.goto 9, 3) := by decide +kernel
theorem dX6_lookFor_60 : decode cX6_lookFor 60 = .ok (.iload_n 3, 1) := by decide +kernel
theorem dX6_lookFor_61 : decode cX6_lookFor 61 = .ok (.iload 4, 2) := by decide +kernel
theorem dX6_lookFor_63 : decode cX6_lookFor 63 = .ok (.iconst 2, 1) := by decide +kernel
theorem dX6_lookFor_64 : decode cX6_lookFor 64 = .ok (.idiv, 1) := by decide +kernel
theorem dX6_lookFor_65 : decode cX6_lookFor 65 = .ok (.iadd, 1) := by decide +kernel
theorem dX6_lookFor_66 : decode cX6_lookFor 66 = .ok (.istore 5, 2) := by decide +kernel
theorem dX6_lookFor_68 : decode cX6_lookFor 68 = .ok (.iload 5, 2) := by decide +kernel
theorem dX6_lookFor_70 : decode cX6_lookFor 70 = .ok (.aload_n 0, 1) := by decide +kernel
theorem dX6_lookFor_71 : decode cX6_lookFor 71 = .ok (.getfield 42, 3) := by decide +kernel
theorem dX6_lookFor_74 : decode cX6_lookFor 74 = .ok (.iload_n 2, 1) := by decide +kernel
theorem dX6_lookFor_75 : decode cX6_lookFor 75 = .ok (.iaload, 1) := by decide +kernel
theorem dX6_lookFor_76 : decode cX6_lookFor 76 = .ok (.aload_n 0, 1) := by decide +kernel
theorem dX6_lookFor_77 : decode cX6_lookFor 77 = .ok (.getfield 45, 3) := by decide +kernel
theorem dX6_lookFor_80 : decode cX6_lookFor 80 = .ok (.iload_n 2, 1) := by decide +kernel
theorem dX6_lookFor_81 : decode cX6_lookFor 81 = .ok (.iaload, 1) := by decide +kernel
theorem dX6_lookFor_82 : decode cX6_lookFor 82 = .ok (.invokestatic 62, 3) := by decide +kernel
theorem dX6_lookFor_85 : decode cX6_lookFor 85 = .ok (.ifCond .eq 27, 3) := by decide +kernel
theorem dX6_lookFor_88 : decode cX6_lookFor 88 = .ok (.aload_n 0, 1) := by decide +kernel
theorem dX6_lookFor_89 : decode cX6_lookFor 89 = .ok (.dup, 1) := by decide +kernel
theorem dX6_lookFor_90 : decode cX6_lookFor 90 = .ok (.getfield 155, 3) := by decide +kernel
theorem dX6_lookFor_93 : decode cX6_lookFor 93 = .ok (.iconst 1, 1) := by decide +kernel
theorem dX6_lookFor_94 : decode cX6_lookFor 94 = .ok (.iadd, 1) := by decide +kernel
theorem dX6_lookFor_95 : decode cX6_lookFor 95 = .ok (.putfield 155, 3) := by decide +kernel
theorem dX6_lookFor_98 : decode cX6_lookFor 98 = .ok (.aload_n 0, 1) := by decide +kernel
theorem dX6_lookFor_99 : decode cX6_lookFor 99 = .ok (.getfield 7, 3) := by decide +kernel
theorem dX6_lookFor_102 : decode cX6_lookFor 102 = .ok (.iload 5, 2) := by decide +kernel
theorem dX6_lookFor_104 : decode cX6_lookFor 104 = .ok (.iaload, 1) := by decide +kernel
theorem dX6_lookFor_105 : decode cX6_lookFor 105 = .ok (.iload_n 1, 1) := by decide +kernel
theorem dX6_lookFor_106 : decode cX6_lookFor 106 = .ok (.if_icmp .ne 6, 3) := by decide +kernel
theorem dX6_lookFor_109 : decode cX6_lookFor 109 = .ok (.iload 5, 2) := by decide +kernel
theorem dX6_lookFor_111 : decode cX6_lookFor 111 = .ok (.ireturn, 1) := by decide +kernel
theorem dX6_lookFor_112 : decode cX6_lookFor 112 = .ok (.iinc 4 1, 3) := by decide +kernel
theorem dX6_lookFor_115 : decode cX6_lookFor 115 = .ok (.goto (-85), 3) := by decide +kernel
theorem dX6_lookFor_118 : decode cX6_lookFor 118 = .ok (.iconst (-1), 1) := by decide +kernel
theorem dX6_lookFor_119 : decode cX6_lookFor 119 = .ok (.ireturn, 1) := by decide +kernel
set_option maxRecDepth 20000 in
theorem ggX6_find_X6_isNumber : GoodIn wsX6_find wsX6_isNumber := goodIn_r _ [4, 5, 6, 7, 3, 8] (by decide +kernel) (by decide +kernel)
set_option maxRecDepth 20000 in
theorem gX6_find_X6_isNumber : GoodIn wsX6_find (va_wsS RX6 95 yX6_isNumber wsX6_isNumber) := goodIn_app (goodIn_of _ (by decide +kernel)) ggX6_find_X6_isNumber
set_option maxRecDepth 20000 in
theorem ggX6_find_X6_lookFor : GoodIn wsX6_find wsX6_lookFor := goodIn_r _ [12, 13, 14, 15, 16, 17, 18, 19, 20, 21, 3, 22, 23, 24, 25, 26, 27, 28, 29, 30, 31, 32, 33, 34, 35, 6, 7, 8, 36, 37, 38, 39, 40, 41, 42, 43, 44, 45, 46, 47, 48, 49, 50, 51, 52, 53, 54, 55, 56, 57, 58, 59, 60] (by decide +kernel) (by decide +kernel)
set_option maxRecDepth 20000 in
theorem gX6_find_X6_lookFor : GoodIn wsX6_find (wsV RX6 158 RX6 yX6_lookFor wsX6_lookFor) := goodIn_app (goodIn_of _ (by decide +kernel)) ggX6_find_X6_lookFor
theorem dX6_find_0 : decode cX6_find 0 = .ok (.iload_n 1, 1) := by decide +kernel
theorem dX6_find_1 : decode cX6_find 1 = .ok (.invokestatic 95, 3) := by decide +kernel
theorem dX6_find_4 : decode cX6_find 4 = .ok (.ifCond .eq 11, 3) := by decide +kernel
theorem dX6_find_7 : decode cX6_find 7 = .ok (.aload_n 0, 1) := by decide +kernel
theorem dX6_find_8 : decode cX6_find 8 = .ok (.iload_n 1, 1) := by decide +kernel
theorem dX6_find_9 : decode cX6_find 9 = .ok (.invokevirtual 158, 3) := by decide +kernel
theorem dX6_find_12 : decode cX6_find 12 = .ok (.goto 5, 3) := by decide +kernel
theorem dX6_find_15 : decode cX6_find 15 = .ok (.bipush (-2), 2) := by decide +kernel
theorem dX6_find_17 : decode cX6_find 17 = .ok (.ireturn, 1) := by decide +kernel
set_option maxRecDepth 20000 in
theorem ggX6_looks_X6_isNumber : GoodIn wsX6_looks wsX6_isNumber := goodIn_r _ [5, 6, 7, 8, 4, 9] (by decide +kernel) (by decide +kernel)
set_option maxRecDepth 20000 in
theorem gX6_looks_X6_isNumber : GoodIn wsX6_looks (va_wsS RX6 95 yX6_isNumber wsX6_isNumber) := goodIn_app (goodIn_of _ (by decide +kernel)) ggX6_looks_X6_isNumber
set_option maxRecDepth 20000 in
theorem ggX6_looks_X6_lookFor : GoodIn wsX6_looks wsX6_lookFor := goodIn_r _ [13, 1, 14, 15, 16, 17, 18, 19, 20, 21, 4, 22, 23, 24, 25, 26, 27, 28, 29, 30, 31, 32, 33, 34, 35, 7, 8, 9, 36, 37, 38, 39, 40, 41, 42, 43, 44, 45, 46, 47, 48, 49, 50, 51, 52, 53, 54, 55, 56, 57, 58, 59, 60] (by decide +kernel) (by decide +kernel)
set_option maxRecDepth 20000 in
theorem gX6_looks_X6_lookFor : GoodIn wsX6_looks (wsV RX6 158 RX6 yX6_lookFor wsX6_lookFor) := goodIn_app (goodIn_of _ (by decide +kernel)) ggX6_looks_X6_lookFor
theorem dX6_looks_0 : decode cX6_looks 0 = .ok (.iload_n 1, 1) := by decide +kernel
theorem dX6_looks_1 : decode cX6_looks 1 = .ok (.invokestatic 95, 3) := by decide +kernel
theorem dX6_looks_4 : decode cX6_looks 4 = .ok (.ifCond .ne 6, 3) := by decide +kernel
theorem dX6_looks_7 : decode cX6_looks 7 = .ok (.bipush (-2), 2) := by decide +kernel
theorem dX6_looks_9 : decode cX6_looks 9 = .ok (.ireturn, 1) := by decide +kernel
theorem dX6_looks_10 : decode cX6_looks 10 = .ok (.aload_n 0, 1) := by decide +kernel
theorem dX6_looks_11 : decode cX6_looks 11 = .ok (.iload_n 1, 1) := by decide +kernel
theorem dX6_looks_12 : decode cX6_looks 12 = .ok (.invokevirtual 158, 3) := by decide +kernel
theorem dX6_looks_15 : decode cX6_looks 15 = .ok (.pop, 1) := by decide +kernel
theorem dX6_looks_16 : decode cX6_looks 16 = .ok (.aload_n 0, 1) := by decide +kernel
theorem dX6_looks_17 : decode cX6_looks 17 = .ok (.getfield 155, 3) := by decide +kernel
theorem dX6_looks_20 : decode cX6_looks 20 = .ok (.ireturn, 1) := by decide +kernel
theorem dX6_isMaybe_0 : decode cX6_isMaybe 0 = .ok (.aload_n 0, 1) := by decide +kernel
theorem dX6_isMaybe_1 : decode cX6_isMaybe 1 = .ok (.getfield 23, 3) := by decide +kernel
theorem dX6_isMaybe_4 : decode cX6_isMaybe 4 = .ok (.iload_n 1, 1) := by decide +kernel
theorem dX6_isMaybe_5 : decode cX6_isMaybe 5 = .ok (.bipush 61, 2) := by decide +kernel
theorem dX6_isMaybe_7 : decode cX6_isMaybe 7 = .ok (.irem, 1) := by decide +kernel
theorem dX6_isMaybe_8 : decode cX6_isMaybe 8 = .ok (.baload, 1) := by decide +kernel
theorem dX6_isMaybe_9 : decode cX6_isMaybe 9 = .ok (.ifCond .eq 22, 3) := by decide +kernel
theorem dX6_isMaybe_12 : decode cX6_isMaybe 12 = .ok (.aload_n 0, 1) := by decide +kernel
theorem dX6_isMaybe_13 : decode cX6_isMaybe 13 = .ok (.getfield 23, 3) := by decide +kernel
theorem dX6_isMaybe_16 : decode cX6_isMaybe 16 = .ok (.iload_n 1, 1) := by decide +kernel
theorem dX6_isMaybe_17 : decode cX6_isMaybe 17 = .ok (.bipush 61, 2) := by decide +kernel
theorem dX6_isMaybe_19 : decode cX6_isMaybe 19 = .ok (.idiv, 1) := by decide +kernel
theorem dX6_isMaybe_20 : decode cX6_isMaybe 20 = .ok (.bipush 64, 2) := by decide +kernel
theorem dX6_isMaybe_22 : decode cX6_isMaybe 22 = .ok (.irem, 1) := by decide +kernel
theorem dX6_isMaybe_23 : decode cX6_isMaybe 23 = .ok (.baload, 1) := by decide +kernel
theorem dX6_isMaybe_24 : decode cX6_isMaybe 24 = .ok (.ifCond .eq 7, 3) := by decide +kernel
theorem dX6_isMaybe_27 : decode cX6_isMaybe 27 = .ok (.iconst 1, 1) := by decide +kernel
theorem dX6_isMaybe_28 : decode cX6_isMaybe 28 = .ok (.goto 4, 3) := by decide +kernel
theorem dX6_isMaybe_31 : decode cX6_isMaybe 31 = .ok (.iconst 0, 1) := by decide +kernel
theorem dX6_isMaybe_32 : decode cX6_isMaybe 32 = .ok (.ireturn, 1) := by decide +kernel
set_option maxRecDepth 20000 in
theorem ggX6_maybe_X6_isNumber : GoodIn wsX6_maybe wsX6_isNumber := goodIn_r _ [4, 5, 6, 7, 3, 8] (by decide +kernel) (by decide +kernel)
set_option maxRecDepth 20000 in
theorem gX6_maybe_X6_isNumber : GoodIn wsX6_maybe (va_wsS RX6 95 yX6_isNumber wsX6_isNumber) := goodIn_app (goodIn_of _ (by decide +kernel)) ggX6_maybe_X6_isNumber
set_option maxRecDepth 20000 in
theorem ggX6_maybe_X6_isMaybe : GoodIn wsX6_maybe wsX6_isMaybe := goodIn_r _ [12, 13, 14, 15, 16, 17, 18, 19, 20, 21, 22, 23, 24, 25, 26, 27, 28, 29, 30, 31, 32, 33, 34, 35, 36, 37, 38] (by decide +kernel) (by decide +kernel)
set_option maxRecDepth 20000 in
theorem gX6_maybe_X6_isMaybe : GoodIn wsX6_maybe (wsV RX6 161 RX6 yX6_isMaybe wsX6_isMaybe) := goodIn_app (goodIn_of _ (by decide +kernel)) ggX6_maybe_X6_isMaybe
theorem dX6_maybe_0 : decode cX6_maybe 0 = .ok (.iload_n 1, 1) := by decide +kernel
theorem dX6_maybe_1 : decode cX6_maybe 1 = .ok (.invokestatic 95, 3) := by decide +kernel
theorem dX6_maybe_4 : decode cX6_maybe 4 = .ok (.ifCond .ne 8, 3) := by decide +kernel
theorem dX6_maybe_7 : decode cX6_maybe 7 = .ok (.bipush (-2), 2) := by decide +kernel
theorem dX6_maybe_9 : decode cX6_maybe 9 = .ok (.goto 16, 3) := by decide +kernel
theorem dX6_maybe_12 : decode cX6_maybe 12 = .ok (.aload_n 0, 1) := by decide +kernel
theorem dX6_maybe_13 : decode cX6_maybe 13 = .ok (.iload_n 1, 1) := by decide +kernel
theorem dX6_maybe_14 : decode cX6_maybe 14 = .ok (.invokevirtual 161, 3) := by decide +kernel
theorem dX6_maybe_17 : decode cX6_maybe 17 = .ok (.ifCond .eq 7, 3) := by decide +kernel
theorem dX6_maybe_20 : decode cX6_maybe 20 = .ok (.iconst 1, 1) := by decide +kernel
theorem dX6_maybe_21 : decode cX6_maybe 21 = .ok (.goto 4, 3) := by decide +kernel
theorem dX6_maybe_24 : decode cX6_maybe 24 = .ok (.iconst 0, 1) := by decide +kernel
theorem dX6_maybe_25 : decode cX6_maybe 25 = .ok (.ireturn, 1) := by decide +kernel
set_option maxRecDepth 20000 in
theorem ggX6_wrong_X6_isSpan : GoodIn wsX6_wrong wsX6_isSpan := goodIn_r _ [6, 7, 8, 5, 9, 10, 11, 12, 13] (by decide +kernel) (by decide +kernel)
set_option maxRecDepth 20000 in
theorem gX6_wrong_X6_isSpan : GoodIn wsX6_wrong (va_wsS RX6 105 yX6_isSpan wsX6_isSpan) := goodIn_app (goodIn_of _ (by decide +kernel)) ggX6_wrong_X6_isSpan
set_option maxRecDepth 20000 in
theorem ggX6_wrong_X6_layNow : GoodIn wsX6_wrong wsX6_layNow := goodIn_r _ [17, 2, 18, 19, 20, 21, 22, 23, 24, 25, 5, 26, 27, 28, 29, 30, 1, 36, 37, 38, 39, 40, 41, 42, 43, 44, 45, 46, 47, 48, 49, 50, 51, 52, 53, 54, 55, 56, 57, 58, 59, 60] (by decide +kernel) (by decide +kernel)
set_option maxRecDepth 20000 in
theorem gX6_wrong_X6_layNow : GoodIn wsX6_wrong (wsV RX6 86 RX6 yX6_layNow wsX6_layNow) := goodIn_app (goodIn_of _ (by decide +kernel)) ggX6_wrong_X6_layNow
set_option maxRecDepth 20000 in
theorem ggX6_wrong_X6_isMaybe : GoodIn wsX6_wrong wsX6_isMaybe := goodIn_r _ [34, 35, 36, 37, 38, 39, 40, 41, 42, 43, 44, 45, 46, 47, 48, 49, 50, 51, 52, 53, 54, 55, 56, 57, 58, 59, 60] (by decide +kernel) (by decide +kernel)
set_option maxRecDepth 20000 in
theorem gX6_wrong_X6_isMaybe : GoodIn wsX6_wrong (wsV RX6 161 RX6 yX6_isMaybe wsX6_isMaybe) := goodIn_app (goodIn_of _ (by decide +kernel)) ggX6_wrong_X6_isMaybe
set_option maxRecDepth 20000 in
theorem ggX6_wrong_X6_placeIn : GoodIn wsX6_wrong wsX6_placeIn := goodIn_r _ [26] (by decide +kernel) (by decide +kernel)
set_option maxRecDepth 20000 in
theorem gX6_wrong_X6_placeIn : GoodIn wsX6_wrong (va_wsS RX6 75 yX6_placeIn wsX6_placeIn) := goodIn_app (goodIn_of _ (by decide +kernel)) ggX6_wrong_X6_placeIn
theorem dX6_wrong_0 : decode cX6_wrong 0 = .ok (.iload_n 1, 1) := by decide +kernel
theorem dX6_wrong_1 : decode cX6_wrong 1 = .ok (.iload_n 2, 1) := by decide +kernel
theorem dX6_wrong_2 : decode cX6_wrong 2 = .ok (.invokestatic 105, 3) := by decide +kernel
theorem dX6_wrong_5 : decode cX6_wrong 5 = .ok (.ifCond .eq 12, 3) := by decide +kernel
theorem dX6_wrong_8 : decode cX6_wrong 8 = .ok (.iload_n 2, 1) := by decide +kernel
theorem dX6_wrong_9 : decode cX6_wrong 9 = .ok (.iload_n 1, 1) := by decide +kernel
theorem dX6_wrong_10 : decode cX6_wrong 10 = .ok (.isub, 1) := by decide +kernel
theorem dX6_wrong_11 : decode cX6_wrong 11 = .ok (.sipush 2000, 3) := by decide +kernel
theorem dX6_wrong_14 : decode cX6_wrong 14 = .ok (.if_icmp .le 6, 3) := by decide +kernel
theorem dX6_wrong_17 : decode cX6_wrong 17 = .ok (.bipush (-2), 2) := by decide +kernel
theorem dX6_wrong_19 : decode cX6_wrong 19 = .ok (.ireturn, 1) := by decide +kernel
theorem dX6_wrong_20 : decode cX6_wrong 20 = .ok (.aload_n 0, 1) := by decide +kernel
theorem dX6_wrong_21 : decode cX6_wrong 21 = .ok (.invokevirtual 86, 3) := by decide +kernel
theorem dX6_wrong_24 : decode cX6_wrong 24 = .ok (.iconst 0, 1) := by decide +kernel
theorem dX6_wrong_25 : decode cX6_wrong 25 = .ok (.istore_n 3, 1) := by decide +kernel
theorem dX6_wrong_26 : decode cX6_wrong 26 = .ok (.iload_n 1, 1) := by decide +kernel
theorem dX6_wrong_27 : decode cX6_wrong 27 = .ok (.istore 4, 2) := by decide +kernel
theorem dX6_wrong_29 : decode cX6_wrong 29 = .ok (.iload 4, 2) := by decide +kernel
theorem dX6_wrong_31 : decode cX6_wrong 31 = .ok (.iload_n 2, 1) := by decide +kernel
theorem dX6_wrong_32 : decode cX6_wrong 32 = .ok (.if_icmp .gt 43, 3) := by decide +kernel
theorem dX6_wrong_35 : decode cX6_wrong 35 = .ok (.iload_n 3, 1) := by decide +kernel
theorem dX6_wrong_36 : decode cX6_wrong 36 = .ok (.aload_n 0, 1) := by decide +kernel
theorem dX6_wrong_37 : decode cX6_wrong 37 = .ok (.iload 4, 2) := by decide +kernel
theorem dX6_wrong_39 : decode cX6_wrong 39 = .ok (.invokevirtual 161, 3) := by decide +kernel
theorem dX6_wrong_42 : decode cX6_wrong 42 = .ok (.ifCond .eq 24, 3) := by decide +kernel
theorem dX6_wrong_45 : decode cX6_wrong 45 = .ok (.aload_n 0, 1) := by decide +kernel
theorem dX6_wrong_46 : decode cX6_wrong 46 = .ok (.getfield 27, 3) := by decide +kernel
theorem dX6_wrong_49 : decode cX6_wrong 49 = .ok (.aload_n 0, 1) := by decide +kernel
theorem dX6_wrong_50 : decode cX6_wrong 50 = .ok (.getfield 66, 3) := by decide +kernel
theorem dX6_wrong_53 : decode cX6_wrong 53 = .ok (.iload 4, 2) := by decide +kernel
theorem dX6_wrong_55 : decode cX6_wrong 55 = .ok (.invokestatic 75, 3) := by decide +kernel
theorem dX6_wrong_58 : decode cX6_wrong 58 = .ok (.iconst (-1), 1) := by decide +kernel
theorem dX6_wrong_59 : decode cX6_wrong 59 = .ok (.if_icmp .ne 7, 3) := by decide +kernel
theorem dX6_wrong_62 : decode cX6_wrong 62 = .ok (.iconst 1, 1) := by decide +kernel
theorem dX6_wrong_63 : decode cX6_wrong 63 = .ok (.goto 4, 3) := by decide +kernel
theorem dX6_wrong_66 : decode cX6_wrong 66 = .ok (.iconst 0, 1) := by decide +kernel
theorem dX6_wrong_67 : decode cX6_wrong 67 = .ok (.iadd, 1) := by decide +kernel
theorem dX6_wrong_68 : decode cX6_wrong 68 = .ok (.istore_n 3, 1) := by decide +kernel
theorem dX6_wrong_69 : decode cX6_wrong 69 = .ok (.iinc 4 1, 3) := by decide +kernel
theorem dX6_wrong_72 : decode cX6_wrong 72 = .ok (.goto (-43), 3) := by decide +kernel
theorem dX6_wrong_75 : decode cX6_wrong 75 = .ok (.iload_n 3, 1) := by decide +kernel
theorem dX6_wrong_76 : decode cX6_wrong 76 = .ok (.ireturn, 1) := by decide +kernel
set_option maxRecDepth 20000 in
theorem ggX6_piecesWith_X6_layPieces : GoodIn wsX6_piecesWith wsX6_layPieces := goodIn_r _ [10, 5, 1, 11, 12, 13, 14, 9, 15, 16, 4, 17, 18, 19, 20, 21, 22, 23, 24, 25, 26, 27, 28, 29, 30, 31, 32, 33, 34, 35, 36, 37, 38, 39, 40, 41, 42, 43, 44, 45, 46, 47] (by decide +kernel) (by decide +kernel)
set_option maxRecDepth 20000 in
theorem gX6_piecesWith_X6_layPieces : GoodIn wsX6_piecesWith (wsV RX6 128 RX6 yX6_layPieces wsX6_layPieces) := goodIn_app (goodIn_of _ (by decide +kernel)) ggX6_piecesWith_X6_layPieces
theorem dX6_piecesWith_0 : decode cX6_piecesWith 0 = .ok (.aload_n 0, 1) := by decide +kernel
theorem dX6_piecesWith_1 : decode cX6_piecesWith 1 = .ok (.iconst 0, 1) := by decide +kernel
theorem dX6_piecesWith_2 : decode cX6_piecesWith 2 = .ok (.putfield 122, 3) := by decide +kernel
theorem dX6_piecesWith_5 : decode cX6_piecesWith 5 = .ok (.iconst 0, 1) := by decide +kernel
theorem dX6_piecesWith_6 : decode cX6_piecesWith 6 = .ok (.istore_n 2, 1) := by decide +kernel
theorem dX6_piecesWith_7 : decode cX6_piecesWith 7 = .ok (.iconst 0, 1) := by decide +kernel
theorem dX6_piecesWith_8 : decode cX6_piecesWith 8 = .ok (.istore_n 3, 1) := by decide +kernel
theorem dX6_piecesWith_9 : decode cX6_piecesWith 9 = .ok (.iload_n 3, 1) := by decide +kernel
theorem dX6_piecesWith_10 : decode cX6_piecesWith 10 = .ok (.aload_n 0, 1) := by decide +kernel
theorem dX6_piecesWith_11 : decode cX6_piecesWith 11 = .ok (.getfield 66, 3) := by decide +kernel
theorem dX6_piecesWith_14 : decode cX6_piecesWith 14 = .ok (.if_icmp .ge 70, 3) := by decide +kernel
theorem dX6_piecesWith_17 : decode cX6_piecesWith 17 = .ok (.iload_n 2, 1) := by decide +kernel
theorem dX6_piecesWith_18 : decode cX6_piecesWith 18 = .ok (.ifCond .ne 35, 3) := by decide +kernel
theorem dX6_piecesWith_21 : decode cX6_piecesWith 21 = .ok (.aload_n 0, 1) := by decide +kernel
theorem dX6_piecesWith_22 : decode cX6_piecesWith 22 = .ok (.getfield 27, 3) := by decide +kernel
theorem dX6_piecesWith_25 : decode cX6_piecesWith 25 = .ok (.iload_n 3, 1) := by decide +kernel
theorem dX6_piecesWith_26 : decode cX6_piecesWith 26 = .ok (.iaload, 1) := by decide +kernel
theorem dX6_piecesWith_27 : decode cX6_piecesWith 27 = .ok (.iload_n 1, 1) := by decide +kernel
theorem dX6_piecesWith_28 : decode cX6_piecesWith 28 = .ok (.if_icmp .le 25, 3) := by decide +kernel
theorem dX6_piecesWith_31 : decode cX6_piecesWith 31 = .ok (.aload_n 0, 1) := by decide +kernel
theorem dX6_piecesWith_32 : decode cX6_piecesWith 32 = .ok (.getfield 30, 3) := by decide +kernel
theorem dX6_piecesWith_35 : decode cX6_piecesWith 35 = .ok (.aload_n 0, 1) := by decide +kernel
theorem dX6_piecesWith_36 : decode cX6_piecesWith 36 = .ok (.getfield 122, 3) := by decide +kernel
theorem dX6_piecesWith_39 : decode cX6_piecesWith 39 = .ok (.iload_n 1, 1) := by decide +kernel
theorem dX6_piecesWith_40 : decode cX6_piecesWith 40 = .ok (.iastore, 1) := by decide +kernel
theorem dX6_piecesWith_41 : decode cX6_piecesWith 41 = .ok (.aload_n 0, 1) := by decide +kernel
theorem dX6_piecesWith_42 : decode cX6_piecesWith 42 = .ok (.dup, 1) := by decide +kernel
theorem dX6_piecesWith_43 : decode cX6_piecesWith 43 = .ok (.getfield 122, 3) := by decide +kernel
theorem dX6_piecesWith_46 : decode cX6_piecesWith 46 = .ok (.iconst 1, 1) := by decide +kernel
theorem dX6_piecesWith_47 : decode cX6_piecesWith 47 = .ok (.iadd, 1) := by decide +kernel
theorem dX6_piecesWith_48 : decode cX6_piecesWith 48 = .ok (.putfield 122, 3) := by decide +kernel
theorem dX6_piecesWith_51 : decode cX6_piecesWith 51 = .ok (.iconst 1, 1) := by decide +kernel
theorem dX6_piecesWith_52 : decode cX6_piecesWith 52 = .ok (.istore_n 2, 1) := by decide +kernel
theorem dX6_piecesWith_53 : decode cX6_piecesWith 53 = .ok (.aload_n 0, 1) := by decide +kernel
theorem dX6_piecesWith_54 : decode cX6_piecesWith 54 = .ok (.getfield 30, 3) := by decide +kernel
theorem dX6_piecesWith_57 : decode cX6_piecesWith 57 = .ok (.aload_n 0, 1) := by decide +kernel
theorem dX6_piecesWith_58 : decode cX6_piecesWith 58 = .ok (.getfield 122, 3) := by decide +kernel
theorem dX6_piecesWith_61 : decode cX6_piecesWith 61 = .ok (.aload_n 0, 1) := by decide +kernel
theorem dX6_piecesWith_62 : decode cX6_piecesWith 62 = .ok (.getfield 27, 3) := by decide +kernel
theorem dX6_piecesWith_65 : decode cX6_piecesWith 65 = .ok (.iload_n 3, 1) := by decide +kernel
theorem dX6_piecesWith_66 : decode cX6_piecesWith 66 = .ok (.iaload, 1) := by decide +kernel
theorem dX6_piecesWith_67 : decode cX6_piecesWith 67 = .ok (.iastore, 1) := by decide +kernel
theorem dX6_piecesWith_68 : decode cX6_piecesWith 68 = .ok (.aload_n 0, 1) := by decide +kernel
theorem dX6_piecesWith_69 : decode cX6_piecesWith 69 = .ok (.dup, 1) := by decide +kernel
theorem dX6_piecesWith_70 : decode cX6_piecesWith 70 = .ok (.getfield 122, 3) := by decide +kernel
theorem dX6_piecesWith_73 : decode cX6_piecesWith 73 = .ok (.iconst 1, 1) := by decide +kernel
theorem dX6_piecesWith_74 : decode cX6_piecesWith 74 = .ok (.iadd, 1) := by decide +kernel
theorem dX6_piecesWith_75 : decode cX6_piecesWith 75 = .ok (.putfield 122, 3) := by decide +kernel
theorem dX6_piecesWith_78 : decode cX6_piecesWith 78 = .ok (.iinc 3 1, 3) := by decide +kernel
theorem dX6_piecesWith_81 : decode cX6_piecesWith 81 = .ok (.goto (-72), 3) := by decide +kernel
theorem dX6_piecesWith_84 : decode cX6_piecesWith 84 = .ok (.iload_n 2, 1) := by decide +kernel
theorem dX6_piecesWith_85 : decode cX6_piecesWith 85 = .ok (.ifCond .ne 23, 3) := by decide +kernel
theorem dX6_piecesWith_88 : decode cX6_piecesWith 88 = .ok (.aload_n 0, 1) := by decide +kernel
theorem dX6_piecesWith_89 : decode cX6_piecesWith 89 = .ok (.getfield 30, 3) := by decide +kernel
theorem dX6_piecesWith_92 : decode cX6_piecesWith 92 = .ok (.aload_n 0, 1) := by decide +kernel
theorem dX6_piecesWith_93 : decode cX6_piecesWith 93 = .ok (.getfield 122, 3) := by decide +kernel
theorem dX6_piecesWith_96 : decode cX6_piecesWith 96 = .ok (.iload_n 1, 1) := by decide +kernel
theorem dX6_piecesWith_97 : decode cX6_piecesWith 97 = .ok (.iastore, 1) := by decide +kernel
theorem dX6_piecesWith_98 : decode cX6_piecesWith 98 = .ok (.aload_n 0, 1) := by decide +kernel
theorem dX6_piecesWith_99 : decode cX6_piecesWith 99 = .ok (.dup, 1) := by decide +kernel
theorem dX6_piecesWith_100 : decode cX6_piecesWith 100 = .ok (.getfield 122, 3) := by decide +kernel
theorem dX6_piecesWith_103 : decode cX6_piecesWith 103 = .ok (.iconst 1, 1) := by decide +kernel
theorem dX6_piecesWith_104 : decode cX6_piecesWith 104 = .ok (.iadd, 1) := by decide +kernel
theorem dX6_piecesWith_105 : decode cX6_piecesWith 105 = .ok (.putfield 122, 3) := by decide +kernel
theorem dX6_piecesWith_108 : decode cX6_piecesWith 108 = .ok (.aload_n 0, 1) := by decide +kernel
theorem dX6_piecesWith_109 : decode cX6_piecesWith 109 = .ok (.invokevirtual 128, 3) := by decide +kernel
theorem dX6_piecesWith_112 : decode cX6_piecesWith 112 = .ok (.aload_n 0, 1) := by decide +kernel
theorem dX6_piecesWith_113 : decode cX6_piecesWith 113 = .ok (.getfield 36, 3) := by decide +kernel
theorem dX6_piecesWith_116 : decode cX6_piecesWith 116 = .ok (.iconst 0, 1) := by decide +kernel
theorem dX6_piecesWith_117 : decode cX6_piecesWith 117 = .ok (.iaload, 1) := by decide +kernel
theorem dX6_piecesWith_118 : decode cX6_piecesWith 118 = .ok (.ireturn, 1) := by decide +kernel
set_option maxRecDepth 20000 in
theorem ggX6_poison_X6_isSpan : GoodIn wsX6_poison wsX6_isSpan := goodIn_r _ [6, 7, 8, 5, 9, 10, 11, 12, 13] (by decide +kernel) (by decide +kernel)
set_option maxRecDepth 20000 in
theorem gX6_poison_X6_isSpan : GoodIn wsX6_poison (va_wsS RX6 105 yX6_isSpan wsX6_isSpan) := goodIn_app (goodIn_of _ (by decide +kernel)) ggX6_poison_X6_isSpan
set_option maxRecDepth 20000 in
theorem ggX6_poison_X6_in : GoodIn wsX6_poison wsX6_in := goodIn_r _ [13] (by decide +kernel) (by decide +kernel)
set_option maxRecDepth 20000 in
theorem gX6_poison_X6_in : GoodIn wsX6_poison (va_wsS RX6 62 yX6_in wsX6_in) := goodIn_app (goodIn_of _ (by decide +kernel)) ggX6_poison_X6_in
set_option maxRecDepth 20000 in
theorem ggX6_poison_X6_layNow : GoodIn wsX6_poison wsX6_layNow := goodIn_r _ [17, 1, 18, 19, 20, 21, 22, 23, 24, 25, 5, 26, 27, 28, 29, 30, 2, 54, 55, 56, 57, 58, 59, 60, 61, 62, 63, 64, 65, 66, 67, 68, 69, 70, 71, 72, 73, 74, 75, 76, 77, 78] (by decide +kernel) (by decide +kernel)
set_option maxRecDepth 20000 in
theorem gX6_poison_X6_layNow : GoodIn wsX6_poison (wsV RX6 86 RX6 yX6_layNow wsX6_layNow) := goodIn_app (goodIn_of _ (by decide +kernel)) ggX6_poison_X6_layNow
set_option maxRecDepth 20000 in
theorem ggX6_poison_X6_placeIn : GoodIn wsX6_poison wsX6_placeIn := goodIn_r _ [26] (by decide +kernel) (by decide +kernel)
set_option maxRecDepth 20000 in
theorem gX6_poison_X6_placeIn : GoodIn wsX6_poison (va_wsS RX6 75 yX6_placeIn wsX6_placeIn) := goodIn_app (goodIn_of _ (by decide +kernel)) ggX6_poison_X6_placeIn
set_option maxRecDepth 20000 in
theorem ggX6_poison_X6_piecesWith : GoodIn wsX6_poison wsX6_piecesWith := goodIn_r _ [34, 35, 1, 2, 36, 37, 38, 39, 40, 5, 41, 42, 43, 44, 45, 46, 47, 48, 49, 50, 51, 52, 53, 54, 55, 56, 57, 58, 59, 60, 61, 62, 63, 64, 65, 66, 67, 68, 69, 70, 71, 72, 73, 74, 75, 76, 77, 78] (by decide +kernel) (by decide +kernel)
set_option maxRecDepth 20000 in
theorem gX6_poison_X6_piecesWith : GoodIn wsX6_poison (wsV RX6 164 RX6 yX6_piecesWith wsX6_piecesWith) := goodIn_app (goodIn_of _ (by decide +kernel)) ggX6_poison_X6_piecesWith
theorem dX6_poison_0 : decode cX6_poison 0 = .ok (.iload_n 1, 1) := by decide +kernel
theorem dX6_poison_1 : decode cX6_poison 1 = .ok (.iload_n 2, 1) := by decide +kernel
theorem dX6_poison_2 : decode cX6_poison 2 = .ok (.invokestatic 105, 3) := by decide +kernel
theorem dX6_poison_5 : decode cX6_poison 5 = .ok (.ifCond .eq 20, 3) := by decide +kernel
theorem dX6_poison_8 : decode cX6_poison 8 = .ok (.iload_n 2, 1) := by decide +kernel
theorem dX6_poison_9 : decode cX6_poison 9 = .ok (.iload_n 1, 1) := by decide +kernel
theorem dX6_poison_10 : decode cX6_poison 10 = .ok (.isub, 1) := by decide +kernel
theorem dX6_poison_11 : decode cX6_poison 11 = .ok (.bipush 40, 2) := by decide +kernel
theorem dX6_poison_13 : decode cX6_poison 13 = .ok (.if_icmp .gt 12, 3) := by decide +kernel
theorem dX6_poison_16 : decode cX6_poison 16 = .ok (.iload_n 3, 1) := by decide +kernel
theorem dX6_poison_17 : decode cX6_poison 17 = .ok (.iconst 0, 1) := by decide +kernel
theorem dX6_poison_18 : decode cX6_poison 18 = .ok (.iconst 1, 1) := by decide +kernel
theorem dX6_poison_19 : decode cX6_poison 19 = .ok (.invokestatic 62, 3) := by decide +kernel
theorem dX6_poison_22 : decode cX6_poison 22 = .ok (.ifCond .ne 6, 3) := by decide +kernel
theorem dX6_poison_25 : decode cX6_poison 25 = .ok (.bipush (-2), 2) := by decide +kernel
theorem dX6_poison_27 : decode cX6_poison 27 = .ok (.ireturn, 1) := by decide +kernel
theorem dX6_poison_28 : decode cX6_poison 28 = .ok (.aload_n 0, 1) := by decide +kernel
theorem dX6_poison_29 : decode cX6_poison 29 = .ok (.invokevirtual 86, 3) := by decide +kernel
theorem dX6_poison_32 : decode cX6_poison 32 = .ok (.aload_n 0, 1) := by decide +kernel
theorem dX6_poison_33 : decode cX6_poison 33 = .ok (.getfield 66, 3) := by decide +kernel
theorem dX6_poison_36 : decode cX6_poison 36 = .ok (.bipush 60, 2) := by decide +kernel
theorem dX6_poison_38 : decode cX6_poison 38 = .ok (.if_icmp .ne 6, 3) := by decide +kernel
theorem dX6_poison_41 : decode cX6_poison 41 = .ok (.bipush (-4), 2) := by decide +kernel
theorem dX6_poison_43 : decode cX6_poison 43 = .ok (.ireturn, 1) := by decide +kernel
theorem dX6_poison_44 : decode cX6_poison 44 = .ok (.iconst (-1), 1) := by decide +kernel
theorem dX6_poison_45 : decode cX6_poison 45 = .ok (.istore 4, 2) := by decide +kernel
theorem dX6_poison_47 : decode cX6_poison 47 = .ok (.iconst (-1), 1) := by decide +kernel
theorem dX6_poison_48 : decode cX6_poison 48 = .ok (.istore 5, 2) := by decide +kernel
theorem dX6_poison_50 : decode cX6_poison 50 = .ok (.iload_n 1, 1) := by decide +kernel
theorem dX6_poison_51 : decode cX6_poison 51 = .ok (.istore 6, 2) := by decide +kernel
theorem dX6_poison_53 : decode cX6_poison 53 = .ok (.iload 6, 2) := by decide +kernel
theorem dX6_poison_55 : decode cX6_poison 55 = .ok (.iload_n 2, 1) := by decide +kernel
theorem dX6_poison_56 : decode cX6_poison 56 = .ok (.if_icmp .gt 53, 3) := by decide +kernel
theorem dX6_poison_59 : decode cX6_poison 59 = .ok (.aload_n 0, 1) := by decide +kernel
theorem dX6_poison_60 : decode cX6_poison 60 = .ok (.getfield 27, 3) := by decide +kernel
theorem dX6_poison_63 : decode cX6_poison 63 = .ok (.aload_n 0, 1) := by decide +kernel
theorem dX6_poison_64 : decode cX6_poison 64 = .ok (.getfield 66, 3) := by decide +kernel
theorem dX6_poison_67 : decode cX6_poison 67 = .ok (.iload 6, 2) := by decide +kernel
theorem dX6_poison_69 : decode cX6_poison 69 = .ok (.invokestatic 75, 3) := by decide +kernel
theorem dX6_poison_72 : decode cX6_poison 72 = .ok (.iconst (-1), 1) := by decide +kernel
theorem dX6_poison_73 : decode cX6_poison 73 = .ok (.if_icmp .ne 12, 3) := by decide +kernel
theorem dX6_poison_76 : decode cX6_poison 76 = .ok (.aload_n 0, 1) := by decide +kernel
theorem dX6_poison_77 : decode cX6_poison 77 = .ok (.iload 6, 2) := by decide +kernel
theorem dX6_poison_79 : decode cX6_poison 79 = .ok (.invokevirtual 164, 3) := by decide +kernel
theorem dX6_poison_82 : decode cX6_poison 82 = .ok (.goto 4, 3) := by decide +kernel
theorem dX6_poison_85 : decode cX6_poison 85 = .ok (.iconst (-1), 1) := by decide +kernel
theorem dX6_poison_86 : decode cX6_poison 86 = .ok (.istore 7, 2) := by decide +kernel
theorem dX6_poison_88 : decode cX6_poison 88 = .ok (.iload 7, 2) := by decide +kernel
theorem dX6_poison_90 : decode cX6_poison 90 = .ok (.iload 5, 2) := by decide +kernel
theorem dX6_poison_92 : decode cX6_poison 92 = .ok (.if_icmp .le 11, 3) := by decide +kernel
theorem dX6_poison_95 : decode cX6_poison 95 = .ok (.iload 7, 2) := by decide +kernel
theorem dX6_poison_97 : decode cX6_poison 97 = .ok (.istore 5, 2) := by decide +kernel
theorem dX6_poison_99 : decode cX6_poison 99 = .ok (.iload 6, 2) := by decide +kernel
theorem dX6_poison_101 : decode cX6_poison 101 = .ok (.istore 4, 2) := by decide +kernel
theorem dX6_poison_103 : decode cX6_poison 103 = .ok (.iinc 6 1, 3) := by decide +kernel
theorem dX6_poison_106 : decode cX6_poison 106 = .ok (.goto (-53), 3) := by decide +kernel
theorem dX6_poison_109 : decode cX6_poison 109 = .ok (.iload_n 3, 1) := by decide +kernel
theorem dX6_poison_110 : decode cX6_poison 110 = .ok (.ifCond .ne 8, 3) := by decide +kernel
theorem dX6_poison_113 : decode cX6_poison 113 = .ok (.iload 4, 2) := by decide +kernel
theorem dX6_poison_115 : decode cX6_poison 115 = .ok (.goto 5, 3) := by decide +kernel
theorem dX6_poison_118 : decode cX6_poison 118 = .ok (.iload 5, 2) := by decide +kernel
theorem dX6_poison_120 : decode cX6_poison 120 = .ok (.ireturn, 1) := by decide +kernel
set_option maxRecDepth 20000 in
theorem ggX6_count_X6_layNow : GoodIn wsX6_count wsX6_layNow := goodIn_r _ [11, 1, 2, 12, 4, 13, 3, 14, 15, 16, 10, 17, 18, 19, 20, 21, 22, 23, 24, 25, 26, 27, 28, 29, 30, 31, 32, 33, 34, 35, 36, 37, 38, 39, 40, 41, 42, 43, 44, 45, 46, 47] (by decide +kernel) (by decide +kernel)
set_option maxRecDepth 20000 in
theorem gX6_count_X6_layNow : GoodIn wsX6_count (wsV RX6 86 RX6 yX6_layNow wsX6_layNow) := goodIn_app (goodIn_of _ (by decide +kernel)) ggX6_count_X6_layNow
theorem dX6_count_0 : decode cX6_count 0 = .ok (.iconst 0, 1) := by decide +kernel
theorem dX6_count_1 : decode cX6_count 1 = .ok (.istore_n 2, 1) := by decide +kernel
theorem dX6_count_2 : decode cX6_count 2 = .ok (.iload_n 1, 1) := by decide +kernel
theorem dX6_count_3 : decode cX6_count 3 = .ok (.tableswitch 99 0 5 #[37, 46, 51, 56, 61, 66], 37) := by decide +kernel
theorem dX6_count_40 : decode cX6_count 40 = .ok (.aload_n 0, 1) := by decide +kernel
theorem dX6_count_41 : decode cX6_count 41 = .ok (.invokevirtual 86, 3) := by decide +kernel
theorem dX6_count_44 : decode cX6_count 44 = .ok (.aload_n 0, 1) := by decide +kernel
theorem dX6_count_45 : decode cX6_count 45 = .ok (.getfield 66, 3) := by decide +kernel
theorem dX6_count_48 : decode cX6_count 48 = .ok (.ireturn, 1) := by decide +kernel
theorem dX6_count_49 : decode cX6_count 49 = .ok (.aload_n 0, 1) := by decide +kernel
theorem dX6_count_50 : decode cX6_count 50 = .ok (.getfield 69, 3) := by decide +kernel
theorem dX6_count_53 : decode cX6_count 53 = .ok (.ireturn, 1) := by decide +kernel
theorem dX6_count_54 : decode cX6_count 54 = .ok (.aload_n 0, 1) := by decide +kernel
theorem dX6_count_55 : decode cX6_count 55 = .ok (.getfield 83, 3) := by decide +kernel
theorem dX6_count_58 : decode cX6_count 58 = .ok (.ireturn, 1) := by decide +kernel
theorem dX6_count_59 : decode cX6_count 59 = .ok (.aload_n 0, 1) := by decide +kernel
theorem dX6_count_60 : decode cX6_count 60 = .ok (.getfield 72, 3) := by decide +kernel
theorem dX6_count_63 : decode cX6_count 63 = .ok (.ireturn, 1) := by decide +kernel
theorem dX6_count_64 : decode cX6_count 64 = .ok (.aload_n 0, 1) := by decide +kernel
theorem dX6_count_65 : decode cX6_count 65 = .ok (.getfield 92, 3) := by decide +kernel
theorem dX6_count_68 : decode cX6_count 68 = .ok (.ireturn, 1) := by decide +kernel
theorem dX6_count_69 : decode cX6_count 69 = .ok (.iconst 0, 1) := by decide +kernel
theorem dX6_count_70 : decode cX6_count 70 = .ok (.istore_n 3, 1) := by decide +kernel
theorem dX6_count_71 : decode cX6_count 71 = .ok (.iload_n 3, 1) := by decide +kernel
theorem dX6_count_72 : decode cX6_count 72 = .ok (.bipush 64, 2) := by decide +kernel
theorem dX6_count_74 : decode cX6_count 74 = .ok (.if_icmp .ge 26, 3) := by decide +kernel
theorem dX6_count_77 : decode cX6_count 77 = .ok (.iload_n 2, 1) := by decide +kernel
theorem dX6_count_78 : decode cX6_count 78 = .ok (.aload_n 0, 1) := by decide +kernel
theorem dX6_count_79 : decode cX6_count 79 = .ok (.getfield 23, 3) := by decide +kernel
theorem dX6_count_82 : decode cX6_count 82 = .ok (.iload_n 3, 1) := by decide +kernel
theorem dX6_count_83 : decode cX6_count 83 = .ok (.baload, 1) := by decide +kernel
theorem dX6_count_84 : decode cX6_count 84 = .ok (.ifCond .eq 7, 3) := by decide +kernel
theorem dX6_count_87 : decode cX6_count 87 = .ok (.iconst 1, 1) := by decide +kernel
theorem dX6_count_88 : decode cX6_count 88 = .ok (.goto 4, 3) := by decide +kernel
theorem dX6_count_91 : decode cX6_count 91 = .ok (.iconst 0, 1) := by decide +kernel
theorem dX6_count_92 : decode cX6_count 92 = .ok (.iadd, 1) := by decide +kernel
theorem dX6_count_93 : decode cX6_count 93 = .ok (.istore_n 2, 1) := by decide +kernel
theorem dX6_count_94 : decode cX6_count 94 = .ok (.iinc 3 1, 3) := by decide +kernel
theorem dX6_count_97 : decode cX6_count 97 = .ok (.goto (-26), 3) := by decide +kernel
theorem dX6_count_100 : decode cX6_count 100 = .ok (.iload_n 2, 1) := by decide +kernel
theorem dX6_count_101 : decode cX6_count 101 = .ok (.ireturn, 1) := by decide +kernel
theorem dX6_count_102 : decode cX6_count 102 = .ok (.bipush (-2), 2) := by decide +kernel
theorem dX6_count_104 : decode cX6_count 104 = .ok (.ireturn, 1) := by decide +kernel
end
section
theorem dJ13_bitCount_95d88_0 : decode cJ13_bitCount_95d88 0 = .ok (.lload_n 0, 1) := by decide +kernel
theorem dJ13_bitCount_95d88_1 : decode cJ13_bitCount_95d88 1 = .ok (.lload_n 0, 1) := by decide +kernel
theorem dJ13_bitCount_95d88_2 : decode cJ13_bitCount_95d88 2 = .ok (.iconst 1, 1) := by decide +kernel
theorem dJ13_bitCount_95d88_3 : decode cJ13_bitCount_95d88 3 = .ok (.lushr, 1) := by decide +kernel
theorem dJ13_bitCount_95d88_4 : decode cJ13_bitCount_95d88 4 = .ok (.ldc2_w 314, 3) := by decide +kernel
theorem dJ13_bitCount_95d88_7 : decode cJ13_bitCount_95d88 7 = .ok (.land, 1) := by decide +kernel
theorem dJ13_bitCount_95d88_8 : decode cJ13_bitCount_95d88 8 = .ok (.lsub, 1) := by decide +kernel
theorem dJ13_bitCount_95d88_9 : decode cJ13_bitCount_95d88 9 = .ok (.lstore_n 0, 1) := by decide +kernel
theorem dJ13_bitCount_95d88_10 : decode cJ13_bitCount_95d88 10 = .ok (.lload_n 0, 1) := by decide +kernel
theorem dJ13_bitCount_95d88_11 : decode cJ13_bitCount_95d88 11 = .ok (.ldc2_w 316, 3) := by decide +kernel
theorem dJ13_bitCount_95d88_14 : decode cJ13_bitCount_95d88 14 = .ok (.land, 1) := by decide +kernel
theorem dJ13_bitCount_95d88_15 : decode cJ13_bitCount_95d88 15 = .ok (.lload_n 0, 1) := by decide +kernel
theorem dJ13_bitCount_95d88_16 : decode cJ13_bitCount_95d88 16 = .ok (.iconst 2, 1) := by decide +kernel
theorem dJ13_bitCount_95d88_17 : decode cJ13_bitCount_95d88 17 = .ok (.lushr, 1) := by decide +kernel
theorem dJ13_bitCount_95d88_18 : decode cJ13_bitCount_95d88 18 = .ok (.ldc2_w 316, 3) := by decide +kernel
theorem dJ13_bitCount_95d88_21 : decode cJ13_bitCount_95d88 21 = .ok (.land, 1) := by decide +kernel
theorem dJ13_bitCount_95d88_22 : decode cJ13_bitCount_95d88 22 = .ok (.ladd, 1) := by decide +kernel
theorem dJ13_bitCount_95d88_23 : decode cJ13_bitCount_95d88 23 = .ok (.lstore_n 0, 1) := by decide +kernel
theorem dJ13_bitCount_95d88_24 : decode cJ13_bitCount_95d88 24 = .ok (.lload_n 0, 1) := by decide +kernel
theorem dJ13_bitCount_95d88_25 : decode cJ13_bitCount_95d88 25 = .ok (.lload_n 0, 1) := by decide +kernel
theorem dJ13_bitCount_95d88_26 : decode cJ13_bitCount_95d88 26 = .ok (.iconst 4, 1) := by decide +kernel
theorem dJ13_bitCount_95d88_27 : decode cJ13_bitCount_95d88 27 = .ok (.lushr, 1) := by decide +kernel
theorem dJ13_bitCount_95d88_28 : decode cJ13_bitCount_95d88 28 = .ok (.ladd, 1) := by decide +kernel
theorem dJ13_bitCount_95d88_29 : decode cJ13_bitCount_95d88 29 = .ok (.ldc2_w 318, 3) := by decide +kernel
theorem dJ13_bitCount_95d88_32 : decode cJ13_bitCount_95d88 32 = .ok (.land, 1) := by decide +kernel
theorem dJ13_bitCount_95d88_33 : decode cJ13_bitCount_95d88 33 = .ok (.lstore_n 0, 1) := by decide +kernel
theorem dJ13_bitCount_95d88_34 : decode cJ13_bitCount_95d88 34 = .ok (.lload_n 0, 1) := by decide +kernel
theorem dJ13_bitCount_95d88_35 : decode cJ13_bitCount_95d88 35 = .ok (.lload_n 0, 1) := by decide +kernel
theorem dJ13_bitCount_95d88_36 : decode cJ13_bitCount_95d88 36 = .ok (.bipush 8, 2) := by decide +kernel
theorem dJ13_bitCount_95d88_38 : decode cJ13_bitCount_95d88 38 = .ok (.lushr, 1) := by decide +kernel
theorem dJ13_bitCount_95d88_39 : decode cJ13_bitCount_95d88 39 = .ok (.ladd, 1) := by decide +kernel
theorem dJ13_bitCount_95d88_40 : decode cJ13_bitCount_95d88 40 = .ok (.lstore_n 0, 1) := by decide +kernel
theorem dJ13_bitCount_95d88_41 : decode cJ13_bitCount_95d88 41 = .ok (.lload_n 0, 1) := by decide +kernel
theorem dJ13_bitCount_95d88_42 : decode cJ13_bitCount_95d88 42 = .ok (.lload_n 0, 1) := by decide +kernel
theorem dJ13_bitCount_95d88_43 : decode cJ13_bitCount_95d88 43 = .ok (.bipush 16, 2) := by decide +kernel
theorem dJ13_bitCount_95d88_45 : decode cJ13_bitCount_95d88 45 = .ok (.lushr, 1) := by decide +kernel
theorem dJ13_bitCount_95d88_46 : decode cJ13_bitCount_95d88 46 = .ok (.ladd, 1) := by decide +kernel
theorem dJ13_bitCount_95d88_47 : decode cJ13_bitCount_95d88 47 = .ok (.lstore_n 0, 1) := by decide +kernel
theorem dJ13_bitCount_95d88_48 : decode cJ13_bitCount_95d88 48 = .ok (.lload_n 0, 1) := by decide +kernel
theorem dJ13_bitCount_95d88_49 : decode cJ13_bitCount_95d88 49 = .ok (.lload_n 0, 1) := by decide +kernel
theorem dJ13_bitCount_95d88_50 : decode cJ13_bitCount_95d88 50 = .ok (.bipush 32, 2) := by decide +kernel
theorem dJ13_bitCount_95d88_52 : decode cJ13_bitCount_95d88 52 = .ok (.lushr, 1) := by decide +kernel
theorem dJ13_bitCount_95d88_53 : decode cJ13_bitCount_95d88 53 = .ok (.ladd, 1) := by decide +kernel
theorem dJ13_bitCount_95d88_54 : decode cJ13_bitCount_95d88 54 = .ok (.lstore_n 0, 1) := by decide +kernel
theorem dJ13_bitCount_95d88_55 : decode cJ13_bitCount_95d88 55 = .ok (.lload_n 0, 1) := by decide +kernel
theorem dJ13_bitCount_95d88_56 : decode cJ13_bitCount_95d88 56 = .ok (.l2i, 1) := by decide +kernel
theorem dJ13_bitCount_95d88_57 : decode cJ13_bitCount_95d88 57 = .ok (.bipush 127, 2) := by decide +kernel
theorem dJ13_bitCount_95d88_59 : decode cJ13_bitCount_95d88 59 = .ok (.iand, 1) := by decide +kernel
theorem dJ13_bitCount_95d88_60 : decode cJ13_bitCount_95d88 60 = .ok (.ireturn, 1) := by decide +kernel
theorem dJ9_floorDiv_7cf53_0 : decode cJ9_floorDiv_7cf53 0 = .ok (.iload_n 0, 1) := by decide +kernel
theorem dJ9_floorDiv_7cf53_1 : decode cJ9_floorDiv_7cf53 1 = .ok (.iload_n 1, 1) := by decide +kernel
theorem dJ9_floorDiv_7cf53_2 : decode cJ9_floorDiv_7cf53 2 = .ok (.idiv, 1) := by decide +kernel
theorem dJ9_floorDiv_7cf53_3 : decode cJ9_floorDiv_7cf53 3 = .ok (.istore_n 2, 1) := by decide +kernel
theorem dJ9_floorDiv_7cf53_4 : decode cJ9_floorDiv_7cf53 4 = .ok (.iload_n 0, 1) := by decide +kernel
theorem dJ9_floorDiv_7cf53_5 : decode cJ9_floorDiv_7cf53 5 = .ok (.iload_n 1, 1) := by decide +kernel
theorem dJ9_floorDiv_7cf53_6 : decode cJ9_floorDiv_7cf53 6 = .ok (.ixor, 1) := by decide +kernel
theorem dJ9_floorDiv_7cf53_7 : decode cJ9_floorDiv_7cf53 7 = .ok (.ifCond .ge 14, 3) := by decide +kernel
theorem dJ9_floorDiv_7cf53_10 : decode cJ9_floorDiv_7cf53 10 = .ok (.iload_n 2, 1) := by decide +kernel
theorem dJ9_floorDiv_7cf53_11 : decode cJ9_floorDiv_7cf53 11 = .ok (.iload_n 1, 1) := by decide +kernel
theorem dJ9_floorDiv_7cf53_12 : decode cJ9_floorDiv_7cf53 12 = .ok (.imul, 1) := by decide +kernel
theorem dJ9_floorDiv_7cf53_13 : decode cJ9_floorDiv_7cf53 13 = .ok (.iload_n 0, 1) := by decide +kernel
theorem dJ9_floorDiv_7cf53_14 : decode cJ9_floorDiv_7cf53 14 = .ok (.if_icmp .eq 7, 3) := by decide +kernel
theorem dJ9_floorDiv_7cf53_17 : decode cJ9_floorDiv_7cf53 17 = .ok (.iload_n 2, 1) := by decide +kernel
theorem dJ9_floorDiv_7cf53_18 : decode cJ9_floorDiv_7cf53 18 = .ok (.iconst 1, 1) := by decide +kernel
theorem dJ9_floorDiv_7cf53_19 : decode cJ9_floorDiv_7cf53 19 = .ok (.isub, 1) := by decide +kernel
theorem dJ9_floorDiv_7cf53_20 : decode cJ9_floorDiv_7cf53 20 = .ok (.ireturn, 1) := by decide +kernel
theorem dJ9_floorDiv_7cf53_21 : decode cJ9_floorDiv_7cf53 21 = .ok (.iload_n 2, 1) := by decide +kernel
theorem dJ9_floorDiv_7cf53_22 : decode cJ9_floorDiv_7cf53 22 = .ok (.ireturn, 1) := by decide +kernel
theorem dJ9_max_7cf53_0 : decode cJ9_max_7cf53 0 = .ok (.iload_n 0, 1) := by decide +kernel
theorem dJ9_max_7cf53_1 : decode cJ9_max_7cf53 1 = .ok (.iload_n 1, 1) := by decide +kernel
theorem dJ9_max_7cf53_2 : decode cJ9_max_7cf53 2 = .ok (.if_icmp .lt 7, 3) := by decide +kernel
theorem dJ9_max_7cf53_5 : decode cJ9_max_7cf53 5 = .ok (.iload_n 0, 1) := by decide +kernel
theorem dJ9_max_7cf53_6 : decode cJ9_max_7cf53 6 = .ok (.goto 4, 3) := by decide +kernel
theorem dJ9_max_7cf53_9 : decode cJ9_max_7cf53 9 = .ok (.iload_n 1, 1) := by decide +kernel
theorem dJ9_max_7cf53_10 : decode cJ9_max_7cf53 10 = .ok (.ireturn, 1) := by decide +kernel
theorem dJ9_min_7cf53_0 : decode cJ9_min_7cf53 0 = .ok (.iload_n 0, 1) := by decide +kernel
theorem dJ9_min_7cf53_1 : decode cJ9_min_7cf53 1 = .ok (.iload_n 1, 1) := by decide +kernel
theorem dJ9_min_7cf53_2 : decode cJ9_min_7cf53 2 = .ok (.if_icmp .gt 7, 3) := by decide +kernel
theorem dJ9_min_7cf53_5 : decode cJ9_min_7cf53 5 = .ok (.iload_n 0, 1) := by decide +kernel
theorem dJ9_min_7cf53_6 : decode cJ9_min_7cf53 6 = .ok (.goto 4, 3) := by decide +kernel
theorem dJ9_min_7cf53_9 : decode cJ9_min_7cf53 9 = .ok (.iload_n 1, 1) := by decide +kernel
theorem dJ9_min_7cf53_10 : decode cJ9_min_7cf53 10 = .ok (.ireturn, 1) := by decide +kernel
set_option maxRecDepth 20000 in
theorem ggL_law_X5_init : GoodIn wsL_law wsX5_init := goodIn_r _ [8, 9, 10, 11, 12, 13, 14, 15, 16, 17, 18, 19, 20, 21, 22, 23, 24, 25, 26, 27, 28, 29, 30, 31, 32, 33, 34, 35, 36, 37, 38, 39, 40, 41, 42, 43, 44, 45, 46, 47, 48, 49, 50, 51, 52, 53, 54, 55, 56, 57, 58, 59, 60, 61, 62, 63, 64, 65, 66, 67, 68, 586, 587, 550, 551, 552, 553, 554, 555, 556, 557, 558, 559, 560, 588, 589, 590, 591, 592, 593, 594, 595, 596, 597, 598, 599, 600, 601, 602, 603, 604] (by decide +kernel) (by decide +kernel)
set_option maxRecDepth 20000 in
theorem gL_law_X5_init : GoodIn wsL_law (wsX5_init) := ggL_law_X5_init
set_option maxRecDepth 20000 in
theorem ggL_law_X6_init : GoodIn wsL_law wsX6_init := goodIn_r _ [71, 72, 10, 11, 39, 73, 74, 75, 76, 77, 78, 79, 80, 81, 82, 83, 84, 85, 86, 87, 88, 89, 90, 91, 92, 5, 93, 94, 95, 96, 97, 98, 99, 100, 101, 102, 103, 104, 105, 106, 107, 108, 109, 110, 111, 112, 113, 114, 115, 116, 117, 118, 119, 120, 121, 561, 562, 563, 564, 565, 566, 567, 568, 569, 570, 571, 572, 573, 574, 575, 576, 577, 578, 579, 580, 581, 582, 583, 584, 585] (by decide +kernel) (by decide +kernel)
set_option maxRecDepth 20000 in
theorem gL_law_X6_init : GoodIn wsL_law (wsX6_init) := ggL_law_X6_init
set_option maxRecDepth 20000 in
theorem ggL_law_X5_put : GoodIn wsL_law wsX5_put := goodIn_r _ [125, 15, 16, 126, 127, 29, 128, 129, 2, 130, 131, 132, 133, 134, 14, 135, 136, 40, 137, 138, 139, 140, 141, 142, 143, 144, 145, 146, 147, 148, 149, 150, 151, 152, 153, 25, 21, 34, 154, 155, 156, 157, 158, 159, 160, 161, 162, 163, 164, 165, 166, 167, 168, 169, 28, 170, 171, 172, 173, 174, 175, 176, 177, 178, 179, 180, 181, 182, 24, 183, 184, 185, 55, 186, 187, 188, 189, 190, 20, 191, 192, 193, 194, 195, 45, 46, 196, 197, 198, 199, 200, 201, 47, 48, 49, 202, 203, 204, 205, 56, 206, 207, 208, 209, 57, 58, 59, 60, 61, 210, 211, 212, 213, 214, 215, 216, 217, 218, 219, 220, 221, 222, 223, 224, 225, 226, 227, 228, 229, 230, 231, 232, 233, 234, 235, 236, 237, 238, 239, 240, 241, 242, 243, 244, 245, 246, 247, 248, 249, 250, 251, 252, 253, 254, 550, 551, 552, 553, 554, 555, 556, 557, 558, 559, 560, 586, 587, 602, 593, 594, 595, 596, 597, 598, 599, 600, 601, 588, 589, 590, 591, 592] (by decide +kernel) (by decide +kernel)
set_option maxRecDepth 20000 in
theorem gL_law_X5_put : GoodIn wsL_law (wsV RL 13 RX5 yX5_put wsX5_put) := goodIn_app (goodIn_of _ (by decide +kernel)) ggL_law_X5_put
set_option maxRecDepth 20000 in
theorem ggL_law_X6_put : GoodIn wsL_law wsX6_put := goodIn_r _ [258, 259, 76, 260, 261, 75, 262, 263, 5, 264, 265, 266, 267, 268, 269, 270, 271, 272, 79, 273, 274, 275, 276, 95, 73, 277, 278, 279, 280, 281, 282, 283, 284, 285, 286, 287, 78, 288, 289, 290, 291, 292, 90, 91, 92, 93, 94, 96, 80, 83, 86, 97, 98, 99, 100, 101, 102, 84, 85, 88, 89, 103, 104, 105, 106, 82, 81, 107, 108, 109, 110, 74, 111, 112, 113, 114, 115, 116, 117, 118, 119, 120, 121, 561, 562, 563, 564, 565, 566, 567, 568, 569, 570, 571, 572, 573, 574, 575, 576, 577, 578, 579, 580, 581, 582, 583, 584, 585] (by decide +kernel) (by decide +kernel)
set_option maxRecDepth 20000 in
theorem gL_law_X6_put : GoodIn wsL_law (wsV RL 17 RX6 yX6_put wsX6_put) := goodIn_app (goodIn_of _ (by decide +kernel)) ggL_law_X6_put
set_option maxRecDepth 20000 in
theorem ggL_law_X5_take : GoodIn wsL_law wsX5_take := goodIn_r _ [296, 15, 16, 126, 127, 128, 129, 2, 130, 131, 132, 133, 134, 14, 135, 136, 40, 137, 138, 139, 140, 145, 146, 147, 148, 149, 150, 151, 152, 153, 29, 25, 21, 34, 154, 155, 156, 157, 158, 142, 143, 144, 159, 160, 161, 162, 163, 164, 165, 166, 141, 167, 168, 169, 28, 170, 171, 172, 173, 174, 175, 176, 177, 178, 179, 180, 181, 182, 24, 183, 184, 185, 55, 186, 187, 188, 189, 190, 20, 191, 192, 193, 194, 195, 45, 46, 196, 197, 198, 199, 200, 201, 47, 48, 49, 202, 203, 204, 205, 56, 206, 207, 208, 209, 57, 58, 59, 60, 61, 210, 211, 212, 213, 214, 215, 216, 217, 218, 219, 220, 221, 222, 223, 224, 225, 226, 227, 228, 229, 230, 231, 232, 233, 234, 235, 236, 237, 238, 239, 240, 241, 242, 243, 244, 245, 246, 247, 248, 249, 297, 298, 299, 300, 254, 550, 551, 552, 553, 554, 555, 556, 557, 558, 559, 560, 586, 587, 602, 593, 594, 595, 596, 597, 598, 599, 600, 601, 588, 589, 590, 591, 592] (by decide +kernel) (by decide +kernel)
set_option maxRecDepth 20000 in
theorem gL_law_X5_take : GoodIn wsL_law (wsV RL 18 RX5 yX5_take wsX5_take) := goodIn_app (goodIn_of _ (by decide +kernel)) ggL_law_X5_take
set_option maxRecDepth 20000 in
theorem ggL_law_X6_take : GoodIn wsL_law wsX6_take := goodIn_r _ [304, 75, 261, 260, 76, 259, 262, 263, 5, 264, 265, 266, 267, 268, 269, 270, 271, 272, 79, 273, 274, 275, 276, 95, 73, 277, 278, 279, 280, 281, 282, 283, 284, 285, 286, 287, 78, 288, 289, 290, 291, 292, 90, 91, 92, 93, 94, 96, 80, 83, 86, 97, 98, 99, 100, 101, 102, 84, 85, 88, 89, 103, 104, 105, 106, 82, 81, 107, 108, 109, 110, 74, 111, 112, 113, 114, 115, 116, 117, 118, 119, 120, 121, 561, 562, 563, 564, 565, 566, 567, 568, 569, 570, 571, 572, 573, 574, 575, 576, 577, 578, 579, 580, 581, 582, 583, 584, 585] (by decide +kernel) (by decide +kernel)
set_option maxRecDepth 20000 in
theorem gL_law_X6_take : GoodIn wsL_law (wsV RL 21 RX6 yX6_take wsX6_take) := goodIn_app (goodIn_of _ (by decide +kernel)) ggL_law_X6_take
set_option maxRecDepth 20000 in
theorem ggL_law_X5_make : GoodIn wsL_law wsX5_make := goodIn_r _ [308, 153, 149, 150, 151, 2, 152, 16, 15, 127, 126, 29, 25, 21, 34, 154, 155, 156, 14, 157, 136, 158, 142, 143, 144, 159, 160, 161, 162, 40, 163, 164, 165, 166, 141, 167, 168, 169, 28, 170, 171, 172, 173, 174, 175, 176, 177, 178, 179, 180, 181, 182, 24, 183, 184, 185, 55, 186, 187, 188, 189, 190, 20, 191, 192, 193, 194, 195, 45, 46, 196, 197, 198, 199, 200, 201, 47, 48, 49, 202, 203, 204, 205, 56, 206, 207, 208, 209, 57, 58, 59, 60, 61, 210, 211, 212, 213, 214, 215, 216, 217, 218, 219, 220, 221, 222, 223, 224, 225, 226, 227, 228, 229, 230, 231, 232, 233, 234, 235, 236, 237, 238, 239, 240, 241, 242, 243, 244, 245, 246, 247, 248, 249, 550, 551, 552, 553, 554, 555, 556, 557, 558, 559, 560, 586, 587, 602, 593, 594, 595, 596, 597, 598, 599, 600, 601, 588, 589, 590, 591, 592] (by decide +kernel) (by decide +kernel)
set_option maxRecDepth 20000 in
theorem gL_law_X5_make : GoodIn wsL_law (wsV RL 22 RX5 yX5_make wsX5_make) := goodIn_app (goodIn_of _ (by decide +kernel)) ggL_law_X5_make
set_option maxRecDepth 20000 in
theorem ggL_law_X6_make : GoodIn wsL_law wsX6_make := goodIn_r _ [312, 288, 284, 285, 286, 5, 287, 78, 259, 95, 73, 79, 261, 260, 273, 274, 275, 276, 76, 75, 277, 278, 279, 280, 281, 282, 283, 289, 290, 291, 292, 90, 91, 92, 93, 94, 96, 80, 83, 86, 97, 98, 99, 100, 101, 102, 84, 85, 88, 89, 103, 104, 105, 106, 82, 81, 107, 108, 109, 110, 74, 111, 112, 113, 114, 115, 116, 117, 118, 119, 120, 121, 561, 562, 563, 564, 565, 566, 567, 568, 569, 570, 571, 572, 573, 574, 575, 576, 577, 578, 579, 580, 581, 582, 583, 584, 585] (by decide +kernel) (by decide +kernel)
set_option maxRecDepth 20000 in
theorem gL_law_X6_make : GoodIn wsL_law (wsV RL 26 RX6 yX6_make wsX6_make) := goodIn_app (goodIn_of _ (by decide +kernel)) ggL_law_X6_make
set_option maxRecDepth 20000 in
theorem ggL_law_X5_slack : GoodIn wsL_law wsX5_slack := goodIn_r _ [316, 34, 149, 150, 151, 2, 152, 16, 15, 127, 126, 153, 29, 25, 21, 154, 155, 156, 14, 157, 136, 158, 142, 143, 144, 159, 160, 161, 162, 40, 163, 164, 165, 166, 141, 167, 168, 169, 28, 170, 171, 172, 173, 174, 175, 176, 177, 178, 179, 180, 181, 182, 24, 183, 184, 185, 55, 186, 187, 188, 189, 190, 20, 191, 192, 193, 194, 195, 45, 46, 196, 197, 198, 199, 200, 201, 47, 48, 49, 202, 203, 204, 205, 56, 206, 207, 208, 209, 57, 58, 59, 60, 61, 210, 211, 212, 213, 214, 215, 216, 217, 218, 219, 220, 221, 222, 223, 224, 225, 226, 227, 228, 229, 230, 231, 232, 233, 234, 235, 236, 237, 238, 239, 240, 241, 242, 243, 244, 245, 246, 247, 248, 249, 550, 551, 552, 553, 554, 555, 556, 557, 558, 559, 560, 586, 587, 602, 593, 594, 595, 596, 597, 598, 599, 600, 601, 588, 589, 590, 591, 592] (by decide +kernel) (by decide +kernel)
set_option maxRecDepth 20000 in
theorem gL_law_X5_slack : GoodIn wsL_law (wsV RL 27 RX5 yX5_slack wsX5_slack) := goodIn_app (goodIn_of _ (by decide +kernel)) ggL_law_X5_slack
set_option maxRecDepth 20000 in
theorem ggL_law_X6_slack : GoodIn wsL_law wsX6_slack := goodIn_r _ [320, 74, 266, 267, 5, 268, 284, 285, 286, 287, 78, 259, 95, 73, 79, 261, 260, 288, 273, 274, 275, 276, 76, 75, 277, 278, 279, 280, 281, 282, 283, 289, 290, 291, 292, 90, 91, 92, 93, 94, 96, 80, 83, 86, 97, 98, 99, 100, 101, 102, 84, 85, 88, 89, 103, 104, 105, 106, 82, 81, 107, 108, 109, 110, 111, 112, 113, 114, 115, 116, 117, 118, 119, 120, 121, 561, 562, 563, 564, 565, 566, 567, 568, 569, 570, 571, 572, 573, 574, 575, 576, 577, 578, 579, 580, 581, 582, 583, 584, 585] (by decide +kernel) (by decide +kernel)
set_option maxRecDepth 20000 in
theorem gL_law_X6_slack : GoodIn wsL_law (wsV RL 30 RX6 yX6_slack wsX6_slack) := goodIn_app (goodIn_of _ (by decide +kernel)) ggL_law_X6_slack
set_option maxRecDepth 20000 in
theorem ggL_law_X5_place : GoodIn wsL_law wsX5_place := goodIn_r _ [324, 15, 128, 129, 2, 130, 131, 132, 133, 134, 14, 135, 136, 40, 137, 138, 139, 140, 325, 550, 551, 552, 553, 554, 555, 556, 557, 558, 559, 560, 586, 587] (by decide +kernel) (by decide +kernel)
set_option maxRecDepth 20000 in
theorem gL_law_X5_place : GoodIn wsL_law (wsV RL 31 RX5 yX5_place wsX5_place) := goodIn_app (goodIn_of _ (by decide +kernel)) ggL_law_X5_place
set_option maxRecDepth 20000 in
theorem ggL_law_X6_place : GoodIn wsL_law wsX6_place := goodIn_r _ [329, 79, 259, 262, 263, 5, 264, 265, 266, 267, 268, 273, 274, 275, 276, 95, 76, 260, 73, 261, 75, 277, 278, 279, 280, 281, 282, 283, 561, 562, 563, 564, 565, 566, 567, 568, 569, 570, 571, 572, 573, 574, 575, 576, 577, 578, 579, 580, 581, 582, 583, 584, 585] (by decide +kernel) (by decide +kernel)
set_option maxRecDepth 20000 in
theorem gL_law_X6_place : GoodIn wsL_law (wsV RL 34 RX6 yX6_place wsX6_place) := goodIn_app (goodIn_of _ (by decide +kernel)) ggL_law_X6_place
set_option maxRecDepth 20000 in
theorem ggL_law_X5_at : GoodIn wsL_law wsX5_at := goodIn_r _ [333, 15, 141, 142, 143, 14, 144, 136, 172, 160, 161, 162, 40, 550, 551, 552, 553, 554, 555, 556, 557, 558, 559, 560, 586, 587] (by decide +kernel) (by decide +kernel)
set_option maxRecDepth 20000 in
theorem gL_law_X5_at : GoodIn wsL_law (wsV RL 35 RX5 yX5_at wsX5_at) := goodIn_app (goodIn_of _ (by decide +kernel)) ggL_law_X5_at
set_option maxRecDepth 20000 in
theorem ggL_law_X6_at : GoodIn wsL_law wsX6_at := goodIn_r _ [337, 259, 79, 273, 274, 275, 5, 276, 95, 76, 260, 73, 261, 75, 277, 278, 279, 280, 281, 282, 283, 266, 267, 268, 561, 562, 563, 564, 565, 566, 567, 568, 569, 570, 571, 572, 573, 574, 575, 576, 577, 578, 579, 580, 581, 582, 583, 584, 585] (by decide +kernel) (by decide +kernel)
set_option maxRecDepth 20000 in
theorem gL_law_X6_at : GoodIn wsL_law (wsV RL 38 RX6 yX6_at wsX6_at) := goodIn_app (goodIn_of _ (by decide +kernel)) ggL_law_X6_at
set_option maxRecDepth 20000 in
theorem ggL_law_X5_range : GoodIn wsL_law wsX5_range := goodIn_r _ [341, 131, 15, 342, 343, 2, 344, 128, 129, 130, 345, 346, 347, 14, 348, 137, 138, 139, 140, 136, 40, 550, 551, 552, 553, 554, 555, 556, 557, 558, 559, 560, 586, 587] (by decide +kernel) (by decide +kernel)
set_option maxRecDepth 20000 in
theorem gL_law_X5_range : GoodIn wsL_law (wsV RL 39 RX5 yX5_range wsX5_range) := goodIn_app (goodIn_of _ (by decide +kernel)) ggL_law_X5_range
set_option maxRecDepth 20000 in
theorem ggL_law_X6_range : GoodIn wsL_law wsX6_range := goodIn_r _ [352, 259, 79, 353, 354, 5, 355, 262, 263, 264, 265, 266, 267, 268, 273, 274, 275, 276, 95, 76, 260, 73, 261, 75, 277, 278, 279, 280, 281, 282, 283, 561, 562, 563, 564, 565, 566, 567, 568, 569, 570, 571, 572, 573, 574, 575, 576, 577, 578, 579, 580, 581, 582, 583, 584, 585] (by decide +kernel) (by decide +kernel)
set_option maxRecDepth 20000 in
theorem gL_law_X6_range : GoodIn wsL_law (wsV RL 43 RX6 yX6_range wsX6_range) := goodIn_app (goodIn_of _ (by decide +kernel)) ggL_law_X6_range
set_option maxRecDepth 20000 in
theorem ggL_law_X5_sum : GoodIn wsL_law wsX5_sum := goodIn_r _ [359, 131, 360, 15, 342, 343, 2, 344, 128, 129, 130, 361, 362, 363, 14, 364, 137, 138, 139, 140, 136, 40, 159, 160, 161, 162, 550, 551, 552, 553, 554, 555, 556, 557, 558, 559, 560, 586, 587] (by decide +kernel) (by decide +kernel)
set_option maxRecDepth 20000 in
theorem gL_law_X5_sum : GoodIn wsL_law (wsV RL 44 RX5 yX5_sum wsX5_sum) := goodIn_app (goodIn_of _ (by decide +kernel)) ggL_law_X5_sum
set_option maxRecDepth 20000 in
theorem ggL_law_X6_sum : GoodIn wsL_law wsX6_sum := goodIn_r _ [368, 369, 259, 79, 353, 354, 5, 355, 262, 263, 264, 265, 266, 267, 268, 273, 274, 275, 276, 95, 76, 260, 73, 261, 75, 277, 278, 279, 280, 281, 282, 283, 561, 562, 563, 564, 565, 566, 567, 568, 569, 570, 571, 572, 573, 574, 575, 576, 577, 578, 579, 580, 581, 582, 583, 584, 585] (by decide +kernel) (by decide +kernel)
set_option maxRecDepth 20000 in
theorem gL_law_X6_sum : GoodIn wsL_law (wsV RL 48 RX6 yX6_sum wsX6_sum) := goodIn_app (goodIn_of _ (by decide +kernel)) ggL_law_X6_sum
set_option maxRecDepth 20000 in
theorem ggL_law_X5_pieces : GoodIn wsL_law wsX5_pieces := goodIn_r _ [373, 25, 374, 230, 231, 24, 232, 184, 56, 550, 551, 552, 553, 554, 555, 556, 557, 558, 559, 560, 593, 594, 595, 596, 597, 598, 599, 600, 601] (by decide +kernel) (by decide +kernel)
set_option maxRecDepth 20000 in
theorem gL_law_X5_pieces : GoodIn wsL_law (wsV RL 49 RX5 yX5_pieces wsX5_pieces) := goodIn_app (goodIn_of _ (by decide +kernel)) ggL_law_X5_pieces
set_option maxRecDepth 20000 in
theorem ggL_law_X6_pieces : GoodIn wsL_law wsX6_pieces := goodIn_r _ [378, 266, 267, 5, 268, 379, 380, 381, 382, 94, 83, 561, 562, 563, 564, 565, 566, 567, 568, 569, 570, 571, 572, 573, 574, 575, 576, 577, 578, 579, 580, 581, 582, 583, 584, 585] (by decide +kernel) (by decide +kernel)
set_option maxRecDepth 20000 in
theorem gL_law_X6_pieces : GoodIn wsL_law (wsV RL 52 RX6 yX6_pieces wsX6_pieces) := goodIn_app (goodIn_of _ (by decide +kernel)) ggL_law_X6_pieces
set_option maxRecDepth 20000 in
theorem ggL_law_X5_piece : GoodIn wsL_law wsX5_piece := goodIn_r _ [386, 25, 387, 242, 243, 24, 244, 56, 57, 58, 59, 60, 61, 229, 230, 231, 232, 184, 245, 246, 247, 248, 185, 550, 551, 552, 553, 554, 555, 556, 557, 558, 559, 560, 593, 594, 595, 596, 597, 598, 599, 600, 601] (by decide +kernel) (by decide +kernel)
set_option maxRecDepth 20000 in
theorem gL_law_X5_piece : GoodIn wsL_law (wsV RL 53 RX5 yX5_piece wsX5_piece) := goodIn_app (goodIn_of _ (by decide +kernel)) ggL_law_X5_piece
set_option maxRecDepth 20000 in
theorem ggL_law_X6_piece : GoodIn wsL_law wsX6_piece := goodIn_r _ [391, 84, 85, 86, 88, 89, 266, 267, 5, 268, 379, 380, 381, 382, 94, 83, 561, 562, 563, 564, 565, 566, 567, 568, 569, 570, 571, 572, 573, 574, 575, 576, 577, 578, 579, 580, 581, 582, 583, 584, 585] (by decide +kernel) (by decide +kernel)
set_option maxRecDepth 20000 in
theorem gL_law_X6_piece : GoodIn wsL_law (wsV RL 57 RX6 yX6_piece wsX6_piece) := goodIn_app (goodIn_of _ (by decide +kernel)) ggL_law_X6_piece
set_option maxRecDepth 20000 in
theorem ggL_law_X5_levels : GoodIn wsL_law wsX5_levels := goodIn_r _ [395, 25, 396, 397, 398, 24, 399, 184, 550, 551, 552, 553, 554, 555, 556, 557, 558, 559, 560, 593, 594, 595, 596, 597, 598, 599, 600, 601] (by decide +kernel) (by decide +kernel)
set_option maxRecDepth 20000 in
theorem gL_law_X5_levels : GoodIn wsL_law (wsV RL 58 RX5 yX5_levels wsX5_levels) := goodIn_app (goodIn_of _ (by decide +kernel)) ggL_law_X5_levels
set_option maxRecDepth 20000 in
theorem ggL_law_X6_levels : GoodIn wsL_law wsX6_levels := goodIn_r _ [403, 94, 561, 562, 563, 564, 565, 566, 567, 568, 569, 570, 571, 572, 573, 574, 575, 576, 577, 578, 579, 580, 581, 582, 583, 584, 585] (by decide +kernel) (by decide +kernel)
set_option maxRecDepth 20000 in
theorem gL_law_X6_levels : GoodIn wsL_law (wsV RL 61 RX6 yX6_levels wsX6_levels) := goodIn_app (goodIn_of _ (by decide +kernel)) ggL_law_X6_levels
set_option maxRecDepth 20000 in
theorem ggL_law_X5_guess : GoodIn wsL_law wsX5_guess := goodIn_r _ [407, 25, 128, 129, 2, 130, 131, 396, 397, 398, 24, 399, 184, 408, 409, 410, 411, 59, 229, 230, 231, 232, 56, 245, 246, 247, 248, 185, 412, 413, 414, 415, 61, 60, 57, 58, 416, 193, 194, 195, 417, 418, 419, 420, 421, 422, 423, 550, 551, 552, 553, 554, 555, 556, 557, 558, 559, 560, 593, 594, 595, 596, 597, 598, 599, 600, 601] (by decide +kernel) (by decide +kernel)
set_option maxRecDepth 20000 in
theorem gL_law_X5_guess : GoodIn wsL_law (wsV RL 62 RX5 yX5_guess wsX5_guess) := goodIn_app (goodIn_of _ (by decide +kernel)) ggL_law_X5_guess
set_option maxRecDepth 20000 in
theorem ggL_law_X6_guess : GoodIn wsL_law wsX6_guess := goodIn_r _ [427, 95, 262, 263, 5, 264, 265, 266, 267, 268, 428, 429, 430, 431, 86, 379, 380, 381, 382, 94, 83, 432, 433, 434, 435, 88, 89, 84, 85, 561, 562, 563, 564, 565, 566, 567, 568, 569, 570, 571, 572, 573, 574, 575, 576, 577, 578, 579, 580, 581, 582, 583, 584, 585] (by decide +kernel) (by decide +kernel)
set_option maxRecDepth 20000 in
theorem gL_law_X6_guess : GoodIn wsL_law (wsV RL 65 RX6 yX6_guess wsX6_guess) := goodIn_app (goodIn_of _ (by decide +kernel)) ggL_law_X6_guess
set_option maxRecDepth 20000 in
theorem ggL_law_X5_find : GoodIn wsL_law wsX5_find := goodIn_r _ [439, 33, 16, 25, 34, 128, 129, 2, 130, 131, 440, 441, 442, 32, 443, 444, 445, 446, 397, 398, 24, 399, 184, 447, 409, 410, 411, 59, 229, 230, 231, 232, 56, 245, 246, 247, 248, 185, 448, 413, 414, 415, 61, 60, 57, 58, 416, 193, 194, 195, 417, 418, 419, 420, 421, 422, 423, 449, 450, 451, 452, 453, 454, 455, 456, 457, 458, 459, 460, 160, 161, 14, 162, 136, 40, 461, 462, 463, 464, 550, 551, 552, 553, 554, 555, 556, 557, 558, 559, 560, 603, 604, 593, 594, 595, 596, 597, 598, 599, 600, 601, 586, 587] (by decide +kernel) (by decide +kernel)
set_option maxRecDepth 20000 in
theorem gL_law_X5_find : GoodIn wsL_law (wsV RL 66 RX5 yX5_find wsX5_find) := goodIn_app (goodIn_of _ (by decide +kernel)) ggL_law_X5_find
set_option maxRecDepth 20000 in
theorem ggL_law_X6_find : GoodIn wsL_law wsX6_find := goodIn_r _ [468, 262, 263, 5, 264, 265, 266, 267, 268, 469, 470, 471, 472, 473, 95, 74, 84, 85, 73, 428, 429, 430, 431, 86, 379, 380, 381, 382, 94, 83, 432, 433, 434, 435, 88, 89, 561, 562, 563, 564, 565, 566, 567, 568, 569, 570, 571, 572, 573, 574, 575, 576, 577, 578, 579, 580, 581, 582, 583, 584, 585] (by decide +kernel) (by decide +kernel)
set_option maxRecDepth 20000 in
theorem gL_law_X6_find : GoodIn wsL_law (wsV RL 69 RX6 yX6_find wsX6_find) := goodIn_app (goodIn_of _ (by decide +kernel)) ggL_law_X6_find
set_option maxRecDepth 20000 in
theorem ggL_law_X5_looks : GoodIn wsL_law wsX5_looks := goodIn_r _ [477, 33, 16, 25, 34, 128, 129, 2, 130, 131, 440, 441, 442, 32, 443, 444, 445, 446, 397, 398, 24, 399, 184, 447, 409, 410, 411, 59, 229, 230, 231, 232, 56, 245, 246, 247, 248, 185, 448, 413, 414, 415, 61, 60, 57, 58, 416, 193, 194, 195, 417, 418, 419, 420, 421, 422, 423, 449, 450, 451, 452, 453, 454, 455, 456, 457, 458, 459, 460, 160, 161, 14, 162, 136, 40, 478, 479, 480, 481, 550, 551, 552, 553, 554, 555, 556, 557, 558, 559, 560, 603, 604, 593, 594, 595, 596, 597, 598, 599, 600, 601, 586, 587] (by decide +kernel) (by decide +kernel)
set_option maxRecDepth 20000 in
theorem gL_law_X5_looks : GoodIn wsL_law (wsV RL 70 RX5 yX5_looks wsX5_looks) := goodIn_app (goodIn_of _ (by decide +kernel)) ggL_law_X5_looks
set_option maxRecDepth 20000 in
theorem ggL_law_X6_looks : GoodIn wsL_law wsX6_looks := goodIn_r _ [485, 473, 262, 263, 5, 264, 265, 266, 267, 268, 469, 470, 471, 472, 95, 74, 84, 85, 73, 428, 429, 430, 431, 86, 379, 380, 381, 382, 94, 83, 432, 433, 434, 435, 88, 89, 561, 562, 563, 564, 565, 566, 567, 568, 569, 570, 571, 572, 573, 574, 575, 576, 577, 578, 579, 580, 581, 582, 583, 584, 585] (by decide +kernel) (by decide +kernel)
set_option maxRecDepth 20000 in
theorem gL_law_X6_looks : GoodIn wsL_law (wsV RL 73 RX6 yX6_looks wsX6_looks) := goodIn_app (goodIn_of _ (by decide +kernel)) ggL_law_X6_looks
set_option maxRecDepth 20000 in
theorem ggL_law_X5_maybe : GoodIn wsL_law wsX5_maybe := goodIn_r _ [489, 29, 128, 129, 2, 130, 131, 490, 491, 492, 28, 493, 171, 177, 178, 179, 550, 551, 552, 553, 554, 555, 556, 557, 558, 559, 560, 602] (by decide +kernel) (by decide +kernel)
set_option maxRecDepth 20000 in
theorem gL_law_X5_maybe : GoodIn wsL_law (wsV RL 74 RX5 yX5_maybe wsX5_maybe) := goodIn_app (goodIn_of _ (by decide +kernel)) ggL_law_X5_maybe
set_option maxRecDepth 20000 in
theorem ggL_law_X6_maybe : GoodIn wsL_law wsX6_maybe := goodIn_r _ [497, 262, 263, 5, 264, 265, 266, 267, 268, 498, 499, 500, 501, 78, 561, 562, 563, 564, 565, 566, 567, 568, 569, 570, 571, 572, 573, 574, 575, 576, 577, 578, 579, 580, 581, 582, 583, 584, 585] (by decide +kernel) (by decide +kernel)
set_option maxRecDepth 20000 in
theorem gL_law_X6_maybe : GoodIn wsL_law (wsV RL 77 RX6 yX6_maybe wsX6_maybe) := goodIn_app (goodIn_of _ (by decide +kernel)) ggL_law_X6_maybe
set_option maxRecDepth 20000 in
theorem ggL_law_X5_wrong : GoodIn wsL_law wsX5_wrong := goodIn_r _ [505, 29, 15, 342, 343, 2, 344, 128, 129, 130, 131, 490, 491, 492, 28, 493, 171, 177, 178, 179, 345, 346, 347, 14, 348, 137, 138, 139, 140, 136, 40, 550, 551, 552, 553, 554, 555, 556, 557, 558, 559, 560, 602, 586, 587] (by decide +kernel) (by decide +kernel)
set_option maxRecDepth 20000 in
theorem gL_law_X5_wrong : GoodIn wsL_law (wsV RL 78 RX5 yX5_wrong wsX5_wrong) := goodIn_app (goodIn_of _ (by decide +kernel)) ggL_law_X5_wrong
set_option maxRecDepth 20000 in
theorem ggL_law_X6_wrong : GoodIn wsL_law wsX6_wrong := goodIn_r _ [509, 79, 259, 353, 354, 5, 355, 262, 263, 264, 265, 266, 267, 268, 273, 274, 275, 276, 95, 76, 260, 73, 261, 75, 277, 278, 279, 280, 281, 282, 283, 498, 499, 500, 501, 78, 561, 562, 563, 564, 565, 566, 567, 568, 569, 570, 571, 572, 573, 574, 575, 576, 577, 578, 579, 580, 581, 582, 583, 584, 585] (by decide +kernel) (by decide +kernel)
set_option maxRecDepth 20000 in
theorem gL_law_X6_wrong : GoodIn wsL_law (wsV RL 81 RX6 yX6_wrong wsX6_wrong) := goodIn_app (goodIn_of _ (by decide +kernel)) ggL_law_X6_wrong
set_option maxRecDepth 20000 in
theorem ggL_law_X5_poison : GoodIn wsL_law wsX5_poison := goodIn_r _ [513, 15, 342, 343, 2, 344, 128, 129, 130, 131, 141, 142, 143, 14, 144, 136, 132, 133, 134, 135, 40, 137, 138, 139, 140, 514, 515, 516, 517, 17, 21, 34, 154, 155, 156, 157, 158, 159, 160, 161, 162, 163, 164, 165, 166, 250, 251, 252, 253, 254, 518, 189, 190, 20, 191, 192, 193, 194, 195, 45, 46, 196, 197, 198, 199, 200, 201, 47, 48, 49, 519, 520, 521, 522, 214, 215, 216, 550, 551, 552, 553, 554, 555, 556, 557, 558, 559, 560, 586, 587, 588, 589, 590, 591, 592] (by decide +kernel) (by decide +kernel)
set_option maxRecDepth 20000 in
theorem gL_law_X5_poison : GoodIn wsL_law (wsV RL 82 RX5 yX5_poison wsX5_poison) := goodIn_app (goodIn_of _ (by decide +kernel)) ggL_law_X5_poison
set_option maxRecDepth 20000 in
theorem ggL_law_X6_poison : GoodIn wsL_law wsX6_poison := goodIn_r _ [526, 259, 79, 353, 354, 5, 355, 262, 263, 264, 265, 266, 267, 268, 273, 274, 275, 276, 95, 76, 260, 73, 261, 75, 277, 278, 279, 280, 281, 282, 283, 527, 528, 529, 530, 96, 80, 82, 103, 104, 105, 106, 81, 107, 108, 109, 110, 101, 74, 102, 111, 112, 113, 114, 561, 562, 563, 564, 565, 566, 567, 568, 569, 570, 571, 572, 573, 574, 575, 576, 577, 578, 579, 580, 581, 582, 583, 584, 585] (by decide +kernel) (by decide +kernel)
set_option maxRecDepth 20000 in
theorem gL_law_X6_poison : GoodIn wsL_law (wsV RL 85 RX6 yX6_poison wsX6_poison) := goodIn_app (goodIn_of _ (by decide +kernel)) ggL_law_X6_poison
set_option maxRecDepth 20000 in
theorem ggL_law_X5_count : GoodIn wsL_law wsX5_count := goodIn_r _ [534, 15, 16, 127, 126, 153, 29, 141, 142, 143, 14, 144, 136, 535, 536, 537, 28, 538, 171, 539, 540, 541, 542, 543, 544, 545, 550, 551, 552, 553, 554, 555, 556, 557, 558, 559, 560, 586, 587, 602] (by decide +kernel) (by decide +kernel)
set_option maxRecDepth 20000 in
theorem gL_law_X5_count : GoodIn wsL_law (wsV RL 86 RX5 yX5_count wsX5_count) := goodIn_app (goodIn_of _ (by decide +kernel)) ggL_law_X5_count
set_option maxRecDepth 20000 in
theorem ggL_law_X6_count : GoodIn wsL_law wsX6_count := goodIn_r _ [549, 259, 95, 261, 260, 288, 78, 273, 274, 275, 5, 276, 76, 73, 75, 277, 278, 279, 280, 281, 282, 283, 79, 561, 562, 563, 564, 565, 566, 567, 568, 569, 570, 571, 572, 573, 574, 575, 576, 577, 578, 579, 580, 581, 582, 583, 584, 585] (by decide +kernel) (by decide +kernel)
set_option maxRecDepth 20000 in
theorem gL_law_X6_count : GoodIn wsL_law (wsV RL 89 RX6 yX6_count wsX6_count) := goodIn_app (goodIn_of _ (by decide +kernel)) ggL_law_X6_count
end
section
theorem dL_law_0 : decode cL_law 0 = .ok (.new 7, 3) := by decide +kernel
theorem dL_law_3 : decode cL_law 3 = .ok (.dup, 1) := by decide +kernel
theorem dL_law_4 : decode cL_law 4 = .ok (.invokespecial 9, 3) := by decide +kernel
theorem dL_law_7 : decode cL_law 7 = .ok (.astore_n 1, 1) := by decide +kernel
theorem dL_law_8 : decode cL_law 8 = .ok (.new 10, 3) := by decide +kernel
theorem dL_law_11 : decode cL_law 11 = .ok (.dup, 1) := by decide +kernel
theorem dL_law_12 : decode cL_law 12 = .ok (.invokespecial 12, 3) := by decide +kernel
theorem dL_law_15 : decode cL_law 15 = .ok (.astore_n 2, 1) := by decide +kernel
theorem dL_law_16 : decode cL_law 16 = .ok (.iconst 0, 1) := by decide +kernel
theorem dL_law_17 : decode cL_law 17 = .ok (.istore_n 3, 1) := by decide +kernel
theorem dL_law_18 : decode cL_law 18 = .ok (.iload_n 3, 1) := by decide +kernel
theorem dL_law_19 : decode cL_law 19 = .ok (.aload_n 0, 1) := by decide +kernel
theorem dL_law_20 : decode cL_law 20 = .ok (.arraylength, 1) := by decide +kernel
theorem dL_law_21 : decode cL_law 21 = .ok (.iconst 4, 1) := by decide +kernel
theorem dL_law_22 : decode cL_law 22 = .ok (.isub, 1) := by decide +kernel
theorem dL_law_23 : decode cL_law 23 = .ok (.if_icmp .gt 568, 3) := by decide +kernel
theorem dL_law_26 : decode cL_law 26 = .ok (.aload_n 0, 1) := by decide +kernel
theorem dL_law_27 : decode cL_law 27 = .ok (.iload_n 3, 1) := by decide +kernel
theorem dL_law_28 : decode cL_law 28 = .ok (.iaload, 1) := by decide +kernel
theorem dL_law_29 : decode cL_law 29 = .ok (.bipush 31, 2) := by decide +kernel
theorem dL_law_31 : decode cL_law 31 = .ok (.iand, 1) := by decide +kernel
theorem dL_law_32 : decode cL_law 32 = .ok (.tableswitch 553 0 17 #[88, 111, 134, 147, 170, 193, 216, 249, 283, 306, 349, 362, 385, 408, 431, 454, 487, 530], 88) := by decide +kernel
theorem dL_law_120 : decode cL_law 120 = .ok (.aload_n 1, 1) := by decide +kernel
theorem dL_law_121 : decode cL_law 121 = .ok (.aload_n 0, 1) := by decide +kernel
theorem dL_law_122 : decode cL_law 122 = .ok (.iload_n 3, 1) := by decide +kernel
theorem dL_law_123 : decode cL_law 123 = .ok (.iconst 1, 1) := by decide +kernel
theorem dL_law_124 : decode cL_law 124 = .ok (.iadd, 1) := by decide +kernel
theorem dL_law_125 : decode cL_law 125 = .ok (.iaload, 1) := by decide +kernel
theorem dL_law_126 : decode cL_law 126 = .ok (.invokevirtual 13, 3) := by decide +kernel
theorem dL_law_129 : decode cL_law 129 = .ok (.aload_n 2, 1) := by decide +kernel
theorem dL_law_130 : decode cL_law 130 = .ok (.aload_n 0, 1) := by decide +kernel
theorem dL_law_131 : decode cL_law 131 = .ok (.iload_n 3, 1) := by decide +kernel
theorem dL_law_132 : decode cL_law 132 = .ok (.iconst 1, 1) := by decide +kernel
theorem dL_law_133 : decode cL_law 133 = .ok (.iadd, 1) := by decide +kernel
theorem dL_law_134 : decode cL_law 134 = .ok (.iaload, 1) := by decide +kernel
theorem dL_law_135 : decode cL_law 135 = .ok (.invokevirtual 17, 3) := by decide +kernel
theorem dL_law_138 : decode cL_law 138 = .ok (.if_icmp .eq 447, 3) := by decide +kernel
theorem dL_law_141 : decode cL_law 141 = .ok (.iconst 0, 1) := by decide +kernel
theorem dL_law_142 : decode cL_law 142 = .ok (.ireturn, 1) := by decide +kernel
theorem dL_law_143 : decode cL_law 143 = .ok (.aload_n 1, 1) := by decide +kernel
theorem dL_law_144 : decode cL_law 144 = .ok (.aload_n 0, 1) := by decide +kernel
theorem dL_law_145 : decode cL_law 145 = .ok (.iload_n 3, 1) := by decide +kernel
theorem dL_law_146 : decode cL_law 146 = .ok (.iconst 1, 1) := by decide +kernel
theorem dL_law_147 : decode cL_law 147 = .ok (.iadd, 1) := by decide +kernel
theorem dL_law_148 : decode cL_law 148 = .ok (.iaload, 1) := by decide +kernel
theorem dL_law_149 : decode cL_law 149 = .ok (.invokevirtual 18, 3) := by decide +kernel
theorem dL_law_152 : decode cL_law 152 = .ok (.aload_n 2, 1) := by decide +kernel
theorem dL_law_153 : decode cL_law 153 = .ok (.aload_n 0, 1) := by decide +kernel
theorem dL_law_154 : decode cL_law 154 = .ok (.iload_n 3, 1) := by decide +kernel
theorem dL_law_155 : decode cL_law 155 = .ok (.iconst 1, 1) := by decide +kernel
theorem dL_law_156 : decode cL_law 156 = .ok (.iadd, 1) := by decide +kernel
theorem dL_law_157 : decode cL_law 157 = .ok (.iaload, 1) := by decide +kernel
theorem dL_law_158 : decode cL_law 158 = .ok (.invokevirtual 21, 3) := by decide +kernel
theorem dL_law_161 : decode cL_law 161 = .ok (.if_icmp .eq 424, 3) := by decide +kernel
theorem dL_law_164 : decode cL_law 164 = .ok (.iconst 0, 1) := by decide +kernel
theorem dL_law_165 : decode cL_law 165 = .ok (.ireturn, 1) := by decide +kernel
theorem dL_law_166 : decode cL_law 166 = .ok (.aload_n 1, 1) := by decide +kernel
theorem dL_law_167 : decode cL_law 167 = .ok (.invokevirtual 22, 3) := by decide +kernel
theorem dL_law_170 : decode cL_law 170 = .ok (.aload_n 2, 1) := by decide +kernel
theorem dL_law_171 : decode cL_law 171 = .ok (.invokevirtual 26, 3) := by decide +kernel
theorem dL_law_174 : decode cL_law 174 = .ok (.if_icmp .eq 411, 3) := by decide +kernel
theorem dL_law_177 : decode cL_law 177 = .ok (.iconst 0, 1) := by decide +kernel
theorem dL_law_178 : decode cL_law 178 = .ok (.ireturn, 1) := by decide +kernel
theorem dL_law_179 : decode cL_law 179 = .ok (.aload_n 1, 1) := by decide +kernel
theorem dL_law_180 : decode cL_law 180 = .ok (.aload_n 0, 1) := by decide +kernel
theorem dL_law_181 : decode cL_law 181 = .ok (.iload_n 3, 1) := by decide +kernel
theorem dL_law_182 : decode cL_law 182 = .ok (.iconst 1, 1) := by decide +kernel
theorem dL_law_183 : decode cL_law 183 = .ok (.iadd, 1) := by decide +kernel
theorem dL_law_184 : decode cL_law 184 = .ok (.iaload, 1) := by decide +kernel
theorem dL_law_185 : decode cL_law 185 = .ok (.invokevirtual 27, 3) := by decide +kernel
theorem dL_law_188 : decode cL_law 188 = .ok (.aload_n 2, 1) := by decide +kernel
theorem dL_law_189 : decode cL_law 189 = .ok (.aload_n 0, 1) := by decide +kernel
theorem dL_law_190 : decode cL_law 190 = .ok (.iload_n 3, 1) := by decide +kernel
theorem dL_law_191 : decode cL_law 191 = .ok (.iconst 1, 1) := by decide +kernel
theorem dL_law_192 : decode cL_law 192 = .ok (.iadd, 1) := by decide +kernel
theorem dL_law_193 : decode cL_law 193 = .ok (.iaload, 1) := by decide +kernel
theorem dL_law_194 : decode cL_law 194 = .ok (.invokevirtual 30, 3) := by decide +kernel
theorem dL_law_197 : decode cL_law 197 = .ok (.if_icmp .eq 388, 3) := by decide +kernel
theorem dL_law_200 : decode cL_law 200 = .ok (.iconst 0, 1) := by decide +kernel
theorem dL_law_201 : decode cL_law 201 = .ok (.ireturn, 1) := by decide +kernel
theorem dL_law_202 : decode cL_law 202 = .ok (.aload_n 1, 1) := by decide +kernel
theorem dL_law_203 : decode cL_law 203 = .ok (.aload_n 0, 1) := by decide +kernel
theorem dL_law_204 : decode cL_law 204 = .ok (.iload_n 3, 1) := by decide +kernel
theorem dL_law_205 : decode cL_law 205 = .ok (.iconst 1, 1) := by decide +kernel
theorem dL_law_206 : decode cL_law 206 = .ok (.iadd, 1) := by decide +kernel
theorem dL_law_207 : decode cL_law 207 = .ok (.iaload, 1) := by decide +kernel
theorem dL_law_208 : decode cL_law 208 = .ok (.invokevirtual 31, 3) := by decide +kernel
theorem dL_law_211 : decode cL_law 211 = .ok (.aload_n 2, 1) := by decide +kernel
theorem dL_law_212 : decode cL_law 212 = .ok (.aload_n 0, 1) := by decide +kernel
theorem dL_law_213 : decode cL_law 213 = .ok (.iload_n 3, 1) := by decide +kernel
theorem dL_law_214 : decode cL_law 214 = .ok (.iconst 1, 1) := by decide +kernel
theorem dL_law_215 : decode cL_law 215 = .ok (.iadd, 1) := by decide +kernel
theorem dL_law_216 : decode cL_law 216 = .ok (.iaload, 1) := by decide +kernel
theorem dL_law_217 : decode cL_law 217 = .ok (.invokevirtual 34, 3) := by decide +kernel
theorem dL_law_220 : decode cL_law 220 = .ok (.if_icmp .eq 365, 3) := by decide +kernel
theorem dL_law_223 : decode cL_law 223 = .ok (.iconst 0, 1) := by decide +kernel
theorem dL_law_224 : decode cL_law 224 = .ok (.ireturn, 1) := by decide +kernel
theorem dL_law_225 : decode cL_law 225 = .ok (.aload_n 1, 1) := by decide +kernel
theorem dL_law_226 : decode cL_law 226 = .ok (.aload_n 0, 1) := by decide +kernel
theorem dL_law_227 : decode cL_law 227 = .ok (.iload_n 3, 1) := by decide +kernel
theorem dL_law_228 : decode cL_law 228 = .ok (.iconst 1, 1) := by decide +kernel
theorem dL_law_229 : decode cL_law 229 = .ok (.iadd, 1) := by decide +kernel
theorem dL_law_230 : decode cL_law 230 = .ok (.iaload, 1) := by decide +kernel
theorem dL_law_231 : decode cL_law 231 = .ok (.invokevirtual 35, 3) := by decide +kernel
theorem dL_law_234 : decode cL_law 234 = .ok (.aload_n 2, 1) := by decide +kernel
theorem dL_law_235 : decode cL_law 235 = .ok (.aload_n 0, 1) := by decide +kernel
theorem dL_law_236 : decode cL_law 236 = .ok (.iload_n 3, 1) := by decide +kernel
theorem dL_law_237 : decode cL_law 237 = .ok (.iconst 1, 1) := by decide +kernel
theorem dL_law_238 : decode cL_law 238 = .ok (.iadd, 1) := by decide +kernel
theorem dL_law_239 : decode cL_law 239 = .ok (.iaload, 1) := by decide +kernel
theorem dL_law_240 : decode cL_law 240 = .ok (.invokevirtual 38, 3) := by decide +kernel
theorem dL_law_243 : decode cL_law 243 = .ok (.if_icmp .eq 342, 3) := by decide +kernel
theorem dL_law_246 : decode cL_law 246 = .ok (.iconst 0, 1) := by decide +kernel
theorem dL_law_247 : decode cL_law 247 = .ok (.ireturn, 1) := by decide +kernel
theorem dL_law_248 : decode cL_law 248 = .ok (.aload_n 1, 1) := by decide +kernel
theorem dL_law_249 : decode cL_law 249 = .ok (.aload_n 0, 1) := by decide +kernel
theorem dL_law_250 : decode cL_law 250 = .ok (.iload_n 3, 1) := by decide +kernel
theorem dL_law_251 : decode cL_law 251 = .ok (.iconst 1, 1) := by decide +kernel
theorem dL_law_252 : decode cL_law 252 = .ok (.iadd, 1) := by decide +kernel
theorem dL_law_253 : decode cL_law 253 = .ok (.iaload, 1) := by decide +kernel
theorem dL_law_254 : decode cL_law 254 = .ok (.aload_n 0, 1) := by decide +kernel
theorem dL_law_255 : decode cL_law 255 = .ok (.iload_n 3, 1) := by decide +kernel
theorem dL_law_256 : decode cL_law 256 = .ok (.iconst 2, 1) := by decide +kernel
theorem dL_law_257 : decode cL_law 257 = .ok (.iadd, 1) := by decide +kernel
theorem dL_law_258 : decode cL_law 258 = .ok (.iaload, 1) := by decide +kernel
theorem dL_law_259 : decode cL_law 259 = .ok (.invokevirtual 39, 3) := by decide +kernel
theorem dL_law_262 : decode cL_law 262 = .ok (.aload_n 2, 1) := by decide +kernel
theorem dL_law_263 : decode cL_law 263 = .ok (.aload_n 0, 1) := by decide +kernel
theorem dL_law_264 : decode cL_law 264 = .ok (.iload_n 3, 1) := by decide +kernel
theorem dL_law_265 : decode cL_law 265 = .ok (.iconst 1, 1) := by decide +kernel
theorem dL_law_266 : decode cL_law 266 = .ok (.iadd, 1) := by decide +kernel
theorem dL_law_267 : decode cL_law 267 = .ok (.iaload, 1) := by decide +kernel
theorem dL_law_268 : decode cL_law 268 = .ok (.aload_n 0, 1) := by decide +kernel
theorem dL_law_269 : decode cL_law 269 = .ok (.iload_n 3, 1) := by decide +kernel
theorem dL_law_270 : decode cL_law 270 = .ok (.iconst 2, 1) := by decide +kernel
theorem dL_law_271 : decode cL_law 271 = .ok (.iadd, 1) := by decide +kernel
theorem dL_law_272 : decode cL_law 272 = .ok (.iaload, 1) := by decide +kernel
theorem dL_law_273 : decode cL_law 273 = .ok (.invokevirtual 43, 3) := by decide +kernel
theorem dL_law_276 : decode cL_law 276 = .ok (.if_icmp .eq 309, 3) := by decide +kernel
theorem dL_law_279 : decode cL_law 279 = .ok (.iconst 0, 1) := by decide +kernel
theorem dL_law_280 : decode cL_law 280 = .ok (.ireturn, 1) := by decide +kernel
theorem dL_law_281 : decode cL_law 281 = .ok (.aload_n 1, 1) := by decide +kernel
theorem dL_law_282 : decode cL_law 282 = .ok (.aload_n 0, 1) := by decide +kernel
theorem dL_law_283 : decode cL_law 283 = .ok (.iload_n 3, 1) := by decide +kernel
theorem dL_law_284 : decode cL_law 284 = .ok (.iconst 1, 1) := by decide +kernel
theorem dL_law_285 : decode cL_law 285 = .ok (.iadd, 1) := by decide +kernel
theorem dL_law_286 : decode cL_law 286 = .ok (.iaload, 1) := by decide +kernel
theorem dL_law_287 : decode cL_law 287 = .ok (.aload_n 0, 1) := by decide +kernel
theorem dL_law_288 : decode cL_law 288 = .ok (.iload_n 3, 1) := by decide +kernel
theorem dL_law_289 : decode cL_law 289 = .ok (.iconst 2, 1) := by decide +kernel
theorem dL_law_290 : decode cL_law 290 = .ok (.iadd, 1) := by decide +kernel
theorem dL_law_291 : decode cL_law 291 = .ok (.iaload, 1) := by decide +kernel
theorem dL_law_292 : decode cL_law 292 = .ok (.invokevirtual 44, 3) := by decide +kernel
theorem dL_law_295 : decode cL_law 295 = .ok (.aload_n 2, 1) := by decide +kernel
theorem dL_law_296 : decode cL_law 296 = .ok (.aload_n 0, 1) := by decide +kernel
theorem dL_law_297 : decode cL_law 297 = .ok (.iload_n 3, 1) := by decide +kernel
theorem dL_law_298 : decode cL_law 298 = .ok (.iconst 1, 1) := by decide +kernel
theorem dL_law_299 : decode cL_law 299 = .ok (.iadd, 1) := by decide +kernel
theorem dL_law_300 : decode cL_law 300 = .ok (.iaload, 1) := by decide +kernel
theorem dL_law_301 : decode cL_law 301 = .ok (.aload_n 0, 1) := by decide +kernel
theorem dL_law_302 : decode cL_law 302 = .ok (.iload_n 3, 1) := by decide +kernel
theorem dL_law_303 : decode cL_law 303 = .ok (.iconst 2, 1) := by decide +kernel
theorem dL_law_304 : decode cL_law 304 = .ok (.iadd, 1) := by decide +kernel
theorem dL_law_305 : decode cL_law 305 = .ok (.iaload, 1) := by decide +kernel
theorem dL_law_306 : decode cL_law 306 = .ok (.invokevirtual 48, 3) := by decide +kernel
theorem dL_law_309 : decode cL_law 309 = .ok (.lcmp, 1) := by decide +kernel
theorem dL_law_310 : decode cL_law 310 = .ok (.ifCond .eq 275, 3) := by decide +kernel
theorem dL_law_313 : decode cL_law 313 = .ok (.iconst 0, 1) := by decide +kernel
theorem dL_law_314 : decode cL_law 314 = .ok (.ireturn, 1) := by decide +kernel
theorem dL_law_315 : decode cL_law 315 = .ok (.aload_n 1, 1) := by decide +kernel
theorem dL_law_316 : decode cL_law 316 = .ok (.aload_n 0, 1) := by decide +kernel
theorem dL_law_317 : decode cL_law 317 = .ok (.iload_n 3, 1) := by decide +kernel
theorem dL_law_318 : decode cL_law 318 = .ok (.iconst 1, 1) := by decide +kernel
theorem dL_law_319 : decode cL_law 319 = .ok (.iadd, 1) := by decide +kernel
theorem dL_law_320 : decode cL_law 320 = .ok (.iaload, 1) := by decide +kernel
theorem dL_law_321 : decode cL_law 321 = .ok (.invokevirtual 49, 3) := by decide +kernel
theorem dL_law_324 : decode cL_law 324 = .ok (.aload_n 2, 1) := by decide +kernel
theorem dL_law_325 : decode cL_law 325 = .ok (.aload_n 0, 1) := by decide +kernel
theorem dL_law_326 : decode cL_law 326 = .ok (.iload_n 3, 1) := by decide +kernel
theorem dL_law_327 : decode cL_law 327 = .ok (.iconst 1, 1) := by decide +kernel
theorem dL_law_328 : decode cL_law 328 = .ok (.iadd, 1) := by decide +kernel
theorem dL_law_329 : decode cL_law 329 = .ok (.iaload, 1) := by decide +kernel
theorem dL_law_330 : decode cL_law 330 = .ok (.invokevirtual 52, 3) := by decide +kernel
theorem dL_law_333 : decode cL_law 333 = .ok (.if_icmp .eq 252, 3) := by decide +kernel
theorem dL_law_336 : decode cL_law 336 = .ok (.iconst 0, 1) := by decide +kernel
theorem dL_law_337 : decode cL_law 337 = .ok (.ireturn, 1) := by decide +kernel
theorem dL_law_338 : decode cL_law 338 = .ok (.aload_n 1, 1) := by decide +kernel
theorem dL_law_339 : decode cL_law 339 = .ok (.aload_n 0, 1) := by decide +kernel
theorem dL_law_340 : decode cL_law 340 = .ok (.iload_n 3, 1) := by decide +kernel
theorem dL_law_341 : decode cL_law 341 = .ok (.iconst 1, 1) := by decide +kernel
theorem dL_law_342 : decode cL_law 342 = .ok (.iadd, 1) := by decide +kernel
theorem dL_law_343 : decode cL_law 343 = .ok (.iaload, 1) := by decide +kernel
theorem dL_law_344 : decode cL_law 344 = .ok (.aload_n 0, 1) := by decide +kernel
theorem dL_law_345 : decode cL_law 345 = .ok (.iload_n 3, 1) := by decide +kernel
theorem dL_law_346 : decode cL_law 346 = .ok (.iconst 2, 1) := by decide +kernel
theorem dL_law_347 : decode cL_law 347 = .ok (.iadd, 1) := by decide +kernel
theorem dL_law_348 : decode cL_law 348 = .ok (.iaload, 1) := by decide +kernel
theorem dL_law_349 : decode cL_law 349 = .ok (.aload_n 0, 1) := by decide +kernel
theorem dL_law_350 : decode cL_law 350 = .ok (.iload_n 3, 1) := by decide +kernel
theorem dL_law_351 : decode cL_law 351 = .ok (.iconst 3, 1) := by decide +kernel
theorem dL_law_352 : decode cL_law 352 = .ok (.iadd, 1) := by decide +kernel
theorem dL_law_353 : decode cL_law 353 = .ok (.iaload, 1) := by decide +kernel
theorem dL_law_354 : decode cL_law 354 = .ok (.invokevirtual 53, 3) := by decide +kernel
theorem dL_law_357 : decode cL_law 357 = .ok (.aload_n 2, 1) := by decide +kernel
theorem dL_law_358 : decode cL_law 358 = .ok (.aload_n 0, 1) := by decide +kernel
theorem dL_law_359 : decode cL_law 359 = .ok (.iload_n 3, 1) := by decide +kernel
theorem dL_law_360 : decode cL_law 360 = .ok (.iconst 1, 1) := by decide +kernel
theorem dL_law_361 : decode cL_law 361 = .ok (.iadd, 1) := by decide +kernel
theorem dL_law_362 : decode cL_law 362 = .ok (.iaload, 1) := by decide +kernel
theorem dL_law_363 : decode cL_law 363 = .ok (.aload_n 0, 1) := by decide +kernel
theorem dL_law_364 : decode cL_law 364 = .ok (.iload_n 3, 1) := by decide +kernel
theorem dL_law_365 : decode cL_law 365 = .ok (.iconst 2, 1) := by decide +kernel
theorem dL_law_366 : decode cL_law 366 = .ok (.iadd, 1) := by decide +kernel
theorem dL_law_367 : decode cL_law 367 = .ok (.iaload, 1) := by decide +kernel
theorem dL_law_368 : decode cL_law 368 = .ok (.aload_n 0, 1) := by decide +kernel
theorem dL_law_369 : decode cL_law 369 = .ok (.iload_n 3, 1) := by decide +kernel
theorem dL_law_370 : decode cL_law 370 = .ok (.iconst 3, 1) := by decide +kernel
theorem dL_law_371 : decode cL_law 371 = .ok (.iadd, 1) := by decide +kernel
theorem dL_law_372 : decode cL_law 372 = .ok (.iaload, 1) := by decide +kernel
theorem dL_law_373 : decode cL_law 373 = .ok (.invokevirtual 57, 3) := by decide +kernel
theorem dL_law_376 : decode cL_law 376 = .ok (.if_icmp .eq 209, 3) := by decide +kernel
theorem dL_law_379 : decode cL_law 379 = .ok (.iconst 0, 1) := by decide +kernel
theorem dL_law_380 : decode cL_law 380 = .ok (.ireturn, 1) := by decide +kernel
theorem dL_law_381 : decode cL_law 381 = .ok (.aload_n 1, 1) := by decide +kernel
theorem dL_law_382 : decode cL_law 382 = .ok (.invokevirtual 58, 3) := by decide +kernel
theorem dL_law_385 : decode cL_law 385 = .ok (.aload_n 2, 1) := by decide +kernel
theorem dL_law_386 : decode cL_law 386 = .ok (.invokevirtual 61, 3) := by decide +kernel
theorem dL_law_389 : decode cL_law 389 = .ok (.if_icmp .eq 196, 3) := by decide +kernel
theorem dL_law_392 : decode cL_law 392 = .ok (.iconst 0, 1) := by decide +kernel
theorem dL_law_393 : decode cL_law 393 = .ok (.ireturn, 1) := by decide +kernel
theorem dL_law_394 : decode cL_law 394 = .ok (.aload_n 1, 1) := by decide +kernel
theorem dL_law_395 : decode cL_law 395 = .ok (.aload_n 0, 1) := by decide +kernel
theorem dL_law_396 : decode cL_law 396 = .ok (.iload_n 3, 1) := by decide +kernel
theorem dL_law_397 : decode cL_law 397 = .ok (.iconst 1, 1) := by decide +kernel
theorem dL_law_398 : decode cL_law 398 = .ok (.iadd, 1) := by decide +kernel
theorem dL_law_399 : decode cL_law 399 = .ok (.iaload, 1) := by decide +kernel
theorem dL_law_400 : decode cL_law 400 = .ok (.invokevirtual 62, 3) := by decide +kernel
theorem dL_law_403 : decode cL_law 403 = .ok (.aload_n 2, 1) := by decide +kernel
theorem dL_law_404 : decode cL_law 404 = .ok (.aload_n 0, 1) := by decide +kernel
theorem dL_law_405 : decode cL_law 405 = .ok (.iload_n 3, 1) := by decide +kernel
theorem dL_law_406 : decode cL_law 406 = .ok (.iconst 1, 1) := by decide +kernel
theorem dL_law_407 : decode cL_law 407 = .ok (.iadd, 1) := by decide +kernel
theorem dL_law_408 : decode cL_law 408 = .ok (.iaload, 1) := by decide +kernel
theorem dL_law_409 : decode cL_law 409 = .ok (.invokevirtual 65, 3) := by decide +kernel
theorem dL_law_412 : decode cL_law 412 = .ok (.if_icmp .eq 173, 3) := by decide +kernel
theorem dL_law_415 : decode cL_law 415 = .ok (.iconst 0, 1) := by decide +kernel
theorem dL_law_416 : decode cL_law 416 = .ok (.ireturn, 1) := by decide +kernel
theorem dL_law_417 : decode cL_law 417 = .ok (.aload_n 1, 1) := by decide +kernel
theorem dL_law_418 : decode cL_law 418 = .ok (.aload_n 0, 1) := by decide +kernel
theorem dL_law_419 : decode cL_law 419 = .ok (.iload_n 3, 1) := by decide +kernel
theorem dL_law_420 : decode cL_law 420 = .ok (.iconst 1, 1) := by decide +kernel
theorem dL_law_421 : decode cL_law 421 = .ok (.iadd, 1) := by decide +kernel
theorem dL_law_422 : decode cL_law 422 = .ok (.iaload, 1) := by decide +kernel
theorem dL_law_423 : decode cL_law 423 = .ok (.invokevirtual 66, 3) := by decide +kernel
theorem dL_law_426 : decode cL_law 426 = .ok (.aload_n 2, 1) := by decide +kernel
theorem dL_law_427 : decode cL_law 427 = .ok (.aload_n 0, 1) := by decide +kernel
theorem dL_law_428 : decode cL_law 428 = .ok (.iload_n 3, 1) := by decide +kernel
theorem dL_law_429 : decode cL_law 429 = .ok (.iconst 1, 1) := by decide +kernel
theorem dL_law_430 : decode cL_law 430 = .ok (.iadd, 1) := by decide +kernel
theorem dL_law_431 : decode cL_law 431 = .ok (.iaload, 1) := by decide +kernel
theorem dL_law_432 : decode cL_law 432 = .ok (.invokevirtual 69, 3) := by decide +kernel
theorem dL_law_435 : decode cL_law 435 = .ok (.if_icmp .eq 150, 3) := by decide +kernel
theorem dL_law_438 : decode cL_law 438 = .ok (.iconst 0, 1) := by decide +kernel
theorem dL_law_439 : decode cL_law 439 = .ok (.ireturn, 1) := by decide +kernel
theorem dL_law_440 : decode cL_law 440 = .ok (.aload_n 1, 1) := by decide +kernel
theorem dL_law_441 : decode cL_law 441 = .ok (.aload_n 0, 1) := by decide +kernel
theorem dL_law_442 : decode cL_law 442 = .ok (.iload_n 3, 1) := by decide +kernel
theorem dL_law_443 : decode cL_law 443 = .ok (.iconst 1, 1) := by decide +kernel
theorem dL_law_444 : decode cL_law 444 = .ok (.iadd, 1) := by decide +kernel
theorem dL_law_445 : decode cL_law 445 = .ok (.iaload, 1) := by decide +kernel
theorem dL_law_446 : decode cL_law 446 = .ok (.invokevirtual 70, 3) := by decide +kernel
theorem dL_law_449 : decode cL_law 449 = .ok (.aload_n 2, 1) := by decide +kernel
theorem dL_law_450 : decode cL_law 450 = .ok (.aload_n 0, 1) := by decide +kernel
theorem dL_law_451 : decode cL_law 451 = .ok (.iload_n 3, 1) := by decide +kernel
theorem dL_law_452 : decode cL_law 452 = .ok (.iconst 1, 1) := by decide +kernel
theorem dL_law_453 : decode cL_law 453 = .ok (.iadd, 1) := by decide +kernel
theorem dL_law_454 : decode cL_law 454 = .ok (.iaload, 1) := by decide +kernel
theorem dL_law_455 : decode cL_law 455 = .ok (.invokevirtual 73, 3) := by decide +kernel
theorem dL_law_458 : decode cL_law 458 = .ok (.if_icmp .eq 127, 3) := by decide +kernel
theorem dL_law_461 : decode cL_law 461 = .ok (.iconst 0, 1) := by decide +kernel
theorem dL_law_462 : decode cL_law 462 = .ok (.ireturn, 1) := by decide +kernel
theorem dL_law_463 : decode cL_law 463 = .ok (.aload_n 1, 1) := by decide +kernel
theorem dL_law_464 : decode cL_law 464 = .ok (.aload_n 0, 1) := by decide +kernel
theorem dL_law_465 : decode cL_law 465 = .ok (.iload_n 3, 1) := by decide +kernel
theorem dL_law_466 : decode cL_law 466 = .ok (.iconst 1, 1) := by decide +kernel
theorem dL_law_467 : decode cL_law 467 = .ok (.iadd, 1) := by decide +kernel
theorem dL_law_468 : decode cL_law 468 = .ok (.iaload, 1) := by decide +kernel
theorem dL_law_469 : decode cL_law 469 = .ok (.invokevirtual 74, 3) := by decide +kernel
theorem dL_law_472 : decode cL_law 472 = .ok (.aload_n 2, 1) := by decide +kernel
theorem dL_law_473 : decode cL_law 473 = .ok (.aload_n 0, 1) := by decide +kernel
theorem dL_law_474 : decode cL_law 474 = .ok (.iload_n 3, 1) := by decide +kernel
theorem dL_law_475 : decode cL_law 475 = .ok (.iconst 1, 1) := by decide +kernel
theorem dL_law_476 : decode cL_law 476 = .ok (.iadd, 1) := by decide +kernel
theorem dL_law_477 : decode cL_law 477 = .ok (.iaload, 1) := by decide +kernel
theorem dL_law_478 : decode cL_law 478 = .ok (.invokevirtual 77, 3) := by decide +kernel
theorem dL_law_481 : decode cL_law 481 = .ok (.if_icmp .eq 104, 3) := by decide +kernel
theorem dL_law_484 : decode cL_law 484 = .ok (.iconst 0, 1) := by decide +kernel
theorem dL_law_485 : decode cL_law 485 = .ok (.ireturn, 1) := by decide +kernel
theorem dL_law_486 : decode cL_law 486 = .ok (.aload_n 1, 1) := by decide +kernel
theorem dL_law_487 : decode cL_law 487 = .ok (.aload_n 0, 1) := by decide +kernel
theorem dL_law_488 : decode cL_law 488 = .ok (.iload_n 3, 1) := by decide +kernel
theorem dL_law_489 : decode cL_law 489 = .ok (.iconst 1, 1) := by decide +kernel
theorem dL_law_490 : decode cL_law 490 = .ok (.iadd, 1) := by decide +kernel
theorem dL_law_491 : decode cL_law 491 = .ok (.iaload, 1) := by decide +kernel
theorem dL_law_492 : decode cL_law 492 = .ok (.aload_n 0, 1) := by decide +kernel
theorem dL_law_493 : decode cL_law 493 = .ok (.iload_n 3, 1) := by decide +kernel
theorem dL_law_494 : decode cL_law 494 = .ok (.iconst 2, 1) := by decide +kernel
theorem dL_law_495 : decode cL_law 495 = .ok (.iadd, 1) := by decide +kernel
theorem dL_law_496 : decode cL_law 496 = .ok (.iaload, 1) := by decide +kernel
theorem dL_law_497 : decode cL_law 497 = .ok (.invokevirtual 78, 3) := by decide +kernel
theorem dL_law_500 : decode cL_law 500 = .ok (.aload_n 2, 1) := by decide +kernel
theorem dL_law_501 : decode cL_law 501 = .ok (.aload_n 0, 1) := by decide +kernel
theorem dL_law_502 : decode cL_law 502 = .ok (.iload_n 3, 1) := by decide +kernel
theorem dL_law_503 : decode cL_law 503 = .ok (.iconst 1, 1) := by decide +kernel
theorem dL_law_504 : decode cL_law 504 = .ok (.iadd, 1) := by decide +kernel
theorem dL_law_505 : decode cL_law 505 = .ok (.iaload, 1) := by decide +kernel
theorem dL_law_506 : decode cL_law 506 = .ok (.aload_n 0, 1) := by decide +kernel
theorem dL_law_507 : decode cL_law 507 = .ok (.iload_n 3, 1) := by decide +kernel
theorem dL_law_508 : decode cL_law 508 = .ok (.iconst 2, 1) := by decide +kernel
theorem dL_law_509 : decode cL_law 509 = .ok (.iadd, 1) := by decide +kernel
theorem dL_law_510 : decode cL_law 510 = .ok (.iaload, 1) := by decide +kernel
theorem dL_law_511 : decode cL_law 511 = .ok (.invokevirtual 81, 3) := by decide +kernel
theorem dL_law_514 : decode cL_law 514 = .ok (.if_icmp .eq 71, 3) := by decide +kernel
theorem dL_law_517 : decode cL_law 517 = .ok (.iconst 0, 1) := by decide +kernel
theorem dL_law_518 : decode cL_law 518 = .ok (.ireturn, 1) := by decide +kernel
theorem dL_law_519 : decode cL_law 519 = .ok (.aload_n 1, 1) := by decide +kernel
theorem dL_law_520 : decode cL_law 520 = .ok (.aload_n 0, 1) := by decide +kernel
theorem dL_law_521 : decode cL_law 521 = .ok (.iload_n 3, 1) := by decide +kernel
theorem dL_law_522 : decode cL_law 522 = .ok (.iconst 1, 1) := by decide +kernel
theorem dL_law_523 : decode cL_law 523 = .ok (.iadd, 1) := by decide +kernel
theorem dL_law_524 : decode cL_law 524 = .ok (.iaload, 1) := by decide +kernel
theorem dL_law_525 : decode cL_law 525 = .ok (.aload_n 0, 1) := by decide +kernel
theorem dL_law_526 : decode cL_law 526 = .ok (.iload_n 3, 1) := by decide +kernel
theorem dL_law_527 : decode cL_law 527 = .ok (.iconst 2, 1) := by decide +kernel
theorem dL_law_528 : decode cL_law 528 = .ok (.iadd, 1) := by decide +kernel
theorem dL_law_529 : decode cL_law 529 = .ok (.iaload, 1) := by decide +kernel
theorem dL_law_530 : decode cL_law 530 = .ok (.aload_n 0, 1) := by decide +kernel
theorem dL_law_531 : decode cL_law 531 = .ok (.iload_n 3, 1) := by decide +kernel
theorem dL_law_532 : decode cL_law 532 = .ok (.iconst 3, 1) := by decide +kernel
theorem dL_law_533 : decode cL_law 533 = .ok (.iadd, 1) := by decide +kernel
theorem dL_law_534 : decode cL_law 534 = .ok (.iaload, 1) := by decide +kernel
theorem dL_law_535 : decode cL_law 535 = .ok (.invokevirtual 82, 3) := by decide +kernel
theorem dL_law_538 : decode cL_law 538 = .ok (.aload_n 2, 1) := by decide +kernel
theorem dL_law_539 : decode cL_law 539 = .ok (.aload_n 0, 1) := by decide +kernel
theorem dL_law_540 : decode cL_law 540 = .ok (.iload_n 3, 1) := by decide +kernel
theorem dL_law_541 : decode cL_law 541 = .ok (.iconst 1, 1) := by decide +kernel
theorem dL_law_542 : decode cL_law 542 = .ok (.iadd, 1) := by decide +kernel
theorem dL_law_543 : decode cL_law 543 = .ok (.iaload, 1) := by decide +kernel
theorem dL_law_544 : decode cL_law 544 = .ok (.aload_n 0, 1) := by decide +kernel
theorem dL_law_545 : decode cL_law 545 = .ok (.iload_n 3, 1) := by decide +kernel
theorem dL_law_546 : decode cL_law 546 = .ok (.iconst 2, 1) := by decide +kernel
theorem dL_law_547 : decode cL_law 547 = .ok (.iadd, 1) := by decide +kernel
theorem dL_law_548 : decode cL_law 548 = .ok (.iaload, 1) := by decide +kernel
theorem dL_law_549 : decode cL_law 549 = .ok (.aload_n 0, 1) := by decide +kernel
theorem dL_law_550 : decode cL_law 550 = .ok (.iload_n 3, 1) := by decide +kernel
theorem dL_law_551 : decode cL_law 551 = .ok (.iconst 3, 1) := by decide +kernel
theorem dL_law_552 : decode cL_law 552 = .ok (.iadd, 1) := by decide +kernel
theorem dL_law_553 : decode cL_law 553 = .ok (.iaload, 1) := by decide +kernel
theorem dL_law_554 : decode cL_law 554 = .ok (.invokevirtual 85, 3) := by decide +kernel
theorem dL_law_557 : decode cL_law 557 = .ok (.if_icmp .eq 28, 3) := by decide +kernel
theorem dL_law_560 : decode cL_law 560 = .ok (.iconst 0, 1) := by decide +kernel
theorem dL_law_561 : decode cL_law 561 = .ok (.ireturn, 1) := by decide +kernel
theorem dL_law_562 : decode cL_law 562 = .ok (.aload_n 1, 1) := by decide +kernel
theorem dL_law_563 : decode cL_law 563 = .ok (.aload_n 0, 1) := by decide +kernel
theorem dL_law_564 : decode cL_law 564 = .ok (.iload_n 3, 1) := by decide +kernel
theorem dL_law_565 : decode cL_law 565 = .ok (.iconst 1, 1) := by decide +kernel
theorem dL_law_566 : decode cL_law 566 = .ok (.iadd, 1) := by decide +kernel
theorem dL_law_567 : decode cL_law 567 = .ok (.iaload, 1) := by decide +kernel
theorem dL_law_568 : decode cL_law 568 = .ok (.invokevirtual 86, 3) := by decide +kernel
theorem dL_law_571 : decode cL_law 571 = .ok (.aload_n 2, 1) := by decide +kernel
theorem dL_law_572 : decode cL_law 572 = .ok (.aload_n 0, 1) := by decide +kernel
theorem dL_law_573 : decode cL_law 573 = .ok (.iload_n 3, 1) := by decide +kernel
theorem dL_law_574 : decode cL_law 574 = .ok (.iconst 1, 1) := by decide +kernel
theorem dL_law_575 : decode cL_law 575 = .ok (.iadd, 1) := by decide +kernel
theorem dL_law_576 : decode cL_law 576 = .ok (.iaload, 1) := by decide +kernel
theorem dL_law_577 : decode cL_law 577 = .ok (.invokevirtual 89, 3) := by decide +kernel
theorem dL_law_580 : decode cL_law 580 = .ok (.if_icmp .eq 5, 3) := by decide +kernel
theorem dL_law_583 : decode cL_law 583 = .ok (.iconst 0, 1) := by decide +kernel
theorem dL_law_584 : decode cL_law 584 = .ok (.ireturn, 1) := by decide +kernel
theorem dL_law_585 : decode cL_law 585 = .ok (.iinc 3 4, 3) := by decide +kernel
theorem dL_law_588 : decode cL_law 588 = .ok (.goto (-570), 3) := by decide +kernel
theorem dL_law_591 : decode cL_law 591 = .ok (.iconst 1, 1) := by decide +kernel
theorem dL_law_592 : decode cL_law 592 = .ok (.ireturn, 1) := by decide +kernel
abbrev vwCl : List vw_C := [(RX0, TX0, 5), (RX1, TX1, 1), (RX2, TX2, 2), (RX3, TX3, 2), (RX4, TX4, 9), (RX5, TX5, 11), (RX6, TX6, 25)]
end
