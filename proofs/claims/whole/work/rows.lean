section
-- ===== PART A: goes FIRST, ahead of the names: the tables' words, and 'selects' of the private methods out of them =====
/-- a private method of a class that the tables say can be made, by its rows of tables_1 -/
def lw_okq (q : MethodName × Nat) : Prop := (q.1.cls ≠ "java/lang/invoke/MethodHandle" ∧ q.1.cls ≠ "java/lang/invoke/VarHandle") ∧ Cond.instantiable q.1.cls q.2 ∈ tables_1 ∧ Cond.privateMethod q.1 ∈ tables_1 ∧ Cond.instanceMethod q.1 ∈ tables_1
theorem lw_p0 : lw_okq (⟨"RowReduction", "hasNumber", "(II)Z"⟩, 7) := ⟨⟨by decide +kernel, by decide +kernel⟩, List.mem_of_getElem? (i := 12) (by decide +kernel), List.mem_of_getElem? (i := 123) (by decide +kernel), List.mem_of_getElem? (i := 124) (by decide +kernel)⟩
theorem lw_p1 : lw_okq (⟨"RowReduction$Elimination", "load", "([[I)V"⟩, 10) := ⟨⟨by decide +kernel, by decide +kernel⟩, List.mem_of_getElem? (i := 22) (by decide +kernel), List.mem_of_getElem? (i := 139) (by decide +kernel), List.mem_of_getElem? (i := 140) (by decide +kernel)⟩
theorem lw_p2 : lw_okq (⟨"RowReduction$Elimination", "cell", "(II)[J"⟩, 10) := ⟨⟨by decide +kernel, by decide +kernel⟩, List.mem_of_getElem? (i := 22) (by decide +kernel), List.mem_of_getElem? (i := 143) (by decide +kernel), List.mem_of_getElem? (i := 144) (by decide +kernel)⟩
theorem lw_p3 : lw_okq (⟨"RowReduction$Elimination", "findPivotRow", "(I)I"⟩, 10) := ⟨⟨by decide +kernel, by decide +kernel⟩, List.mem_of_getElem? (i := 22) (by decide +kernel), List.mem_of_getElem? (i := 154) (by decide +kernel), List.mem_of_getElem? (i := 155) (by decide +kernel)⟩
theorem lw_p4 : lw_okq (⟨"RowReduction$Elimination", "swapRows", "(II)V"⟩, 10) := ⟨⟨by decide +kernel, by decide +kernel⟩, List.mem_of_getElem? (i := 22) (by decide +kernel), List.mem_of_getElem? (i := 161) (by decide +kernel), List.mem_of_getElem? (i := 162) (by decide +kernel)⟩
theorem lw_p5 : lw_okq (⟨"RowReduction$Elimination", "prepareStep", "(I)V"⟩, 10) := ⟨⟨by decide +kernel, by decide +kernel⟩, List.mem_of_getElem? (i := 22) (by decide +kernel), List.mem_of_getElem? (i := 165) (by decide +kernel), List.mem_of_getElem? (i := 166) (by decide +kernel)⟩
theorem lw_p6 : lw_okq (⟨"RowReduction$Elimination", "limbsOfMinor", "(I)I"⟩, 10) := ⟨⟨by decide +kernel, by decide +kernel⟩, List.mem_of_getElem? (i := 22) (by decide +kernel), List.mem_of_getElem? (i := 204) (by decide +kernel), List.mem_of_getElem? (i := 205) (by decide +kernel)⟩
theorem lw_p7 : lw_okq (⟨"RowReduction$Elimination", "clearColumn", "(I)V"⟩, 10) := ⟨⟨by decide +kernel, by decide +kernel⟩, List.mem_of_getElem? (i := 22) (by decide +kernel), List.mem_of_getElem? (i := 208) (by decide +kernel), List.mem_of_getElem? (i := 209) (by decide +kernel)⟩
theorem lw_p8 : lw_okq (⟨"RowReduction$Elimination", "replace", "([J[J[J)V"⟩, 10) := ⟨⟨by decide +kernel, by decide +kernel⟩, List.mem_of_getElem? (i := 22) (by decide +kernel), List.mem_of_getElem? (i := 212) (by decide +kernel), List.mem_of_getElem? (i := 213) (by decide +kernel)⟩
theorem lw_p9 : lw_okq (⟨"RowReduction$LowestTerms", "removeCommonTwos", "(I)V"⟩, 6) := ⟨⟨by decide +kernel, by decide +kernel⟩, List.mem_of_getElem? (i := 63) (by decide +kernel), List.mem_of_getElem? (i := 261) (by decide +kernel), List.mem_of_getElem? (i := 262) (by decide +kernel)⟩
theorem lw_p10 : lw_okq (⟨"RowReduction$LowestTerms", "removeCommonOddFactor", "(I)V"⟩, 6) := ⟨⟨by decide +kernel, by decide +kernel⟩, List.mem_of_getElem? (i := 63) (by decide +kernel), List.mem_of_getElem? (i := 268) (by decide +kernel), List.mem_of_getElem? (i := 269) (by decide +kernel)⟩
theorem lw_p11 : lw_okq (⟨"RowReduction$LowestTerms", "commonOddFactor", "(I)[J"⟩, 6) := ⟨⟨by decide +kernel, by decide +kernel⟩, List.mem_of_getElem? (i := 63) (by decide +kernel), List.mem_of_getElem? (i := 276) (by decide +kernel), List.mem_of_getElem? (i := 277) (by decide +kernel)⟩
theorem lw_p12 : lw_okq (⟨"RowReduction", "isTold", "(I)Z"⟩, 7) := ⟨⟨by decide +kernel, by decide +kernel⟩, List.mem_of_getElem? (i := 12) (by decide +kernel), List.mem_of_getElem? (i := 297) (by decide +kernel), List.mem_of_getElem? (i := 298) (by decide +kernel)⟩
theorem lw_p13 : lw_okq (⟨"RowReductionModel", "isThere", "(II)Z"⟩, 7) := ⟨⟨by decide +kernel, by decide +kernel⟩, List.mem_of_getElem? (i := 305) (by decide +kernel), List.mem_of_getElem? (i := 366) (by decide +kernel), List.mem_of_getElem? (i := 367) (by decide +kernel)⟩
theorem lw_p14 : lw_okq (⟨"RowReductionModel", "isReduced", "(I)Z"⟩, 7) := ⟨⟨by decide +kernel, by decide +kernel⟩, List.mem_of_getElem? (i := 305) (by decide +kernel), List.mem_of_getElem? (i := 383) (by decide +kernel), List.mem_of_getElem? (i := 384) (by decide +kernel)⟩
theorem lw_p15 : lw_okq (⟨"RowReductionModel", "eliminate", "(IIILRowReductionModel$Great;)V"⟩, 7) := ⟨⟨by decide +kernel, by decide +kernel⟩, List.mem_of_getElem? (i := 305) (by decide +kernel), List.mem_of_getElem? (i := 391) (by decide +kernel), List.mem_of_getElem? (i := 392) (by decide +kernel)⟩
def lw_privs_1 : List (MethodName × Nat) := [(⟨"RowReduction", "hasNumber", "(II)Z"⟩, 7), (⟨"RowReduction$Elimination", "load", "([[I)V"⟩, 10), (⟨"RowReduction$Elimination", "cell", "(II)[J"⟩, 10), (⟨"RowReduction$Elimination", "findPivotRow", "(I)I"⟩, 10), (⟨"RowReduction$Elimination", "swapRows", "(II)V"⟩, 10), (⟨"RowReduction$Elimination", "prepareStep", "(I)V"⟩, 10), (⟨"RowReduction$Elimination", "limbsOfMinor", "(I)I"⟩, 10), (⟨"RowReduction$Elimination", "clearColumn", "(I)V"⟩, 10), (⟨"RowReduction$Elimination", "replace", "([J[J[J)V"⟩, 10), (⟨"RowReduction$LowestTerms", "removeCommonTwos", "(I)V"⟩, 6), (⟨"RowReduction$LowestTerms", "removeCommonOddFactor", "(I)V"⟩, 6), (⟨"RowReduction$LowestTerms", "commonOddFactor", "(I)[J"⟩, 6), (⟨"RowReduction", "isTold", "(I)Z"⟩, 7), (⟨"RowReductionModel", "isThere", "(II)Z"⟩, 7), (⟨"RowReductionModel", "isReduced", "(I)Z"⟩, 7), (⟨"RowReductionModel", "eliminate", "(IIILRowReductionModel$Great;)V"⟩, 7)]
theorem lw_r1 : ∀ q ∈ lw_privs_1, lw_okq q := List.forall_mem_cons.mpr ⟨lw_p0, List.forall_mem_cons.mpr ⟨lw_p1, List.forall_mem_cons.mpr ⟨lw_p2, List.forall_mem_cons.mpr ⟨lw_p3, List.forall_mem_cons.mpr ⟨lw_p4, List.forall_mem_cons.mpr ⟨lw_p5, List.forall_mem_cons.mpr ⟨lw_p6, List.forall_mem_cons.mpr ⟨lw_p7, List.forall_mem_cons.mpr ⟨lw_p8, List.forall_mem_cons.mpr ⟨lw_p9, List.forall_mem_cons.mpr ⟨lw_p10, List.forall_mem_cons.mpr ⟨lw_p11, List.forall_mem_cons.mpr ⟨lw_p12, List.forall_mem_cons.mpr ⟨lw_p13, List.forall_mem_cons.mpr ⟨lw_p14, List.forall_mem_cons.mpr ⟨lw_p15, fun _ h => absurd h List.not_mem_nil⟩⟩⟩⟩⟩⟩⟩⟩⟩⟩⟩⟩⟩⟩⟩⟩
theorem lw_p16 : lw_okq (⟨"RowReductionModel$Great", "trim", "(I)V"⟩, 4) := ⟨⟨by decide +kernel, by decide +kernel⟩, List.mem_of_getElem? (i := 315) (by decide +kernel), List.mem_of_getElem? (i := 405) (by decide +kernel), List.mem_of_getElem? (i := 406) (by decide +kernel)⟩
theorem lw_p17 : lw_okq (⟨"RowReductionModel$Great", "addAmount", "(LRowReductionModel$Great;)V"⟩, 4) := ⟨⟨by decide +kernel, by decide +kernel⟩, List.mem_of_getElem? (i := 315) (by decide +kernel), List.mem_of_getElem? (i := 413) (by decide +kernel), List.mem_of_getElem? (i := 414) (by decide +kernel)⟩
theorem lw_p18 : lw_okq (⟨"RowReductionModel$Great", "takeAmount", "(LRowReductionModel$Great;LRowReductionModel$Great;)V"⟩, 4) := ⟨⟨by decide +kernel, by decide +kernel⟩, List.mem_of_getElem? (i := 315) (by decide +kernel), List.mem_of_getElem? (i := 425) (by decide +kernel), List.mem_of_getElem? (i := 426) (by decide +kernel)⟩
theorem lw_p19 : lw_okq (⟨"RowReductionModel$Great", "twice", "(Z)V"⟩, 4) := ⟨⟨by decide +kernel, by decide +kernel⟩, List.mem_of_getElem? (i := 315) (by decide +kernel), List.mem_of_getElem? (i := 437) (by decide +kernel), List.mem_of_getElem? (i := 438) (by decide +kernel)⟩
theorem lw_p20 : lw_okq (⟨"RowReductionModel", "fraction", "(LRowReductionModel$Great;LRowReductionModel$Great;I)Z"⟩, 7) := ⟨⟨by decide +kernel, by decide +kernel⟩, List.mem_of_getElem? (i := 305) (by decide +kernel), List.mem_of_getElem? (i := 441) (by decide +kernel), List.mem_of_getElem? (i := 442) (by decide +kernel)⟩
def lw_privs_2 : List (MethodName × Nat) := [(⟨"RowReductionModel$Great", "trim", "(I)V"⟩, 4), (⟨"RowReductionModel$Great", "addAmount", "(LRowReductionModel$Great;)V"⟩, 4), (⟨"RowReductionModel$Great", "takeAmount", "(LRowReductionModel$Great;LRowReductionModel$Great;)V"⟩, 4), (⟨"RowReductionModel$Great", "twice", "(Z)V"⟩, 4), (⟨"RowReductionModel", "fraction", "(LRowReductionModel$Great;LRowReductionModel$Great;I)Z"⟩, 7)]
theorem lw_r2 : ∀ q ∈ lw_privs_2, lw_okq q := List.forall_mem_cons.mpr ⟨lw_p16, List.forall_mem_cons.mpr ⟨lw_p17, List.forall_mem_cons.mpr ⟨lw_p18, List.forall_mem_cons.mpr ⟨lw_p19, List.forall_mem_cons.mpr ⟨lw_p20, fun _ h => absurd h List.not_mem_nil⟩⟩⟩⟩⟩
def lw_privs : List (MethodName × Nat) := lw_privs_1 ++ (lw_privs_2)
def lw_tbl : List Cond := k2_sels lw_privs ++ tables_1
theorem lw_privs_ok : ∀ q ∈ lw_privs, lw_okq q := by
  show ∀ q ∈ lw_privs_1 ++ (lw_privs_2), lw_okq q
  exact List.forall_mem_append.mpr ⟨lw_r1, lw_r2⟩
-- ===== end of PART A; then your names; then what follows =====
/-! ===== BEGIN words of one list among another's, by their places ===== -/
theorem goodIn_r {big : List Cond} (ws : List Cond) (ps : List Nat) (hp : ws = ps.filterMap (fun i => big[i]?)) (h : ws.all goodWord = true) : GoodIn big ws := by
  intro w hw
  have h1 := List.all_eq_true.mp h w hw
  rw [hp] at hw
  obtain ⟨i, -, hi⟩ := List.mem_filterMap.mp hw
  have hm : w ∈ big := by first | exact List.mem_of_getElem? hi | exact List.getElem?_mem hi
  exact ⟨hm, good_of_word h1⟩
theorem goodIn_app {big a b : List Cond} (ha : GoodIn big a) (hb : GoodIn big b) : GoodIn big (a ++ b) := fun w h => (List.mem_append.mp h).elim (ha w) (hb w)
theorem goodIn_ca {big a b : List Cond} {c : Cond} (ha : GoodIn big (c :: a)) (hb : GoodIn big b) : GoodIn big (c :: (a ++ b)) := fun w h => (List.mem_cons.mp h).elim (fun e => ha w (List.mem_cons.mpr (Or.inl e))) (fun h => (List.mem_append.mp h).elim (fun h => ha w (List.mem_cons.mpr (Or.inr h))) (hb w))
theorem goodIn_sub {big ws : List Cond} (hm : ∀ w ∈ ws, w ∈ big) (h : ws.all goodWord = true) : GoodIn big ws := fun w hw => ⟨hm w hw, good_of_word (List.all_eq_true.mp h w hw)⟩
/-! ===== END ===== -/


/-! ===== BEGIN printed: names, fields, word lists, decode rows ===== -/
def RX0 : String := "RowReduction$Elimination"
def TX0 : u_T := fun k => match k with
  | 0 => ("RowReduction$Elimination", "cells", "[[J", true)
  | 1 => ("RowReduction$Elimination", "negatedPivot", "[J", true)
  | 2 => ("RowReduction$Elimination", "oddDivisor", "[J", true)
  | 3 => ("RowReduction$Elimination", "work", "[J", true)
  | 4 => ("RowReduction$Elimination", "size", "I", false)
  | 5 => ("RowReduction$Elimination", "entryBits", "I", false)
  | 6 => ("RowReduction$Elimination", "divisorTwos", "I", false)
  | 7 => ("RowReduction$Elimination", "divisorInverse", "J", false)
  | 8 => ("RowReduction$Elimination", "minorWidth", "I", false)
  | _ => ("RowReduction$Elimination", "workWidth", "I", false)
def tyX0 : Nat → FieldType := fun k => match k with
  | 0 => .array (.array .long)
  | 1 => .array .long
  | 2 => .array .long
  | 3 => .array .long
  | 4 => .int
  | 5 => .int
  | 6 => .int
  | 7 => .long
  | 8 => .int
  | _ => .int
abbrev wsX00 : List Cond := u_ws RX0 TX0 10
theorem nmX0 : ∀ a, a < 10 → ∀ b, b < 10 → a ≠ b → (TX0 a).2.1 ≠ (TX0 b).2.1 := by decide +kernel
theorem tyX0_ok : ∀ k, k < 10 → parseFieldDescriptor (TX0 k).2.2.1 = some (tyX0 k) := by decide +kernel
abbrev cX0_init : ByteArray := prog_2_method_1_code
def yX0_init : MethodName := ⟨RX0, "<init>", "()V"⟩
abbrev cX0_reduce : ByteArray := prog_2_method_2_code
def yX0_reduce : MethodName := ⟨RX0, "reduce", "([[II)Z"⟩
abbrev cX0_dividend : ByteArray := prog_2_method_3_code
def yX0_dividend : MethodName := ⟨RX0, "dividend", "(I)[J"⟩
abbrev cX0_divisor : ByteArray := prog_2_method_4_code
def yX0_divisor : MethodName := ⟨RX0, "divisor", "()[J"⟩
abbrev cX0_width : ByteArray := prog_2_method_5_code
def yX0_width : MethodName := ⟨RX0, "width", "()I"⟩
abbrev cX0_cell : ByteArray := prog_2_method_6_code
def yX0_cell : MethodName := ⟨RX0, "cell", "(II)[J"⟩
abbrev cX0_load : ByteArray := prog_2_method_7_code
def yX0_load : MethodName := ⟨RX0, "load", "([[I)V"⟩
abbrev cX0_limbsOfMinor : ByteArray := prog_2_method_8_code
def yX0_limbsOfMinor : MethodName := ⟨RX0, "limbsOfMinor", "(I)I"⟩
abbrev cX0_findPivotRow : ByteArray := prog_2_method_9_code
def yX0_findPivotRow : MethodName := ⟨RX0, "findPivotRow", "(I)I"⟩
abbrev cX0_swapRows : ByteArray := prog_2_method_10_code
def yX0_swapRows : MethodName := ⟨RX0, "swapRows", "(II)V"⟩
abbrev cX0_prepareStep : ByteArray := prog_2_method_11_code
def yX0_prepareStep : MethodName := ⟨RX0, "prepareStep", "(I)V"⟩
abbrev cX0_clearColumn : ByteArray := prog_2_method_12_code
def yX0_clearColumn : MethodName := ⟨RX0, "clearColumn", "(I)V"⟩
abbrev cX0_replace : ByteArray := prog_2_method_13_code
def yX0_replace : MethodName := ⟨RX0, "replace", "([J[J[J)V"⟩
def RX1 : String := "RowReduction$Limbs"
def TX1 : u_T := fun k => match k with
  | _ => ("", "", "", false)
def tyX1 : Nat → FieldType := fun k => match k with
  | _ => .int
abbrev wsX10 : List Cond := u_ws RX1 TX1 0
theorem nmX1 : ∀ a, a < 0 → ∀ b, b < 0 → a ≠ b → (TX1 a).2.1 ≠ (TX1 b).2.1 := by decide +kernel
theorem tyX1_ok : ∀ k, k < 0 → parseFieldDescriptor (TX1 k).2.2.1 = some (tyX1 k) := by decide +kernel
abbrev cX1_setTo : ByteArray := prog_3_method_2_code
def yX1_setTo : MethodName := ⟨RX1, "setTo", "([JI)V"⟩
abbrev cX1_isZero : ByteArray := prog_3_method_3_code
def yX1_isZero : MethodName := ⟨RX1, "isZero", "([J)Z"⟩
abbrev cX1_isNegative : ByteArray := prog_3_method_4_code
def yX1_isNegative : MethodName := ⟨RX1, "isNegative", "([J)Z"⟩
abbrev cX1_isNegativeAt : ByteArray := prog_3_method_5_code
def yX1_isNegativeAt : MethodName := ⟨RX1, "isNegativeAt", "([JI)Z"⟩
abbrev cX1_copy : ByteArray := prog_3_method_6_code
def yX1_copy : MethodName := ⟨RX1, "copy", "([J[J)V"⟩
abbrev cX1_copyWidened : ByteArray := prog_3_method_7_code
def yX1_copyWidened : MethodName := ⟨RX1, "copyWidened", "([JI[J)V"⟩
abbrev cX1_copyNegated : ByteArray := prog_3_method_8_code
def yX1_copyNegated : MethodName := ⟨RX1, "copyNegated", "([J[J)V"⟩
abbrev cX1_copyMagnitude : ByteArray := prog_3_method_9_code
def yX1_copyMagnitude : MethodName := ⟨RX1, "copyMagnitude", "([J[J)V"⟩
abbrev cX1_compare : ByteArray := prog_3_method_10_code
def yX1_compare : MethodName := ⟨RX1, "compare", "([J[JI)I"⟩
abbrev cX1_subtractScaled : ByteArray := prog_3_method_11_code
def yX1_subtractScaled : MethodName := ⟨RX1, "subtractScaled", "([JIJ[JI)V"⟩
abbrev cX1_subtractProduct : ByteArray := prog_3_method_12_code
def yX1_subtractProduct : MethodName := ⟨RX1, "subtractProduct", "([J[J[JI)V"⟩
abbrev cX1_trailingZeros : ByteArray := prog_3_method_13_code
def yX1_trailingZeros : MethodName := ⟨RX1, "trailingZeros", "([J)I"⟩
abbrev cX1_shiftRight : ByteArray := prog_3_method_14_code
def yX1_shiftRight : MethodName := ⟨RX1, "shiftRight", "([JII)V"⟩
abbrev cX1_limbAt : ByteArray := prog_3_method_15_code
def yX1_limbAt : MethodName := ⟨RX1, "limbAt", "([JII)J"⟩
abbrev cX1_inverse : ByteArray := prog_3_method_16_code
def yX1_inverse : MethodName := ⟨RX1, "inverse", "(J)J"⟩
abbrev cX1_divideEvenly : ByteArray := prog_3_method_17_code
def yX1_divideEvenly : MethodName := ⟨RX1, "divideEvenly", "([J[JJI)V"⟩
def RX2 : String := "RowReduction$LowestTerms"
def TX2 : u_T := fun k => match k with
  | 0 => ("RowReduction$LowestTerms", "top", "[J", true)
  | 1 => ("RowReduction$LowestTerms", "bottom", "[J", true)
  | 2 => ("RowReduction$LowestTerms", "oddTop", "[J", true)
  | 3 => ("RowReduction$LowestTerms", "oddBottom", "[J", true)
  | 4 => ("RowReduction$LowestTerms", "numerator", "J", false)
  | _ => ("RowReduction$LowestTerms", "denominator", "J", false)
def tyX2 : Nat → FieldType := fun k => match k with
  | 0 => .array .long
  | 1 => .array .long
  | 2 => .array .long
  | 3 => .array .long
  | 4 => .long
  | _ => .long
abbrev wsX20 : List Cond := u_ws RX2 TX2 6
theorem nmX2 : ∀ a, a < 6 → ∀ b, b < 6 → a ≠ b → (TX2 a).2.1 ≠ (TX2 b).2.1 := by decide +kernel
theorem tyX2_ok : ∀ k, k < 6 → parseFieldDescriptor (TX2 k).2.2.1 = some (tyX2 k) := by decide +kernel
abbrev cX2_init : ByteArray := prog_4_method_1_code
def yX2_init : MethodName := ⟨RX2, "<init>", "()V"⟩
abbrev cX2_find : ByteArray := prog_4_method_2_code
def yX2_find : MethodName := ⟨RX2, "find", "([J[JI)Z"⟩
abbrev cX2_removeCommonTwos : ByteArray := prog_4_method_3_code
def yX2_removeCommonTwos : MethodName := ⟨RX2, "removeCommonTwos", "(I)V"⟩
abbrev cX2_removeCommonOddFactor : ByteArray := prog_4_method_4_code
def yX2_removeCommonOddFactor : MethodName := ⟨RX2, "removeCommonOddFactor", "(I)V"⟩
abbrev cX2_removeTwos : ByteArray := prog_4_method_5_code
def yX2_removeTwos : MethodName := ⟨RX2, "removeTwos", "([JI)V"⟩
abbrev cX2_commonOddFactor : ByteArray := prog_4_method_6_code
def yX2_commonOddFactor : MethodName := ⟨RX2, "commonOddFactor", "(I)[J"⟩
abbrev cX2_fitsLong : ByteArray := prog_4_method_7_code
def yX2_fitsLong : MethodName := ⟨RX2, "fitsLong", "([JZ)Z"⟩
abbrev cX2_lowBits : ByteArray := prog_4_method_8_code
def yX2_lowBits : MethodName := ⟨RX2, "lowBits", "([J)J"⟩
def RX3 : String := "RowReduction"
def TX3 : u_T := fun k => match k with
  | 0 => ("RowReduction", "system", "[[I", true)
  | 1 => ("RowReduction", "numerators", "[J", true)
  | 2 => ("RowReduction", "denominators", "[J", true)
  | 3 => ("RowReduction", "elimination", "LRowReduction$Elimination;", true)
  | 4 => ("RowReduction", "lowestTerms", "LRowReduction$LowestTerms;", true)
  | 5 => ("RowReduction", "size", "I", false)
  | _ => ("RowReduction", "told", "Z", false)
def tyX3 : Nat → FieldType := fun k => match k with
  | 0 => .array (.array .int)
  | 1 => .array .long
  | 2 => .array .long
  | 3 => .object "RowReduction$Elimination"
  | 4 => .object "RowReduction$LowestTerms"
  | 5 => .int
  | _ => .boolean
abbrev wsX30 : List Cond := u_ws RX3 TX3 7
theorem nmX3 : ∀ a, a < 7 → ∀ b, b < 7 → a ≠ b → (TX3 a).2.1 ≠ (TX3 b).2.1 := by decide +kernel
theorem tyX3_ok : ∀ k, k < 7 → parseFieldDescriptor (TX3 k).2.2.1 = some (tyX3 k) := by decide +kernel
abbrev cX3_init : ByteArray := prog_1_method_1_code
def yX3_init : MethodName := ⟨RX3, "<init>", "()V"⟩
abbrev cX3_begin : ByteArray := prog_1_method_2_code
def yX3_begin : MethodName := ⟨RX3, "begin", "(I)Z"⟩
abbrev cX3_put : ByteArray := prog_1_method_3_code
def yX3_put : MethodName := ⟨RX3, "put", "(III)Z"⟩
abbrev cX3_get : ByteArray := prog_1_method_4_code
def yX3_get : MethodName := ⟨RX3, "get", "(II)I"⟩
abbrev cX3_solve : ByteArray := prog_1_method_5_code
def yX3_solve : MethodName := ⟨RX3, "solve", "()I"⟩
abbrev cX3_above : ByteArray := prog_1_method_6_code
def yX3_above : MethodName := ⟨RX3, "above", "(I)J"⟩
abbrev cX3_under : ByteArray := prog_1_method_7_code
def yX3_under : MethodName := ⟨RX3, "under", "(I)J"⟩
abbrev cX3_hasNumber : ByteArray := prog_1_method_8_code
def yX3_hasNumber : MethodName := ⟨RX3, "hasNumber", "(II)Z"⟩
abbrev cX3_isTold : ByteArray := prog_1_method_9_code
def yX3_isTold : MethodName := ⟨RX3, "isTold", "(I)Z"⟩
def RX4 : String := "RowReductionModel$Great"
def TX4 : u_T := fun k => match k with
  | 0 => ("RowReductionModel$Great", "parts", "[I", true)
  | 1 => ("RowReductionModel$Great", "n", "I", false)
  | 2 => ("RowReductionModel$Great", "minus", "Z", false)
  | _ => ("RowReductionModel$Great", "value", "J", false)
def tyX4 : Nat → FieldType := fun k => match k with
  | 0 => .array .int
  | 1 => .int
  | 2 => .boolean
  | _ => .long
abbrev wsX40 : List Cond := u_ws RX4 TX4 4
theorem nmX4 : ∀ a, a < 4 → ∀ b, b < 4 → a ≠ b → (TX4 a).2.1 ≠ (TX4 b).2.1 := by decide +kernel
theorem tyX4_ok : ∀ k, k < 4 → parseFieldDescriptor (TX4 k).2.2.1 = some (tyX4 k) := by decide +kernel
abbrev cX4_init : ByteArray := prog_7_method_1_code
def yX4_init : MethodName := ⟨RX4, "<init>", "()V"⟩
abbrev cX4_isZero : ByteArray := prog_7_method_2_code
def yX4_isZero : MethodName := ⟨RX4, "isZero", "()Z"⟩
abbrev cX4_set : ByteArray := prog_7_method_3_code
def yX4_set : MethodName := ⟨RX4, "set", "(J)V"⟩
abbrev cX4_set_ : ByteArray := prog_7_method_4_code
def yX4_set_ : MethodName := ⟨RX4, "set", "(LRowReductionModel$Great;)V"⟩
abbrev cX4_trim : ByteArray := prog_7_method_5_code
def yX4_trim : MethodName := ⟨RX4, "trim", "(I)V"⟩
abbrev cX4_compare : ByteArray := prog_7_method_6_code
def yX4_compare : MethodName := ⟨RX4, "compare", "(LRowReductionModel$Great;)I"⟩
abbrev cX4_product : ByteArray := prog_7_method_7_code
def yX4_product : MethodName := ⟨RX4, "product", "(LRowReductionModel$Great;LRowReductionModel$Great;)V"⟩
abbrev cX4_take : ByteArray := prog_7_method_8_code
def yX4_take : MethodName := ⟨RX4, "take", "(LRowReductionModel$Great;)V"⟩
abbrev cX4_addAmount : ByteArray := prog_7_method_9_code
def yX4_addAmount : MethodName := ⟨RX4, "addAmount", "(LRowReductionModel$Great;)V"⟩
abbrev cX4_takeAmount : ByteArray := prog_7_method_10_code
def yX4_takeAmount : MethodName := ⟨RX4, "takeAmount", "(LRowReductionModel$Great;LRowReductionModel$Great;)V"⟩
abbrev cX4_isSet : ByteArray := prog_7_method_11_code
def yX4_isSet : MethodName := ⟨RX4, "isSet", "(I)Z"⟩
abbrev cX4_twice : ByteArray := prog_7_method_12_code
def yX4_twice : MethodName := ⟨RX4, "twice", "(Z)V"⟩
abbrev cX4_quotient : ByteArray := prog_7_method_13_code
def yX4_quotient : MethodName := ⟨RX4, "quotient", "(LRowReductionModel$Great;LRowReductionModel$Great;LRowReductionModel$Great;)V"⟩
abbrev cX4_isLong : ByteArray := prog_7_method_14_code
def yX4_isLong : MethodName := ⟨RX4, "isLong", "()Z"⟩
def RX5 : String := "RowReductionModel"
def TX5 : u_T := fun k => match k with
  | 0 => ("RowReductionModel", "size", "I", false)
  | 1 => ("RowReductionModel", "numbers", "[I", true)
  | 2 => ("RowReductionModel", "above", "[J", true)
  | 3 => ("RowReductionModel", "under", "[J", true)
  | 4 => ("RowReductionModel", "told", "Z", false)
  | 5 => ("RowReductionModel", "matrix", "[LRowReductionModel$Great;", true)
  | _ => ("RowReductionModel", "some", "[LRowReductionModel$Great;", true)
def tyX5 : Nat → FieldType := fun k => match k with
  | 0 => .int
  | 1 => .array .int
  | 2 => .array .long
  | 3 => .array .long
  | 4 => .boolean
  | 5 => .array (.object "RowReductionModel$Great")
  | _ => .array (.object "RowReductionModel$Great")
abbrev wsX50 : List Cond := u_ws RX5 TX5 7
theorem nmX5 : ∀ a, a < 7 → ∀ b, b < 7 → a ≠ b → (TX5 a).2.1 ≠ (TX5 b).2.1 := by decide +kernel
theorem tyX5_ok : ∀ k, k < 7 → parseFieldDescriptor (TX5 k).2.2.1 = some (tyX5 k) := by decide +kernel
abbrev cX5_init : ByteArray := prog_6_method_1_code
def yX5_init : MethodName := ⟨RX5, "<init>", "()V"⟩
abbrev cX5_begin : ByteArray := prog_6_method_3_code
def yX5_begin : MethodName := ⟨RX5, "begin", "(I)Z"⟩
abbrev cX5_isThere : ByteArray := prog_6_method_4_code
def yX5_isThere : MethodName := ⟨RX5, "isThere", "(II)Z"⟩
abbrev cX5_put : ByteArray := prog_6_method_5_code
def yX5_put : MethodName := ⟨RX5, "put", "(III)Z"⟩
abbrev cX5_get : ByteArray := prog_6_method_6_code
def yX5_get : MethodName := ⟨RX5, "get", "(II)I"⟩
abbrev cX5_solve : ByteArray := prog_6_method_7_code
def yX5_solve : MethodName := ⟨RX5, "solve", "()I"⟩
abbrev cX5_above : ByteArray := prog_6_method_8_code
def yX5_above : MethodName := ⟨RX5, "above", "(I)J"⟩
abbrev cX5_under : ByteArray := prog_6_method_9_code
def yX5_under : MethodName := ⟨RX5, "under", "(I)J"⟩
abbrev cX5_greats : ByteArray := prog_6_method_10_code
def yX5_greats : MethodName := ⟨RX5, "greats", "(I)[LRowReductionModel$Great;"⟩
abbrev cX5_isReduced : ByteArray := prog_6_method_11_code
def yX5_isReduced : MethodName := ⟨RX5, "isReduced", "(I)Z"⟩
abbrev cX5_eliminate : ByteArray := prog_6_method_12_code
def yX5_eliminate : MethodName := ⟨RX5, "eliminate", "(IIILRowReductionModel$Great;)V"⟩
abbrev cX5_fraction : ByteArray := prog_6_method_13_code
def yX5_fraction : MethodName := ⟨RX5, "fraction", "(LRowReductionModel$Great;LRowReductionModel$Great;I)Z"⟩
def RJ13 : String := "java/lang/Long"
def TJ13 : u_T := fun k => match k with
  | _ => ("", "", "", false)
def tyJ13 : Nat → FieldType := fun k => match k with
  | _ => .int
abbrev wsJ130 : List Cond := u_ws RJ13 TJ13 0
theorem nmJ13 : ∀ a, a < 0 → ∀ b, b < 0 → a ≠ b → (TJ13 a).2.1 ≠ (TJ13 b).2.1 := by decide +kernel
theorem tyJ13_ok : ∀ k, k < 0 → parseFieldDescriptor (TJ13 k).2.2.1 = some (tyJ13 k) := by decide +kernel
abbrev cJ13_bitCount_95d88 : ByteArray := prog_8_method_50_code
def yJ13_bitCount_95d88 : MethodName := ⟨RJ13, "bitCount", "(J)I"⟩
def RJ9 : String := "java/lang/Math"
def TJ9 : u_T := fun k => match k with
  | _ => ("", "", "", false)
def tyJ9 : Nat → FieldType := fun k => match k with
  | _ => .int
abbrev wsJ90 : List Cond := u_ws RJ9 TJ9 0
theorem nmJ9 : ∀ a, a < 0 → ∀ b, b < 0 → a ≠ b → (TJ9 a).2.1 ≠ (TJ9 b).2.1 := by decide +kernel
theorem tyJ9_ok : ∀ k, k < 0 → parseFieldDescriptor (TJ9 k).2.2.1 = some (tyJ9 k) := by decide +kernel
abbrev cJ9_max_7cf53 : ByteArray := prog_9_method_65_code
def yJ9_max_7cf53 : MethodName := ⟨RJ9, "max", "(II)I"⟩
abbrev cJ9_min_7cf53 : ByteArray := prog_9_method_69_code
def yJ9_min_7cf53 : MethodName := ⟨RJ9, "min", "(II)I"⟩
def RJ10 : String := "java/lang/System"
def TJ10 : u_T := fun k => match k with
  | _ => ("", "", "", false)
def tyJ10 : Nat → FieldType := fun k => match k with
  | _ => .int
abbrev wsJ100 : List Cond := u_ws RJ10 TJ10 0
theorem nmJ10 : ∀ a, a < 0 → ∀ b, b < 0 → a ≠ b → (TJ10 a).2.1 ≠ (TJ10 b).2.1 := by decide +kernel
theorem tyJ10_ok : ∀ k, k < 0 → parseFieldDescriptor (TJ10 k).2.2.1 = some (tyJ10 k) := by decide +kernel
def RJ7 : String := "java/util/Arrays"
def TJ7 : u_T := fun k => match k with
  | _ => ("", "", "", false)
def tyJ7 : Nat → FieldType := fun k => match k with
  | _ => .int
abbrev wsJ70 : List Cond := u_ws RJ7 TJ7 0
theorem nmJ7 : ∀ a, a < 0 → ∀ b, b < 0 → a ≠ b → (TJ7 a).2.1 ≠ (TJ7 b).2.1 := by decide +kernel
theorem tyJ7_ok : ∀ k, k < 0 → parseFieldDescriptor (TJ7 k).2.2.1 = some (tyJ7 k) := by decide +kernel
abbrev cJ7_rangeCheck_23922 : ByteArray := prog_11_method_30_code
def yJ7_rangeCheck_23922 : MethodName := ⟨RJ7, "rangeCheck", "(III)V"⟩
abbrev cJ7_fill_d0a16 : ByteArray := prog_11_method_101_code
def yJ7_fill_d0a16 : MethodName := ⟨RJ7, "fill", "([JJ)V"⟩
abbrev cJ7_fill_bad5a : ByteArray := prog_11_method_102_code
def yJ7_fill_bad5a : MethodName := ⟨RJ7, "fill", "([JIIJ)V"⟩
abbrev cJ7_fill_53178 : ByteArray := prog_11_method_103_code
def yJ7_fill_53178 : MethodName := ⟨RJ7, "fill", "([II)V"⟩
def RL : String := "RowReductionLaw"
abbrev cL_law : ByteArray := code
def yL_law : MethodName := ⟨RL, "law", "([I)Z"⟩
def wsX0_init : List Cond := .code yX0_init cX0_init 1 none :: ([.methodLink RX0 3 objectInit, .instanceMethod objectInit, .code objectInit ⟨#[0xb1]⟩ 1 none, .classLink RX0 11 "[[J", .arrayClass .long, .fieldLink RX0 13 "RowReduction$Elimination" "cells" "[[J", .fieldLink RX0 18 "RowReduction$Elimination" "negatedPivot" "[J", .fieldLink RX0 22 "RowReduction$Elimination" "oddDivisor" "[J", .fieldLink RX0 25 "RowReduction$Elimination" "work" "[J", .fieldLink RX0 28 "RowReduction$Elimination" "size" "I", .fieldLink RX0 32 "RowReduction$Elimination" "entryBits" "I", .fieldLink RX0 35 "RowReduction$Elimination" "divisorTwos" "I", .fieldLink RX0 38 "RowReduction$Elimination" "divisorInverse" "J", .fieldLink RX0 42 "RowReduction$Elimination" "minorWidth" "I", .fieldLink RX0 45 "RowReduction$Elimination" "workWidth" "I"] ++ wsX00)
def wsX0_cell : List Cond := .code yX0_cell cX0_cell 3 (some (.array .long)) :: ([.fieldLink RX0 13 "RowReduction$Elimination" "cells" "[[J"] ++ wsX00)
def wsJ7_fill_d0a16 : List Cond := .code yJ7_fill_d0a16 cJ7_fill_d0a16 5 none :: ([])
def wsX1_setTo : List Cond := .code yX1_setTo cX1_setTo 2 none :: ([.constantLong RX1 9 (4294967295), .methodLink RX1 11 yJ7_fill_d0a16, .static yJ7_fill_d0a16, .initialized RJ7, .code yJ7_fill_d0a16 cJ7_fill_d0a16 5 none])
def wsX0_load : List Cond := .code yX0_load cX0_load 6 none :: ([.fieldLink RX0 28 "RowReduction$Elimination" "size" "I", .fieldLink RX0 32 "RowReduction$Elimination" "entryBits" "I", .methodLink RX0 67 yX0_cell, .instanceMethod yX0_cell, .selects RX0 yX0_cell yX0_cell, .initialized RX0, .code yX0_cell cX0_cell 3 (some (.array .long)), .fieldLink RX0 13 "RowReduction$Elimination" "cells" "[[J", .methodLink RX0 74 yX1_setTo, .static yX1_setTo, .initialized RX1, .code yX1_setTo cX1_setTo 2 none, .constantLong RX1 9 (4294967295), .methodLink RX1 11 yJ7_fill_d0a16, .static yJ7_fill_d0a16, .initialized RJ7, .code yJ7_fill_d0a16 cJ7_fill_d0a16 5 none] ++ wsX00)
def wsX1_isZero : List Cond := .code yX1_isZero cX1_isZero 2 (some .boolean) :: ([])
def wsX0_findPivotRow : List Cond := .code yX0_findPivotRow cX0_findPivotRow 3 (some .int) :: ([.fieldLink RX0 28 "RowReduction$Elimination" "size" "I", .methodLink RX0 67 yX0_cell, .instanceMethod yX0_cell, .selects RX0 yX0_cell yX0_cell, .initialized RX0, .code yX0_cell cX0_cell 3 (some (.array .long)), .fieldLink RX0 13 "RowReduction$Elimination" "cells" "[[J", .methodLink RX0 78 yX1_isZero, .static yX1_isZero, .initialized RX1, .code yX1_isZero cX1_isZero 2 (some .boolean)] ++ wsX00)
def wsX0_swapRows : List Cond := .code yX0_swapRows cX0_swapRows 5 none :: ([.fieldLink RX0 28 "RowReduction$Elimination" "size" "I", .fieldLink RX0 13 "RowReduction$Elimination" "cells" "[[J", .methodLink RX0 67 yX0_cell, .instanceMethod yX0_cell, .selects RX0 yX0_cell yX0_cell, .initialized RX0, .code yX0_cell cX0_cell 3 (some (.array .long))] ++ wsX00)
def wsX1_subtractScaled : List Cond := .code yX1_subtractScaled cX1_subtractScaled 13 none :: ([.constantLong RX1 9 (4294967295)])
def wsX1_copyNegated : List Cond := .code yX1_copyNegated cX1_copyNegated 2 none :: ([.methodLink RX1 11 yJ7_fill_d0a16, .static yJ7_fill_d0a16, .initialized RJ7, .code yJ7_fill_d0a16 cJ7_fill_d0a16 5 none, .methodLink RX1 30 yX1_subtractScaled, .static yX1_subtractScaled, .initialized RX1, .code yX1_subtractScaled cX1_subtractScaled 13 none, .constantLong RX1 9 (4294967295)])
def wsX1_copy : List Cond := .code yX1_copy cX1_copy 2 none :: ([.methodLink RX1 21 arraycopyName, .native arraycopyName, .static arraycopyName, .initialized "java/lang/System"])
def wsJ13_bitCount_95d88 : List Cond := .code yJ13_bitCount_95d88 cJ13_bitCount_95d88 2 (some .int) :: ([.constantLong RJ13 314 (6148914691236517205), .constantLong RJ13 316 (3689348814741910323), .constantLong RJ13 318 (1085102592571150095)])
def wsX1_trailingZeros : List Cond := .code yX1_trailingZeros cX1_trailingZeros 2 (some .int) :: ([.constantLong RX1 45 (-1), .methodLink RX1 47 yJ13_bitCount_95d88, .static yJ13_bitCount_95d88, .initialized RJ13, .code yJ13_bitCount_95d88 cJ13_bitCount_95d88 2 (some .int), .constantLong RJ13 314 (6148914691236517205), .constantLong RJ13 316 (3689348814741910323), .constantLong RJ13 318 (1085102592571150095)])
def wsX1_limbAt : List Cond := .code yX1_limbAt cX1_limbAt 3 (some .long) :: ([])
def wsX1_shiftRight : List Cond := .code yX1_shiftRight cX1_shiftRight 10 none :: ([.constantLong RX1 9 (4294967295), .methodLink RX1 53 yX1_limbAt, .static yX1_limbAt, .initialized RX1, .code yX1_limbAt cX1_limbAt 3 (some .long)])
def wsX1_inverse : List Cond := .code yX1_inverse cX1_inverse 5 (some .long) :: ([.constantLong RX1 57 (2), .constantLong RX1 9 (4294967295)])
def wsX0_limbsOfMinor : List Cond := .code yX0_limbsOfMinor cX0_limbsOfMinor 2 (some .int) :: ([.fieldLink RX0 32 "RowReduction$Elimination" "entryBits" "I"] ++ wsX00)
def wsX0_prepareStep_r1 : List Cond := [Cond.fieldLink RX0 18 "RowReduction$Elimination" "negatedPivot" "[J", Cond.fieldLink RX0 22 "RowReduction$Elimination" "oddDivisor" "[J", Cond.fieldLink RX0 35 "RowReduction$Elimination" "divisorTwos" "I", Cond.fieldLink RX0 38 "RowReduction$Elimination" "divisorInverse" "J", Cond.fieldLink RX0 28 "RowReduction$Elimination" "size" "I", Cond.methodLink RX0 101 Lib.Math.min.name, Cond.static Lib.Math.min.name, Cond.initialized "java/lang/Math", Cond.code Lib.Math.min.name Lib.Math.min.code 2 (some .int), Cond.fieldLink RX0 42 "RowReduction$Elimination" "minorWidth" "I", Cond.fieldLink RX0 45 "RowReduction$Elimination" "workWidth" "I", Cond.methodLink RX0 67 yX0_cell, Cond.instanceMethod yX0_cell, Cond.selects RX0 yX0_cell yX0_cell, Cond.initialized RX0, Cond.code yX0_cell cX0_cell 3 (some (.array .long)), Cond.fieldLink RX0 13 "RowReduction$Elimination" "cells" "[[J", Cond.methodLink RX0 82 yX1_copyNegated, Cond.static yX1_copyNegated, Cond.initialized RX1, Cond.code yX1_copyNegated cX1_copyNegated 2 none, Cond.methodLink RX1 11 yJ7_fill_d0a16, Cond.static yJ7_fill_d0a16, Cond.initialized RJ7]
def wsX0_prepareStep_r2 : List Cond := [Cond.code yJ7_fill_d0a16 cJ7_fill_d0a16 5 none, Cond.methodLink RX1 30 yX1_subtractScaled, Cond.static yX1_subtractScaled, Cond.code yX1_subtractScaled cX1_subtractScaled 13 none, Cond.constantLong RX1 9 (4294967295), Cond.methodLink RX0 74 yX1_setTo, Cond.static yX1_setTo, Cond.code yX1_setTo cX1_setTo 2 none, Cond.methodLink RX0 86 yX1_copy, Cond.static yX1_copy, Cond.code yX1_copy cX1_copy 2 none, Cond.methodLink RX1 21 arraycopyName, Cond.native arraycopyName, Cond.static arraycopyName, Cond.initialized "java/lang/System", Cond.methodLink RX0 89 yX1_trailingZeros, Cond.static yX1_trailingZeros, Cond.code yX1_trailingZeros cX1_trailingZeros 2 (some .int), Cond.constantLong RX1 45 (-1), Cond.methodLink RX1 47 yJ13_bitCount_95d88, Cond.static yJ13_bitCount_95d88, Cond.initialized RJ13, Cond.code yJ13_bitCount_95d88 cJ13_bitCount_95d88 2 (some .int), Cond.constantLong RJ13 314 (6148914691236517205)]
def wsX0_prepareStep_r3 : List Cond := [Cond.constantLong RJ13 316 (3689348814741910323), Cond.constantLong RJ13 318 (1085102592571150095), Cond.methodLink RX0 93 yX1_shiftRight, Cond.static yX1_shiftRight, Cond.code yX1_shiftRight cX1_shiftRight 10 none, Cond.methodLink RX1 53 yX1_limbAt, Cond.static yX1_limbAt, Cond.code yX1_limbAt cX1_limbAt 3 (some .long), Cond.methodLink RX0 97 yX1_inverse, Cond.static yX1_inverse, Cond.code yX1_inverse cX1_inverse 5 (some .long), Cond.constantLong RX1 57 (2), Cond.methodLink RX0 71 yX0_limbsOfMinor, Cond.instanceMethod yX0_limbsOfMinor, Cond.selects RX0 yX0_limbsOfMinor yX0_limbsOfMinor, Cond.code yX0_limbsOfMinor cX0_limbsOfMinor 2 (some .int), Cond.fieldLink RX0 32 "RowReduction$Elimination" "entryBits" "I"]
def wsX0_prepareStep : List Cond := .code yX0_prepareStep cX0_prepareStep 2 none :: ((wsX0_prepareStep_r1 ++ (wsX0_prepareStep_r2 ++ wsX0_prepareStep_r3)) ++ wsX00)
def wsX1_subtractProduct : List Cond := .code yX1_subtractProduct cX1_subtractProduct 5 none :: ([.methodLink RX1 30 yX1_subtractScaled, .static yX1_subtractScaled, .initialized RX1, .code yX1_subtractScaled cX1_subtractScaled 13 none, .constantLong RX1 9 (4294967295)])
def wsX1_divideEvenly : List Cond := .code yX1_divideEvenly cX1_divideEvenly 8 none :: ([.constantLong RX1 9 (4294967295), .methodLink RX1 30 yX1_subtractScaled, .static yX1_subtractScaled, .initialized RX1, .code yX1_subtractScaled cX1_subtractScaled 13 none])
def wsX1_isNegativeAt : List Cond := .code yX1_isNegativeAt cX1_isNegativeAt 2 (some .boolean) :: ([])
def wsJ7_rangeCheck_23922 : List Cond := .code yJ7_rangeCheck_23922 cJ7_rangeCheck_23922 3 none :: ([])
def wsJ7_fill_bad5a : List Cond := .code yJ7_fill_bad5a cJ7_fill_bad5a 6 none :: ([.methodLink RJ7 13 yJ7_rangeCheck_23922, .static yJ7_rangeCheck_23922, .initialized RJ7, .code yJ7_rangeCheck_23922 cJ7_rangeCheck_23922 3 none])
def wsX1_copyWidened : List Cond := .code yX1_copyWidened cX1_copyWidened 3 none :: ([.methodLink RX1 21 arraycopyName, .native arraycopyName, .static arraycopyName, .initialized "java/lang/System", .constantLong RX1 9 (4294967295), .methodLink RX1 17 yX1_isNegativeAt, .static yX1_isNegativeAt, .initialized RX1, .code yX1_isNegativeAt cX1_isNegativeAt 2 (some .boolean), .methodLink RX1 27 yJ7_fill_bad5a, .static yJ7_fill_bad5a, .initialized RJ7, .code yJ7_fill_bad5a cJ7_fill_bad5a 6 none, .methodLink RJ7 13 yJ7_rangeCheck_23922, .static yJ7_rangeCheck_23922, .code yJ7_rangeCheck_23922 cJ7_rangeCheck_23922 3 none])
def wsX0_replace_r1 : List Cond := [Cond.fieldLink RX0 25 "RowReduction$Elimination" "work" "[J", Cond.fieldLink RX0 18 "RowReduction$Elimination" "negatedPivot" "[J", Cond.fieldLink RX0 45 "RowReduction$Elimination" "workWidth" "I", Cond.fieldLink RX0 35 "RowReduction$Elimination" "divisorTwos" "I", Cond.fieldLink RX0 22 "RowReduction$Elimination" "oddDivisor" "[J", Cond.fieldLink RX0 38 "RowReduction$Elimination" "divisorInverse" "J", Cond.fieldLink RX0 42 "RowReduction$Elimination" "minorWidth" "I", Cond.methodLink RX0 111 yJ7_fill_d0a16, Cond.static yJ7_fill_d0a16, Cond.initialized RJ7, Cond.code yJ7_fill_d0a16 cJ7_fill_d0a16 5 none, Cond.methodLink RX0 117 yX1_subtractProduct, Cond.static yX1_subtractProduct, Cond.initialized RX1, Cond.code yX1_subtractProduct cX1_subtractProduct 5 none, Cond.methodLink RX1 30 yX1_subtractScaled, Cond.static yX1_subtractScaled, Cond.code yX1_subtractScaled cX1_subtractScaled 13 none, Cond.constantLong RX1 9 (4294967295), Cond.methodLink RX0 93 yX1_shiftRight, Cond.static yX1_shiftRight, Cond.code yX1_shiftRight cX1_shiftRight 10 none, Cond.methodLink RX1 53 yX1_limbAt, Cond.static yX1_limbAt]
def wsX0_replace_r2 : List Cond := [Cond.code yX1_limbAt cX1_limbAt 3 (some .long), Cond.methodLink RX0 121 yX1_divideEvenly, Cond.static yX1_divideEvenly, Cond.code yX1_divideEvenly cX1_divideEvenly 8 none, Cond.methodLink RX0 125 yX1_copyWidened, Cond.static yX1_copyWidened, Cond.code yX1_copyWidened cX1_copyWidened 3 none, Cond.methodLink RX1 21 arraycopyName, Cond.native arraycopyName, Cond.static arraycopyName, Cond.initialized "java/lang/System", Cond.methodLink RX1 17 yX1_isNegativeAt, Cond.static yX1_isNegativeAt, Cond.code yX1_isNegativeAt cX1_isNegativeAt 2 (some .boolean), Cond.methodLink RX1 27 yJ7_fill_bad5a, Cond.static yJ7_fill_bad5a, Cond.code yJ7_fill_bad5a cJ7_fill_bad5a 6 none, Cond.methodLink RJ7 13 yJ7_rangeCheck_23922, Cond.static yJ7_rangeCheck_23922, Cond.code yJ7_rangeCheck_23922 cJ7_rangeCheck_23922 3 none]
def wsX0_replace : List Cond := .code yX0_replace cX0_replace 4 none :: ((wsX0_replace_r1 ++ wsX0_replace_r2) ++ wsX00)
def wsX0_clearColumn_r1 : List Cond := [Cond.fieldLink RX0 28 "RowReduction$Elimination" "size" "I", Cond.methodLink RX0 67 yX0_cell, Cond.instanceMethod yX0_cell, Cond.selects RX0 yX0_cell yX0_cell, Cond.initialized RX0, Cond.code yX0_cell cX0_cell 3 (some (.array .long)), Cond.fieldLink RX0 13 "RowReduction$Elimination" "cells" "[[J", Cond.methodLink RX0 107 yX0_replace, Cond.instanceMethod yX0_replace, Cond.selects RX0 yX0_replace yX0_replace, Cond.code yX0_replace cX0_replace 4 none, Cond.fieldLink RX0 25 "RowReduction$Elimination" "work" "[J", Cond.fieldLink RX0 18 "RowReduction$Elimination" "negatedPivot" "[J", Cond.fieldLink RX0 45 "RowReduction$Elimination" "workWidth" "I", Cond.fieldLink RX0 35 "RowReduction$Elimination" "divisorTwos" "I", Cond.fieldLink RX0 22 "RowReduction$Elimination" "oddDivisor" "[J", Cond.fieldLink RX0 38 "RowReduction$Elimination" "divisorInverse" "J", Cond.fieldLink RX0 42 "RowReduction$Elimination" "minorWidth" "I", Cond.methodLink RX0 111 yJ7_fill_d0a16, Cond.static yJ7_fill_d0a16, Cond.initialized RJ7, Cond.code yJ7_fill_d0a16 cJ7_fill_d0a16 5 none, Cond.methodLink RX0 117 yX1_subtractProduct, Cond.static yX1_subtractProduct]
def wsX0_clearColumn_r2 : List Cond := [Cond.initialized RX1, Cond.code yX1_subtractProduct cX1_subtractProduct 5 none, Cond.methodLink RX1 30 yX1_subtractScaled, Cond.static yX1_subtractScaled, Cond.code yX1_subtractScaled cX1_subtractScaled 13 none, Cond.constantLong RX1 9 (4294967295), Cond.methodLink RX0 93 yX1_shiftRight, Cond.static yX1_shiftRight, Cond.code yX1_shiftRight cX1_shiftRight 10 none, Cond.methodLink RX1 53 yX1_limbAt, Cond.static yX1_limbAt, Cond.code yX1_limbAt cX1_limbAt 3 (some .long), Cond.methodLink RX0 121 yX1_divideEvenly, Cond.static yX1_divideEvenly, Cond.code yX1_divideEvenly cX1_divideEvenly 8 none, Cond.methodLink RX0 125 yX1_copyWidened, Cond.static yX1_copyWidened, Cond.code yX1_copyWidened cX1_copyWidened 3 none, Cond.methodLink RX1 21 arraycopyName, Cond.native arraycopyName, Cond.static arraycopyName, Cond.initialized "java/lang/System", Cond.methodLink RX1 17 yX1_isNegativeAt, Cond.static yX1_isNegativeAt]
def wsX0_clearColumn_r3 : List Cond := [Cond.code yX1_isNegativeAt cX1_isNegativeAt 2 (some .boolean), Cond.methodLink RX1 27 yJ7_fill_bad5a, Cond.static yJ7_fill_bad5a, Cond.code yJ7_fill_bad5a cJ7_fill_bad5a 6 none, Cond.methodLink RJ7 13 yJ7_rangeCheck_23922, Cond.static yJ7_rangeCheck_23922, Cond.code yJ7_rangeCheck_23922 cJ7_rangeCheck_23922 3 none]
def wsX0_clearColumn : List Cond := .code yX0_clearColumn cX0_clearColumn 4 none :: ((wsX0_clearColumn_r1 ++ (wsX0_clearColumn_r2 ++ wsX0_clearColumn_r3)) ++ wsX00)
def wsX0_reduce_r1 : List Cond := [Cond.fieldLink RX0 28 "RowReduction$Elimination" "size" "I", Cond.methodLink RX0 48 yX0_load, Cond.instanceMethod yX0_load, Cond.selects RX0 yX0_load yX0_load, Cond.initialized RX0, Cond.code yX0_load cX0_load 6 none, Cond.fieldLink RX0 32 "RowReduction$Elimination" "entryBits" "I", Cond.methodLink RX0 67 yX0_cell, Cond.instanceMethod yX0_cell, Cond.selects RX0 yX0_cell yX0_cell, Cond.code yX0_cell cX0_cell 3 (some (.array .long)), Cond.fieldLink RX0 13 "RowReduction$Elimination" "cells" "[[J", Cond.methodLink RX0 74 yX1_setTo, Cond.static yX1_setTo, Cond.initialized RX1, Cond.code yX1_setTo cX1_setTo 2 none, Cond.constantLong RX1 9 (4294967295), Cond.methodLink RX1 11 yJ7_fill_d0a16, Cond.static yJ7_fill_d0a16, Cond.initialized RJ7, Cond.code yJ7_fill_d0a16 cJ7_fill_d0a16 5 none, Cond.methodLink RX0 52 yX0_findPivotRow, Cond.instanceMethod yX0_findPivotRow, Cond.selects RX0 yX0_findPivotRow yX0_findPivotRow]
def wsX0_reduce_r2 : List Cond := [Cond.code yX0_findPivotRow cX0_findPivotRow 3 (some .int), Cond.methodLink RX0 78 yX1_isZero, Cond.static yX1_isZero, Cond.code yX1_isZero cX1_isZero 2 (some .boolean), Cond.methodLink RX0 56 yX0_swapRows, Cond.instanceMethod yX0_swapRows, Cond.selects RX0 yX0_swapRows yX0_swapRows, Cond.code yX0_swapRows cX0_swapRows 5 none, Cond.methodLink RX0 60 yX0_prepareStep, Cond.instanceMethod yX0_prepareStep, Cond.selects RX0 yX0_prepareStep yX0_prepareStep, Cond.code yX0_prepareStep cX0_prepareStep 2 none, Cond.fieldLink RX0 18 "RowReduction$Elimination" "negatedPivot" "[J", Cond.fieldLink RX0 22 "RowReduction$Elimination" "oddDivisor" "[J", Cond.fieldLink RX0 35 "RowReduction$Elimination" "divisorTwos" "I", Cond.fieldLink RX0 38 "RowReduction$Elimination" "divisorInverse" "J", Cond.methodLink RX0 101 Lib.Math.min.name, Cond.static Lib.Math.min.name, Cond.initialized "java/lang/Math", Cond.code Lib.Math.min.name Lib.Math.min.code 2 (some .int), Cond.fieldLink RX0 42 "RowReduction$Elimination" "minorWidth" "I", Cond.fieldLink RX0 45 "RowReduction$Elimination" "workWidth" "I", Cond.methodLink RX0 82 yX1_copyNegated, Cond.static yX1_copyNegated]
def wsX0_reduce_r3 : List Cond := [Cond.code yX1_copyNegated cX1_copyNegated 2 none, Cond.methodLink RX1 30 yX1_subtractScaled, Cond.static yX1_subtractScaled, Cond.code yX1_subtractScaled cX1_subtractScaled 13 none, Cond.methodLink RX0 86 yX1_copy, Cond.static yX1_copy, Cond.code yX1_copy cX1_copy 2 none, Cond.methodLink RX1 21 arraycopyName, Cond.native arraycopyName, Cond.static arraycopyName, Cond.initialized "java/lang/System", Cond.methodLink RX0 89 yX1_trailingZeros, Cond.static yX1_trailingZeros, Cond.code yX1_trailingZeros cX1_trailingZeros 2 (some .int), Cond.constantLong RX1 45 (-1), Cond.methodLink RX1 47 yJ13_bitCount_95d88, Cond.static yJ13_bitCount_95d88, Cond.initialized RJ13, Cond.code yJ13_bitCount_95d88 cJ13_bitCount_95d88 2 (some .int), Cond.constantLong RJ13 314 (6148914691236517205), Cond.constantLong RJ13 316 (3689348814741910323), Cond.constantLong RJ13 318 (1085102592571150095), Cond.methodLink RX0 93 yX1_shiftRight, Cond.static yX1_shiftRight]
def wsX0_reduce_r4 : List Cond := [Cond.code yX1_shiftRight cX1_shiftRight 10 none, Cond.methodLink RX1 53 yX1_limbAt, Cond.static yX1_limbAt, Cond.code yX1_limbAt cX1_limbAt 3 (some .long), Cond.methodLink RX0 97 yX1_inverse, Cond.static yX1_inverse, Cond.code yX1_inverse cX1_inverse 5 (some .long), Cond.constantLong RX1 57 (2), Cond.methodLink RX0 71 yX0_limbsOfMinor, Cond.instanceMethod yX0_limbsOfMinor, Cond.selects RX0 yX0_limbsOfMinor yX0_limbsOfMinor, Cond.code yX0_limbsOfMinor cX0_limbsOfMinor 2 (some .int), Cond.methodLink RX0 64 yX0_clearColumn, Cond.instanceMethod yX0_clearColumn, Cond.selects RX0 yX0_clearColumn yX0_clearColumn, Cond.code yX0_clearColumn cX0_clearColumn 4 none, Cond.methodLink RX0 107 yX0_replace, Cond.instanceMethod yX0_replace, Cond.selects RX0 yX0_replace yX0_replace, Cond.code yX0_replace cX0_replace 4 none, Cond.fieldLink RX0 25 "RowReduction$Elimination" "work" "[J", Cond.methodLink RX0 111 yJ7_fill_d0a16, Cond.methodLink RX0 117 yX1_subtractProduct, Cond.static yX1_subtractProduct]
def wsX0_reduce_r5 : List Cond := [Cond.code yX1_subtractProduct cX1_subtractProduct 5 none, Cond.methodLink RX0 121 yX1_divideEvenly, Cond.static yX1_divideEvenly, Cond.code yX1_divideEvenly cX1_divideEvenly 8 none, Cond.methodLink RX0 125 yX1_copyWidened, Cond.static yX1_copyWidened, Cond.code yX1_copyWidened cX1_copyWidened 3 none, Cond.methodLink RX1 17 yX1_isNegativeAt, Cond.static yX1_isNegativeAt, Cond.code yX1_isNegativeAt cX1_isNegativeAt 2 (some .boolean), Cond.methodLink RX1 27 yJ7_fill_bad5a, Cond.static yJ7_fill_bad5a, Cond.code yJ7_fill_bad5a cJ7_fill_bad5a 6 none, Cond.methodLink RJ7 13 yJ7_rangeCheck_23922, Cond.static yJ7_rangeCheck_23922, Cond.code yJ7_rangeCheck_23922 cJ7_rangeCheck_23922 3 none]
def wsX0_reduce : List Cond := .code yX0_reduce cX0_reduce 5 (some .boolean) :: ((wsX0_reduce_r1 ++ (wsX0_reduce_r2 ++ (wsX0_reduce_r3 ++ (wsX0_reduce_r4 ++ wsX0_reduce_r5)))) ++ wsX00)
def wsX0_dividend : List Cond := .code yX0_dividend cX0_dividend 2 (some (.array .long)) :: ([.fieldLink RX0 28 "RowReduction$Elimination" "size" "I", .methodLink RX0 67 yX0_cell, .instanceMethod yX0_cell, .selects RX0 yX0_cell yX0_cell, .initialized RX0, .code yX0_cell cX0_cell 3 (some (.array .long)), .fieldLink RX0 13 "RowReduction$Elimination" "cells" "[[J"] ++ wsX00)
def wsX0_divisor : List Cond := .code yX0_divisor cX0_divisor 1 (some (.array .long)) :: ([.fieldLink RX0 28 "RowReduction$Elimination" "size" "I", .methodLink RX0 67 yX0_cell, .instanceMethod yX0_cell, .selects RX0 yX0_cell yX0_cell, .initialized RX0, .code yX0_cell cX0_cell 3 (some (.array .long)), .fieldLink RX0 13 "RowReduction$Elimination" "cells" "[[J"] ++ wsX00)
def wsX0_width : List Cond := .code yX0_width cX0_width 1 (some .int) :: ([.fieldLink RX0 28 "RowReduction$Elimination" "size" "I", .methodLink RX0 71 yX0_limbsOfMinor, .instanceMethod yX0_limbsOfMinor, .selects RX0 yX0_limbsOfMinor yX0_limbsOfMinor, .initialized RX0, .code yX0_limbsOfMinor cX0_limbsOfMinor 2 (some .int), .fieldLink RX0 32 "RowReduction$Elimination" "entryBits" "I"] ++ wsX00)
def wsX1_isNegative : List Cond := .code yX1_isNegative cX1_isNegative 1 (some .boolean) :: ([.methodLink RX1 17 yX1_isNegativeAt, .static yX1_isNegativeAt, .initialized RX1, .code yX1_isNegativeAt cX1_isNegativeAt 2 (some .boolean)])
def wsX1_copyMagnitude_r1 : List Cond := [Cond.methodLink RX1 34 yX1_isNegative, Cond.static yX1_isNegative, Cond.initialized RX1, Cond.code yX1_isNegative cX1_isNegative 1 (some .boolean), Cond.methodLink RX1 17 yX1_isNegativeAt, Cond.static yX1_isNegativeAt, Cond.code yX1_isNegativeAt cX1_isNegativeAt 2 (some .boolean), Cond.methodLink RX1 38 yX1_copyNegated, Cond.static yX1_copyNegated, Cond.code yX1_copyNegated cX1_copyNegated 2 none, Cond.methodLink RX1 11 yJ7_fill_d0a16, Cond.static yJ7_fill_d0a16, Cond.initialized RJ7, Cond.code yJ7_fill_d0a16 cJ7_fill_d0a16 5 none, Cond.methodLink RX1 30 yX1_subtractScaled, Cond.static yX1_subtractScaled, Cond.code yX1_subtractScaled cX1_subtractScaled 13 none, Cond.constantLong RX1 9 (4294967295), Cond.methodLink RX1 42 yX1_copy, Cond.static yX1_copy, Cond.code yX1_copy cX1_copy 2 none, Cond.methodLink RX1 21 arraycopyName, Cond.native arraycopyName, Cond.static arraycopyName]
def wsX1_copyMagnitude_r2 : List Cond := [Cond.initialized "java/lang/System"]
def wsX1_copyMagnitude : List Cond := .code yX1_copyMagnitude cX1_copyMagnitude 2 none :: ((wsX1_copyMagnitude_r1 ++ wsX1_copyMagnitude_r2))
def wsX1_compare : List Cond := .code yX1_compare cX1_compare 4 (some .int) :: ([])
def wsX2_init : List Cond := .code yX2_init cX2_init 1 none :: ([.methodLink RX2 3 objectInit, .instanceMethod objectInit, .code objectInit ⟨#[0xb1]⟩ 1 none, .arrayClass .long, .fieldLink RX2 9 "RowReduction$LowestTerms" "top" "[J", .fieldLink RX2 15 "RowReduction$LowestTerms" "bottom" "[J", .fieldLink RX2 18 "RowReduction$LowestTerms" "oddTop" "[J", .fieldLink RX2 21 "RowReduction$LowestTerms" "oddBottom" "[J", .fieldLink RX2 24 "RowReduction$LowestTerms" "numerator" "J", .fieldLink RX2 28 "RowReduction$LowestTerms" "denominator" "J"] ++ wsX20)
def wsX2_removeCommonTwos_r1 : List Cond := [Cond.fieldLink RX2 9 "RowReduction$LowestTerms" "top" "[J", Cond.fieldLink RX2 15 "RowReduction$LowestTerms" "bottom" "[J", Cond.methodLink RX2 61 Lib.Math.min.name, Cond.static Lib.Math.min.name, Cond.initialized "java/lang/Math", Cond.code Lib.Math.min.name Lib.Math.min.code 2 (some .int), Cond.methodLink RX2 57 yX1_trailingZeros, Cond.static yX1_trailingZeros, Cond.initialized RX1, Cond.code yX1_trailingZeros cX1_trailingZeros 2 (some .int), Cond.constantLong RX1 45 (-1), Cond.methodLink RX1 47 yJ13_bitCount_95d88, Cond.static yJ13_bitCount_95d88, Cond.initialized RJ13, Cond.code yJ13_bitCount_95d88 cJ13_bitCount_95d88 2 (some .int), Cond.constantLong RJ13 314 (6148914691236517205), Cond.constantLong RJ13 316 (3689348814741910323), Cond.constantLong RJ13 318 (1085102592571150095), Cond.methodLink RX2 67 yX1_shiftRight, Cond.static yX1_shiftRight, Cond.code yX1_shiftRight cX1_shiftRight 10 none, Cond.constantLong RX1 9 (4294967295), Cond.methodLink RX1 53 yX1_limbAt, Cond.static yX1_limbAt]
def wsX2_removeCommonTwos_r2 : List Cond := [Cond.code yX1_limbAt cX1_limbAt 3 (some .long)]
def wsX2_removeCommonTwos : List Cond := .code yX2_removeCommonTwos cX2_removeCommonTwos 3 none :: ((wsX2_removeCommonTwos_r1 ++ wsX2_removeCommonTwos_r2) ++ wsX20)
def wsX2_removeTwos : List Cond := .code yX2_removeTwos cX2_removeTwos 2 none :: ([.methodLink RX2 57 yX1_trailingZeros, .static yX1_trailingZeros, .initialized RX1, .code yX1_trailingZeros cX1_trailingZeros 2 (some .int), .constantLong RX1 45 (-1), .methodLink RX1 47 yJ13_bitCount_95d88, .static yJ13_bitCount_95d88, .initialized RJ13, .code yJ13_bitCount_95d88 cJ13_bitCount_95d88 2 (some .int), .constantLong RJ13 314 (6148914691236517205), .constantLong RJ13 316 (3689348814741910323), .constantLong RJ13 318 (1085102592571150095), .methodLink RX2 67 yX1_shiftRight, .static yX1_shiftRight, .code yX1_shiftRight cX1_shiftRight 10 none, .constantLong RX1 9 (4294967295), .methodLink RX1 53 yX1_limbAt, .static yX1_limbAt, .code yX1_limbAt cX1_limbAt 3 (some .long)])
def wsX2_commonOddFactor_r1 : List Cond := [Cond.fieldLink RX2 18 "RowReduction$LowestTerms" "oddTop" "[J", Cond.fieldLink RX2 21 "RowReduction$LowestTerms" "oddBottom" "[J", Cond.methodLink RX2 90 yX1_compare, Cond.static yX1_compare, Cond.initialized RX1, Cond.code yX1_compare cX1_compare 4 (some .int), Cond.methodLink RX2 94 yX1_subtractScaled, Cond.static yX1_subtractScaled, Cond.code yX1_subtractScaled cX1_subtractScaled 13 none, Cond.constantLong RX1 9 (4294967295), Cond.methodLink RX2 74 yX2_removeTwos, Cond.static yX2_removeTwos, Cond.initialized RX2, Cond.code yX2_removeTwos cX2_removeTwos 2 none, Cond.methodLink RX2 57 yX1_trailingZeros, Cond.static yX1_trailingZeros, Cond.code yX1_trailingZeros cX1_trailingZeros 2 (some .int), Cond.constantLong RX1 45 (-1), Cond.methodLink RX1 47 yJ13_bitCount_95d88, Cond.static yJ13_bitCount_95d88, Cond.initialized RJ13, Cond.code yJ13_bitCount_95d88 cJ13_bitCount_95d88 2 (some .int), Cond.constantLong RJ13 314 (6148914691236517205), Cond.constantLong RJ13 316 (3689348814741910323)]
def wsX2_commonOddFactor_r2 : List Cond := [Cond.constantLong RJ13 318 (1085102592571150095), Cond.methodLink RX2 67 yX1_shiftRight, Cond.static yX1_shiftRight, Cond.code yX1_shiftRight cX1_shiftRight 10 none, Cond.methodLink RX1 53 yX1_limbAt, Cond.static yX1_limbAt, Cond.code yX1_limbAt cX1_limbAt 3 (some .long)]
def wsX2_commonOddFactor : List Cond := .code yX2_commonOddFactor cX2_commonOddFactor 8 (some (.array .long)) :: ((wsX2_commonOddFactor_r1 ++ wsX2_commonOddFactor_r2) ++ wsX20)
def wsX2_removeCommonOddFactor_r1 : List Cond := [Cond.fieldLink RX2 9 "RowReduction$LowestTerms" "top" "[J", Cond.fieldLink RX2 18 "RowReduction$LowestTerms" "oddTop" "[J", Cond.fieldLink RX2 15 "RowReduction$LowestTerms" "bottom" "[J", Cond.fieldLink RX2 21 "RowReduction$LowestTerms" "oddBottom" "[J", Cond.methodLink RX2 71 yX1_copy, Cond.static yX1_copy, Cond.initialized RX1, Cond.code yX1_copy cX1_copy 2 none, Cond.methodLink RX1 21 arraycopyName, Cond.native arraycopyName, Cond.static arraycopyName, Cond.initialized "java/lang/System", Cond.methodLink RX2 74 yX2_removeTwos, Cond.static yX2_removeTwos, Cond.initialized RX2, Cond.code yX2_removeTwos cX2_removeTwos 2 none, Cond.methodLink RX2 57 yX1_trailingZeros, Cond.static yX1_trailingZeros, Cond.code yX1_trailingZeros cX1_trailingZeros 2 (some .int), Cond.constantLong RX1 45 (-1), Cond.methodLink RX1 47 yJ13_bitCount_95d88, Cond.static yJ13_bitCount_95d88, Cond.initialized RJ13, Cond.code yJ13_bitCount_95d88 cJ13_bitCount_95d88 2 (some .int)]
def wsX2_removeCommonOddFactor_r2 : List Cond := [Cond.constantLong RJ13 314 (6148914691236517205), Cond.constantLong RJ13 316 (3689348814741910323), Cond.constantLong RJ13 318 (1085102592571150095), Cond.methodLink RX2 67 yX1_shiftRight, Cond.static yX1_shiftRight, Cond.code yX1_shiftRight cX1_shiftRight 10 none, Cond.constantLong RX1 9 (4294967295), Cond.methodLink RX1 53 yX1_limbAt, Cond.static yX1_limbAt, Cond.code yX1_limbAt cX1_limbAt 3 (some .long), Cond.methodLink RX2 78 yX2_commonOddFactor, Cond.instanceMethod yX2_commonOddFactor, Cond.selects RX2 yX2_commonOddFactor yX2_commonOddFactor, Cond.code yX2_commonOddFactor cX2_commonOddFactor 8 (some (.array .long)), Cond.methodLink RX2 90 yX1_compare, Cond.static yX1_compare, Cond.code yX1_compare cX1_compare 4 (some .int), Cond.methodLink RX2 94 yX1_subtractScaled, Cond.static yX1_subtractScaled, Cond.code yX1_subtractScaled cX1_subtractScaled 13 none, Cond.methodLink RX2 82 yX1_inverse, Cond.static yX1_inverse, Cond.code yX1_inverse cX1_inverse 5 (some .long), Cond.constantLong RX1 57 (2)]
def wsX2_removeCommonOddFactor_r3 : List Cond := [Cond.methodLink RX2 86 yX1_divideEvenly, Cond.static yX1_divideEvenly, Cond.code yX1_divideEvenly cX1_divideEvenly 8 none, Cond.methodLink RX1 30 yX1_subtractScaled]
def wsX2_removeCommonOddFactor : List Cond := .code yX2_removeCommonOddFactor cX2_removeCommonOddFactor 5 none :: ((wsX2_removeCommonOddFactor_r1 ++ (wsX2_removeCommonOddFactor_r2 ++ wsX2_removeCommonOddFactor_r3)) ++ wsX20)
def wsX2_lowBits : List Cond := .code yX2_lowBits cX2_lowBits 1 (some .long) :: ([])
def wsX2_fitsLong : List Cond := .code yX2_fitsLong cX2_fitsLong 4 (some .boolean) :: ([.constantLong RX2 100 (-9223372036854775808), .methodLink RX2 53 yX2_lowBits, .static yX2_lowBits, .initialized RX2, .code yX2_lowBits cX2_lowBits 1 (some .long)])
def wsX2_find_r1 : List Cond := [Cond.fieldLink RX2 24 "RowReduction$LowestTerms" "numerator" "J", Cond.fieldLink RX2 28 "RowReduction$LowestTerms" "denominator" "J", Cond.fieldLink RX2 9 "RowReduction$LowestTerms" "top" "[J", Cond.fieldLink RX2 15 "RowReduction$LowestTerms" "bottom" "[J", Cond.methodLink RX2 31 yX1_isZero, Cond.static yX1_isZero, Cond.initialized RX1, Cond.code yX1_isZero cX1_isZero 2 (some .boolean), Cond.methodLink RX2 35 yX1_isNegative, Cond.static yX1_isNegative, Cond.code yX1_isNegative cX1_isNegative 1 (some .boolean), Cond.methodLink RX1 17 yX1_isNegativeAt, Cond.static yX1_isNegativeAt, Cond.code yX1_isNegativeAt cX1_isNegativeAt 2 (some .boolean), Cond.methodLink RX2 38 yX1_copyMagnitude, Cond.static yX1_copyMagnitude, Cond.code yX1_copyMagnitude cX1_copyMagnitude 2 none, Cond.methodLink RX1 34 yX1_isNegative, Cond.methodLink RX1 38 yX1_copyNegated, Cond.static yX1_copyNegated, Cond.code yX1_copyNegated cX1_copyNegated 2 none, Cond.methodLink RX1 11 yJ7_fill_d0a16, Cond.static yJ7_fill_d0a16, Cond.initialized RJ7]
def wsX2_find_r2 : List Cond := [Cond.code yJ7_fill_d0a16 cJ7_fill_d0a16 5 none, Cond.methodLink RX1 30 yX1_subtractScaled, Cond.static yX1_subtractScaled, Cond.code yX1_subtractScaled cX1_subtractScaled 13 none, Cond.constantLong RX1 9 (4294967295), Cond.methodLink RX1 42 yX1_copy, Cond.static yX1_copy, Cond.code yX1_copy cX1_copy 2 none, Cond.methodLink RX1 21 arraycopyName, Cond.native arraycopyName, Cond.static arraycopyName, Cond.initialized "java/lang/System", Cond.methodLink RX2 42 yX2_removeCommonTwos, Cond.instanceMethod yX2_removeCommonTwos, Cond.selects RX2 yX2_removeCommonTwos yX2_removeCommonTwos, Cond.initialized RX2, Cond.code yX2_removeCommonTwos cX2_removeCommonTwos 3 none, Cond.methodLink RX2 61 Lib.Math.min.name, Cond.static Lib.Math.min.name, Cond.initialized "java/lang/Math", Cond.code Lib.Math.min.name Lib.Math.min.code 2 (some .int), Cond.methodLink RX2 57 yX1_trailingZeros, Cond.static yX1_trailingZeros, Cond.code yX1_trailingZeros cX1_trailingZeros 2 (some .int)]
def wsX2_find_r3 : List Cond := [Cond.constantLong RX1 45 (-1), Cond.methodLink RX1 47 yJ13_bitCount_95d88, Cond.static yJ13_bitCount_95d88, Cond.initialized RJ13, Cond.code yJ13_bitCount_95d88 cJ13_bitCount_95d88 2 (some .int), Cond.constantLong RJ13 314 (6148914691236517205), Cond.constantLong RJ13 316 (3689348814741910323), Cond.constantLong RJ13 318 (1085102592571150095), Cond.methodLink RX2 67 yX1_shiftRight, Cond.static yX1_shiftRight, Cond.code yX1_shiftRight cX1_shiftRight 10 none, Cond.methodLink RX1 53 yX1_limbAt, Cond.static yX1_limbAt, Cond.code yX1_limbAt cX1_limbAt 3 (some .long), Cond.methodLink RX2 46 yX2_removeCommonOddFactor, Cond.instanceMethod yX2_removeCommonOddFactor, Cond.selects RX2 yX2_removeCommonOddFactor yX2_removeCommonOddFactor, Cond.code yX2_removeCommonOddFactor cX2_removeCommonOddFactor 5 none, Cond.fieldLink RX2 18 "RowReduction$LowestTerms" "oddTop" "[J", Cond.fieldLink RX2 21 "RowReduction$LowestTerms" "oddBottom" "[J", Cond.methodLink RX2 71 yX1_copy, Cond.methodLink RX2 74 yX2_removeTwos, Cond.static yX2_removeTwos, Cond.code yX2_removeTwos cX2_removeTwos 2 none]
def wsX2_find_r4 : List Cond := [Cond.methodLink RX2 78 yX2_commonOddFactor, Cond.instanceMethod yX2_commonOddFactor, Cond.selects RX2 yX2_commonOddFactor yX2_commonOddFactor, Cond.code yX2_commonOddFactor cX2_commonOddFactor 8 (some (.array .long)), Cond.methodLink RX2 90 yX1_compare, Cond.static yX1_compare, Cond.code yX1_compare cX1_compare 4 (some .int), Cond.methodLink RX2 94 yX1_subtractScaled, Cond.methodLink RX2 82 yX1_inverse, Cond.static yX1_inverse, Cond.code yX1_inverse cX1_inverse 5 (some .long), Cond.constantLong RX1 57 (2), Cond.methodLink RX2 86 yX1_divideEvenly, Cond.static yX1_divideEvenly, Cond.code yX1_divideEvenly cX1_divideEvenly 8 none, Cond.methodLink RX2 49 yX2_fitsLong, Cond.static yX2_fitsLong, Cond.code yX2_fitsLong cX2_fitsLong 4 (some .boolean), Cond.constantLong RX2 100 (-9223372036854775808), Cond.methodLink RX2 53 yX2_lowBits, Cond.static yX2_lowBits, Cond.code yX2_lowBits cX2_lowBits 1 (some .long)]
def wsX2_find : List Cond := .code yX2_find cX2_find 5 (some .boolean) :: ((wsX2_find_r1 ++ (wsX2_find_r2 ++ (wsX2_find_r3 ++ wsX2_find_r4))) ++ wsX20)
def wsX3_init_r1 : List Cond := [Cond.methodLink RX3 3 objectInit, Cond.instanceMethod objectInit, Cond.code objectInit ⟨#[0xb1]⟩ 1 none, Cond.classLink RX3 9 "[[I", Cond.arrayClass .int, Cond.fieldLink RX3 11 "RowReduction" "system" "[[I", Cond.arrayClass .long, Cond.fieldLink RX3 14 "RowReduction" "numerators" "[J", Cond.fieldLink RX3 18 "RowReduction" "denominators" "[J", Cond.classLink RX3 21 RX0, Cond.instantiable RX0 10, Cond.initialized RX0, Cond.fieldLink RX3 24 "RowReduction" "elimination" "LRowReduction$Elimination;", Cond.classLink RX3 28 RX2, Cond.instantiable RX2 6, Cond.initialized RX2, Cond.fieldLink RX3 31 "RowReduction" "lowestTerms" "LRowReduction$LowestTerms;", Cond.fieldLink RX3 35 "RowReduction" "size" "I", Cond.fieldLink RX3 39 "RowReduction" "told" "Z", Cond.instanceMethod yX0_init, Cond.code yX0_init cX0_init 1 none, Cond.methodLink RX0 3 objectInit, Cond.classLink RX0 11 "[[J", Cond.fieldLink RX0 13 "RowReduction$Elimination" "cells" "[[J"]
def wsX3_init_r2 : List Cond := [Cond.fieldLink RX0 18 "RowReduction$Elimination" "negatedPivot" "[J", Cond.fieldLink RX0 22 "RowReduction$Elimination" "oddDivisor" "[J", Cond.fieldLink RX0 25 "RowReduction$Elimination" "work" "[J", Cond.fieldLink RX0 28 "RowReduction$Elimination" "size" "I", Cond.fieldLink RX0 32 "RowReduction$Elimination" "entryBits" "I", Cond.fieldLink RX0 35 "RowReduction$Elimination" "divisorTwos" "I", Cond.fieldLink RX0 38 "RowReduction$Elimination" "divisorInverse" "J", Cond.fieldLink RX0 42 "RowReduction$Elimination" "minorWidth" "I", Cond.fieldLink RX0 45 "RowReduction$Elimination" "workWidth" "I", Cond.instanceMethod yX2_init, Cond.code yX2_init cX2_init 1 none, Cond.methodLink RX2 3 objectInit, Cond.fieldLink RX2 9 "RowReduction$LowestTerms" "top" "[J", Cond.fieldLink RX2 15 "RowReduction$LowestTerms" "bottom" "[J", Cond.fieldLink RX2 18 "RowReduction$LowestTerms" "oddTop" "[J", Cond.fieldLink RX2 21 "RowReduction$LowestTerms" "oddBottom" "[J", Cond.fieldLink RX2 24 "RowReduction$LowestTerms" "numerator" "J", Cond.fieldLink RX2 28 "RowReduction$LowestTerms" "denominator" "J"]
def wsX3_init : List Cond := .code yX3_init cX3_init 1 none :: ((wsX3_init_r1 ++ wsX3_init_r2) ++ wsX30 ++ wsX00 ++ wsX20)
def wsJ7_fill_53178 : List Cond := .code yJ7_fill_53178 cJ7_fill_53178 4 none :: ([])
def wsX3_begin : List Cond := .code yX3_begin cX3_begin 3 (some .boolean) :: ([.fieldLink RX3 11 "RowReduction" "system" "[[I", .fieldLink RX3 35 "RowReduction" "size" "I", .fieldLink RX3 39 "RowReduction" "told" "Z", .methodLink RX3 43 yJ7_fill_53178, .static yJ7_fill_53178, .initialized RJ7, .code yJ7_fill_53178 cJ7_fill_53178 4 none] ++ wsX30)
def wsX3_hasNumber : List Cond := .code yX3_hasNumber cX3_hasNumber 3 (some .boolean) :: ([.fieldLink RX3 35 "RowReduction" "size" "I"] ++ wsX30)
def wsX3_put : List Cond := .code yX3_put cX3_put 4 (some .boolean) :: ([.fieldLink RX3 11 "RowReduction" "system" "[[I", .methodLink RX3 49 yX3_hasNumber, .instanceMethod yX3_hasNumber, .selects RX3 yX3_hasNumber yX3_hasNumber, .initialized RX3, .code yX3_hasNumber cX3_hasNumber 3 (some .boolean), .fieldLink RX3 35 "RowReduction" "size" "I"] ++ wsX30)
def wsX3_get : List Cond := .code yX3_get cX3_get 3 (some .int) :: ([.fieldLink RX3 11 "RowReduction" "system" "[[I", .methodLink RX3 49 yX3_hasNumber, .instanceMethod yX3_hasNumber, .selects RX3 yX3_hasNumber yX3_hasNumber, .initialized RX3, .code yX3_hasNumber cX3_hasNumber 3 (some .boolean), .fieldLink RX3 35 "RowReduction" "size" "I"] ++ wsX30)
def wsX3_solve_r1 : List Cond := [Cond.fieldLink RX3 39 "RowReduction" "told" "Z", Cond.fieldLink RX3 24 "RowReduction" "elimination" "LRowReduction$Elimination;", Cond.fieldLink RX3 11 "RowReduction" "system" "[[I", Cond.fieldLink RX3 35 "RowReduction" "size" "I", Cond.fieldLink RX3 31 "RowReduction" "lowestTerms" "LRowReduction$LowestTerms;", Cond.fieldLink RX3 14 "RowReduction" "numerators" "[J", Cond.fieldLink RX3 18 "RowReduction" "denominators" "[J", Cond.methodLink RX3 53 yX0_reduce, Cond.instanceMethod yX0_reduce, Cond.selects RX0 yX0_reduce yX0_reduce, Cond.initialized RX0, Cond.code yX0_reduce cX0_reduce 5 (some .boolean), Cond.fieldLink RX0 28 "RowReduction$Elimination" "size" "I", Cond.methodLink RX0 48 yX0_load, Cond.instanceMethod yX0_load, Cond.selects RX0 yX0_load yX0_load, Cond.code yX0_load cX0_load 6 none, Cond.fieldLink RX0 32 "RowReduction$Elimination" "entryBits" "I", Cond.methodLink RX0 67 yX0_cell, Cond.instanceMethod yX0_cell, Cond.selects RX0 yX0_cell yX0_cell, Cond.code yX0_cell cX0_cell 3 (some (.array .long)), Cond.fieldLink RX0 13 "RowReduction$Elimination" "cells" "[[J", Cond.methodLink RX0 74 yX1_setTo]
def wsX3_solve_r2 : List Cond := [Cond.static yX1_setTo, Cond.initialized RX1, Cond.code yX1_setTo cX1_setTo 2 none, Cond.constantLong RX1 9 (4294967295), Cond.methodLink RX1 11 yJ7_fill_d0a16, Cond.static yJ7_fill_d0a16, Cond.initialized RJ7, Cond.code yJ7_fill_d0a16 cJ7_fill_d0a16 5 none, Cond.methodLink RX0 52 yX0_findPivotRow, Cond.instanceMethod yX0_findPivotRow, Cond.selects RX0 yX0_findPivotRow yX0_findPivotRow, Cond.code yX0_findPivotRow cX0_findPivotRow 3 (some .int), Cond.methodLink RX0 78 yX1_isZero, Cond.static yX1_isZero, Cond.code yX1_isZero cX1_isZero 2 (some .boolean), Cond.methodLink RX0 56 yX0_swapRows, Cond.instanceMethod yX0_swapRows, Cond.selects RX0 yX0_swapRows yX0_swapRows, Cond.code yX0_swapRows cX0_swapRows 5 none, Cond.methodLink RX0 60 yX0_prepareStep, Cond.instanceMethod yX0_prepareStep, Cond.selects RX0 yX0_prepareStep yX0_prepareStep, Cond.code yX0_prepareStep cX0_prepareStep 2 none, Cond.fieldLink RX0 18 "RowReduction$Elimination" "negatedPivot" "[J"]
def wsX3_solve_r3 : List Cond := [Cond.fieldLink RX0 22 "RowReduction$Elimination" "oddDivisor" "[J", Cond.fieldLink RX0 35 "RowReduction$Elimination" "divisorTwos" "I", Cond.fieldLink RX0 38 "RowReduction$Elimination" "divisorInverse" "J", Cond.methodLink RX0 101 Lib.Math.min.name, Cond.static Lib.Math.min.name, Cond.initialized "java/lang/Math", Cond.code Lib.Math.min.name Lib.Math.min.code 2 (some .int), Cond.fieldLink RX0 42 "RowReduction$Elimination" "minorWidth" "I", Cond.fieldLink RX0 45 "RowReduction$Elimination" "workWidth" "I", Cond.methodLink RX0 82 yX1_copyNegated, Cond.static yX1_copyNegated, Cond.code yX1_copyNegated cX1_copyNegated 2 none, Cond.methodLink RX1 30 yX1_subtractScaled, Cond.static yX1_subtractScaled, Cond.code yX1_subtractScaled cX1_subtractScaled 13 none, Cond.methodLink RX0 86 yX1_copy, Cond.static yX1_copy, Cond.code yX1_copy cX1_copy 2 none, Cond.methodLink RX1 21 arraycopyName, Cond.native arraycopyName, Cond.static arraycopyName, Cond.initialized "java/lang/System", Cond.methodLink RX0 89 yX1_trailingZeros, Cond.static yX1_trailingZeros]
def wsX3_solve_r4 : List Cond := [Cond.code yX1_trailingZeros cX1_trailingZeros 2 (some .int), Cond.constantLong RX1 45 (-1), Cond.methodLink RX1 47 yJ13_bitCount_95d88, Cond.static yJ13_bitCount_95d88, Cond.initialized RJ13, Cond.code yJ13_bitCount_95d88 cJ13_bitCount_95d88 2 (some .int), Cond.constantLong RJ13 314 (6148914691236517205), Cond.constantLong RJ13 316 (3689348814741910323), Cond.constantLong RJ13 318 (1085102592571150095), Cond.methodLink RX0 93 yX1_shiftRight, Cond.static yX1_shiftRight, Cond.code yX1_shiftRight cX1_shiftRight 10 none, Cond.methodLink RX1 53 yX1_limbAt, Cond.static yX1_limbAt, Cond.code yX1_limbAt cX1_limbAt 3 (some .long), Cond.methodLink RX0 97 yX1_inverse, Cond.static yX1_inverse, Cond.code yX1_inverse cX1_inverse 5 (some .long), Cond.constantLong RX1 57 (2), Cond.methodLink RX0 71 yX0_limbsOfMinor, Cond.instanceMethod yX0_limbsOfMinor, Cond.selects RX0 yX0_limbsOfMinor yX0_limbsOfMinor, Cond.code yX0_limbsOfMinor cX0_limbsOfMinor 2 (some .int), Cond.methodLink RX0 64 yX0_clearColumn]
def wsX3_solve_r5 : List Cond := [Cond.instanceMethod yX0_clearColumn, Cond.selects RX0 yX0_clearColumn yX0_clearColumn, Cond.code yX0_clearColumn cX0_clearColumn 4 none, Cond.methodLink RX0 107 yX0_replace, Cond.instanceMethod yX0_replace, Cond.selects RX0 yX0_replace yX0_replace, Cond.code yX0_replace cX0_replace 4 none, Cond.fieldLink RX0 25 "RowReduction$Elimination" "work" "[J", Cond.methodLink RX0 111 yJ7_fill_d0a16, Cond.methodLink RX0 117 yX1_subtractProduct, Cond.static yX1_subtractProduct, Cond.code yX1_subtractProduct cX1_subtractProduct 5 none, Cond.methodLink RX0 121 yX1_divideEvenly, Cond.static yX1_divideEvenly, Cond.code yX1_divideEvenly cX1_divideEvenly 8 none, Cond.methodLink RX0 125 yX1_copyWidened, Cond.static yX1_copyWidened, Cond.code yX1_copyWidened cX1_copyWidened 3 none, Cond.methodLink RX1 17 yX1_isNegativeAt, Cond.static yX1_isNegativeAt, Cond.code yX1_isNegativeAt cX1_isNegativeAt 2 (some .boolean), Cond.methodLink RX1 27 yJ7_fill_bad5a, Cond.static yJ7_fill_bad5a, Cond.code yJ7_fill_bad5a cJ7_fill_bad5a 6 none]
def wsX3_solve_r6 : List Cond := [Cond.methodLink RJ7 13 yJ7_rangeCheck_23922, Cond.static yJ7_rangeCheck_23922, Cond.code yJ7_rangeCheck_23922 cJ7_rangeCheck_23922 3 none, Cond.methodLink RX3 57 yX0_dividend, Cond.instanceMethod yX0_dividend, Cond.selects RX0 yX0_dividend yX0_dividend, Cond.code yX0_dividend cX0_dividend 2 (some (.array .long)), Cond.methodLink RX3 61 yX0_divisor, Cond.instanceMethod yX0_divisor, Cond.selects RX0 yX0_divisor yX0_divisor, Cond.code yX0_divisor cX0_divisor 1 (some (.array .long)), Cond.methodLink RX3 65 yX0_width, Cond.instanceMethod yX0_width, Cond.selects RX0 yX0_width yX0_width, Cond.code yX0_width cX0_width 1 (some .int), Cond.methodLink RX3 69 yX2_find, Cond.instanceMethod yX2_find, Cond.selects RX2 yX2_find yX2_find, Cond.initialized RX2, Cond.code yX2_find cX2_find 5 (some .boolean), Cond.fieldLink RX2 24 "RowReduction$LowestTerms" "numerator" "J", Cond.fieldLink RX2 28 "RowReduction$LowestTerms" "denominator" "J", Cond.fieldLink RX2 9 "RowReduction$LowestTerms" "top" "[J", Cond.fieldLink RX2 15 "RowReduction$LowestTerms" "bottom" "[J"]
def wsX3_solve_r7 : List Cond := [Cond.methodLink RX2 31 yX1_isZero, Cond.methodLink RX2 35 yX1_isNegative, Cond.static yX1_isNegative, Cond.code yX1_isNegative cX1_isNegative 1 (some .boolean), Cond.methodLink RX2 38 yX1_copyMagnitude, Cond.static yX1_copyMagnitude, Cond.code yX1_copyMagnitude cX1_copyMagnitude 2 none, Cond.methodLink RX1 34 yX1_isNegative, Cond.methodLink RX1 38 yX1_copyNegated, Cond.methodLink RX1 42 yX1_copy, Cond.methodLink RX2 42 yX2_removeCommonTwos, Cond.instanceMethod yX2_removeCommonTwos, Cond.selects RX2 yX2_removeCommonTwos yX2_removeCommonTwos, Cond.code yX2_removeCommonTwos cX2_removeCommonTwos 3 none, Cond.methodLink RX2 61 Lib.Math.min.name, Cond.methodLink RX2 57 yX1_trailingZeros, Cond.methodLink RX2 67 yX1_shiftRight, Cond.methodLink RX2 46 yX2_removeCommonOddFactor, Cond.instanceMethod yX2_removeCommonOddFactor, Cond.selects RX2 yX2_removeCommonOddFactor yX2_removeCommonOddFactor, Cond.code yX2_removeCommonOddFactor cX2_removeCommonOddFactor 5 none, Cond.fieldLink RX2 18 "RowReduction$LowestTerms" "oddTop" "[J", Cond.fieldLink RX2 21 "RowReduction$LowestTerms" "oddBottom" "[J", Cond.methodLink RX2 71 yX1_copy]
def wsX3_solve_r8 : List Cond := [Cond.methodLink RX2 74 yX2_removeTwos, Cond.static yX2_removeTwos, Cond.code yX2_removeTwos cX2_removeTwos 2 none, Cond.methodLink RX2 78 yX2_commonOddFactor, Cond.instanceMethod yX2_commonOddFactor, Cond.selects RX2 yX2_commonOddFactor yX2_commonOddFactor, Cond.code yX2_commonOddFactor cX2_commonOddFactor 8 (some (.array .long)), Cond.methodLink RX2 90 yX1_compare, Cond.static yX1_compare, Cond.code yX1_compare cX1_compare 4 (some .int), Cond.methodLink RX2 94 yX1_subtractScaled, Cond.methodLink RX2 82 yX1_inverse, Cond.methodLink RX2 86 yX1_divideEvenly, Cond.methodLink RX2 49 yX2_fitsLong, Cond.static yX2_fitsLong, Cond.code yX2_fitsLong cX2_fitsLong 4 (some .boolean), Cond.constantLong RX2 100 (-9223372036854775808), Cond.methodLink RX2 53 yX2_lowBits, Cond.static yX2_lowBits, Cond.code yX2_lowBits cX2_lowBits 1 (some .long)]
def wsX3_solve : List Cond := .code yX3_solve cX3_solve 2 (some .int) :: ((wsX3_solve_r1 ++ (wsX3_solve_r2 ++ (wsX3_solve_r3 ++ (wsX3_solve_r4 ++ (wsX3_solve_r5 ++ (wsX3_solve_r6 ++ (wsX3_solve_r7 ++ wsX3_solve_r8))))))) ++ wsX30 ++ wsX20 ++ wsX00)
def wsX3_isTold : List Cond := .code yX3_isTold cX3_isTold 2 (some .boolean) :: ([.fieldLink RX3 39 "RowReduction" "told" "Z", .fieldLink RX3 35 "RowReduction" "size" "I"] ++ wsX30)
def wsX3_above : List Cond := .code yX3_above cX3_above 2 (some .long) :: ([.fieldLink RX3 14 "RowReduction" "numerators" "[J", .methodLink RX3 80 yX3_isTold, .instanceMethod yX3_isTold, .selects RX3 yX3_isTold yX3_isTold, .initialized RX3, .code yX3_isTold cX3_isTold 2 (some .boolean), .fieldLink RX3 39 "RowReduction" "told" "Z", .fieldLink RX3 35 "RowReduction" "size" "I"] ++ wsX30)
def wsX3_under : List Cond := .code yX3_under cX3_under 2 (some .long) :: ([.fieldLink RX3 18 "RowReduction" "denominators" "[J", .methodLink RX3 80 yX3_isTold, .instanceMethod yX3_isTold, .selects RX3 yX3_isTold yX3_isTold, .initialized RX3, .code yX3_isTold cX3_isTold 2 (some .boolean), .fieldLink RX3 39 "RowReduction" "told" "Z", .fieldLink RX3 35 "RowReduction" "size" "I"] ++ wsX30)
def wsX4_init : List Cond := .code yX4_init cX4_init 1 none :: ([.methodLink RX4 3 objectInit, .instanceMethod objectInit, .code objectInit ⟨#[0xb1]⟩ 1 none, .arrayClass .int, .fieldLink RX4 9 "RowReductionModel$Great" "parts" "[I"] ++ wsX40)
def wsX4_isZero : List Cond := .code yX4_isZero cX4_isZero 1 (some .boolean) :: ([.fieldLink RX4 15 "RowReductionModel$Great" "n" "I"] ++ wsX40)
def wsX4_set : List Cond := .code yX4_set cX4_set 7 none :: ([.fieldLink RX4 19 "RowReductionModel$Great" "minus" "Z", .fieldLink RX4 15 "RowReductionModel$Great" "n" "I", .constantLong RX4 23 (268435456), .fieldLink RX4 9 "RowReductionModel$Great" "parts" "[I"] ++ wsX40)
def wsX4_set_ : List Cond := .code yX4_set_ cX4_set_ 3 none :: ([.fieldLink RX4 19 "RowReductionModel$Great" "minus" "Z", .fieldLink RX4 15 "RowReductionModel$Great" "n" "I", .fieldLink RX4 9 "RowReductionModel$Great" "parts" "[I"] ++ wsX40)
def wsX4_trim : List Cond := .code yX4_trim cX4_trim 2 none :: ([.fieldLink RX4 15 "RowReductionModel$Great" "n" "I", .fieldLink RX4 9 "RowReductionModel$Great" "parts" "[I", .fieldLink RX4 19 "RowReductionModel$Great" "minus" "Z"] ++ wsX40)
def wsX4_compare : List Cond := .code yX4_compare cX4_compare 3 (some .int) :: ([.fieldLink RX4 15 "RowReductionModel$Great" "n" "I", .fieldLink RX4 9 "RowReductionModel$Great" "parts" "[I"] ++ wsX40)
def wsX4_product : List Cond := .code yX4_product cX4_product 9 none :: ([.fieldLink RX4 9 "RowReductionModel$Great" "parts" "[I", .fieldLink RX4 15 "RowReductionModel$Great" "n" "I", .constantLong RX4 25 (268435455), .fieldLink RX4 19 "RowReductionModel$Great" "minus" "Z", .methodLink RX4 27 Lib.Math.min.name, .static Lib.Math.min.name, .initialized "java/lang/Math", .code Lib.Math.min.name Lib.Math.min.code 2 (some .int), .methodLink RX4 33 yX4_trim, .instanceMethod yX4_trim, .selects RX4 yX4_trim yX4_trim, .initialized RX4, .code yX4_trim cX4_trim 2 none] ++ wsX40)
def wsX4_addAmount : List Cond := .code yX4_addAmount cX4_addAmount 6 none :: ([.fieldLink RX4 15 "RowReductionModel$Great" "n" "I", .fieldLink RX4 19 "RowReductionModel$Great" "minus" "Z", .methodLink RX4 49 Lib.Math.max.name, .static Lib.Math.max.name, .initialized "java/lang/Math", .code Lib.Math.max.name Lib.Math.max.code 2 (some .int), .fieldLink RX4 9 "RowReductionModel$Great" "parts" "[I", .constant RX4 52 (268435455), .methodLink RX4 33 yX4_trim, .instanceMethod yX4_trim, .selects RX4 yX4_trim yX4_trim, .initialized RX4, .code yX4_trim cX4_trim 2 none] ++ wsX40)
def wsX4_takeAmount : List Cond := .code yX4_takeAmount cX4_takeAmount 7 none :: ([.fieldLink RX4 15 "RowReductionModel$Great" "n" "I", .fieldLink RX4 9 "RowReductionModel$Great" "parts" "[I", .constant RX4 52 (268435455), .methodLink RX4 33 yX4_trim, .instanceMethod yX4_trim, .selects RX4 yX4_trim yX4_trim, .initialized RX4, .code yX4_trim cX4_trim 2 none, .fieldLink RX4 19 "RowReductionModel$Great" "minus" "Z"] ++ wsX40)
def wsX4_take_r1 : List Cond := [Cond.fieldLink RX4 19 "RowReductionModel$Great" "minus" "Z", Cond.fieldLink RX4 15 "RowReductionModel$Great" "n" "I", Cond.methodLink RX4 37 yX4_addAmount, Cond.instanceMethod yX4_addAmount, Cond.selects RX4 yX4_addAmount yX4_addAmount, Cond.initialized RX4, Cond.code yX4_addAmount cX4_addAmount 6 none, Cond.methodLink RX4 49 Lib.Math.max.name, Cond.static Lib.Math.max.name, Cond.initialized "java/lang/Math", Cond.code Lib.Math.max.name Lib.Math.max.code 2 (some .int), Cond.fieldLink RX4 9 "RowReductionModel$Great" "parts" "[I", Cond.constant RX4 52 (268435455), Cond.methodLink RX4 33 yX4_trim, Cond.instanceMethod yX4_trim, Cond.selects RX4 yX4_trim yX4_trim, Cond.code yX4_trim cX4_trim 2 none, Cond.methodLink RX4 41 yX4_compare, Cond.instanceMethod yX4_compare, Cond.selects RX4 yX4_compare yX4_compare, Cond.code yX4_compare cX4_compare 3 (some .int), Cond.methodLink RX4 45 yX4_takeAmount, Cond.instanceMethod yX4_takeAmount, Cond.selects RX4 yX4_takeAmount yX4_takeAmount]
def wsX4_take_r2 : List Cond := [Cond.code yX4_takeAmount cX4_takeAmount 7 none]
def wsX4_take : List Cond := .code yX4_take cX4_take 2 none :: ((wsX4_take_r1 ++ wsX4_take_r2) ++ wsX40)
def wsX4_isSet : List Cond := .code yX4_isSet cX4_isSet 2 (some .boolean) :: ([.fieldLink RX4 15 "RowReductionModel$Great" "n" "I", .fieldLink RX4 9 "RowReductionModel$Great" "parts" "[I"] ++ wsX40)
def wsX4_twice : List Cond := .code yX4_twice cX4_twice 5 none :: ([.fieldLink RX4 15 "RowReductionModel$Great" "n" "I", .fieldLink RX4 9 "RowReductionModel$Great" "parts" "[I", .constant RX4 52 (268435455)] ++ wsX40)
def wsX4_quotient_r1 : List Cond := [Cond.fieldLink RX4 9 "RowReductionModel$Great" "parts" "[I", Cond.fieldLink RX4 15 "RowReductionModel$Great" "n" "I", Cond.fieldLink RX4 19 "RowReductionModel$Great" "minus" "Z", Cond.methodLink RX4 53 yX4_isSet, Cond.instanceMethod yX4_isSet, Cond.selects RX4 yX4_isSet yX4_isSet, Cond.initialized RX4, Cond.code yX4_isSet cX4_isSet 2 (some .boolean), Cond.methodLink RX4 57 yX4_twice, Cond.instanceMethod yX4_twice, Cond.selects RX4 yX4_twice yX4_twice, Cond.code yX4_twice cX4_twice 5 none, Cond.constant RX4 52 (268435455), Cond.methodLink RX4 41 yX4_compare, Cond.instanceMethod yX4_compare, Cond.selects RX4 yX4_compare yX4_compare, Cond.code yX4_compare cX4_compare 3 (some .int), Cond.methodLink RX4 45 yX4_takeAmount, Cond.instanceMethod yX4_takeAmount, Cond.selects RX4 yX4_takeAmount yX4_takeAmount, Cond.code yX4_takeAmount cX4_takeAmount 7 none, Cond.methodLink RX4 33 yX4_trim, Cond.instanceMethod yX4_trim, Cond.selects RX4 yX4_trim yX4_trim]
def wsX4_quotient_r2 : List Cond := [Cond.code yX4_trim cX4_trim 2 none]
def wsX4_quotient : List Cond := .code yX4_quotient cX4_quotient 5 none :: ((wsX4_quotient_r1 ++ wsX4_quotient_r2) ++ wsX40)
def wsX4_isLong : List Cond := .code yX4_isLong cX4_isLong 4 (some .boolean) :: ([.fieldLink RX4 15 "RowReductionModel$Great" "n" "I", .fieldLink RX4 9 "RowReductionModel$Great" "parts" "[I", .fieldLink RX4 19 "RowReductionModel$Great" "minus" "Z", .constantLong RX4 63 (-9223372036854775808), .fieldLink RX4 65 "RowReductionModel$Great" "value" "J"] ++ wsX40)
def wsX5_greats : List Cond := .code yX5_greats cX5_greats 3 (some (.array (.object "RowReductionModel$Great"))) :: ([.classLink RX5 44 RX4, .instantiable RX4 4, .initialized RX4, .instanceMethod yX4_init, .code yX4_init cX4_init 1 none, .methodLink RX4 3 objectInit, .instanceMethod objectInit, .code objectInit ⟨#[0xb1]⟩ 1 none, .arrayClass .int, .fieldLink RX4 9 "RowReductionModel$Great" "parts" "[I"] ++ wsX40)
def wsX5_init : List Cond := .code yX5_init cX5_init 1 none :: ([.methodLink RX5 3 objectInit, .instanceMethod objectInit, .code objectInit ⟨#[0xb1]⟩ 1 none, .fieldLink RX5 9 "RowReductionModel" "size" "I", .arrayClass .int, .fieldLink RX5 13 "RowReductionModel" "numbers" "[I", .arrayClass .long, .fieldLink RX5 17 "RowReductionModel" "above" "[J", .fieldLink RX5 21 "RowReductionModel" "under" "[J", .fieldLink RX5 28 "RowReductionModel" "matrix" "[LRowReductionModel$Great;", .fieldLink RX5 32 "RowReductionModel" "some" "[LRowReductionModel$Great;", .methodLink RX5 24 yX5_greats, .static yX5_greats, .initialized RX5, .code yX5_greats cX5_greats 3 (some (.array (.object "RowReductionModel$Great"))), .classLink RX5 44 RX4, .instantiable RX4 4, .initialized RX4, .instanceMethod yX4_init, .code yX4_init cX4_init 1 none, .methodLink RX4 3 objectInit, .fieldLink RX4 9 "RowReductionModel$Great" "parts" "[I"] ++ wsX50 ++ wsX40)
def wsX5_begin : List Cond := .code yX5_begin cX5_begin 3 (some .boolean) :: ([.fieldLink RX5 9 "RowReductionModel" "size" "I", .fieldLink RX5 13 "RowReductionModel" "numbers" "[I", .fieldLink RX5 35 "RowReductionModel" "told" "Z"] ++ wsX50)
def wsX5_isThere : List Cond := .code yX5_isThere cX5_isThere 3 (some .boolean) :: ([.fieldLink RX5 9 "RowReductionModel" "size" "I"] ++ wsX50)
def wsX5_put : List Cond := .code yX5_put cX5_put 4 (some .boolean) :: ([.fieldLink RX5 13 "RowReductionModel" "numbers" "[I", .fieldLink RX5 9 "RowReductionModel" "size" "I", .methodLink RX5 39 yX5_isThere, .instanceMethod yX5_isThere, .selects RX5 yX5_isThere yX5_isThere, .initialized RX5, .code yX5_isThere cX5_isThere 3 (some .boolean)] ++ wsX50)
def wsX5_get : List Cond := .code yX5_get cX5_get 3 (some .int) :: ([.fieldLink RX5 13 "RowReductionModel" "numbers" "[I", .fieldLink RX5 9 "RowReductionModel" "size" "I", .methodLink RX5 39 yX5_isThere, .instanceMethod yX5_isThere, .selects RX5 yX5_isThere yX5_isThere, .initialized RX5, .code yX5_isThere cX5_isThere 3 (some .boolean)] ++ wsX50)
def wsX5_eliminate_r1 : List Cond := [Cond.fieldLink RX5 32 "RowReductionModel" "some" "[LRowReductionModel$Great;", Cond.fieldLink RX5 28 "RowReductionModel" "matrix" "[LRowReductionModel$Great;", Cond.methodLink RX5 66 yX4_set_, Cond.instanceMethod yX4_set_, Cond.selects RX4 yX4_set_ yX4_set_, Cond.initialized RX4, Cond.code yX4_set_ cX4_set_ 3 none, Cond.fieldLink RX4 19 "RowReductionModel$Great" "minus" "Z", Cond.fieldLink RX4 15 "RowReductionModel$Great" "n" "I", Cond.fieldLink RX4 9 "RowReductionModel$Great" "parts" "[I", Cond.methodLink RX5 69 yX4_product, Cond.instanceMethod yX4_product, Cond.selects RX4 yX4_product yX4_product, Cond.code yX4_product cX4_product 9 none, Cond.constantLong RX4 25 (268435455), Cond.methodLink RX4 27 Lib.Math.min.name, Cond.static Lib.Math.min.name, Cond.initialized "java/lang/Math", Cond.code Lib.Math.min.name Lib.Math.min.code 2 (some .int), Cond.methodLink RX4 33 yX4_trim, Cond.instanceMethod yX4_trim, Cond.selects RX4 yX4_trim yX4_trim, Cond.code yX4_trim cX4_trim 2 none, Cond.methodLink RX5 73 yX4_take]
def wsX5_eliminate_r2 : List Cond := [Cond.instanceMethod yX4_take, Cond.selects RX4 yX4_take yX4_take, Cond.code yX4_take cX4_take 2 none, Cond.methodLink RX4 37 yX4_addAmount, Cond.instanceMethod yX4_addAmount, Cond.selects RX4 yX4_addAmount yX4_addAmount, Cond.code yX4_addAmount cX4_addAmount 6 none, Cond.methodLink RX4 49 Lib.Math.max.name, Cond.static Lib.Math.max.name, Cond.code Lib.Math.max.name Lib.Math.max.code 2 (some .int), Cond.constant RX4 52 (268435455), Cond.methodLink RX4 41 yX4_compare, Cond.instanceMethod yX4_compare, Cond.selects RX4 yX4_compare yX4_compare, Cond.code yX4_compare cX4_compare 3 (some .int), Cond.methodLink RX4 45 yX4_takeAmount, Cond.instanceMethod yX4_takeAmount, Cond.selects RX4 yX4_takeAmount yX4_takeAmount, Cond.code yX4_takeAmount cX4_takeAmount 7 none, Cond.methodLink RX5 76 yX4_quotient, Cond.instanceMethod yX4_quotient, Cond.selects RX4 yX4_quotient yX4_quotient, Cond.code yX4_quotient cX4_quotient 5 none, Cond.methodLink RX4 53 yX4_isSet]
def wsX5_eliminate_r3 : List Cond := [Cond.instanceMethod yX4_isSet, Cond.selects RX4 yX4_isSet yX4_isSet, Cond.code yX4_isSet cX4_isSet 2 (some .boolean), Cond.methodLink RX4 57 yX4_twice, Cond.instanceMethod yX4_twice, Cond.selects RX4 yX4_twice yX4_twice, Cond.code yX4_twice cX4_twice 5 none]
def wsX5_eliminate : List Cond := .code yX5_eliminate cX5_eliminate 7 none :: ((wsX5_eliminate_r1 ++ (wsX5_eliminate_r2 ++ wsX5_eliminate_r3)) ++ wsX50 ++ wsX40)
def wsX5_isReduced_r1 : List Cond := [Cond.fieldLink RX5 32 "RowReductionModel" "some" "[LRowReductionModel$Great;", Cond.fieldLink RX5 28 "RowReductionModel" "matrix" "[LRowReductionModel$Great;", Cond.methodLink RX5 43 yX4_set, Cond.instanceMethod yX4_set, Cond.selects RX4 yX4_set yX4_set, Cond.initialized RX4, Cond.code yX4_set cX4_set 7 none, Cond.fieldLink RX4 19 "RowReductionModel$Great" "minus" "Z", Cond.fieldLink RX4 15 "RowReductionModel$Great" "n" "I", Cond.constantLong RX4 23 (268435456), Cond.fieldLink RX4 9 "RowReductionModel$Great" "parts" "[I", Cond.methodLink RX5 58 yX4_isZero, Cond.instanceMethod yX4_isZero, Cond.selects RX4 yX4_isZero yX4_isZero, Cond.code yX4_isZero cX4_isZero 1 (some .boolean), Cond.methodLink RX5 62 yX5_eliminate, Cond.instanceMethod yX5_eliminate, Cond.selects RX5 yX5_eliminate yX5_eliminate, Cond.initialized RX5, Cond.code yX5_eliminate cX5_eliminate 7 none, Cond.methodLink RX5 66 yX4_set_, Cond.instanceMethod yX4_set_, Cond.selects RX4 yX4_set_ yX4_set_, Cond.code yX4_set_ cX4_set_ 3 none]
def wsX5_isReduced_r2 : List Cond := [Cond.methodLink RX5 69 yX4_product, Cond.instanceMethod yX4_product, Cond.selects RX4 yX4_product yX4_product, Cond.code yX4_product cX4_product 9 none, Cond.constantLong RX4 25 (268435455), Cond.methodLink RX4 27 Lib.Math.min.name, Cond.static Lib.Math.min.name, Cond.initialized "java/lang/Math", Cond.code Lib.Math.min.name Lib.Math.min.code 2 (some .int), Cond.methodLink RX4 33 yX4_trim, Cond.instanceMethod yX4_trim, Cond.selects RX4 yX4_trim yX4_trim, Cond.code yX4_trim cX4_trim 2 none, Cond.methodLink RX5 73 yX4_take, Cond.instanceMethod yX4_take, Cond.selects RX4 yX4_take yX4_take, Cond.code yX4_take cX4_take 2 none, Cond.methodLink RX4 37 yX4_addAmount, Cond.instanceMethod yX4_addAmount, Cond.selects RX4 yX4_addAmount yX4_addAmount, Cond.code yX4_addAmount cX4_addAmount 6 none, Cond.methodLink RX4 49 Lib.Math.max.name, Cond.static Lib.Math.max.name, Cond.code Lib.Math.max.name Lib.Math.max.code 2 (some .int)]
def wsX5_isReduced_r3 : List Cond := [Cond.constant RX4 52 (268435455), Cond.methodLink RX4 41 yX4_compare, Cond.instanceMethod yX4_compare, Cond.selects RX4 yX4_compare yX4_compare, Cond.code yX4_compare cX4_compare 3 (some .int), Cond.methodLink RX4 45 yX4_takeAmount, Cond.instanceMethod yX4_takeAmount, Cond.selects RX4 yX4_takeAmount yX4_takeAmount, Cond.code yX4_takeAmount cX4_takeAmount 7 none, Cond.methodLink RX5 76 yX4_quotient, Cond.instanceMethod yX4_quotient, Cond.selects RX4 yX4_quotient yX4_quotient, Cond.code yX4_quotient cX4_quotient 5 none, Cond.methodLink RX4 53 yX4_isSet, Cond.instanceMethod yX4_isSet, Cond.selects RX4 yX4_isSet yX4_isSet, Cond.code yX4_isSet cX4_isSet 2 (some .boolean), Cond.methodLink RX4 57 yX4_twice, Cond.instanceMethod yX4_twice, Cond.selects RX4 yX4_twice yX4_twice, Cond.code yX4_twice cX4_twice 5 none]
def wsX5_isReduced : List Cond := .code yX5_isReduced cX5_isReduced 8 (some .boolean) :: ((wsX5_isReduced_r1 ++ (wsX5_isReduced_r2 ++ wsX5_isReduced_r3)) ++ wsX50 ++ wsX40)
def wsX5_fraction_r1 : List Cond := [Cond.fieldLink RX5 32 "RowReductionModel" "some" "[LRowReductionModel$Great;", Cond.fieldLink RX5 80 "RowReductionModel$Great" "minus" "Z", Cond.fieldLink RX5 17 "RowReductionModel" "above" "[J", Cond.fieldLink RX5 86 "RowReductionModel$Great" "value" "J", Cond.fieldLink RX5 21 "RowReductionModel" "under" "[J", Cond.methodLink RX5 66 yX4_set_, Cond.instanceMethod yX4_set_, Cond.selects RX4 yX4_set_ yX4_set_, Cond.initialized RX4, Cond.code yX4_set_ cX4_set_ 3 none, Cond.fieldLink RX4 19 "RowReductionModel$Great" "minus" "Z", Cond.fieldLink RX4 15 "RowReductionModel$Great" "n" "I", Cond.fieldLink RX4 9 "RowReductionModel$Great" "parts" "[I", Cond.methodLink RX5 58 yX4_isZero, Cond.instanceMethod yX4_isZero, Cond.selects RX4 yX4_isZero yX4_isZero, Cond.code yX4_isZero cX4_isZero 1 (some .boolean), Cond.methodLink RX5 76 yX4_quotient, Cond.instanceMethod yX4_quotient, Cond.selects RX4 yX4_quotient yX4_quotient, Cond.code yX4_quotient cX4_quotient 5 none, Cond.methodLink RX4 53 yX4_isSet, Cond.instanceMethod yX4_isSet, Cond.selects RX4 yX4_isSet yX4_isSet]
def wsX5_fraction_r2 : List Cond := [Cond.code yX4_isSet cX4_isSet 2 (some .boolean), Cond.methodLink RX4 57 yX4_twice, Cond.instanceMethod yX4_twice, Cond.selects RX4 yX4_twice yX4_twice, Cond.code yX4_twice cX4_twice 5 none, Cond.constant RX4 52 (268435455), Cond.methodLink RX4 41 yX4_compare, Cond.instanceMethod yX4_compare, Cond.selects RX4 yX4_compare yX4_compare, Cond.code yX4_compare cX4_compare 3 (some .int), Cond.methodLink RX4 45 yX4_takeAmount, Cond.instanceMethod yX4_takeAmount, Cond.selects RX4 yX4_takeAmount yX4_takeAmount, Cond.code yX4_takeAmount cX4_takeAmount 7 none, Cond.methodLink RX4 33 yX4_trim, Cond.instanceMethod yX4_trim, Cond.selects RX4 yX4_trim yX4_trim, Cond.code yX4_trim cX4_trim 2 none, Cond.methodLink RX5 83 yX4_isLong, Cond.instanceMethod yX4_isLong, Cond.selects RX4 yX4_isLong yX4_isLong, Cond.code yX4_isLong cX4_isLong 4 (some .boolean), Cond.constantLong RX4 63 (-9223372036854775808), Cond.fieldLink RX4 65 "RowReductionModel$Great" "value" "J"]
def wsX5_fraction : List Cond := .code yX5_fraction cX5_fraction 6 (some .boolean) :: ((wsX5_fraction_r1 ++ wsX5_fraction_r2) ++ wsX50 ++ wsX40)
def wsX5_solve_r1 : List Cond := [Cond.fieldLink RX5 35 "RowReductionModel" "told" "Z", Cond.fieldLink RX5 9 "RowReductionModel" "size" "I", Cond.fieldLink RX5 28 "RowReductionModel" "matrix" "[LRowReductionModel$Great;", Cond.fieldLink RX5 13 "RowReductionModel" "numbers" "[I", Cond.methodLink RX5 43 yX4_set, Cond.instanceMethod yX4_set, Cond.selects RX4 yX4_set yX4_set, Cond.initialized RX4, Cond.code yX4_set cX4_set 7 none, Cond.fieldLink RX4 19 "RowReductionModel$Great" "minus" "Z", Cond.fieldLink RX4 15 "RowReductionModel$Great" "n" "I", Cond.constantLong RX4 23 (268435456), Cond.fieldLink RX4 9 "RowReductionModel$Great" "parts" "[I", Cond.methodLink RX5 49 yX5_isReduced, Cond.instanceMethod yX5_isReduced, Cond.selects RX5 yX5_isReduced yX5_isReduced, Cond.initialized RX5, Cond.code yX5_isReduced cX5_isReduced 8 (some .boolean), Cond.fieldLink RX5 32 "RowReductionModel" "some" "[LRowReductionModel$Great;", Cond.methodLink RX5 58 yX4_isZero, Cond.instanceMethod yX4_isZero, Cond.selects RX4 yX4_isZero yX4_isZero, Cond.code yX4_isZero cX4_isZero 1 (some .boolean), Cond.methodLink RX5 62 yX5_eliminate]
def wsX5_solve_r2 : List Cond := [Cond.instanceMethod yX5_eliminate, Cond.selects RX5 yX5_eliminate yX5_eliminate, Cond.code yX5_eliminate cX5_eliminate 7 none, Cond.methodLink RX5 66 yX4_set_, Cond.instanceMethod yX4_set_, Cond.selects RX4 yX4_set_ yX4_set_, Cond.code yX4_set_ cX4_set_ 3 none, Cond.methodLink RX5 69 yX4_product, Cond.instanceMethod yX4_product, Cond.selects RX4 yX4_product yX4_product, Cond.code yX4_product cX4_product 9 none, Cond.constantLong RX4 25 (268435455), Cond.methodLink RX4 27 Lib.Math.min.name, Cond.static Lib.Math.min.name, Cond.initialized "java/lang/Math", Cond.code Lib.Math.min.name Lib.Math.min.code 2 (some .int), Cond.methodLink RX4 33 yX4_trim, Cond.instanceMethod yX4_trim, Cond.selects RX4 yX4_trim yX4_trim, Cond.code yX4_trim cX4_trim 2 none, Cond.methodLink RX5 73 yX4_take, Cond.instanceMethod yX4_take, Cond.selects RX4 yX4_take yX4_take, Cond.code yX4_take cX4_take 2 none]
def wsX5_solve_r3 : List Cond := [Cond.methodLink RX4 37 yX4_addAmount, Cond.instanceMethod yX4_addAmount, Cond.selects RX4 yX4_addAmount yX4_addAmount, Cond.code yX4_addAmount cX4_addAmount 6 none, Cond.methodLink RX4 49 Lib.Math.max.name, Cond.static Lib.Math.max.name, Cond.code Lib.Math.max.name Lib.Math.max.code 2 (some .int), Cond.constant RX4 52 (268435455), Cond.methodLink RX4 41 yX4_compare, Cond.instanceMethod yX4_compare, Cond.selects RX4 yX4_compare yX4_compare, Cond.code yX4_compare cX4_compare 3 (some .int), Cond.methodLink RX4 45 yX4_takeAmount, Cond.instanceMethod yX4_takeAmount, Cond.selects RX4 yX4_takeAmount yX4_takeAmount, Cond.code yX4_takeAmount cX4_takeAmount 7 none, Cond.methodLink RX5 76 yX4_quotient, Cond.instanceMethod yX4_quotient, Cond.selects RX4 yX4_quotient yX4_quotient, Cond.code yX4_quotient cX4_quotient 5 none, Cond.methodLink RX4 53 yX4_isSet, Cond.instanceMethod yX4_isSet, Cond.selects RX4 yX4_isSet yX4_isSet, Cond.code yX4_isSet cX4_isSet 2 (some .boolean)]
def wsX5_solve_r4 : List Cond := [Cond.methodLink RX4 57 yX4_twice, Cond.instanceMethod yX4_twice, Cond.selects RX4 yX4_twice yX4_twice, Cond.code yX4_twice cX4_twice 5 none, Cond.methodLink RX5 53 yX5_fraction, Cond.instanceMethod yX5_fraction, Cond.selects RX5 yX5_fraction yX5_fraction, Cond.code yX5_fraction cX5_fraction 6 (some .boolean), Cond.fieldLink RX5 80 "RowReductionModel$Great" "minus" "Z", Cond.fieldLink RX5 17 "RowReductionModel" "above" "[J", Cond.fieldLink RX5 86 "RowReductionModel$Great" "value" "J", Cond.fieldLink RX5 21 "RowReductionModel" "under" "[J", Cond.methodLink RX5 83 yX4_isLong, Cond.instanceMethod yX4_isLong, Cond.selects RX4 yX4_isLong yX4_isLong, Cond.code yX4_isLong cX4_isLong 4 (some .boolean), Cond.constantLong RX4 63 (-9223372036854775808), Cond.fieldLink RX4 65 "RowReductionModel$Great" "value" "J"]
def wsX5_solve : List Cond := .code yX5_solve cX5_solve 3 (some .int) :: ((wsX5_solve_r1 ++ (wsX5_solve_r2 ++ (wsX5_solve_r3 ++ wsX5_solve_r4))) ++ wsX50 ++ wsX40)
def wsX5_above : List Cond := .code yX5_above cX5_above 2 (some .long) :: ([.fieldLink RX5 35 "RowReductionModel" "told" "Z", .fieldLink RX5 9 "RowReductionModel" "size" "I", .fieldLink RX5 17 "RowReductionModel" "above" "[J"] ++ wsX50)
def wsX5_under : List Cond := .code yX5_under cX5_under 2 (some .long) :: ([.fieldLink RX5 35 "RowReductionModel" "told" "Z", .fieldLink RX5 9 "RowReductionModel" "size" "I", .fieldLink RX5 21 "RowReductionModel" "under" "[J"] ++ wsX50)
def wsJ9_max_7cf53 : List Cond := .code yJ9_max_7cf53 cJ9_max_7cf53 2 (some .int) :: ([])
def wsJ9_min_7cf53 : List Cond := .code yJ9_min_7cf53 cJ9_min_7cf53 2 (some .int) :: ([])
def wsL_law_r1 : List Cond := [Cond.classLink RL 7 RX3, Cond.instantiable RX3 7, Cond.initialized RX3, Cond.classLink RL 10 RX5, Cond.instantiable RX5 7, Cond.initialized RX5, Cond.methodLink RL 9 yX3_init, Cond.instanceMethod yX3_init, Cond.code yX3_init cX3_init 1 none, Cond.methodLink RX3 3 objectInit, Cond.instanceMethod objectInit, Cond.code objectInit ⟨#[0xb1]⟩ 1 none, Cond.classLink RX3 9 "[[I", Cond.arrayClass .int, Cond.fieldLink RX3 11 "RowReduction" "system" "[[I", Cond.arrayClass .long, Cond.fieldLink RX3 14 "RowReduction" "numerators" "[J", Cond.fieldLink RX3 18 "RowReduction" "denominators" "[J", Cond.classLink RX3 21 RX0, Cond.instantiable RX0 10, Cond.initialized RX0, Cond.fieldLink RX3 24 "RowReduction" "elimination" "LRowReduction$Elimination;", Cond.classLink RX3 28 RX2, Cond.instantiable RX2 6]
def wsL_law_r2 : List Cond := [Cond.initialized RX2, Cond.fieldLink RX3 31 "RowReduction" "lowestTerms" "LRowReduction$LowestTerms;", Cond.fieldLink RX3 35 "RowReduction" "size" "I", Cond.fieldLink RX3 39 "RowReduction" "told" "Z", Cond.instanceMethod yX0_init, Cond.code yX0_init cX0_init 1 none, Cond.methodLink RX0 3 objectInit, Cond.classLink RX0 11 "[[J", Cond.fieldLink RX0 13 "RowReduction$Elimination" "cells" "[[J", Cond.fieldLink RX0 18 "RowReduction$Elimination" "negatedPivot" "[J", Cond.fieldLink RX0 22 "RowReduction$Elimination" "oddDivisor" "[J", Cond.fieldLink RX0 25 "RowReduction$Elimination" "work" "[J", Cond.fieldLink RX0 28 "RowReduction$Elimination" "size" "I", Cond.fieldLink RX0 32 "RowReduction$Elimination" "entryBits" "I", Cond.fieldLink RX0 35 "RowReduction$Elimination" "divisorTwos" "I", Cond.fieldLink RX0 38 "RowReduction$Elimination" "divisorInverse" "J", Cond.fieldLink RX0 42 "RowReduction$Elimination" "minorWidth" "I", Cond.fieldLink RX0 45 "RowReduction$Elimination" "workWidth" "I", Cond.instanceMethod yX2_init, Cond.code yX2_init cX2_init 1 none, Cond.methodLink RX2 3 objectInit, Cond.fieldLink RX2 9 "RowReduction$LowestTerms" "top" "[J", Cond.fieldLink RX2 15 "RowReduction$LowestTerms" "bottom" "[J", Cond.fieldLink RX2 18 "RowReduction$LowestTerms" "oddTop" "[J"]
def wsL_law_r3 : List Cond := [Cond.fieldLink RX2 21 "RowReduction$LowestTerms" "oddBottom" "[J", Cond.fieldLink RX2 24 "RowReduction$LowestTerms" "numerator" "J", Cond.fieldLink RX2 28 "RowReduction$LowestTerms" "denominator" "J", Cond.methodLink RL 12 yX5_init, Cond.instanceMethod yX5_init, Cond.code yX5_init cX5_init 1 none, Cond.methodLink RX5 3 objectInit, Cond.fieldLink RX5 9 "RowReductionModel" "size" "I", Cond.fieldLink RX5 13 "RowReductionModel" "numbers" "[I", Cond.fieldLink RX5 17 "RowReductionModel" "above" "[J", Cond.fieldLink RX5 21 "RowReductionModel" "under" "[J", Cond.fieldLink RX5 28 "RowReductionModel" "matrix" "[LRowReductionModel$Great;", Cond.fieldLink RX5 32 "RowReductionModel" "some" "[LRowReductionModel$Great;", Cond.methodLink RX5 24 yX5_greats, Cond.static yX5_greats, Cond.code yX5_greats cX5_greats 3 (some (.array (.object "RowReductionModel$Great"))), Cond.classLink RX5 44 RX4, Cond.instantiable RX4 4, Cond.initialized RX4, Cond.instanceMethod yX4_init, Cond.code yX4_init cX4_init 1 none, Cond.methodLink RX4 3 objectInit, Cond.fieldLink RX4 9 "RowReductionModel$Great" "parts" "[I", Cond.methodLink RL 13 yX3_begin]
def wsL_law_r4 : List Cond := [Cond.instanceMethod yX3_begin, Cond.selects RX3 yX3_begin yX3_begin, Cond.code yX3_begin cX3_begin 3 (some .boolean), Cond.methodLink RX3 43 yJ7_fill_53178, Cond.static yJ7_fill_53178, Cond.initialized RJ7, Cond.code yJ7_fill_53178 cJ7_fill_53178 4 none, Cond.methodLink RL 17 yX5_begin, Cond.instanceMethod yX5_begin, Cond.selects RX5 yX5_begin yX5_begin, Cond.code yX5_begin cX5_begin 3 (some .boolean), Cond.fieldLink RX5 35 "RowReductionModel" "told" "Z", Cond.methodLink RL 18 yX3_put, Cond.instanceMethod yX3_put, Cond.selects RX3 yX3_put yX3_put, Cond.code yX3_put cX3_put 4 (some .boolean), Cond.methodLink RX3 49 yX3_hasNumber, Cond.instanceMethod yX3_hasNumber, Cond.selects RX3 yX3_hasNumber yX3_hasNumber, Cond.code yX3_hasNumber cX3_hasNumber 3 (some .boolean), Cond.methodLink RL 22 yX5_put, Cond.instanceMethod yX5_put, Cond.selects RX5 yX5_put yX5_put, Cond.code yX5_put cX5_put 4 (some .boolean)]
def wsL_law_r5 : List Cond := [Cond.methodLink RX5 39 yX5_isThere, Cond.instanceMethod yX5_isThere, Cond.selects RX5 yX5_isThere yX5_isThere, Cond.code yX5_isThere cX5_isThere 3 (some .boolean), Cond.methodLink RL 23 yX3_get, Cond.instanceMethod yX3_get, Cond.selects RX3 yX3_get yX3_get, Cond.code yX3_get cX3_get 3 (some .int), Cond.methodLink RL 27 yX5_get, Cond.instanceMethod yX5_get, Cond.selects RX5 yX5_get yX5_get, Cond.code yX5_get cX5_get 3 (some .int), Cond.methodLink RL 28 yX3_solve, Cond.instanceMethod yX3_solve, Cond.selects RX3 yX3_solve yX3_solve, Cond.code yX3_solve cX3_solve 2 (some .int), Cond.methodLink RX3 53 yX0_reduce, Cond.instanceMethod yX0_reduce, Cond.selects RX0 yX0_reduce yX0_reduce, Cond.code yX0_reduce cX0_reduce 5 (some .boolean), Cond.methodLink RX0 48 yX0_load, Cond.instanceMethod yX0_load, Cond.selects RX0 yX0_load yX0_load, Cond.code yX0_load cX0_load 6 none]
def wsL_law_r6 : List Cond := [Cond.methodLink RX0 67 yX0_cell, Cond.instanceMethod yX0_cell, Cond.selects RX0 yX0_cell yX0_cell, Cond.code yX0_cell cX0_cell 3 (some (.array .long)), Cond.methodLink RX0 74 yX1_setTo, Cond.static yX1_setTo, Cond.initialized RX1, Cond.code yX1_setTo cX1_setTo 2 none, Cond.constantLong RX1 9 (4294967295), Cond.methodLink RX1 11 yJ7_fill_d0a16, Cond.static yJ7_fill_d0a16, Cond.code yJ7_fill_d0a16 cJ7_fill_d0a16 5 none, Cond.methodLink RX0 52 yX0_findPivotRow, Cond.instanceMethod yX0_findPivotRow, Cond.selects RX0 yX0_findPivotRow yX0_findPivotRow, Cond.code yX0_findPivotRow cX0_findPivotRow 3 (some .int), Cond.methodLink RX0 78 yX1_isZero, Cond.static yX1_isZero, Cond.code yX1_isZero cX1_isZero 2 (some .boolean), Cond.methodLink RX0 56 yX0_swapRows, Cond.instanceMethod yX0_swapRows, Cond.selects RX0 yX0_swapRows yX0_swapRows, Cond.code yX0_swapRows cX0_swapRows 5 none, Cond.methodLink RX0 60 yX0_prepareStep]
def wsL_law_r7 : List Cond := [Cond.instanceMethod yX0_prepareStep, Cond.selects RX0 yX0_prepareStep yX0_prepareStep, Cond.code yX0_prepareStep cX0_prepareStep 2 none, Cond.methodLink RX0 101 Lib.Math.min.name, Cond.static Lib.Math.min.name, Cond.initialized "java/lang/Math", Cond.code Lib.Math.min.name Lib.Math.min.code 2 (some .int), Cond.methodLink RX0 82 yX1_copyNegated, Cond.static yX1_copyNegated, Cond.code yX1_copyNegated cX1_copyNegated 2 none, Cond.methodLink RX1 30 yX1_subtractScaled, Cond.static yX1_subtractScaled, Cond.code yX1_subtractScaled cX1_subtractScaled 13 none, Cond.methodLink RX0 86 yX1_copy, Cond.static yX1_copy, Cond.code yX1_copy cX1_copy 2 none, Cond.methodLink RX1 21 arraycopyName, Cond.native arraycopyName, Cond.static arraycopyName, Cond.initialized "java/lang/System", Cond.methodLink RX0 89 yX1_trailingZeros, Cond.static yX1_trailingZeros, Cond.code yX1_trailingZeros cX1_trailingZeros 2 (some .int), Cond.constantLong RX1 45 (-1)]
def wsL_law_r8 : List Cond := [Cond.methodLink RX1 47 yJ13_bitCount_95d88, Cond.static yJ13_bitCount_95d88, Cond.initialized RJ13, Cond.code yJ13_bitCount_95d88 cJ13_bitCount_95d88 2 (some .int), Cond.constantLong RJ13 314 (6148914691236517205), Cond.constantLong RJ13 316 (3689348814741910323), Cond.constantLong RJ13 318 (1085102592571150095), Cond.methodLink RX0 93 yX1_shiftRight, Cond.static yX1_shiftRight, Cond.code yX1_shiftRight cX1_shiftRight 10 none, Cond.methodLink RX1 53 yX1_limbAt, Cond.static yX1_limbAt, Cond.code yX1_limbAt cX1_limbAt 3 (some .long), Cond.methodLink RX0 97 yX1_inverse, Cond.static yX1_inverse, Cond.code yX1_inverse cX1_inverse 5 (some .long), Cond.constantLong RX1 57 (2), Cond.methodLink RX0 71 yX0_limbsOfMinor, Cond.instanceMethod yX0_limbsOfMinor, Cond.selects RX0 yX0_limbsOfMinor yX0_limbsOfMinor, Cond.code yX0_limbsOfMinor cX0_limbsOfMinor 2 (some .int), Cond.methodLink RX0 64 yX0_clearColumn, Cond.instanceMethod yX0_clearColumn, Cond.selects RX0 yX0_clearColumn yX0_clearColumn]
def wsL_law_r9 : List Cond := [Cond.code yX0_clearColumn cX0_clearColumn 4 none, Cond.methodLink RX0 107 yX0_replace, Cond.instanceMethod yX0_replace, Cond.selects RX0 yX0_replace yX0_replace, Cond.code yX0_replace cX0_replace 4 none, Cond.methodLink RX0 111 yJ7_fill_d0a16, Cond.methodLink RX0 117 yX1_subtractProduct, Cond.static yX1_subtractProduct, Cond.code yX1_subtractProduct cX1_subtractProduct 5 none, Cond.methodLink RX0 121 yX1_divideEvenly, Cond.static yX1_divideEvenly, Cond.code yX1_divideEvenly cX1_divideEvenly 8 none, Cond.methodLink RX0 125 yX1_copyWidened, Cond.static yX1_copyWidened, Cond.code yX1_copyWidened cX1_copyWidened 3 none, Cond.methodLink RX1 17 yX1_isNegativeAt, Cond.static yX1_isNegativeAt, Cond.code yX1_isNegativeAt cX1_isNegativeAt 2 (some .boolean), Cond.methodLink RX1 27 yJ7_fill_bad5a, Cond.static yJ7_fill_bad5a, Cond.code yJ7_fill_bad5a cJ7_fill_bad5a 6 none, Cond.methodLink RJ7 13 yJ7_rangeCheck_23922, Cond.static yJ7_rangeCheck_23922, Cond.code yJ7_rangeCheck_23922 cJ7_rangeCheck_23922 3 none]
def wsL_law_r10 : List Cond := [Cond.methodLink RX3 57 yX0_dividend, Cond.instanceMethod yX0_dividend, Cond.selects RX0 yX0_dividend yX0_dividend, Cond.code yX0_dividend cX0_dividend 2 (some (.array .long)), Cond.methodLink RX3 61 yX0_divisor, Cond.instanceMethod yX0_divisor, Cond.selects RX0 yX0_divisor yX0_divisor, Cond.code yX0_divisor cX0_divisor 1 (some (.array .long)), Cond.methodLink RX3 65 yX0_width, Cond.instanceMethod yX0_width, Cond.selects RX0 yX0_width yX0_width, Cond.code yX0_width cX0_width 1 (some .int), Cond.methodLink RX3 69 yX2_find, Cond.instanceMethod yX2_find, Cond.selects RX2 yX2_find yX2_find, Cond.code yX2_find cX2_find 5 (some .boolean), Cond.methodLink RX2 31 yX1_isZero, Cond.methodLink RX2 35 yX1_isNegative, Cond.static yX1_isNegative, Cond.code yX1_isNegative cX1_isNegative 1 (some .boolean), Cond.methodLink RX2 38 yX1_copyMagnitude, Cond.static yX1_copyMagnitude, Cond.code yX1_copyMagnitude cX1_copyMagnitude 2 none, Cond.methodLink RX1 34 yX1_isNegative]
def wsL_law_r11 : List Cond := [Cond.methodLink RX1 38 yX1_copyNegated, Cond.methodLink RX1 42 yX1_copy, Cond.methodLink RX2 42 yX2_removeCommonTwos, Cond.instanceMethod yX2_removeCommonTwos, Cond.selects RX2 yX2_removeCommonTwos yX2_removeCommonTwos, Cond.code yX2_removeCommonTwos cX2_removeCommonTwos 3 none, Cond.methodLink RX2 61 Lib.Math.min.name, Cond.methodLink RX2 57 yX1_trailingZeros, Cond.methodLink RX2 67 yX1_shiftRight, Cond.methodLink RX2 46 yX2_removeCommonOddFactor, Cond.instanceMethod yX2_removeCommonOddFactor, Cond.selects RX2 yX2_removeCommonOddFactor yX2_removeCommonOddFactor, Cond.code yX2_removeCommonOddFactor cX2_removeCommonOddFactor 5 none, Cond.methodLink RX2 71 yX1_copy, Cond.methodLink RX2 74 yX2_removeTwos, Cond.static yX2_removeTwos, Cond.code yX2_removeTwos cX2_removeTwos 2 none, Cond.methodLink RX2 78 yX2_commonOddFactor, Cond.instanceMethod yX2_commonOddFactor, Cond.selects RX2 yX2_commonOddFactor yX2_commonOddFactor, Cond.code yX2_commonOddFactor cX2_commonOddFactor 8 (some (.array .long)), Cond.methodLink RX2 90 yX1_compare, Cond.static yX1_compare, Cond.code yX1_compare cX1_compare 4 (some .int)]
def wsL_law_r12 : List Cond := [Cond.methodLink RX2 94 yX1_subtractScaled, Cond.methodLink RX2 82 yX1_inverse, Cond.methodLink RX2 86 yX1_divideEvenly, Cond.methodLink RX2 49 yX2_fitsLong, Cond.static yX2_fitsLong, Cond.code yX2_fitsLong cX2_fitsLong 4 (some .boolean), Cond.constantLong RX2 100 (-9223372036854775808), Cond.methodLink RX2 53 yX2_lowBits, Cond.static yX2_lowBits, Cond.code yX2_lowBits cX2_lowBits 1 (some .long), Cond.methodLink RL 32 yX5_solve, Cond.instanceMethod yX5_solve, Cond.selects RX5 yX5_solve yX5_solve, Cond.code yX5_solve cX5_solve 3 (some .int), Cond.methodLink RX5 43 yX4_set, Cond.instanceMethod yX4_set, Cond.selects RX4 yX4_set yX4_set, Cond.code yX4_set cX4_set 7 none, Cond.fieldLink RX4 19 "RowReductionModel$Great" "minus" "Z", Cond.fieldLink RX4 15 "RowReductionModel$Great" "n" "I", Cond.constantLong RX4 23 (268435456), Cond.methodLink RX5 49 yX5_isReduced, Cond.instanceMethod yX5_isReduced, Cond.selects RX5 yX5_isReduced yX5_isReduced]
def wsL_law_r13 : List Cond := [Cond.code yX5_isReduced cX5_isReduced 8 (some .boolean), Cond.methodLink RX5 58 yX4_isZero, Cond.instanceMethod yX4_isZero, Cond.selects RX4 yX4_isZero yX4_isZero, Cond.code yX4_isZero cX4_isZero 1 (some .boolean), Cond.methodLink RX5 62 yX5_eliminate, Cond.instanceMethod yX5_eliminate, Cond.selects RX5 yX5_eliminate yX5_eliminate, Cond.code yX5_eliminate cX5_eliminate 7 none, Cond.methodLink RX5 66 yX4_set_, Cond.instanceMethod yX4_set_, Cond.selects RX4 yX4_set_ yX4_set_, Cond.code yX4_set_ cX4_set_ 3 none, Cond.methodLink RX5 69 yX4_product, Cond.instanceMethod yX4_product, Cond.selects RX4 yX4_product yX4_product, Cond.code yX4_product cX4_product 9 none, Cond.constantLong RX4 25 (268435455), Cond.methodLink RX4 27 Lib.Math.min.name, Cond.methodLink RX4 33 yX4_trim, Cond.instanceMethod yX4_trim, Cond.selects RX4 yX4_trim yX4_trim, Cond.code yX4_trim cX4_trim 2 none, Cond.methodLink RX5 73 yX4_take]
def wsL_law_r14 : List Cond := [Cond.instanceMethod yX4_take, Cond.selects RX4 yX4_take yX4_take, Cond.code yX4_take cX4_take 2 none, Cond.methodLink RX4 37 yX4_addAmount, Cond.instanceMethod yX4_addAmount, Cond.selects RX4 yX4_addAmount yX4_addAmount, Cond.code yX4_addAmount cX4_addAmount 6 none, Cond.methodLink RX4 49 Lib.Math.max.name, Cond.static Lib.Math.max.name, Cond.code Lib.Math.max.name Lib.Math.max.code 2 (some .int), Cond.constant RX4 52 (268435455), Cond.methodLink RX4 41 yX4_compare, Cond.instanceMethod yX4_compare, Cond.selects RX4 yX4_compare yX4_compare, Cond.code yX4_compare cX4_compare 3 (some .int), Cond.methodLink RX4 45 yX4_takeAmount, Cond.instanceMethod yX4_takeAmount, Cond.selects RX4 yX4_takeAmount yX4_takeAmount, Cond.code yX4_takeAmount cX4_takeAmount 7 none, Cond.methodLink RX5 76 yX4_quotient, Cond.instanceMethod yX4_quotient, Cond.selects RX4 yX4_quotient yX4_quotient, Cond.code yX4_quotient cX4_quotient 5 none, Cond.methodLink RX4 53 yX4_isSet]
def wsL_law_r15 : List Cond := [Cond.instanceMethod yX4_isSet, Cond.selects RX4 yX4_isSet yX4_isSet, Cond.code yX4_isSet cX4_isSet 2 (some .boolean), Cond.methodLink RX4 57 yX4_twice, Cond.instanceMethod yX4_twice, Cond.selects RX4 yX4_twice yX4_twice, Cond.code yX4_twice cX4_twice 5 none, Cond.methodLink RX5 53 yX5_fraction, Cond.instanceMethod yX5_fraction, Cond.selects RX5 yX5_fraction yX5_fraction, Cond.code yX5_fraction cX5_fraction 6 (some .boolean), Cond.fieldLink RX5 80 "RowReductionModel$Great" "minus" "Z", Cond.fieldLink RX5 86 "RowReductionModel$Great" "value" "J", Cond.methodLink RX5 83 yX4_isLong, Cond.instanceMethod yX4_isLong, Cond.selects RX4 yX4_isLong yX4_isLong, Cond.code yX4_isLong cX4_isLong 4 (some .boolean), Cond.constantLong RX4 63 (-9223372036854775808), Cond.fieldLink RX4 65 "RowReductionModel$Great" "value" "J", Cond.methodLink RL 33 yX3_above, Cond.instanceMethod yX3_above, Cond.selects RX3 yX3_above yX3_above, Cond.code yX3_above cX3_above 2 (some .long), Cond.methodLink RX3 80 yX3_isTold]
def wsL_law_r16 : List Cond := [Cond.instanceMethod yX3_isTold, Cond.selects RX3 yX3_isTold yX3_isTold, Cond.code yX3_isTold cX3_isTold 2 (some .boolean), Cond.methodLink RL 37 yX5_above, Cond.instanceMethod yX5_above, Cond.selects RX5 yX5_above yX5_above, Cond.code yX5_above cX5_above 2 (some .long), Cond.methodLink RL 38 yX3_under, Cond.instanceMethod yX3_under, Cond.selects RX3 yX3_under yX3_under, Cond.code yX3_under cX3_under 2 (some .long), Cond.methodLink RL 41 yX5_under, Cond.instanceMethod yX5_under, Cond.selects RX5 yX5_under yX5_under, Cond.code yX5_under cX5_under 2 (some .long)]
def wsL_law : List Cond := (wsL_law_r1 ++ (wsL_law_r2 ++ (wsL_law_r3 ++ (wsL_law_r4 ++ (wsL_law_r5 ++ (wsL_law_r6 ++ (wsL_law_r7 ++ (wsL_law_r8 ++ (wsL_law_r9 ++ (wsL_law_r10 ++ (wsL_law_r11 ++ (wsL_law_r12 ++ (wsL_law_r13 ++ (wsL_law_r14 ++ (wsL_law_r15 ++ wsL_law_r16))))))))))))))) ++ wsX30 ++ wsX50 ++ wsX00 ++ wsX20 ++ wsX40 ++ ([] : List Cond)
abbrev vwCl : List vw_C := [(RX0, TX0, 10), (RX2, TX2, 6), (RX3, TX3, 7), (RX4, TX4, 4), (RX5, TX5, 7)]
end
section
set_option maxRecDepth 20000 in
theorem dX0_init_0 : decode cX0_init 0 = .ok (.aload_n 0, 1) := by decide +kernel
theorem dX0_init_1 : decode cX0_init 1 = .ok (.invokespecial 3, 3) := by decide +kernel
theorem dX0_init_4 : decode cX0_init 4 = .ok (.aload_n 0, 1) := by decide +kernel
theorem dX0_init_5 : decode cX0_init 5 = .ok (.bipush 110, 2) := by decide +kernel
theorem dX0_init_7 : decode cX0_init 7 = .ok (.bipush 21, 2) := by decide +kernel
theorem dX0_init_9 : decode cX0_init 9 = .ok (.multianewarray 11 2, 4) := by decide +kernel
theorem dX0_init_13 : decode cX0_init 13 = .ok (.putfield 13, 3) := by decide +kernel
theorem dX0_init_16 : decode cX0_init 16 = .ok (.aload_n 0, 1) := by decide +kernel
theorem dX0_init_17 : decode cX0_init 17 = .ok (.bipush 21, 2) := by decide +kernel
theorem dX0_init_19 : decode cX0_init 19 = .ok (.newarray .long, 2) := by decide +kernel
theorem dX0_init_21 : decode cX0_init 21 = .ok (.putfield 18, 3) := by decide +kernel
theorem dX0_init_24 : decode cX0_init 24 = .ok (.aload_n 0, 1) := by decide +kernel
theorem dX0_init_25 : decode cX0_init 25 = .ok (.bipush 21, 2) := by decide +kernel
theorem dX0_init_27 : decode cX0_init 27 = .ok (.newarray .long, 2) := by decide +kernel
theorem dX0_init_29 : decode cX0_init 29 = .ok (.putfield 22, 3) := by decide +kernel
theorem dX0_init_32 : decode cX0_init 32 = .ok (.aload_n 0, 1) := by decide +kernel
theorem dX0_init_33 : decode cX0_init 33 = .ok (.bipush 21, 2) := by decide +kernel
theorem dX0_init_35 : decode cX0_init 35 = .ok (.newarray .long, 2) := by decide +kernel
theorem dX0_init_37 : decode cX0_init 37 = .ok (.putfield 25, 3) := by decide +kernel
theorem dX0_init_40 : decode cX0_init 40 = .ok (.aload_n 0, 1) := by decide +kernel
theorem dX0_init_41 : decode cX0_init 41 = .ok (.iconst 1, 1) := by decide +kernel
theorem dX0_init_42 : decode cX0_init 42 = .ok (.putfield 28, 3) := by decide +kernel
theorem dX0_init_45 : decode cX0_init 45 = .ok (.aload_n 0, 1) := by decide +kernel
theorem dX0_init_46 : decode cX0_init 46 = .ok (.iconst 0, 1) := by decide +kernel
theorem dX0_init_47 : decode cX0_init 47 = .ok (.putfield 32, 3) := by decide +kernel
theorem dX0_init_50 : decode cX0_init 50 = .ok (.aload_n 0, 1) := by decide +kernel
theorem dX0_init_51 : decode cX0_init 51 = .ok (.iconst 0, 1) := by decide +kernel
theorem dX0_init_52 : decode cX0_init 52 = .ok (.putfield 35, 3) := by decide +kernel
theorem dX0_init_55 : decode cX0_init 55 = .ok (.aload_n 0, 1) := by decide +kernel
theorem dX0_init_56 : decode cX0_init 56 = .ok (.lconst 1, 1) := by decide +kernel
theorem dX0_init_57 : decode cX0_init 57 = .ok (.putfield 38, 3) := by decide +kernel
theorem dX0_init_60 : decode cX0_init 60 = .ok (.aload_n 0, 1) := by decide +kernel
theorem dX0_init_61 : decode cX0_init 61 = .ok (.iconst 1, 1) := by decide +kernel
theorem dX0_init_62 : decode cX0_init 62 = .ok (.putfield 42, 3) := by decide +kernel
theorem dX0_init_65 : decode cX0_init 65 = .ok (.aload_n 0, 1) := by decide +kernel
theorem dX0_init_66 : decode cX0_init 66 = .ok (.iconst 1, 1) := by decide +kernel
theorem dX0_init_67 : decode cX0_init 67 = .ok (.putfield 45, 3) := by decide +kernel
theorem dX0_init_70 : decode cX0_init 70 = .ok (.return_, 1) := by decide +kernel
set_option maxRecDepth 20000 in
theorem ggX0_reduce_X0_load : GoodIn wsX0_reduce wsX0_load := goodIn_r _ [6, 1, 7, 8, 9, 10, 5, 11, 12, 13, 14, 15, 16, 17, 18, 19, 20, 21, 113, 114, 115, 116, 117, 118, 119, 120, 121, 122] (by decide +kernel) (by decide +kernel)
set_option maxRecDepth 20000 in
theorem gX0_reduce_X0_load : GoodIn wsX0_reduce (wsV RX0 48 RX0 yX0_load wsX0_load) := goodIn_app (goodIn_of _ (by decide +kernel)) ggX0_reduce_X0_load
set_option maxRecDepth 20000 in
theorem ggX0_reduce_X0_findPivotRow : GoodIn wsX0_reduce wsX0_findPivotRow := goodIn_r _ [25, 1, 8, 9, 10, 5, 11, 12, 26, 27, 15, 28, 113, 114, 115, 116, 117, 118, 119, 120, 121, 122] (by decide +kernel) (by decide +kernel)
set_option maxRecDepth 20000 in
theorem gX0_reduce_X0_findPivotRow : GoodIn wsX0_reduce (wsV RX0 52 RX0 yX0_findPivotRow wsX0_findPivotRow) := goodIn_app (goodIn_of _ (by decide +kernel)) ggX0_reduce_X0_findPivotRow
set_option maxRecDepth 20000 in
theorem ggX0_reduce_X0_swapRows : GoodIn wsX0_reduce wsX0_swapRows := goodIn_r _ [32, 1, 12, 8, 9, 10, 5, 11, 113, 114, 115, 116, 117, 118, 119, 120, 121, 122] (by decide +kernel) (by decide +kernel)
set_option maxRecDepth 20000 in
theorem gX0_reduce_X0_swapRows : GoodIn wsX0_reduce (wsV RX0 56 RX0 yX0_swapRows wsX0_swapRows) := goodIn_app (goodIn_of _ (by decide +kernel)) ggX0_reduce_X0_swapRows
set_option maxRecDepth 20000 in
theorem ggX0_reduce_X0_prepareStep : GoodIn wsX0_reduce wsX0_prepareStep := goodIn_r _ [36, 37, 38, 39, 40, 1, 41, 42, 43, 44, 45, 46, 8, 9, 10, 5, 11, 12, 47, 48, 15, 49, 18, 19, 20, 21, 50, 51, 52, 17, 13, 14, 16, 53, 54, 55, 56, 57, 58, 59, 60, 61, 62, 63, 64, 65, 66, 67, 68, 69, 70, 71, 72, 73, 74, 75, 76, 77, 78, 79, 80, 81, 82, 83, 84, 7, 113, 114, 115, 116, 117, 118, 119, 120, 121, 122] (by decide +kernel) (by decide +kernel)
set_option maxRecDepth 20000 in
theorem gX0_reduce_X0_prepareStep : GoodIn wsX0_reduce (wsV RX0 60 RX0 yX0_prepareStep wsX0_prepareStep) := goodIn_app (goodIn_of _ (by decide +kernel)) ggX0_reduce_X0_prepareStep
set_option maxRecDepth 20000 in
theorem ggX0_reduce_X0_clearColumn : GoodIn wsX0_reduce wsX0_clearColumn := goodIn_r _ [88, 1, 8, 9, 10, 5, 11, 12, 89, 90, 91, 92, 93, 37, 46, 39, 38, 40, 45, 94, 19, 20, 21, 95, 96, 15, 97, 50, 51, 52, 17, 71, 72, 73, 74, 75, 76, 98, 99, 100, 101, 102, 103, 56, 57, 58, 59, 104, 105, 106, 107, 108, 109, 110, 111, 112, 113, 114, 115, 116, 117, 118, 119, 120, 121, 122] (by decide +kernel) (by decide +kernel)
set_option maxRecDepth 20000 in
theorem gX0_reduce_X0_clearColumn : GoodIn wsX0_reduce (wsV RX0 64 RX0 yX0_clearColumn wsX0_clearColumn) := goodIn_app (goodIn_of _ (by decide +kernel)) ggX0_reduce_X0_clearColumn
theorem dX0_reduce_0 : decode cX0_reduce 0 = .ok (.aload_n 0, 1) := by decide +kernel
theorem dX0_reduce_1 : decode cX0_reduce 1 = .ok (.iload_n 2, 1) := by decide +kernel
theorem dX0_reduce_2 : decode cX0_reduce 2 = .ok (.putfield 28, 3) := by decide +kernel
theorem dX0_reduce_5 : decode cX0_reduce 5 = .ok (.aload_n 0, 1) := by decide +kernel
theorem dX0_reduce_6 : decode cX0_reduce 6 = .ok (.aload_n 1, 1) := by decide +kernel
theorem dX0_reduce_7 : decode cX0_reduce 7 = .ok (.invokevirtual 48, 3) := by decide +kernel
theorem dX0_reduce_10 : decode cX0_reduce 10 = .ok (.iconst 0, 1) := by decide +kernel
theorem dX0_reduce_11 : decode cX0_reduce 11 = .ok (.istore_n 3, 1) := by decide +kernel
theorem dX0_reduce_12 : decode cX0_reduce 12 = .ok (.iload_n 3, 1) := by decide +kernel
theorem dX0_reduce_13 : decode cX0_reduce 13 = .ok (.aload_n 0, 1) := by decide +kernel
theorem dX0_reduce_14 : decode cX0_reduce 14 = .ok (.getfield 28, 3) := by decide +kernel
theorem dX0_reduce_17 : decode cX0_reduce 17 = .ok (.if_icmp .ge 40, 3) := by decide +kernel
theorem dX0_reduce_20 : decode cX0_reduce 20 = .ok (.aload_n 0, 1) := by decide +kernel
theorem dX0_reduce_21 : decode cX0_reduce 21 = .ok (.iload_n 3, 1) := by decide +kernel
theorem dX0_reduce_22 : decode cX0_reduce 22 = .ok (.invokevirtual 52, 3) := by decide +kernel
theorem dX0_reduce_25 : decode cX0_reduce 25 = .ok (.istore 4, 2) := by decide +kernel
theorem dX0_reduce_27 : decode cX0_reduce 27 = .ok (.iload 4, 2) := by decide +kernel
theorem dX0_reduce_29 : decode cX0_reduce 29 = .ok (.ifCond .ge 5, 3) := by decide +kernel
theorem dX0_reduce_32 : decode cX0_reduce 32 = .ok (.iconst 0, 1) := by decide +kernel
theorem dX0_reduce_33 : decode cX0_reduce 33 = .ok (.ireturn, 1) := by decide +kernel
theorem dX0_reduce_34 : decode cX0_reduce 34 = .ok (.aload_n 0, 1) := by decide +kernel
theorem dX0_reduce_35 : decode cX0_reduce 35 = .ok (.iload_n 3, 1) := by decide +kernel
theorem dX0_reduce_36 : decode cX0_reduce 36 = .ok (.iload 4, 2) := by decide +kernel
theorem dX0_reduce_38 : decode cX0_reduce 38 = .ok (.invokevirtual 56, 3) := by decide +kernel
theorem dX0_reduce_41 : decode cX0_reduce 41 = .ok (.aload_n 0, 1) := by decide +kernel
theorem dX0_reduce_42 : decode cX0_reduce 42 = .ok (.iload_n 3, 1) := by decide +kernel
theorem dX0_reduce_43 : decode cX0_reduce 43 = .ok (.invokevirtual 60, 3) := by decide +kernel
theorem dX0_reduce_46 : decode cX0_reduce 46 = .ok (.aload_n 0, 1) := by decide +kernel
theorem dX0_reduce_47 : decode cX0_reduce 47 = .ok (.iload_n 3, 1) := by decide +kernel
theorem dX0_reduce_48 : decode cX0_reduce 48 = .ok (.invokevirtual 64, 3) := by decide +kernel
theorem dX0_reduce_51 : decode cX0_reduce 51 = .ok (.iinc 3 1, 3) := by decide +kernel
theorem dX0_reduce_54 : decode cX0_reduce 54 = .ok (.goto (-42), 3) := by decide +kernel
theorem dX0_reduce_57 : decode cX0_reduce 57 = .ok (.iconst 1, 1) := by decide +kernel
theorem dX0_reduce_58 : decode cX0_reduce 58 = .ok (.ireturn, 1) := by decide +kernel
set_option maxRecDepth 20000 in
theorem ggX0_dividend_X0_cell : GoodIn wsX0_dividend wsX0_cell := goodIn_r _ [6, 7, 8, 9, 10, 11, 12, 13, 14, 15, 16, 17] (by decide +kernel) (by decide +kernel)
set_option maxRecDepth 20000 in
theorem gX0_dividend_X0_cell : GoodIn wsX0_dividend (wsV RX0 67 RX0 yX0_cell wsX0_cell) := goodIn_app (goodIn_of _ (by decide +kernel)) ggX0_dividend_X0_cell
theorem dX0_dividend_0 : decode cX0_dividend 0 = .ok (.aload_n 0, 1) := by decide +kernel
theorem dX0_dividend_1 : decode cX0_dividend 1 = .ok (.iload_n 1, 1) := by decide +kernel
theorem dX0_dividend_2 : decode cX0_dividend 2 = .ok (.aload_n 0, 1) := by decide +kernel
theorem dX0_dividend_3 : decode cX0_dividend 3 = .ok (.getfield 28, 3) := by decide +kernel
theorem dX0_dividend_6 : decode cX0_dividend 6 = .ok (.invokevirtual 67, 3) := by decide +kernel
theorem dX0_dividend_9 : decode cX0_dividend 9 = .ok (.areturn, 1) := by decide +kernel
set_option maxRecDepth 20000 in
theorem ggX0_divisor_X0_cell : GoodIn wsX0_divisor wsX0_cell := goodIn_r _ [6, 7, 8, 9, 10, 11, 12, 13, 14, 15, 16, 17] (by decide +kernel) (by decide +kernel)
set_option maxRecDepth 20000 in
theorem gX0_divisor_X0_cell : GoodIn wsX0_divisor (wsV RX0 67 RX0 yX0_cell wsX0_cell) := goodIn_app (goodIn_of _ (by decide +kernel)) ggX0_divisor_X0_cell
theorem dX0_divisor_0 : decode cX0_divisor 0 = .ok (.aload_n 0, 1) := by decide +kernel
theorem dX0_divisor_1 : decode cX0_divisor 1 = .ok (.aload_n 0, 1) := by decide +kernel
theorem dX0_divisor_2 : decode cX0_divisor 2 = .ok (.getfield 28, 3) := by decide +kernel
theorem dX0_divisor_5 : decode cX0_divisor 5 = .ok (.iconst 1, 1) := by decide +kernel
theorem dX0_divisor_6 : decode cX0_divisor 6 = .ok (.isub, 1) := by decide +kernel
theorem dX0_divisor_7 : decode cX0_divisor 7 = .ok (.aload_n 0, 1) := by decide +kernel
theorem dX0_divisor_8 : decode cX0_divisor 8 = .ok (.getfield 28, 3) := by decide +kernel
theorem dX0_divisor_11 : decode cX0_divisor 11 = .ok (.iconst 1, 1) := by decide +kernel
theorem dX0_divisor_12 : decode cX0_divisor 12 = .ok (.isub, 1) := by decide +kernel
theorem dX0_divisor_13 : decode cX0_divisor 13 = .ok (.invokevirtual 67, 3) := by decide +kernel
theorem dX0_divisor_16 : decode cX0_divisor 16 = .ok (.areturn, 1) := by decide +kernel
set_option maxRecDepth 20000 in
theorem ggX0_width_X0_limbsOfMinor : GoodIn wsX0_width wsX0_limbsOfMinor := goodIn_r _ [6, 7, 8, 9, 10, 11, 12, 13, 14, 15, 16, 17] (by decide +kernel) (by decide +kernel)
set_option maxRecDepth 20000 in
theorem gX0_width_X0_limbsOfMinor : GoodIn wsX0_width (wsV RX0 71 RX0 yX0_limbsOfMinor wsX0_limbsOfMinor) := goodIn_app (goodIn_of _ (by decide +kernel)) ggX0_width_X0_limbsOfMinor
theorem dX0_width_0 : decode cX0_width 0 = .ok (.aload_n 0, 1) := by decide +kernel
theorem dX0_width_1 : decode cX0_width 1 = .ok (.aload_n 0, 1) := by decide +kernel
theorem dX0_width_2 : decode cX0_width 2 = .ok (.getfield 28, 3) := by decide +kernel
theorem dX0_width_5 : decode cX0_width 5 = .ok (.invokevirtual 71, 3) := by decide +kernel
theorem dX0_width_8 : decode cX0_width 8 = .ok (.ireturn, 1) := by decide +kernel
theorem dX0_cell_0 : decode cX0_cell 0 = .ok (.aload_n 0, 1) := by decide +kernel
theorem dX0_cell_1 : decode cX0_cell 1 = .ok (.getfield 13, 3) := by decide +kernel
theorem dX0_cell_4 : decode cX0_cell 4 = .ok (.iload_n 1, 1) := by decide +kernel
theorem dX0_cell_5 : decode cX0_cell 5 = .ok (.bipush 11, 2) := by decide +kernel
theorem dX0_cell_7 : decode cX0_cell 7 = .ok (.imul, 1) := by decide +kernel
theorem dX0_cell_8 : decode cX0_cell 8 = .ok (.iload_n 2, 1) := by decide +kernel
theorem dX0_cell_9 : decode cX0_cell 9 = .ok (.iadd, 1) := by decide +kernel
theorem dX0_cell_10 : decode cX0_cell 10 = .ok (.aaload, 1) := by decide +kernel
theorem dX0_cell_11 : decode cX0_cell 11 = .ok (.areturn, 1) := by decide +kernel
set_option maxRecDepth 20000 in
theorem ggX0_load_X0_cell : GoodIn wsX0_load wsX0_cell := goodIn_r _ [7, 8, 18, 19, 20, 21, 22, 23, 24, 25, 26, 27] (by decide +kernel) (by decide +kernel)
set_option maxRecDepth 20000 in
theorem gX0_load_X0_cell : GoodIn wsX0_load (wsV RX0 67 RX0 yX0_cell wsX0_cell) := goodIn_app (goodIn_of _ (by decide +kernel)) ggX0_load_X0_cell
set_option maxRecDepth 20000 in
theorem ggX0_load_X1_setTo : GoodIn wsX0_load wsX1_setTo := goodIn_r _ [12, 13, 14, 15, 16, 17] (by decide +kernel) (by decide +kernel)
set_option maxRecDepth 20000 in
theorem gX0_load_X1_setTo : GoodIn wsX0_load (va_wsS RX0 74 yX1_setTo wsX1_setTo) := goodIn_app (goodIn_of _ (by decide +kernel)) ggX0_load_X1_setTo
theorem dX0_load_0 : decode cX0_load 0 = .ok (.iconst 0, 1) := by decide +kernel
theorem dX0_load_1 : decode cX0_load 1 = .ok (.istore_n 2, 1) := by decide +kernel
theorem dX0_load_2 : decode cX0_load 2 = .ok (.iconst 0, 1) := by decide +kernel
theorem dX0_load_3 : decode cX0_load 3 = .ok (.istore_n 3, 1) := by decide +kernel
theorem dX0_load_4 : decode cX0_load 4 = .ok (.iload_n 3, 1) := by decide +kernel
theorem dX0_load_5 : decode cX0_load 5 = .ok (.aload_n 0, 1) := by decide +kernel
theorem dX0_load_6 : decode cX0_load 6 = .ok (.getfield 28, 3) := by decide +kernel
theorem dX0_load_9 : decode cX0_load 9 = .ok (.if_icmp .ge 64, 3) := by decide +kernel
theorem dX0_load_12 : decode cX0_load 12 = .ok (.iconst 0, 1) := by decide +kernel
theorem dX0_load_13 : decode cX0_load 13 = .ok (.istore 4, 2) := by decide +kernel
theorem dX0_load_15 : decode cX0_load 15 = .ok (.iload 4, 2) := by decide +kernel
theorem dX0_load_17 : decode cX0_load 17 = .ok (.aload_n 0, 1) := by decide +kernel
theorem dX0_load_18 : decode cX0_load 18 = .ok (.getfield 28, 3) := by decide +kernel
theorem dX0_load_21 : decode cX0_load 21 = .ok (.if_icmp .gt 46, 3) := by decide +kernel
theorem dX0_load_24 : decode cX0_load 24 = .ok (.aload_n 1, 1) := by decide +kernel
theorem dX0_load_25 : decode cX0_load 25 = .ok (.iload_n 3, 1) := by decide +kernel
theorem dX0_load_26 : decode cX0_load 26 = .ok (.aaload, 1) := by decide +kernel
theorem dX0_load_27 : decode cX0_load 27 = .ok (.iload 4, 2) := by decide +kernel
theorem dX0_load_29 : decode cX0_load 29 = .ok (.iaload, 1) := by decide +kernel
theorem dX0_load_30 : decode cX0_load 30 = .ok (.istore 5, 2) := by decide +kernel
theorem dX0_load_32 : decode cX0_load 32 = .ok (.aload_n 0, 1) := by decide +kernel
theorem dX0_load_33 : decode cX0_load 33 = .ok (.iload_n 3, 1) := by decide +kernel
theorem dX0_load_34 : decode cX0_load 34 = .ok (.iload 4, 2) := by decide +kernel
theorem dX0_load_36 : decode cX0_load 36 = .ok (.invokevirtual 67, 3) := by decide +kernel
theorem dX0_load_39 : decode cX0_load 39 = .ok (.iload 5, 2) := by decide +kernel
theorem dX0_load_41 : decode cX0_load 41 = .ok (.invokestatic 74, 3) := by decide +kernel
theorem dX0_load_44 : decode cX0_load 44 = .ok (.iload_n 2, 1) := by decide +kernel
theorem dX0_load_45 : decode cX0_load 45 = .ok (.iload 5, 2) := by decide +kernel
theorem dX0_load_47 : decode cX0_load 47 = .ok (.ifCond .ge 10, 3) := by decide +kernel
theorem dX0_load_50 : decode cX0_load 50 = .ok (.iload 5, 2) := by decide +kernel
theorem dX0_load_52 : decode cX0_load 52 = .ok (.iconst (-1), 1) := by decide +kernel
theorem dX0_load_53 : decode cX0_load 53 = .ok (.ixor, 1) := by decide +kernel
theorem dX0_load_54 : decode cX0_load 54 = .ok (.goto 5, 3) := by decide +kernel
theorem dX0_load_57 : decode cX0_load 57 = .ok (.iload 5, 2) := by decide +kernel
theorem dX0_load_59 : decode cX0_load 59 = .ok (.ior, 1) := by decide +kernel
theorem dX0_load_60 : decode cX0_load 60 = .ok (.istore_n 2, 1) := by decide +kernel
theorem dX0_load_61 : decode cX0_load 61 = .ok (.iinc 4 1, 3) := by decide +kernel
theorem dX0_load_64 : decode cX0_load 64 = .ok (.goto (-49), 3) := by decide +kernel
theorem dX0_load_67 : decode cX0_load 67 = .ok (.iinc 3 1, 3) := by decide +kernel
theorem dX0_load_70 : decode cX0_load 70 = .ok (.goto (-66), 3) := by decide +kernel
theorem dX0_load_73 : decode cX0_load 73 = .ok (.aload_n 0, 1) := by decide +kernel
theorem dX0_load_74 : decode cX0_load 74 = .ok (.iconst 0, 1) := by decide +kernel
theorem dX0_load_75 : decode cX0_load 75 = .ok (.putfield 32, 3) := by decide +kernel
theorem dX0_load_78 : decode cX0_load 78 = .ok (.aload_n 0, 1) := by decide +kernel
theorem dX0_load_79 : decode cX0_load 79 = .ok (.getfield 32, 3) := by decide +kernel
theorem dX0_load_82 : decode cX0_load 82 = .ok (.bipush 31, 2) := by decide +kernel
theorem dX0_load_84 : decode cX0_load 84 = .ok (.if_icmp .ge 25, 3) := by decide +kernel
theorem dX0_load_87 : decode cX0_load 87 = .ok (.iload_n 2, 1) := by decide +kernel
theorem dX0_load_88 : decode cX0_load 88 = .ok (.aload_n 0, 1) := by decide +kernel
theorem dX0_load_89 : decode cX0_load 89 = .ok (.getfield 32, 3) := by decide +kernel
theorem dX0_load_92 : decode cX0_load 92 = .ok (.iushr, 1) := by decide +kernel
theorem dX0_load_93 : decode cX0_load 93 = .ok (.ifCond .eq 16, 3) := by decide +kernel
theorem dX0_load_96 : decode cX0_load 96 = .ok (.aload_n 0, 1) := by decide +kernel
theorem dX0_load_97 : decode cX0_load 97 = .ok (.dup, 1) := by decide +kernel
theorem dX0_load_98 : decode cX0_load 98 = .ok (.getfield 32, 3) := by decide +kernel
theorem dX0_load_101 : decode cX0_load 101 = .ok (.iconst 1, 1) := by decide +kernel
theorem dX0_load_102 : decode cX0_load 102 = .ok (.iadd, 1) := by decide +kernel
theorem dX0_load_103 : decode cX0_load 103 = .ok (.putfield 32, 3) := by decide +kernel
theorem dX0_load_106 : decode cX0_load 106 = .ok (.goto (-28), 3) := by decide +kernel
theorem dX0_load_109 : decode cX0_load 109 = .ok (.return_, 1) := by decide +kernel
theorem dX0_limbsOfMinor_0 : decode cX0_limbsOfMinor 0 = .ok (.iload_n 1, 1) := by decide +kernel
theorem dX0_limbsOfMinor_1 : decode cX0_limbsOfMinor 1 = .ok (.aload_n 0, 1) := by decide +kernel
theorem dX0_limbsOfMinor_2 : decode cX0_limbsOfMinor 2 = .ok (.getfield 32, 3) := by decide +kernel
theorem dX0_limbsOfMinor_5 : decode cX0_limbsOfMinor 5 = .ok (.imul, 1) := by decide +kernel
theorem dX0_limbsOfMinor_6 : decode cX0_limbsOfMinor 6 = .ok (.bipush 23, 2) := by decide +kernel
theorem dX0_limbsOfMinor_8 : decode cX0_limbsOfMinor 8 = .ok (.iadd, 1) := by decide +kernel
theorem dX0_limbsOfMinor_9 : decode cX0_limbsOfMinor 9 = .ok (.bipush 32, 2) := by decide +kernel
theorem dX0_limbsOfMinor_11 : decode cX0_limbsOfMinor 11 = .ok (.idiv, 1) := by decide +kernel
theorem dX0_limbsOfMinor_12 : decode cX0_limbsOfMinor 12 = .ok (.iconst 1, 1) := by decide +kernel
theorem dX0_limbsOfMinor_13 : decode cX0_limbsOfMinor 13 = .ok (.iadd, 1) := by decide +kernel
theorem dX0_limbsOfMinor_14 : decode cX0_limbsOfMinor 14 = .ok (.ireturn, 1) := by decide +kernel
set_option maxRecDepth 20000 in
theorem ggX0_findPivotRow_X0_cell : GoodIn wsX0_findPivotRow wsX0_cell := goodIn_r _ [6, 7, 12, 13, 14, 15, 16, 17, 18, 19, 20, 21] (by decide +kernel) (by decide +kernel)
set_option maxRecDepth 20000 in
theorem gX0_findPivotRow_X0_cell : GoodIn wsX0_findPivotRow (wsV RX0 67 RX0 yX0_cell wsX0_cell) := goodIn_app (goodIn_of _ (by decide +kernel)) ggX0_findPivotRow_X0_cell
set_option maxRecDepth 20000 in
theorem ggX0_findPivotRow_X1_isZero : GoodIn wsX0_findPivotRow wsX1_isZero := goodIn_r _ [11] (by decide +kernel) (by decide +kernel)
set_option maxRecDepth 20000 in
theorem gX0_findPivotRow_X1_isZero : GoodIn wsX0_findPivotRow (va_wsS RX0 78 yX1_isZero wsX1_isZero) := goodIn_app (goodIn_of _ (by decide +kernel)) ggX0_findPivotRow_X1_isZero
theorem dX0_findPivotRow_0 : decode cX0_findPivotRow 0 = .ok (.iload_n 1, 1) := by decide +kernel
theorem dX0_findPivotRow_1 : decode cX0_findPivotRow 1 = .ok (.istore_n 2, 1) := by decide +kernel
theorem dX0_findPivotRow_2 : decode cX0_findPivotRow 2 = .ok (.iload_n 2, 1) := by decide +kernel
theorem dX0_findPivotRow_3 : decode cX0_findPivotRow 3 = .ok (.aload_n 0, 1) := by decide +kernel
theorem dX0_findPivotRow_4 : decode cX0_findPivotRow 4 = .ok (.getfield 28, 3) := by decide +kernel
theorem dX0_findPivotRow_7 : decode cX0_findPivotRow 7 = .ok (.if_icmp .ge 23, 3) := by decide +kernel
theorem dX0_findPivotRow_10 : decode cX0_findPivotRow 10 = .ok (.aload_n 0, 1) := by decide +kernel
theorem dX0_findPivotRow_11 : decode cX0_findPivotRow 11 = .ok (.iload_n 2, 1) := by decide +kernel
theorem dX0_findPivotRow_12 : decode cX0_findPivotRow 12 = .ok (.iload_n 1, 1) := by decide +kernel
theorem dX0_findPivotRow_13 : decode cX0_findPivotRow 13 = .ok (.invokevirtual 67, 3) := by decide +kernel
theorem dX0_findPivotRow_16 : decode cX0_findPivotRow 16 = .ok (.invokestatic 78, 3) := by decide +kernel
theorem dX0_findPivotRow_19 : decode cX0_findPivotRow 19 = .ok (.ifCond .ne 5, 3) := by decide +kernel
theorem dX0_findPivotRow_22 : decode cX0_findPivotRow 22 = .ok (.iload_n 2, 1) := by decide +kernel
theorem dX0_findPivotRow_23 : decode cX0_findPivotRow 23 = .ok (.ireturn, 1) := by decide +kernel
theorem dX0_findPivotRow_24 : decode cX0_findPivotRow 24 = .ok (.iinc 2 1, 3) := by decide +kernel
theorem dX0_findPivotRow_27 : decode cX0_findPivotRow 27 = .ok (.goto (-25), 3) := by decide +kernel
theorem dX0_findPivotRow_30 : decode cX0_findPivotRow 30 = .ok (.iconst (-1), 1) := by decide +kernel
theorem dX0_findPivotRow_31 : decode cX0_findPivotRow 31 = .ok (.ireturn, 1) := by decide +kernel
set_option maxRecDepth 20000 in
theorem ggX0_swapRows_X0_cell : GoodIn wsX0_swapRows wsX0_cell := goodIn_r _ [7, 2, 8, 9, 10, 11, 12, 13, 14, 15, 16, 17] (by decide +kernel) (by decide +kernel)
set_option maxRecDepth 20000 in
theorem gX0_swapRows_X0_cell : GoodIn wsX0_swapRows (wsV RX0 67 RX0 yX0_cell wsX0_cell) := goodIn_app (goodIn_of _ (by decide +kernel)) ggX0_swapRows_X0_cell
theorem dX0_swapRows_0 : decode cX0_swapRows 0 = .ok (.iload_n 1, 1) := by decide +kernel
theorem dX0_swapRows_1 : decode cX0_swapRows 1 = .ok (.iload_n 2, 1) := by decide +kernel
theorem dX0_swapRows_2 : decode cX0_swapRows 2 = .ok (.if_icmp .ne 4, 3) := by decide +kernel
theorem dX0_swapRows_5 : decode cX0_swapRows 5 = .ok (.return_, 1) := by decide +kernel
theorem dX0_swapRows_6 : decode cX0_swapRows 6 = .ok (.iconst 0, 1) := by decide +kernel
theorem dX0_swapRows_7 : decode cX0_swapRows 7 = .ok (.istore_n 3, 1) := by decide +kernel
theorem dX0_swapRows_8 : decode cX0_swapRows 8 = .ok (.iload_n 3, 1) := by decide +kernel
theorem dX0_swapRows_9 : decode cX0_swapRows 9 = .ok (.aload_n 0, 1) := by decide +kernel
theorem dX0_swapRows_10 : decode cX0_swapRows 10 = .ok (.getfield 28, 3) := by decide +kernel
theorem dX0_swapRows_13 : decode cX0_swapRows 13 = .ok (.if_icmp .gt 47, 3) := by decide +kernel
theorem dX0_swapRows_16 : decode cX0_swapRows 16 = .ok (.aload_n 0, 1) := by decide +kernel
theorem dX0_swapRows_17 : decode cX0_swapRows 17 = .ok (.iload_n 1, 1) := by decide +kernel
theorem dX0_swapRows_18 : decode cX0_swapRows 18 = .ok (.iload_n 3, 1) := by decide +kernel
theorem dX0_swapRows_19 : decode cX0_swapRows 19 = .ok (.invokevirtual 67, 3) := by decide +kernel
theorem dX0_swapRows_22 : decode cX0_swapRows 22 = .ok (.astore 4, 2) := by decide +kernel
theorem dX0_swapRows_24 : decode cX0_swapRows 24 = .ok (.aload_n 0, 1) := by decide +kernel
theorem dX0_swapRows_25 : decode cX0_swapRows 25 = .ok (.getfield 13, 3) := by decide +kernel
theorem dX0_swapRows_28 : decode cX0_swapRows 28 = .ok (.iload_n 1, 1) := by decide +kernel
theorem dX0_swapRows_29 : decode cX0_swapRows 29 = .ok (.bipush 11, 2) := by decide +kernel
theorem dX0_swapRows_31 : decode cX0_swapRows 31 = .ok (.imul, 1) := by decide +kernel
theorem dX0_swapRows_32 : decode cX0_swapRows 32 = .ok (.iload_n 3, 1) := by decide +kernel
theorem dX0_swapRows_33 : decode cX0_swapRows 33 = .ok (.iadd, 1) := by decide +kernel
theorem dX0_swapRows_34 : decode cX0_swapRows 34 = .ok (.aload_n 0, 1) := by decide +kernel
theorem dX0_swapRows_35 : decode cX0_swapRows 35 = .ok (.iload_n 2, 1) := by decide +kernel
theorem dX0_swapRows_36 : decode cX0_swapRows 36 = .ok (.iload_n 3, 1) := by decide +kernel
theorem dX0_swapRows_37 : decode cX0_swapRows 37 = .ok (.invokevirtual 67, 3) := by decide +kernel
theorem dX0_swapRows_40 : decode cX0_swapRows 40 = .ok (.aastore, 1) := by decide +kernel
theorem dX0_swapRows_41 : decode cX0_swapRows 41 = .ok (.aload_n 0, 1) := by decide +kernel
theorem dX0_swapRows_42 : decode cX0_swapRows 42 = .ok (.getfield 13, 3) := by decide +kernel
theorem dX0_swapRows_45 : decode cX0_swapRows 45 = .ok (.iload_n 2, 1) := by decide +kernel
theorem dX0_swapRows_46 : decode cX0_swapRows 46 = .ok (.bipush 11, 2) := by decide +kernel
theorem dX0_swapRows_48 : decode cX0_swapRows 48 = .ok (.imul, 1) := by decide +kernel
theorem dX0_swapRows_49 : decode cX0_swapRows 49 = .ok (.iload_n 3, 1) := by decide +kernel
theorem dX0_swapRows_50 : decode cX0_swapRows 50 = .ok (.iadd, 1) := by decide +kernel
theorem dX0_swapRows_51 : decode cX0_swapRows 51 = .ok (.aload 4, 2) := by decide +kernel
theorem dX0_swapRows_53 : decode cX0_swapRows 53 = .ok (.aastore, 1) := by decide +kernel
theorem dX0_swapRows_54 : decode cX0_swapRows 54 = .ok (.iinc 3 1, 3) := by decide +kernel
theorem dX0_swapRows_57 : decode cX0_swapRows 57 = .ok (.goto (-49), 3) := by decide +kernel
theorem dX0_swapRows_60 : decode cX0_swapRows 60 = .ok (.return_, 1) := by decide +kernel
set_option maxRecDepth 20000 in
theorem ggX0_prepareStep_X0_cell : GoodIn wsX0_prepareStep wsX0_cell := goodIn_r _ [16, 17, 66, 67, 68, 69, 70, 71, 72, 73, 74, 75] (by decide +kernel) (by decide +kernel)
set_option maxRecDepth 20000 in
theorem gX0_prepareStep_X0_cell : GoodIn wsX0_prepareStep (wsV RX0 67 RX0 yX0_cell wsX0_cell) := goodIn_app (goodIn_of _ (by decide +kernel)) ggX0_prepareStep_X0_cell
set_option maxRecDepth 20000 in
theorem ggX0_prepareStep_X1_copyNegated : GoodIn wsX0_prepareStep wsX1_copyNegated := goodIn_r _ [21, 22, 23, 24, 25, 26, 27, 20, 28, 29] (by decide +kernel) (by decide +kernel)
set_option maxRecDepth 20000 in
theorem gX0_prepareStep_X1_copyNegated : GoodIn wsX0_prepareStep (va_wsS RX0 82 yX1_copyNegated wsX1_copyNegated) := goodIn_app (goodIn_of _ (by decide +kernel)) ggX0_prepareStep_X1_copyNegated
set_option maxRecDepth 20000 in
theorem ggX0_prepareStep_X1_setTo : GoodIn wsX0_prepareStep wsX1_setTo := goodIn_r _ [32, 29, 22, 23, 24, 25] (by decide +kernel) (by decide +kernel)
set_option maxRecDepth 20000 in
theorem gX0_prepareStep_X1_setTo : GoodIn wsX0_prepareStep (va_wsS RX0 74 yX1_setTo wsX1_setTo) := goodIn_app (goodIn_of _ (by decide +kernel)) ggX0_prepareStep_X1_setTo
set_option maxRecDepth 20000 in
theorem ggX0_prepareStep_X1_copy : GoodIn wsX0_prepareStep wsX1_copy := goodIn_r _ [35, 36, 37, 38, 39] (by decide +kernel) (by decide +kernel)
set_option maxRecDepth 20000 in
theorem gX0_prepareStep_X1_copy : GoodIn wsX0_prepareStep (va_wsS RX0 86 yX1_copy wsX1_copy) := goodIn_app (goodIn_of _ (by decide +kernel)) ggX0_prepareStep_X1_copy
set_option maxRecDepth 20000 in
theorem ggX0_prepareStep_X1_trailingZeros : GoodIn wsX0_prepareStep wsX1_trailingZeros := goodIn_r _ [42, 43, 44, 45, 46, 47, 48, 49, 50] (by decide +kernel) (by decide +kernel)
set_option maxRecDepth 20000 in
theorem gX0_prepareStep_X1_trailingZeros : GoodIn wsX0_prepareStep (va_wsS RX0 89 yX1_trailingZeros wsX1_trailingZeros) := goodIn_app (goodIn_of _ (by decide +kernel)) ggX0_prepareStep_X1_trailingZeros
set_option maxRecDepth 20000 in
theorem ggX0_prepareStep_X1_shiftRight : GoodIn wsX0_prepareStep wsX1_shiftRight := goodIn_r _ [53, 29, 54, 55, 20, 56] (by decide +kernel) (by decide +kernel)
set_option maxRecDepth 20000 in
theorem gX0_prepareStep_X1_shiftRight : GoodIn wsX0_prepareStep (va_wsS RX0 93 yX1_shiftRight wsX1_shiftRight) := goodIn_app (goodIn_of _ (by decide +kernel)) ggX0_prepareStep_X1_shiftRight
set_option maxRecDepth 20000 in
theorem ggX0_prepareStep_X1_inverse : GoodIn wsX0_prepareStep wsX1_inverse := goodIn_r _ [59, 60, 29] (by decide +kernel) (by decide +kernel)
set_option maxRecDepth 20000 in
theorem gX0_prepareStep_X1_inverse : GoodIn wsX0_prepareStep (va_wsS RX0 97 yX1_inverse wsX1_inverse) := goodIn_app (goodIn_of _ (by decide +kernel)) ggX0_prepareStep_X1_inverse
set_option maxRecDepth 20000 in
theorem ggX0_prepareStep_X0_limbsOfMinor : GoodIn wsX0_prepareStep wsX0_limbsOfMinor := goodIn_r _ [64, 65, 66, 67, 68, 69, 70, 71, 72, 73, 74, 75] (by decide +kernel) (by decide +kernel)
set_option maxRecDepth 20000 in
theorem gX0_prepareStep_X0_limbsOfMinor : GoodIn wsX0_prepareStep (wsV RX0 71 RX0 yX0_limbsOfMinor wsX0_limbsOfMinor) := goodIn_app (goodIn_of _ (by decide +kernel)) ggX0_prepareStep_X0_limbsOfMinor
theorem dX0_prepareStep_0 : decode cX0_prepareStep 0 = .ok (.aload_n 0, 1) := by decide +kernel
theorem dX0_prepareStep_1 : decode cX0_prepareStep 1 = .ok (.iload_n 1, 1) := by decide +kernel
theorem dX0_prepareStep_2 : decode cX0_prepareStep 2 = .ok (.iload_n 1, 1) := by decide +kernel
theorem dX0_prepareStep_3 : decode cX0_prepareStep 3 = .ok (.invokevirtual 67, 3) := by decide +kernel
theorem dX0_prepareStep_6 : decode cX0_prepareStep 6 = .ok (.aload_n 0, 1) := by decide +kernel
theorem dX0_prepareStep_7 : decode cX0_prepareStep 7 = .ok (.getfield 18, 3) := by decide +kernel
theorem dX0_prepareStep_10 : decode cX0_prepareStep 10 = .ok (.invokestatic 82, 3) := by decide +kernel
theorem dX0_prepareStep_13 : decode cX0_prepareStep 13 = .ok (.iload_n 1, 1) := by decide +kernel
theorem dX0_prepareStep_14 : decode cX0_prepareStep 14 = .ok (.ifCond .ne 14, 3) := by decide +kernel
theorem dX0_prepareStep_17 : decode cX0_prepareStep 17 = .ok (.aload_n 0, 1) := by decide +kernel
theorem dX0_prepareStep_18 : decode cX0_prepareStep 18 = .ok (.getfield 22, 3) := by decide +kernel
theorem dX0_prepareStep_21 : decode cX0_prepareStep 21 = .ok (.iconst 1, 1) := by decide +kernel
theorem dX0_prepareStep_22 : decode cX0_prepareStep 22 = .ok (.invokestatic 74, 3) := by decide +kernel
theorem dX0_prepareStep_25 : decode cX0_prepareStep 25 = .ok (.goto 20, 3) := by decide +kernel
theorem dX0_prepareStep_28 : decode cX0_prepareStep 28 = .ok (.aload_n 0, 1) := by decide +kernel
theorem dX0_prepareStep_29 : decode cX0_prepareStep 29 = .ok (.iload_n 1, 1) := by decide +kernel
theorem dX0_prepareStep_30 : decode cX0_prepareStep 30 = .ok (.iconst 1, 1) := by decide +kernel
theorem dX0_prepareStep_31 : decode cX0_prepareStep 31 = .ok (.isub, 1) := by decide +kernel
theorem dX0_prepareStep_32 : decode cX0_prepareStep 32 = .ok (.iload_n 1, 1) := by decide +kernel
theorem dX0_prepareStep_33 : decode cX0_prepareStep 33 = .ok (.iconst 1, 1) := by decide +kernel
theorem dX0_prepareStep_34 : decode cX0_prepareStep 34 = .ok (.isub, 1) := by decide +kernel
theorem dX0_prepareStep_35 : decode cX0_prepareStep 35 = .ok (.invokevirtual 67, 3) := by decide +kernel
theorem dX0_prepareStep_38 : decode cX0_prepareStep 38 = .ok (.aload_n 0, 1) := by decide +kernel
theorem dX0_prepareStep_39 : decode cX0_prepareStep 39 = .ok (.getfield 22, 3) := by decide +kernel
theorem dX0_prepareStep_42 : decode cX0_prepareStep 42 = .ok (.invokestatic 86, 3) := by decide +kernel
theorem dX0_prepareStep_45 : decode cX0_prepareStep 45 = .ok (.aload_n 0, 1) := by decide +kernel
theorem dX0_prepareStep_46 : decode cX0_prepareStep 46 = .ok (.aload_n 0, 1) := by decide +kernel
theorem dX0_prepareStep_47 : decode cX0_prepareStep 47 = .ok (.getfield 22, 3) := by decide +kernel
theorem dX0_prepareStep_50 : decode cX0_prepareStep 50 = .ok (.invokestatic 89, 3) := by decide +kernel
theorem dX0_prepareStep_53 : decode cX0_prepareStep 53 = .ok (.putfield 35, 3) := by decide +kernel
theorem dX0_prepareStep_56 : decode cX0_prepareStep 56 = .ok (.aload_n 0, 1) := by decide +kernel
theorem dX0_prepareStep_57 : decode cX0_prepareStep 57 = .ok (.getfield 22, 3) := by decide +kernel
theorem dX0_prepareStep_60 : decode cX0_prepareStep 60 = .ok (.aload_n 0, 1) := by decide +kernel
theorem dX0_prepareStep_61 : decode cX0_prepareStep 61 = .ok (.getfield 35, 3) := by decide +kernel
theorem dX0_prepareStep_64 : decode cX0_prepareStep 64 = .ok (.bipush 21, 2) := by decide +kernel
theorem dX0_prepareStep_66 : decode cX0_prepareStep 66 = .ok (.invokestatic 93, 3) := by decide +kernel
theorem dX0_prepareStep_69 : decode cX0_prepareStep 69 = .ok (.aload_n 0, 1) := by decide +kernel
theorem dX0_prepareStep_70 : decode cX0_prepareStep 70 = .ok (.aload_n 0, 1) := by decide +kernel
theorem dX0_prepareStep_71 : decode cX0_prepareStep 71 = .ok (.getfield 22, 3) := by decide +kernel
theorem dX0_prepareStep_74 : decode cX0_prepareStep 74 = .ok (.iconst 0, 1) := by decide +kernel
theorem dX0_prepareStep_75 : decode cX0_prepareStep 75 = .ok (.laload, 1) := by decide +kernel
theorem dX0_prepareStep_76 : decode cX0_prepareStep 76 = .ok (.invokestatic 97, 3) := by decide +kernel
theorem dX0_prepareStep_79 : decode cX0_prepareStep 79 = .ok (.putfield 38, 3) := by decide +kernel
theorem dX0_prepareStep_82 : decode cX0_prepareStep 82 = .ok (.aload_n 0, 1) := by decide +kernel
theorem dX0_prepareStep_83 : decode cX0_prepareStep 83 = .ok (.aload_n 0, 1) := by decide +kernel
theorem dX0_prepareStep_84 : decode cX0_prepareStep 84 = .ok (.iload_n 1, 1) := by decide +kernel
theorem dX0_prepareStep_85 : decode cX0_prepareStep 85 = .ok (.iconst 2, 1) := by decide +kernel
theorem dX0_prepareStep_86 : decode cX0_prepareStep 86 = .ok (.iadd, 1) := by decide +kernel
theorem dX0_prepareStep_87 : decode cX0_prepareStep 87 = .ok (.aload_n 0, 1) := by decide +kernel
theorem dX0_prepareStep_88 : decode cX0_prepareStep 88 = .ok (.getfield 28, 3) := by decide +kernel
theorem dX0_prepareStep_91 : decode cX0_prepareStep 91 = .ok (.invokestatic 101, 3) := by decide +kernel
theorem dX0_prepareStep_94 : decode cX0_prepareStep 94 = .ok (.invokevirtual 71, 3) := by decide +kernel
theorem dX0_prepareStep_97 : decode cX0_prepareStep 97 = .ok (.putfield 42, 3) := by decide +kernel
theorem dX0_prepareStep_100 : decode cX0_prepareStep 100 = .ok (.aload_n 0, 1) := by decide +kernel
theorem dX0_prepareStep_101 : decode cX0_prepareStep 101 = .ok (.aload_n 0, 1) := by decide +kernel
theorem dX0_prepareStep_102 : decode cX0_prepareStep 102 = .ok (.getfield 42, 3) := by decide +kernel
theorem dX0_prepareStep_105 : decode cX0_prepareStep 105 = .ok (.aload_n 0, 1) := by decide +kernel
theorem dX0_prepareStep_106 : decode cX0_prepareStep 106 = .ok (.getfield 35, 3) := by decide +kernel
theorem dX0_prepareStep_109 : decode cX0_prepareStep 109 = .ok (.bipush 32, 2) := by decide +kernel
theorem dX0_prepareStep_111 : decode cX0_prepareStep 111 = .ok (.idiv, 1) := by decide +kernel
theorem dX0_prepareStep_112 : decode cX0_prepareStep 112 = .ok (.iadd, 1) := by decide +kernel
theorem dX0_prepareStep_113 : decode cX0_prepareStep 113 = .ok (.iconst 1, 1) := by decide +kernel
theorem dX0_prepareStep_114 : decode cX0_prepareStep 114 = .ok (.iadd, 1) := by decide +kernel
theorem dX0_prepareStep_115 : decode cX0_prepareStep 115 = .ok (.bipush 21, 2) := by decide +kernel
theorem dX0_prepareStep_117 : decode cX0_prepareStep 117 = .ok (.invokestatic 101, 3) := by decide +kernel
theorem dX0_prepareStep_120 : decode cX0_prepareStep 120 = .ok (.putfield 45, 3) := by decide +kernel
theorem dX0_prepareStep_123 : decode cX0_prepareStep 123 = .ok (.return_, 1) := by decide +kernel
set_option maxRecDepth 20000 in
theorem ggX0_clearColumn_X0_cell : GoodIn wsX0_clearColumn wsX0_cell := goodIn_r _ [6, 7, 56, 57, 58, 59, 60, 61, 62, 63, 64, 65] (by decide +kernel) (by decide +kernel)
set_option maxRecDepth 20000 in
theorem gX0_clearColumn_X0_cell : GoodIn wsX0_clearColumn (wsV RX0 67 RX0 yX0_cell wsX0_cell) := goodIn_app (goodIn_of _ (by decide +kernel)) ggX0_clearColumn_X0_cell
set_option maxRecDepth 20000 in
theorem ggX0_clearColumn_X0_replace : GoodIn wsX0_clearColumn wsX0_replace := goodIn_r _ [11, 12, 13, 14, 15, 16, 17, 18, 19, 20, 21, 22, 23, 24, 25, 26, 27, 28, 29, 30, 31, 32, 33, 34, 35, 36, 37, 38, 39, 40, 41, 42, 43, 44, 45, 46, 47, 48, 49, 50, 51, 52, 53, 54, 55, 56, 57, 58, 59, 60, 61, 62, 63, 64, 65] (by decide +kernel) (by decide +kernel)
set_option maxRecDepth 20000 in
theorem gX0_clearColumn_X0_replace : GoodIn wsX0_clearColumn (wsV RX0 107 RX0 yX0_replace wsX0_replace) := goodIn_app (goodIn_of _ (by decide +kernel)) ggX0_clearColumn_X0_replace
theorem dX0_clearColumn_0 : decode cX0_clearColumn 0 = .ok (.iconst 0, 1) := by decide +kernel
theorem dX0_clearColumn_1 : decode cX0_clearColumn 1 = .ok (.istore_n 2, 1) := by decide +kernel
theorem dX0_clearColumn_2 : decode cX0_clearColumn 2 = .ok (.iload_n 2, 1) := by decide +kernel
theorem dX0_clearColumn_3 : decode cX0_clearColumn 3 = .ok (.aload_n 0, 1) := by decide +kernel
theorem dX0_clearColumn_4 : decode cX0_clearColumn 4 = .ok (.getfield 28, 3) := by decide +kernel
theorem dX0_clearColumn_7 : decode cX0_clearColumn 7 = .ok (.if_icmp .ge 54, 3) := by decide +kernel
theorem dX0_clearColumn_10 : decode cX0_clearColumn 10 = .ok (.iload_n 1, 1) := by decide +kernel
theorem dX0_clearColumn_11 : decode cX0_clearColumn 11 = .ok (.iconst 1, 1) := by decide +kernel
theorem dX0_clearColumn_12 : decode cX0_clearColumn 12 = .ok (.iadd, 1) := by decide +kernel
theorem dX0_clearColumn_13 : decode cX0_clearColumn 13 = .ok (.istore_n 3, 1) := by decide +kernel
theorem dX0_clearColumn_14 : decode cX0_clearColumn 14 = .ok (.iload_n 2, 1) := by decide +kernel
theorem dX0_clearColumn_15 : decode cX0_clearColumn 15 = .ok (.iload_n 1, 1) := by decide +kernel
theorem dX0_clearColumn_16 : decode cX0_clearColumn 16 = .ok (.if_icmp .eq 39, 3) := by decide +kernel
theorem dX0_clearColumn_19 : decode cX0_clearColumn 19 = .ok (.iload_n 3, 1) := by decide +kernel
theorem dX0_clearColumn_20 : decode cX0_clearColumn 20 = .ok (.aload_n 0, 1) := by decide +kernel
theorem dX0_clearColumn_21 : decode cX0_clearColumn 21 = .ok (.getfield 28, 3) := by decide +kernel
theorem dX0_clearColumn_24 : decode cX0_clearColumn 24 = .ok (.if_icmp .gt 31, 3) := by decide +kernel
theorem dX0_clearColumn_27 : decode cX0_clearColumn 27 = .ok (.aload_n 0, 1) := by decide +kernel
theorem dX0_clearColumn_28 : decode cX0_clearColumn 28 = .ok (.aload_n 0, 1) := by decide +kernel
theorem dX0_clearColumn_29 : decode cX0_clearColumn 29 = .ok (.iload_n 2, 1) := by decide +kernel
theorem dX0_clearColumn_30 : decode cX0_clearColumn 30 = .ok (.iload_n 3, 1) := by decide +kernel
theorem dX0_clearColumn_31 : decode cX0_clearColumn 31 = .ok (.invokevirtual 67, 3) := by decide +kernel
theorem dX0_clearColumn_34 : decode cX0_clearColumn 34 = .ok (.aload_n 0, 1) := by decide +kernel
theorem dX0_clearColumn_35 : decode cX0_clearColumn 35 = .ok (.iload_n 2, 1) := by decide +kernel
theorem dX0_clearColumn_36 : decode cX0_clearColumn 36 = .ok (.iload_n 1, 1) := by decide +kernel
theorem dX0_clearColumn_37 : decode cX0_clearColumn 37 = .ok (.invokevirtual 67, 3) := by decide +kernel
theorem dX0_clearColumn_40 : decode cX0_clearColumn 40 = .ok (.aload_n 0, 1) := by decide +kernel
theorem dX0_clearColumn_41 : decode cX0_clearColumn 41 = .ok (.iload_n 1, 1) := by decide +kernel
theorem dX0_clearColumn_42 : decode cX0_clearColumn 42 = .ok (.iload_n 3, 1) := by decide +kernel
theorem dX0_clearColumn_43 : decode cX0_clearColumn 43 = .ok (.invokevirtual 67, 3) := by decide +kernel
theorem dX0_clearColumn_46 : decode cX0_clearColumn 46 = .ok (.invokevirtual 107, 3) := by decide +kernel
theorem dX0_clearColumn_49 : decode cX0_clearColumn 49 = .ok (.iinc 3 1, 3) := by decide +kernel
theorem dX0_clearColumn_52 : decode cX0_clearColumn 52 = .ok (.goto (-38), 3) := by decide +kernel
theorem dX0_clearColumn_55 : decode cX0_clearColumn 55 = .ok (.iinc 2 1, 3) := by decide +kernel
theorem dX0_clearColumn_58 : decode cX0_clearColumn 58 = .ok (.goto (-56), 3) := by decide +kernel
theorem dX0_clearColumn_61 : decode cX0_clearColumn 61 = .ok (.return_, 1) := by decide +kernel
set_option maxRecDepth 20000 in
theorem ggX0_replace_J7_fill_d0a16 : GoodIn wsX0_replace wsJ7_fill_d0a16 := goodIn_r _ [11] (by decide +kernel) (by decide +kernel)
set_option maxRecDepth 20000 in
theorem gX0_replace_J7_fill_d0a16 : GoodIn wsX0_replace (va_wsS RX0 111 yJ7_fill_d0a16 wsJ7_fill_d0a16) := goodIn_app (goodIn_of _ (by decide +kernel)) ggX0_replace_J7_fill_d0a16
set_option maxRecDepth 20000 in
theorem ggX0_replace_X1_subtractProduct : GoodIn wsX0_replace wsX1_subtractProduct := goodIn_r _ [15, 16, 17, 14, 18, 19] (by decide +kernel) (by decide +kernel)
set_option maxRecDepth 20000 in
theorem gX0_replace_X1_subtractProduct : GoodIn wsX0_replace (va_wsS RX0 117 yX1_subtractProduct wsX1_subtractProduct) := goodIn_app (goodIn_of _ (by decide +kernel)) ggX0_replace_X1_subtractProduct
set_option maxRecDepth 20000 in
theorem ggX0_replace_X1_shiftRight : GoodIn wsX0_replace wsX1_shiftRight := goodIn_r _ [22, 19, 23, 24, 14, 25] (by decide +kernel) (by decide +kernel)
set_option maxRecDepth 20000 in
theorem gX0_replace_X1_shiftRight : GoodIn wsX0_replace (va_wsS RX0 93 yX1_shiftRight wsX1_shiftRight) := goodIn_app (goodIn_of _ (by decide +kernel)) ggX0_replace_X1_shiftRight
set_option maxRecDepth 20000 in
theorem ggX0_replace_X1_divideEvenly : GoodIn wsX0_replace wsX1_divideEvenly := goodIn_r _ [28, 19, 16, 17, 14, 18] (by decide +kernel) (by decide +kernel)
set_option maxRecDepth 20000 in
theorem gX0_replace_X1_divideEvenly : GoodIn wsX0_replace (va_wsS RX0 121 yX1_divideEvenly wsX1_divideEvenly) := goodIn_app (goodIn_of _ (by decide +kernel)) ggX0_replace_X1_divideEvenly
set_option maxRecDepth 20000 in
theorem ggX0_replace_X1_copyWidened : GoodIn wsX0_replace wsX1_copyWidened := goodIn_r _ [31, 32, 33, 34, 35, 19, 36, 37, 14, 38, 39, 40, 10, 41, 42, 43, 44] (by decide +kernel) (by decide +kernel)
set_option maxRecDepth 20000 in
theorem gX0_replace_X1_copyWidened : GoodIn wsX0_replace (va_wsS RX0 125 yX1_copyWidened wsX1_copyWidened) := goodIn_app (goodIn_of _ (by decide +kernel)) ggX0_replace_X1_copyWidened
theorem dX0_replace_0 : decode cX0_replace 0 = .ok (.aload_n 0, 1) := by decide +kernel
theorem dX0_replace_1 : decode cX0_replace 1 = .ok (.getfield 25, 3) := by decide +kernel
theorem dX0_replace_4 : decode cX0_replace 4 = .ok (.lconst 0, 1) := by decide +kernel
theorem dX0_replace_5 : decode cX0_replace 5 = .ok (.invokestatic 111, 3) := by decide +kernel
theorem dX0_replace_8 : decode cX0_replace 8 = .ok (.aload_n 0, 1) := by decide +kernel
theorem dX0_replace_9 : decode cX0_replace 9 = .ok (.getfield 25, 3) := by decide +kernel
theorem dX0_replace_12 : decode cX0_replace 12 = .ok (.aload_n 0, 1) := by decide +kernel
theorem dX0_replace_13 : decode cX0_replace 13 = .ok (.getfield 18, 3) := by decide +kernel
theorem dX0_replace_16 : decode cX0_replace 16 = .ok (.aload_n 1, 1) := by decide +kernel
theorem dX0_replace_17 : decode cX0_replace 17 = .ok (.aload_n 0, 1) := by decide +kernel
theorem dX0_replace_18 : decode cX0_replace 18 = .ok (.getfield 45, 3) := by decide +kernel
theorem dX0_replace_21 : decode cX0_replace 21 = .ok (.invokestatic 117, 3) := by decide +kernel
theorem dX0_replace_24 : decode cX0_replace 24 = .ok (.aload_n 0, 1) := by decide +kernel
theorem dX0_replace_25 : decode cX0_replace 25 = .ok (.getfield 25, 3) := by decide +kernel
theorem dX0_replace_28 : decode cX0_replace 28 = .ok (.aload_n 2, 1) := by decide +kernel
theorem dX0_replace_29 : decode cX0_replace 29 = .ok (.aload_n 3, 1) := by decide +kernel
theorem dX0_replace_30 : decode cX0_replace 30 = .ok (.aload_n 0, 1) := by decide +kernel
theorem dX0_replace_31 : decode cX0_replace 31 = .ok (.getfield 45, 3) := by decide +kernel
theorem dX0_replace_34 : decode cX0_replace 34 = .ok (.invokestatic 117, 3) := by decide +kernel
theorem dX0_replace_37 : decode cX0_replace 37 = .ok (.aload_n 0, 1) := by decide +kernel
theorem dX0_replace_38 : decode cX0_replace 38 = .ok (.getfield 25, 3) := by decide +kernel
theorem dX0_replace_41 : decode cX0_replace 41 = .ok (.aload_n 0, 1) := by decide +kernel
theorem dX0_replace_42 : decode cX0_replace 42 = .ok (.getfield 35, 3) := by decide +kernel
theorem dX0_replace_45 : decode cX0_replace 45 = .ok (.aload_n 0, 1) := by decide +kernel
theorem dX0_replace_46 : decode cX0_replace 46 = .ok (.getfield 45, 3) := by decide +kernel
theorem dX0_replace_49 : decode cX0_replace 49 = .ok (.invokestatic 93, 3) := by decide +kernel
theorem dX0_replace_52 : decode cX0_replace 52 = .ok (.aload_n 0, 1) := by decide +kernel
theorem dX0_replace_53 : decode cX0_replace 53 = .ok (.getfield 25, 3) := by decide +kernel
theorem dX0_replace_56 : decode cX0_replace 56 = .ok (.aload_n 0, 1) := by decide +kernel
theorem dX0_replace_57 : decode cX0_replace 57 = .ok (.getfield 22, 3) := by decide +kernel
theorem dX0_replace_60 : decode cX0_replace 60 = .ok (.aload_n 0, 1) := by decide +kernel
theorem dX0_replace_61 : decode cX0_replace 61 = .ok (.getfield 38, 3) := by decide +kernel
theorem dX0_replace_64 : decode cX0_replace 64 = .ok (.aload_n 0, 1) := by decide +kernel
theorem dX0_replace_65 : decode cX0_replace 65 = .ok (.getfield 42, 3) := by decide +kernel
theorem dX0_replace_68 : decode cX0_replace 68 = .ok (.invokestatic 121, 3) := by decide +kernel
theorem dX0_replace_71 : decode cX0_replace 71 = .ok (.aload_n 0, 1) := by decide +kernel
theorem dX0_replace_72 : decode cX0_replace 72 = .ok (.getfield 25, 3) := by decide +kernel
theorem dX0_replace_75 : decode cX0_replace 75 = .ok (.aload_n 0, 1) := by decide +kernel
theorem dX0_replace_76 : decode cX0_replace 76 = .ok (.getfield 42, 3) := by decide +kernel
theorem dX0_replace_79 : decode cX0_replace 79 = .ok (.aload_n 1, 1) := by decide +kernel
theorem dX0_replace_80 : decode cX0_replace 80 = .ok (.invokestatic 125, 3) := by decide +kernel
theorem dX0_replace_83 : decode cX0_replace 83 = .ok (.return_, 1) := by decide +kernel
end
section
set_option maxRecDepth 20000 in
theorem ggX1_setTo_J7_fill_d0a16 : GoodIn wsX1_setTo wsJ7_fill_d0a16 := goodIn_r _ [5] (by decide +kernel) (by decide +kernel)
set_option maxRecDepth 20000 in
theorem gX1_setTo_J7_fill_d0a16 : GoodIn wsX1_setTo (va_wsS RX1 11 yJ7_fill_d0a16 wsJ7_fill_d0a16) := goodIn_app (goodIn_of _ (by decide +kernel)) ggX1_setTo_J7_fill_d0a16
theorem dX1_setTo_0 : decode cX1_setTo 0 = .ok (.aload_n 0, 1) := by decide +kernel
theorem dX1_setTo_1 : decode cX1_setTo 1 = .ok (.iload_n 1, 1) := by decide +kernel
theorem dX1_setTo_2 : decode cX1_setTo 2 = .ok (.ifCond .ge 9, 3) := by decide +kernel
theorem dX1_setTo_5 : decode cX1_setTo 5 = .ok (.ldc2_w 9, 3) := by decide +kernel
theorem dX1_setTo_8 : decode cX1_setTo 8 = .ok (.goto 4, 3) := by decide +kernel
theorem dX1_setTo_11 : decode cX1_setTo 11 = .ok (.lconst 0, 1) := by decide +kernel
theorem dX1_setTo_12 : decode cX1_setTo 12 = .ok (.invokestatic 11, 3) := by decide +kernel
theorem dX1_setTo_15 : decode cX1_setTo 15 = .ok (.aload_n 0, 1) := by decide +kernel
theorem dX1_setTo_16 : decode cX1_setTo 16 = .ok (.iconst 0, 1) := by decide +kernel
theorem dX1_setTo_17 : decode cX1_setTo 17 = .ok (.iload_n 1, 1) := by decide +kernel
theorem dX1_setTo_18 : decode cX1_setTo 18 = .ok (.i2l, 1) := by decide +kernel
theorem dX1_setTo_19 : decode cX1_setTo 19 = .ok (.ldc2_w 9, 3) := by decide +kernel
theorem dX1_setTo_22 : decode cX1_setTo 22 = .ok (.land, 1) := by decide +kernel
theorem dX1_setTo_23 : decode cX1_setTo 23 = .ok (.lastore, 1) := by decide +kernel
theorem dX1_setTo_24 : decode cX1_setTo 24 = .ok (.return_, 1) := by decide +kernel
theorem dX1_isZero_0 : decode cX1_isZero 0 = .ok (.iconst 0, 1) := by decide +kernel
theorem dX1_isZero_1 : decode cX1_isZero 1 = .ok (.istore_n 1, 1) := by decide +kernel
theorem dX1_isZero_2 : decode cX1_isZero 2 = .ok (.iload_n 1, 1) := by decide +kernel
theorem dX1_isZero_3 : decode cX1_isZero 3 = .ok (.bipush 21, 2) := by decide +kernel
theorem dX1_isZero_5 : decode cX1_isZero 5 = .ok (.if_icmp .ge 19, 3) := by decide +kernel
theorem dX1_isZero_8 : decode cX1_isZero 8 = .ok (.aload_n 0, 1) := by decide +kernel
theorem dX1_isZero_9 : decode cX1_isZero 9 = .ok (.iload_n 1, 1) := by decide +kernel
theorem dX1_isZero_10 : decode cX1_isZero 10 = .ok (.laload, 1) := by decide +kernel
theorem dX1_isZero_11 : decode cX1_isZero 11 = .ok (.lconst 0, 1) := by decide +kernel
theorem dX1_isZero_12 : decode cX1_isZero 12 = .ok (.lcmp, 1) := by decide +kernel
theorem dX1_isZero_13 : decode cX1_isZero 13 = .ok (.ifCond .eq 5, 3) := by decide +kernel
theorem dX1_isZero_16 : decode cX1_isZero 16 = .ok (.iconst 0, 1) := by decide +kernel
theorem dX1_isZero_17 : decode cX1_isZero 17 = .ok (.ireturn, 1) := by decide +kernel
theorem dX1_isZero_18 : decode cX1_isZero 18 = .ok (.iinc 1 1, 3) := by decide +kernel
theorem dX1_isZero_21 : decode cX1_isZero 21 = .ok (.goto (-19), 3) := by decide +kernel
theorem dX1_isZero_24 : decode cX1_isZero 24 = .ok (.iconst 1, 1) := by decide +kernel
theorem dX1_isZero_25 : decode cX1_isZero 25 = .ok (.ireturn, 1) := by decide +kernel
set_option maxRecDepth 20000 in
theorem ggX1_isNegative_X1_isNegativeAt : GoodIn wsX1_isNegative wsX1_isNegativeAt := goodIn_r _ [4] (by decide +kernel) (by decide +kernel)
set_option maxRecDepth 20000 in
theorem gX1_isNegative_X1_isNegativeAt : GoodIn wsX1_isNegative (va_wsS RX1 17 yX1_isNegativeAt wsX1_isNegativeAt) := goodIn_app (goodIn_of _ (by decide +kernel)) ggX1_isNegative_X1_isNegativeAt
theorem dX1_isNegative_0 : decode cX1_isNegative 0 = .ok (.aload_n 0, 1) := by decide +kernel
theorem dX1_isNegative_1 : decode cX1_isNegative 1 = .ok (.bipush 21, 2) := by decide +kernel
theorem dX1_isNegative_3 : decode cX1_isNegative 3 = .ok (.invokestatic 17, 3) := by decide +kernel
theorem dX1_isNegative_6 : decode cX1_isNegative 6 = .ok (.ireturn, 1) := by decide +kernel
theorem dX1_isNegativeAt_0 : decode cX1_isNegativeAt 0 = .ok (.aload_n 0, 1) := by decide +kernel
theorem dX1_isNegativeAt_1 : decode cX1_isNegativeAt 1 = .ok (.iload_n 1, 1) := by decide +kernel
theorem dX1_isNegativeAt_2 : decode cX1_isNegativeAt 2 = .ok (.iconst 1, 1) := by decide +kernel
theorem dX1_isNegativeAt_3 : decode cX1_isNegativeAt 3 = .ok (.isub, 1) := by decide +kernel
theorem dX1_isNegativeAt_4 : decode cX1_isNegativeAt 4 = .ok (.laload, 1) := by decide +kernel
theorem dX1_isNegativeAt_5 : decode cX1_isNegativeAt 5 = .ok (.bipush 31, 2) := by decide +kernel
theorem dX1_isNegativeAt_7 : decode cX1_isNegativeAt 7 = .ok (.lushr, 1) := by decide +kernel
theorem dX1_isNegativeAt_8 : decode cX1_isNegativeAt 8 = .ok (.lconst 0, 1) := by decide +kernel
theorem dX1_isNegativeAt_9 : decode cX1_isNegativeAt 9 = .ok (.lcmp, 1) := by decide +kernel
theorem dX1_isNegativeAt_10 : decode cX1_isNegativeAt 10 = .ok (.ifCond .eq 7, 3) := by decide +kernel
theorem dX1_isNegativeAt_13 : decode cX1_isNegativeAt 13 = .ok (.iconst 1, 1) := by decide +kernel
theorem dX1_isNegativeAt_14 : decode cX1_isNegativeAt 14 = .ok (.goto 4, 3) := by decide +kernel
theorem dX1_isNegativeAt_17 : decode cX1_isNegativeAt 17 = .ok (.iconst 0, 1) := by decide +kernel
theorem dX1_isNegativeAt_18 : decode cX1_isNegativeAt 18 = .ok (.ireturn, 1) := by decide +kernel
theorem dX1_copy_0 : decode cX1_copy 0 = .ok (.aload_n 0, 1) := by decide +kernel
theorem dX1_copy_1 : decode cX1_copy 1 = .ok (.iconst 0, 1) := by decide +kernel
theorem dX1_copy_2 : decode cX1_copy 2 = .ok (.aload_n 1, 1) := by decide +kernel
theorem dX1_copy_3 : decode cX1_copy 3 = .ok (.iconst 0, 1) := by decide +kernel
theorem dX1_copy_4 : decode cX1_copy 4 = .ok (.bipush 21, 2) := by decide +kernel
theorem dX1_copy_6 : decode cX1_copy 6 = .ok (.invokestatic 21, 3) := by decide +kernel
theorem dX1_copy_9 : decode cX1_copy 9 = .ok (.return_, 1) := by decide +kernel
set_option maxRecDepth 20000 in
theorem ggX1_copyWidened_X1_isNegativeAt : GoodIn wsX1_copyWidened wsX1_isNegativeAt := goodIn_r _ [9] (by decide +kernel) (by decide +kernel)
set_option maxRecDepth 20000 in
theorem gX1_copyWidened_X1_isNegativeAt : GoodIn wsX1_copyWidened (va_wsS RX1 17 yX1_isNegativeAt wsX1_isNegativeAt) := goodIn_app (goodIn_of _ (by decide +kernel)) ggX1_copyWidened_X1_isNegativeAt
set_option maxRecDepth 20000 in
theorem ggX1_copyWidened_J7_fill_bad5a : GoodIn wsX1_copyWidened wsJ7_fill_bad5a := goodIn_r _ [13, 14, 15, 12, 16] (by decide +kernel) (by decide +kernel)
set_option maxRecDepth 20000 in
theorem gX1_copyWidened_J7_fill_bad5a : GoodIn wsX1_copyWidened (va_wsS RX1 27 yJ7_fill_bad5a wsJ7_fill_bad5a) := goodIn_app (goodIn_of _ (by decide +kernel)) ggX1_copyWidened_J7_fill_bad5a
theorem dX1_copyWidened_0 : decode cX1_copyWidened 0 = .ok (.aload_n 0, 1) := by decide +kernel
theorem dX1_copyWidened_1 : decode cX1_copyWidened 1 = .ok (.iconst 0, 1) := by decide +kernel
theorem dX1_copyWidened_2 : decode cX1_copyWidened 2 = .ok (.aload_n 2, 1) := by decide +kernel
theorem dX1_copyWidened_3 : decode cX1_copyWidened 3 = .ok (.iconst 0, 1) := by decide +kernel
theorem dX1_copyWidened_4 : decode cX1_copyWidened 4 = .ok (.iload_n 1, 1) := by decide +kernel
theorem dX1_copyWidened_5 : decode cX1_copyWidened 5 = .ok (.invokestatic 21, 3) := by decide +kernel
theorem dX1_copyWidened_8 : decode cX1_copyWidened 8 = .ok (.aload_n 2, 1) := by decide +kernel
theorem dX1_copyWidened_9 : decode cX1_copyWidened 9 = .ok (.iload_n 1, 1) := by decide +kernel
theorem dX1_copyWidened_10 : decode cX1_copyWidened 10 = .ok (.bipush 21, 2) := by decide +kernel
theorem dX1_copyWidened_12 : decode cX1_copyWidened 12 = .ok (.aload_n 0, 1) := by decide +kernel
theorem dX1_copyWidened_13 : decode cX1_copyWidened 13 = .ok (.iload_n 1, 1) := by decide +kernel
theorem dX1_copyWidened_14 : decode cX1_copyWidened 14 = .ok (.invokestatic 17, 3) := by decide +kernel
theorem dX1_copyWidened_17 : decode cX1_copyWidened 17 = .ok (.ifCond .eq 9, 3) := by decide +kernel
theorem dX1_copyWidened_20 : decode cX1_copyWidened 20 = .ok (.ldc2_w 9, 3) := by decide +kernel
theorem dX1_copyWidened_23 : decode cX1_copyWidened 23 = .ok (.goto 4, 3) := by decide +kernel
theorem dX1_copyWidened_26 : decode cX1_copyWidened 26 = .ok (.lconst 0, 1) := by decide +kernel
theorem dX1_copyWidened_27 : decode cX1_copyWidened 27 = .ok (.invokestatic 27, 3) := by decide +kernel
theorem dX1_copyWidened_30 : decode cX1_copyWidened 30 = .ok (.return_, 1) := by decide +kernel
set_option maxRecDepth 20000 in
theorem ggX1_copyNegated_J7_fill_d0a16 : GoodIn wsX1_copyNegated wsJ7_fill_d0a16 := goodIn_r _ [4] (by decide +kernel) (by decide +kernel)
set_option maxRecDepth 20000 in
theorem gX1_copyNegated_J7_fill_d0a16 : GoodIn wsX1_copyNegated (va_wsS RX1 11 yJ7_fill_d0a16 wsJ7_fill_d0a16) := goodIn_app (goodIn_of _ (by decide +kernel)) ggX1_copyNegated_J7_fill_d0a16
set_option maxRecDepth 20000 in
theorem ggX1_copyNegated_X1_subtractScaled : GoodIn wsX1_copyNegated wsX1_subtractScaled := goodIn_r _ [8, 9] (by decide +kernel) (by decide +kernel)
set_option maxRecDepth 20000 in
theorem gX1_copyNegated_X1_subtractScaled : GoodIn wsX1_copyNegated (va_wsS RX1 30 yX1_subtractScaled wsX1_subtractScaled) := goodIn_app (goodIn_of _ (by decide +kernel)) ggX1_copyNegated_X1_subtractScaled
theorem dX1_copyNegated_0 : decode cX1_copyNegated 0 = .ok (.aload_n 1, 1) := by decide +kernel
theorem dX1_copyNegated_1 : decode cX1_copyNegated 1 = .ok (.lconst 0, 1) := by decide +kernel
theorem dX1_copyNegated_2 : decode cX1_copyNegated 2 = .ok (.invokestatic 11, 3) := by decide +kernel
theorem dX1_copyNegated_5 : decode cX1_copyNegated 5 = .ok (.aload_n 1, 1) := by decide +kernel
theorem dX1_copyNegated_6 : decode cX1_copyNegated 6 = .ok (.iconst 0, 1) := by decide +kernel
theorem dX1_copyNegated_7 : decode cX1_copyNegated 7 = .ok (.lconst 1, 1) := by decide +kernel
theorem dX1_copyNegated_8 : decode cX1_copyNegated 8 = .ok (.aload_n 0, 1) := by decide +kernel
theorem dX1_copyNegated_9 : decode cX1_copyNegated 9 = .ok (.bipush 21, 2) := by decide +kernel
theorem dX1_copyNegated_11 : decode cX1_copyNegated 11 = .ok (.invokestatic 30, 3) := by decide +kernel
theorem dX1_copyNegated_14 : decode cX1_copyNegated 14 = .ok (.return_, 1) := by decide +kernel
set_option maxRecDepth 20000 in
theorem ggX1_copyMagnitude_X1_isNegative : GoodIn wsX1_copyMagnitude wsX1_isNegative := goodIn_r _ [4, 5, 6, 3, 7] (by decide +kernel) (by decide +kernel)
set_option maxRecDepth 20000 in
theorem gX1_copyMagnitude_X1_isNegative : GoodIn wsX1_copyMagnitude (va_wsS RX1 34 yX1_isNegative wsX1_isNegative) := goodIn_app (goodIn_of _ (by decide +kernel)) ggX1_copyMagnitude_X1_isNegative
set_option maxRecDepth 20000 in
theorem ggX1_copyMagnitude_X1_copyNegated : GoodIn wsX1_copyMagnitude wsX1_copyNegated := goodIn_r _ [10, 11, 12, 13, 14, 15, 16, 3, 17, 18] (by decide +kernel) (by decide +kernel)
set_option maxRecDepth 20000 in
theorem gX1_copyMagnitude_X1_copyNegated : GoodIn wsX1_copyMagnitude (va_wsS RX1 38 yX1_copyNegated wsX1_copyNegated) := goodIn_app (goodIn_of _ (by decide +kernel)) ggX1_copyMagnitude_X1_copyNegated
set_option maxRecDepth 20000 in
theorem ggX1_copyMagnitude_X1_copy : GoodIn wsX1_copyMagnitude wsX1_copy := goodIn_r _ [21, 22, 23, 24, 25] (by decide +kernel) (by decide +kernel)
set_option maxRecDepth 20000 in
theorem gX1_copyMagnitude_X1_copy : GoodIn wsX1_copyMagnitude (va_wsS RX1 42 yX1_copy wsX1_copy) := goodIn_app (goodIn_of _ (by decide +kernel)) ggX1_copyMagnitude_X1_copy
theorem dX1_copyMagnitude_0 : decode cX1_copyMagnitude 0 = .ok (.aload_n 0, 1) := by decide +kernel
theorem dX1_copyMagnitude_1 : decode cX1_copyMagnitude 1 = .ok (.invokestatic 34, 3) := by decide +kernel
theorem dX1_copyMagnitude_4 : decode cX1_copyMagnitude 4 = .ok (.ifCond .eq 11, 3) := by decide +kernel
theorem dX1_copyMagnitude_7 : decode cX1_copyMagnitude 7 = .ok (.aload_n 0, 1) := by decide +kernel
theorem dX1_copyMagnitude_8 : decode cX1_copyMagnitude 8 = .ok (.aload_n 1, 1) := by decide +kernel
theorem dX1_copyMagnitude_9 : decode cX1_copyMagnitude 9 = .ok (.invokestatic 38, 3) := by decide +kernel
theorem dX1_copyMagnitude_12 : decode cX1_copyMagnitude 12 = .ok (.goto 8, 3) := by decide +kernel
theorem dX1_copyMagnitude_15 : decode cX1_copyMagnitude 15 = .ok (.aload_n 0, 1) := by decide +kernel
theorem dX1_copyMagnitude_16 : decode cX1_copyMagnitude 16 = .ok (.aload_n 1, 1) := by decide +kernel
theorem dX1_copyMagnitude_17 : decode cX1_copyMagnitude 17 = .ok (.invokestatic 42, 3) := by decide +kernel
theorem dX1_copyMagnitude_20 : decode cX1_copyMagnitude 20 = .ok (.return_, 1) := by decide +kernel
theorem dX1_compare_0 : decode cX1_compare 0 = .ok (.iload_n 2, 1) := by decide +kernel
theorem dX1_compare_1 : decode cX1_compare 1 = .ok (.iconst 1, 1) := by decide +kernel
theorem dX1_compare_2 : decode cX1_compare 2 = .ok (.isub, 1) := by decide +kernel
theorem dX1_compare_3 : decode cX1_compare 3 = .ok (.istore_n 3, 1) := by decide +kernel
theorem dX1_compare_4 : decode cX1_compare 4 = .ok (.iload_n 3, 1) := by decide +kernel
theorem dX1_compare_5 : decode cX1_compare 5 = .ok (.ifCond .lt 35, 3) := by decide +kernel
theorem dX1_compare_8 : decode cX1_compare 8 = .ok (.aload_n 0, 1) := by decide +kernel
theorem dX1_compare_9 : decode cX1_compare 9 = .ok (.iload_n 3, 1) := by decide +kernel
theorem dX1_compare_10 : decode cX1_compare 10 = .ok (.laload, 1) := by decide +kernel
theorem dX1_compare_11 : decode cX1_compare 11 = .ok (.aload_n 1, 1) := by decide +kernel
theorem dX1_compare_12 : decode cX1_compare 12 = .ok (.iload_n 3, 1) := by decide +kernel
theorem dX1_compare_13 : decode cX1_compare 13 = .ok (.laload, 1) := by decide +kernel
theorem dX1_compare_14 : decode cX1_compare 14 = .ok (.lcmp, 1) := by decide +kernel
theorem dX1_compare_15 : decode cX1_compare 15 = .ok (.ifCond .eq 19, 3) := by decide +kernel
theorem dX1_compare_18 : decode cX1_compare 18 = .ok (.aload_n 0, 1) := by decide +kernel
theorem dX1_compare_19 : decode cX1_compare 19 = .ok (.iload_n 3, 1) := by decide +kernel
theorem dX1_compare_20 : decode cX1_compare 20 = .ok (.laload, 1) := by decide +kernel
theorem dX1_compare_21 : decode cX1_compare 21 = .ok (.aload_n 1, 1) := by decide +kernel
theorem dX1_compare_22 : decode cX1_compare 22 = .ok (.iload_n 3, 1) := by decide +kernel
theorem dX1_compare_23 : decode cX1_compare 23 = .ok (.laload, 1) := by decide +kernel
theorem dX1_compare_24 : decode cX1_compare 24 = .ok (.lcmp, 1) := by decide +kernel
theorem dX1_compare_25 : decode cX1_compare 25 = .ok (.ifCond .ge 7, 3) := by decide +kernel
theorem dX1_compare_28 : decode cX1_compare 28 = .ok (.iconst (-1), 1) := by decide +kernel
theorem dX1_compare_29 : decode cX1_compare 29 = .ok (.goto 4, 3) := by decide +kernel
theorem dX1_compare_32 : decode cX1_compare 32 = .ok (.iconst 1, 1) := by decide +kernel
theorem dX1_compare_33 : decode cX1_compare 33 = .ok (.ireturn, 1) := by decide +kernel
theorem dX1_compare_34 : decode cX1_compare 34 = .ok (.iinc 3 (-1), 3) := by decide +kernel
theorem dX1_compare_37 : decode cX1_compare 37 = .ok (.goto (-33), 3) := by decide +kernel
theorem dX1_compare_40 : decode cX1_compare 40 = .ok (.iconst 0, 1) := by decide +kernel
theorem dX1_compare_41 : decode cX1_compare 41 = .ok (.ireturn, 1) := by decide +kernel
theorem dX1_subtractScaled_0 : decode cX1_subtractScaled 0 = .ok (.lconst 0, 1) := by decide +kernel
theorem dX1_subtractScaled_1 : decode cX1_subtractScaled 1 = .ok (.lstore 6, 2) := by decide +kernel
theorem dX1_subtractScaled_3 : decode cX1_subtractScaled 3 = .ok (.iload_n 1, 1) := by decide +kernel
theorem dX1_subtractScaled_4 : decode cX1_subtractScaled 4 = .ok (.istore 8, 2) := by decide +kernel
theorem dX1_subtractScaled_6 : decode cX1_subtractScaled 6 = .ok (.iload 8, 2) := by decide +kernel
theorem dX1_subtractScaled_8 : decode cX1_subtractScaled 8 = .ok (.iload 5, 2) := by decide +kernel
theorem dX1_subtractScaled_10 : decode cX1_subtractScaled 10 = .ok (.if_icmp .ge 59, 3) := by decide +kernel
theorem dX1_subtractScaled_13 : decode cX1_subtractScaled 13 = .ok (.lload_n 2, 1) := by decide +kernel
theorem dX1_subtractScaled_14 : decode cX1_subtractScaled 14 = .ok (.aload 4, 2) := by decide +kernel
theorem dX1_subtractScaled_16 : decode cX1_subtractScaled 16 = .ok (.iload 8, 2) := by decide +kernel
theorem dX1_subtractScaled_18 : decode cX1_subtractScaled 18 = .ok (.iload_n 1, 1) := by decide +kernel
theorem dX1_subtractScaled_19 : decode cX1_subtractScaled 19 = .ok (.isub, 1) := by decide +kernel
theorem dX1_subtractScaled_20 : decode cX1_subtractScaled 20 = .ok (.laload, 1) := by decide +kernel
theorem dX1_subtractScaled_21 : decode cX1_subtractScaled 21 = .ok (.lmul, 1) := by decide +kernel
theorem dX1_subtractScaled_22 : decode cX1_subtractScaled 22 = .ok (.lload 6, 2) := by decide +kernel
theorem dX1_subtractScaled_24 : decode cX1_subtractScaled 24 = .ok (.ladd, 1) := by decide +kernel
theorem dX1_subtractScaled_25 : decode cX1_subtractScaled 25 = .ok (.lstore 9, 2) := by decide +kernel
theorem dX1_subtractScaled_27 : decode cX1_subtractScaled 27 = .ok (.aload_n 0, 1) := by decide +kernel
theorem dX1_subtractScaled_28 : decode cX1_subtractScaled 28 = .ok (.iload 8, 2) := by decide +kernel
theorem dX1_subtractScaled_30 : decode cX1_subtractScaled 30 = .ok (.laload, 1) := by decide +kernel
theorem dX1_subtractScaled_31 : decode cX1_subtractScaled 31 = .ok (.lload 9, 2) := by decide +kernel
theorem dX1_subtractScaled_33 : decode cX1_subtractScaled 33 = .ok (.ldc2_w 9, 3) := by decide +kernel
theorem dX1_subtractScaled_36 : decode cX1_subtractScaled 36 = .ok (.land, 1) := by decide +kernel
theorem dX1_subtractScaled_37 : decode cX1_subtractScaled 37 = .ok (.lsub, 1) := by decide +kernel
theorem dX1_subtractScaled_38 : decode cX1_subtractScaled 38 = .ok (.lstore 11, 2) := by decide +kernel
theorem dX1_subtractScaled_40 : decode cX1_subtractScaled 40 = .ok (.aload_n 0, 1) := by decide +kernel
theorem dX1_subtractScaled_41 : decode cX1_subtractScaled 41 = .ok (.iload 8, 2) := by decide +kernel
theorem dX1_subtractScaled_43 : decode cX1_subtractScaled 43 = .ok (.lload 11, 2) := by decide +kernel
theorem dX1_subtractScaled_45 : decode cX1_subtractScaled 45 = .ok (.ldc2_w 9, 3) := by decide +kernel
theorem dX1_subtractScaled_48 : decode cX1_subtractScaled 48 = .ok (.land, 1) := by decide +kernel
theorem dX1_subtractScaled_49 : decode cX1_subtractScaled 49 = .ok (.lastore, 1) := by decide +kernel
theorem dX1_subtractScaled_50 : decode cX1_subtractScaled 50 = .ok (.lload 9, 2) := by decide +kernel
theorem dX1_subtractScaled_52 : decode cX1_subtractScaled 52 = .ok (.bipush 32, 2) := by decide +kernel
theorem dX1_subtractScaled_54 : decode cX1_subtractScaled 54 = .ok (.lushr, 1) := by decide +kernel
theorem dX1_subtractScaled_55 : decode cX1_subtractScaled 55 = .ok (.lload 11, 2) := by decide +kernel
theorem dX1_subtractScaled_57 : decode cX1_subtractScaled 57 = .ok (.bipush 63, 2) := by decide +kernel
theorem dX1_subtractScaled_59 : decode cX1_subtractScaled 59 = .ok (.lushr, 1) := by decide +kernel
theorem dX1_subtractScaled_60 : decode cX1_subtractScaled 60 = .ok (.ladd, 1) := by decide +kernel
theorem dX1_subtractScaled_61 : decode cX1_subtractScaled 61 = .ok (.lstore 6, 2) := by decide +kernel
theorem dX1_subtractScaled_63 : decode cX1_subtractScaled 63 = .ok (.iinc 8 1, 3) := by decide +kernel
theorem dX1_subtractScaled_66 : decode cX1_subtractScaled 66 = .ok (.goto (-60), 3) := by decide +kernel
theorem dX1_subtractScaled_69 : decode cX1_subtractScaled 69 = .ok (.return_, 1) := by decide +kernel
set_option maxRecDepth 20000 in
theorem ggX1_subtractProduct_X1_subtractScaled : GoodIn wsX1_subtractProduct wsX1_subtractScaled := goodIn_r _ [4, 5] (by decide +kernel) (by decide +kernel)
set_option maxRecDepth 20000 in
theorem gX1_subtractProduct_X1_subtractScaled : GoodIn wsX1_subtractProduct (va_wsS RX1 30 yX1_subtractScaled wsX1_subtractScaled) := goodIn_app (goodIn_of _ (by decide +kernel)) ggX1_subtractProduct_X1_subtractScaled
theorem dX1_subtractProduct_0 : decode cX1_subtractProduct 0 = .ok (.iconst 0, 1) := by decide +kernel
theorem dX1_subtractProduct_1 : decode cX1_subtractProduct 1 = .ok (.istore 4, 2) := by decide +kernel
theorem dX1_subtractProduct_3 : decode cX1_subtractProduct 3 = .ok (.iload 4, 2) := by decide +kernel
theorem dX1_subtractProduct_5 : decode cX1_subtractProduct 5 = .ok (.iload_n 3, 1) := by decide +kernel
theorem dX1_subtractProduct_6 : decode cX1_subtractProduct 6 = .ok (.if_icmp .ge 30, 3) := by decide +kernel
theorem dX1_subtractProduct_9 : decode cX1_subtractProduct 9 = .ok (.aload_n 1, 1) := by decide +kernel
theorem dX1_subtractProduct_10 : decode cX1_subtractProduct 10 = .ok (.iload 4, 2) := by decide +kernel
theorem dX1_subtractProduct_12 : decode cX1_subtractProduct 12 = .ok (.laload, 1) := by decide +kernel
theorem dX1_subtractProduct_13 : decode cX1_subtractProduct 13 = .ok (.lconst 0, 1) := by decide +kernel
theorem dX1_subtractProduct_14 : decode cX1_subtractProduct 14 = .ok (.lcmp, 1) := by decide +kernel
theorem dX1_subtractProduct_15 : decode cX1_subtractProduct 15 = .ok (.ifCond .eq 15, 3) := by decide +kernel
theorem dX1_subtractProduct_18 : decode cX1_subtractProduct 18 = .ok (.aload_n 0, 1) := by decide +kernel
theorem dX1_subtractProduct_19 : decode cX1_subtractProduct 19 = .ok (.iload 4, 2) := by decide +kernel
theorem dX1_subtractProduct_21 : decode cX1_subtractProduct 21 = .ok (.aload_n 1, 1) := by decide +kernel
theorem dX1_subtractProduct_22 : decode cX1_subtractProduct 22 = .ok (.iload 4, 2) := by decide +kernel
theorem dX1_subtractProduct_24 : decode cX1_subtractProduct 24 = .ok (.laload, 1) := by decide +kernel
theorem dX1_subtractProduct_25 : decode cX1_subtractProduct 25 = .ok (.aload_n 2, 1) := by decide +kernel
theorem dX1_subtractProduct_26 : decode cX1_subtractProduct 26 = .ok (.iload_n 3, 1) := by decide +kernel
theorem dX1_subtractProduct_27 : decode cX1_subtractProduct 27 = .ok (.invokestatic 30, 3) := by decide +kernel
theorem dX1_subtractProduct_30 : decode cX1_subtractProduct 30 = .ok (.iinc 4 1, 3) := by decide +kernel
theorem dX1_subtractProduct_33 : decode cX1_subtractProduct 33 = .ok (.goto (-30), 3) := by decide +kernel
theorem dX1_subtractProduct_36 : decode cX1_subtractProduct 36 = .ok (.return_, 1) := by decide +kernel
set_option maxRecDepth 20000 in
theorem ggX1_trailingZeros_J13_bitCount_95d88 : GoodIn wsX1_trailingZeros wsJ13_bitCount_95d88 := goodIn_r _ [5, 6, 7, 8] (by decide +kernel) (by decide +kernel)
set_option maxRecDepth 20000 in
theorem gX1_trailingZeros_J13_bitCount_95d88 : GoodIn wsX1_trailingZeros (va_wsS RX1 47 yJ13_bitCount_95d88 wsJ13_bitCount_95d88) := goodIn_app (goodIn_of _ (by decide +kernel)) ggX1_trailingZeros_J13_bitCount_95d88
theorem dX1_trailingZeros_0 : decode cX1_trailingZeros 0 = .ok (.iconst 0, 1) := by decide +kernel
theorem dX1_trailingZeros_1 : decode cX1_trailingZeros 1 = .ok (.istore_n 1, 1) := by decide +kernel
theorem dX1_trailingZeros_2 : decode cX1_trailingZeros 2 = .ok (.iload_n 1, 1) := by decide +kernel
theorem dX1_trailingZeros_3 : decode cX1_trailingZeros 3 = .ok (.bipush 21, 2) := by decide +kernel
theorem dX1_trailingZeros_5 : decode cX1_trailingZeros 5 = .ok (.if_icmp .ge 39, 3) := by decide +kernel
theorem dX1_trailingZeros_8 : decode cX1_trailingZeros 8 = .ok (.aload_n 0, 1) := by decide +kernel
theorem dX1_trailingZeros_9 : decode cX1_trailingZeros 9 = .ok (.iload_n 1, 1) := by decide +kernel
theorem dX1_trailingZeros_10 : decode cX1_trailingZeros 10 = .ok (.laload, 1) := by decide +kernel
theorem dX1_trailingZeros_11 : decode cX1_trailingZeros 11 = .ok (.lconst 0, 1) := by decide +kernel
theorem dX1_trailingZeros_12 : decode cX1_trailingZeros 12 = .ok (.lcmp, 1) := by decide +kernel
theorem dX1_trailingZeros_13 : decode cX1_trailingZeros 13 = .ok (.ifCond .eq 25, 3) := by decide +kernel
theorem dX1_trailingZeros_16 : decode cX1_trailingZeros 16 = .ok (.iload_n 1, 1) := by decide +kernel
theorem dX1_trailingZeros_17 : decode cX1_trailingZeros 17 = .ok (.bipush 32, 2) := by decide +kernel
theorem dX1_trailingZeros_19 : decode cX1_trailingZeros 19 = .ok (.imul, 1) := by decide +kernel
theorem dX1_trailingZeros_20 : decode cX1_trailingZeros 20 = .ok (.aload_n 0, 1) := by decide +kernel
theorem dX1_trailingZeros_21 : decode cX1_trailingZeros 21 = .ok (.iload_n 1, 1) := by decide +kernel
theorem dX1_trailingZeros_22 : decode cX1_trailingZeros 22 = .ok (.laload, 1) := by decide +kernel
theorem dX1_trailingZeros_23 : decode cX1_trailingZeros 23 = .ok (.ldc2_w 45, 3) := by decide +kernel
theorem dX1_trailingZeros_26 : decode cX1_trailingZeros 26 = .ok (.lxor, 1) := by decide +kernel
theorem dX1_trailingZeros_27 : decode cX1_trailingZeros 27 = .ok (.aload_n 0, 1) := by decide +kernel
theorem dX1_trailingZeros_28 : decode cX1_trailingZeros 28 = .ok (.iload_n 1, 1) := by decide +kernel
theorem dX1_trailingZeros_29 : decode cX1_trailingZeros 29 = .ok (.laload, 1) := by decide +kernel
theorem dX1_trailingZeros_30 : decode cX1_trailingZeros 30 = .ok (.lconst 1, 1) := by decide +kernel
theorem dX1_trailingZeros_31 : decode cX1_trailingZeros 31 = .ok (.lsub, 1) := by decide +kernel
theorem dX1_trailingZeros_32 : decode cX1_trailingZeros 32 = .ok (.land, 1) := by decide +kernel
theorem dX1_trailingZeros_33 : decode cX1_trailingZeros 33 = .ok (.invokestatic 47, 3) := by decide +kernel
theorem dX1_trailingZeros_36 : decode cX1_trailingZeros 36 = .ok (.iadd, 1) := by decide +kernel
theorem dX1_trailingZeros_37 : decode cX1_trailingZeros 37 = .ok (.ireturn, 1) := by decide +kernel
theorem dX1_trailingZeros_38 : decode cX1_trailingZeros 38 = .ok (.iinc 1 1, 3) := by decide +kernel
theorem dX1_trailingZeros_41 : decode cX1_trailingZeros 41 = .ok (.goto (-39), 3) := by decide +kernel
theorem dX1_trailingZeros_44 : decode cX1_trailingZeros 44 = .ok (.sipush 672, 3) := by decide +kernel
theorem dX1_trailingZeros_47 : decode cX1_trailingZeros 47 = .ok (.ireturn, 1) := by decide +kernel
set_option maxRecDepth 20000 in
theorem ggX1_shiftRight_X1_limbAt : GoodIn wsX1_shiftRight wsX1_limbAt := goodIn_r _ [5] (by decide +kernel) (by decide +kernel)
set_option maxRecDepth 20000 in
theorem gX1_shiftRight_X1_limbAt : GoodIn wsX1_shiftRight (va_wsS RX1 53 yX1_limbAt wsX1_limbAt) := goodIn_app (goodIn_of _ (by decide +kernel)) ggX1_shiftRight_X1_limbAt
theorem dX1_shiftRight_0 : decode cX1_shiftRight 0 = .ok (.iload_n 1, 1) := by decide +kernel
theorem dX1_shiftRight_1 : decode cX1_shiftRight 1 = .ok (.ifCond .gt 4, 3) := by decide +kernel
theorem dX1_shiftRight_4 : decode cX1_shiftRight 4 = .ok (.return_, 1) := by decide +kernel
theorem dX1_shiftRight_5 : decode cX1_shiftRight 5 = .ok (.iload_n 1, 1) := by decide +kernel
theorem dX1_shiftRight_6 : decode cX1_shiftRight 6 = .ok (.bipush 32, 2) := by decide +kernel
theorem dX1_shiftRight_8 : decode cX1_shiftRight 8 = .ok (.idiv, 1) := by decide +kernel
theorem dX1_shiftRight_9 : decode cX1_shiftRight 9 = .ok (.istore_n 3, 1) := by decide +kernel
theorem dX1_shiftRight_10 : decode cX1_shiftRight 10 = .ok (.iload_n 1, 1) := by decide +kernel
theorem dX1_shiftRight_11 : decode cX1_shiftRight 11 = .ok (.bipush 32, 2) := by decide +kernel
theorem dX1_shiftRight_13 : decode cX1_shiftRight 13 = .ok (.irem, 1) := by decide +kernel
theorem dX1_shiftRight_14 : decode cX1_shiftRight 14 = .ok (.istore 4, 2) := by decide +kernel
theorem dX1_shiftRight_16 : decode cX1_shiftRight 16 = .ok (.iconst 0, 1) := by decide +kernel
theorem dX1_shiftRight_17 : decode cX1_shiftRight 17 = .ok (.istore 5, 2) := by decide +kernel
theorem dX1_shiftRight_19 : decode cX1_shiftRight 19 = .ok (.iload 5, 2) := by decide +kernel
theorem dX1_shiftRight_21 : decode cX1_shiftRight 21 = .ok (.iload_n 2, 1) := by decide +kernel
theorem dX1_shiftRight_22 : decode cX1_shiftRight 22 = .ok (.if_icmp .ge 52, 3) := by decide +kernel
theorem dX1_shiftRight_25 : decode cX1_shiftRight 25 = .ok (.aload_n 0, 1) := by decide +kernel
theorem dX1_shiftRight_26 : decode cX1_shiftRight 26 = .ok (.iload 5, 2) := by decide +kernel
theorem dX1_shiftRight_28 : decode cX1_shiftRight 28 = .ok (.iload_n 3, 1) := by decide +kernel
theorem dX1_shiftRight_29 : decode cX1_shiftRight 29 = .ok (.iadd, 1) := by decide +kernel
theorem dX1_shiftRight_30 : decode cX1_shiftRight 30 = .ok (.iload_n 2, 1) := by decide +kernel
theorem dX1_shiftRight_31 : decode cX1_shiftRight 31 = .ok (.invokestatic 53, 3) := by decide +kernel
theorem dX1_shiftRight_34 : decode cX1_shiftRight 34 = .ok (.lstore 6, 2) := by decide +kernel
theorem dX1_shiftRight_36 : decode cX1_shiftRight 36 = .ok (.aload_n 0, 1) := by decide +kernel
theorem dX1_shiftRight_37 : decode cX1_shiftRight 37 = .ok (.iload 5, 2) := by decide +kernel
theorem dX1_shiftRight_39 : decode cX1_shiftRight 39 = .ok (.iload_n 3, 1) := by decide +kernel
theorem dX1_shiftRight_40 : decode cX1_shiftRight 40 = .ok (.iadd, 1) := by decide +kernel
theorem dX1_shiftRight_41 : decode cX1_shiftRight 41 = .ok (.iconst 1, 1) := by decide +kernel
theorem dX1_shiftRight_42 : decode cX1_shiftRight 42 = .ok (.iadd, 1) := by decide +kernel
theorem dX1_shiftRight_43 : decode cX1_shiftRight 43 = .ok (.iload_n 2, 1) := by decide +kernel
theorem dX1_shiftRight_44 : decode cX1_shiftRight 44 = .ok (.invokestatic 53, 3) := by decide +kernel
theorem dX1_shiftRight_47 : decode cX1_shiftRight 47 = .ok (.lstore 8, 2) := by decide +kernel
theorem dX1_shiftRight_49 : decode cX1_shiftRight 49 = .ok (.aload_n 0, 1) := by decide +kernel
theorem dX1_shiftRight_50 : decode cX1_shiftRight 50 = .ok (.iload 5, 2) := by decide +kernel
theorem dX1_shiftRight_52 : decode cX1_shiftRight 52 = .ok (.lload 8, 2) := by decide +kernel
theorem dX1_shiftRight_54 : decode cX1_shiftRight 54 = .ok (.bipush 32, 2) := by decide +kernel
theorem dX1_shiftRight_56 : decode cX1_shiftRight 56 = .ok (.lshl, 1) := by decide +kernel
theorem dX1_shiftRight_57 : decode cX1_shiftRight 57 = .ok (.lload 6, 2) := by decide +kernel
theorem dX1_shiftRight_59 : decode cX1_shiftRight 59 = .ok (.lor, 1) := by decide +kernel
theorem dX1_shiftRight_60 : decode cX1_shiftRight 60 = .ok (.iload 4, 2) := by decide +kernel
theorem dX1_shiftRight_62 : decode cX1_shiftRight 62 = .ok (.lushr, 1) := by decide +kernel
theorem dX1_shiftRight_63 : decode cX1_shiftRight 63 = .ok (.ldc2_w 9, 3) := by decide +kernel
theorem dX1_shiftRight_66 : decode cX1_shiftRight 66 = .ok (.land, 1) := by decide +kernel
theorem dX1_shiftRight_67 : decode cX1_shiftRight 67 = .ok (.lastore, 1) := by decide +kernel
theorem dX1_shiftRight_68 : decode cX1_shiftRight 68 = .ok (.iinc 5 1, 3) := by decide +kernel
theorem dX1_shiftRight_71 : decode cX1_shiftRight 71 = .ok (.goto (-52), 3) := by decide +kernel
theorem dX1_shiftRight_74 : decode cX1_shiftRight 74 = .ok (.return_, 1) := by decide +kernel
theorem dX1_limbAt_0 : decode cX1_limbAt 0 = .ok (.iload_n 1, 1) := by decide +kernel
theorem dX1_limbAt_1 : decode cX1_limbAt 1 = .ok (.iload_n 2, 1) := by decide +kernel
theorem dX1_limbAt_2 : decode cX1_limbAt 2 = .ok (.if_icmp .ge 9, 3) := by decide +kernel
theorem dX1_limbAt_5 : decode cX1_limbAt 5 = .ok (.aload_n 0, 1) := by decide +kernel
theorem dX1_limbAt_6 : decode cX1_limbAt 6 = .ok (.iload_n 1, 1) := by decide +kernel
theorem dX1_limbAt_7 : decode cX1_limbAt 7 = .ok (.laload, 1) := by decide +kernel
theorem dX1_limbAt_8 : decode cX1_limbAt 8 = .ok (.goto 4, 3) := by decide +kernel
theorem dX1_limbAt_11 : decode cX1_limbAt 11 = .ok (.lconst 0, 1) := by decide +kernel
theorem dX1_limbAt_12 : decode cX1_limbAt 12 = .ok (.lreturn, 1) := by decide +kernel
theorem dX1_inverse_0 : decode cX1_inverse 0 = .ok (.lload_n 0, 1) := by decide +kernel
theorem dX1_inverse_1 : decode cX1_inverse 1 = .ok (.lstore_n 2, 1) := by decide +kernel
theorem dX1_inverse_2 : decode cX1_inverse 2 = .ok (.iconst 0, 1) := by decide +kernel
theorem dX1_inverse_3 : decode cX1_inverse 3 = .ok (.istore 4, 2) := by decide +kernel
theorem dX1_inverse_5 : decode cX1_inverse 5 = .ok (.iload 4, 2) := by decide +kernel
theorem dX1_inverse_7 : decode cX1_inverse 7 = .ok (.iconst 4, 1) := by decide +kernel
theorem dX1_inverse_8 : decode cX1_inverse 8 = .ok (.if_icmp .ge 19, 3) := by decide +kernel
theorem dX1_inverse_11 : decode cX1_inverse 11 = .ok (.lload_n 2, 1) := by decide +kernel
theorem dX1_inverse_12 : decode cX1_inverse 12 = .ok (.ldc2_w 57, 3) := by decide +kernel
theorem dX1_inverse_15 : decode cX1_inverse 15 = .ok (.lload_n 0, 1) := by decide +kernel
theorem dX1_inverse_16 : decode cX1_inverse 16 = .ok (.lload_n 2, 1) := by decide +kernel
theorem dX1_inverse_17 : decode cX1_inverse 17 = .ok (.lmul, 1) := by decide +kernel
theorem dX1_inverse_18 : decode cX1_inverse 18 = .ok (.lsub, 1) := by decide +kernel
theorem dX1_inverse_19 : decode cX1_inverse 19 = .ok (.lmul, 1) := by decide +kernel
theorem dX1_inverse_20 : decode cX1_inverse 20 = .ok (.lstore_n 2, 1) := by decide +kernel
theorem dX1_inverse_21 : decode cX1_inverse 21 = .ok (.iinc 4 1, 3) := by decide +kernel
theorem dX1_inverse_24 : decode cX1_inverse 24 = .ok (.goto (-19), 3) := by decide +kernel
theorem dX1_inverse_27 : decode cX1_inverse 27 = .ok (.lload_n 2, 1) := by decide +kernel
theorem dX1_inverse_28 : decode cX1_inverse 28 = .ok (.ldc2_w 9, 3) := by decide +kernel
theorem dX1_inverse_31 : decode cX1_inverse 31 = .ok (.land, 1) := by decide +kernel
theorem dX1_inverse_32 : decode cX1_inverse 32 = .ok (.lreturn, 1) := by decide +kernel
set_option maxRecDepth 20000 in
theorem ggX1_divideEvenly_X1_subtractScaled : GoodIn wsX1_divideEvenly wsX1_subtractScaled := goodIn_r _ [5, 1] (by decide +kernel) (by decide +kernel)
set_option maxRecDepth 20000 in
theorem gX1_divideEvenly_X1_subtractScaled : GoodIn wsX1_divideEvenly (va_wsS RX1 30 yX1_subtractScaled wsX1_subtractScaled) := goodIn_app (goodIn_of _ (by decide +kernel)) ggX1_divideEvenly_X1_subtractScaled
theorem dX1_divideEvenly_0 : decode cX1_divideEvenly 0 = .ok (.iconst 0, 1) := by decide +kernel
theorem dX1_divideEvenly_1 : decode cX1_divideEvenly 1 = .ok (.istore 5, 2) := by decide +kernel
theorem dX1_divideEvenly_3 : decode cX1_divideEvenly 3 = .ok (.iload 5, 2) := by decide +kernel
theorem dX1_divideEvenly_5 : decode cX1_divideEvenly 5 = .ok (.iload 4, 2) := by decide +kernel
theorem dX1_divideEvenly_7 : decode cX1_divideEvenly 7 = .ok (.if_icmp .ge 38, 3) := by decide +kernel
theorem dX1_divideEvenly_10 : decode cX1_divideEvenly 10 = .ok (.aload_n 0, 1) := by decide +kernel
theorem dX1_divideEvenly_11 : decode cX1_divideEvenly 11 = .ok (.iload 5, 2) := by decide +kernel
theorem dX1_divideEvenly_13 : decode cX1_divideEvenly 13 = .ok (.laload, 1) := by decide +kernel
theorem dX1_divideEvenly_14 : decode cX1_divideEvenly 14 = .ok (.lload_n 2, 1) := by decide +kernel
theorem dX1_divideEvenly_15 : decode cX1_divideEvenly 15 = .ok (.lmul, 1) := by decide +kernel
theorem dX1_divideEvenly_16 : decode cX1_divideEvenly 16 = .ok (.ldc2_w 9, 3) := by decide +kernel
theorem dX1_divideEvenly_19 : decode cX1_divideEvenly 19 = .ok (.land, 1) := by decide +kernel
theorem dX1_divideEvenly_20 : decode cX1_divideEvenly 20 = .ok (.lstore 6, 2) := by decide +kernel
theorem dX1_divideEvenly_22 : decode cX1_divideEvenly 22 = .ok (.aload_n 0, 1) := by decide +kernel
theorem dX1_divideEvenly_23 : decode cX1_divideEvenly 23 = .ok (.iload 5, 2) := by decide +kernel
theorem dX1_divideEvenly_25 : decode cX1_divideEvenly 25 = .ok (.lload 6, 2) := by decide +kernel
theorem dX1_divideEvenly_27 : decode cX1_divideEvenly 27 = .ok (.aload_n 1, 1) := by decide +kernel
theorem dX1_divideEvenly_28 : decode cX1_divideEvenly 28 = .ok (.iload 4, 2) := by decide +kernel
theorem dX1_divideEvenly_30 : decode cX1_divideEvenly 30 = .ok (.invokestatic 30, 3) := by decide +kernel
theorem dX1_divideEvenly_33 : decode cX1_divideEvenly 33 = .ok (.aload_n 0, 1) := by decide +kernel
theorem dX1_divideEvenly_34 : decode cX1_divideEvenly 34 = .ok (.iload 5, 2) := by decide +kernel
theorem dX1_divideEvenly_36 : decode cX1_divideEvenly 36 = .ok (.lload 6, 2) := by decide +kernel
theorem dX1_divideEvenly_38 : decode cX1_divideEvenly 38 = .ok (.lastore, 1) := by decide +kernel
theorem dX1_divideEvenly_39 : decode cX1_divideEvenly 39 = .ok (.iinc 5 1, 3) := by decide +kernel
theorem dX1_divideEvenly_42 : decode cX1_divideEvenly 42 = .ok (.goto (-39), 3) := by decide +kernel
theorem dX1_divideEvenly_45 : decode cX1_divideEvenly 45 = .ok (.return_, 1) := by decide +kernel
end
section
theorem dX2_init_0 : decode cX2_init 0 = .ok (.aload_n 0, 1) := by decide +kernel
theorem dX2_init_1 : decode cX2_init 1 = .ok (.invokespecial 3, 3) := by decide +kernel
theorem dX2_init_4 : decode cX2_init 4 = .ok (.aload_n 0, 1) := by decide +kernel
theorem dX2_init_5 : decode cX2_init 5 = .ok (.bipush 21, 2) := by decide +kernel
theorem dX2_init_7 : decode cX2_init 7 = .ok (.newarray .long, 2) := by decide +kernel
theorem dX2_init_9 : decode cX2_init 9 = .ok (.putfield 9, 3) := by decide +kernel
theorem dX2_init_12 : decode cX2_init 12 = .ok (.aload_n 0, 1) := by decide +kernel
theorem dX2_init_13 : decode cX2_init 13 = .ok (.bipush 21, 2) := by decide +kernel
theorem dX2_init_15 : decode cX2_init 15 = .ok (.newarray .long, 2) := by decide +kernel
theorem dX2_init_17 : decode cX2_init 17 = .ok (.putfield 15, 3) := by decide +kernel
theorem dX2_init_20 : decode cX2_init 20 = .ok (.aload_n 0, 1) := by decide +kernel
theorem dX2_init_21 : decode cX2_init 21 = .ok (.bipush 21, 2) := by decide +kernel
theorem dX2_init_23 : decode cX2_init 23 = .ok (.newarray .long, 2) := by decide +kernel
theorem dX2_init_25 : decode cX2_init 25 = .ok (.putfield 18, 3) := by decide +kernel
theorem dX2_init_28 : decode cX2_init 28 = .ok (.aload_n 0, 1) := by decide +kernel
theorem dX2_init_29 : decode cX2_init 29 = .ok (.bipush 21, 2) := by decide +kernel
theorem dX2_init_31 : decode cX2_init 31 = .ok (.newarray .long, 2) := by decide +kernel
theorem dX2_init_33 : decode cX2_init 33 = .ok (.putfield 21, 3) := by decide +kernel
theorem dX2_init_36 : decode cX2_init 36 = .ok (.aload_n 0, 1) := by decide +kernel
theorem dX2_init_37 : decode cX2_init 37 = .ok (.lconst 0, 1) := by decide +kernel
theorem dX2_init_38 : decode cX2_init 38 = .ok (.putfield 24, 3) := by decide +kernel
theorem dX2_init_41 : decode cX2_init 41 = .ok (.aload_n 0, 1) := by decide +kernel
theorem dX2_init_42 : decode cX2_init 42 = .ok (.lconst 1, 1) := by decide +kernel
theorem dX2_init_43 : decode cX2_init 43 = .ok (.putfield 28, 3) := by decide +kernel
theorem dX2_init_46 : decode cX2_init 46 = .ok (.return_, 1) := by decide +kernel
set_option maxRecDepth 20000 in
theorem ggX2_find_X1_isZero : GoodIn wsX2_find wsX1_isZero := goodIn_r _ [8] (by decide +kernel) (by decide +kernel)
set_option maxRecDepth 20000 in
theorem gX2_find_X1_isZero : GoodIn wsX2_find (va_wsS RX2 31 yX1_isZero wsX1_isZero) := goodIn_app (goodIn_of _ (by decide +kernel)) ggX2_find_X1_isZero
set_option maxRecDepth 20000 in
theorem ggX2_find_X1_isNegative : GoodIn wsX2_find wsX1_isNegative := goodIn_r _ [11, 12, 13, 7, 14] (by decide +kernel) (by decide +kernel)
set_option maxRecDepth 20000 in
theorem gX2_find_X1_isNegative : GoodIn wsX2_find (va_wsS RX2 35 yX1_isNegative wsX1_isNegative) := goodIn_app (goodIn_of _ (by decide +kernel)) ggX2_find_X1_isNegative
set_option maxRecDepth 20000 in
theorem ggX2_find_X1_copyMagnitude : GoodIn wsX2_find wsX1_copyMagnitude := goodIn_r _ [17, 18, 10, 7, 11, 12, 13, 14, 19, 20, 21, 22, 23, 24, 25, 26, 27, 28, 29, 30, 31, 32, 33, 34, 35, 36] (by decide +kernel) (by decide +kernel)
set_option maxRecDepth 20000 in
theorem gX2_find_X1_copyMagnitude : GoodIn wsX2_find (va_wsS RX2 38 yX1_copyMagnitude wsX1_copyMagnitude) := goodIn_app (goodIn_of _ (by decide +kernel)) ggX2_find_X1_copyMagnitude
set_option maxRecDepth 20000 in
theorem ggX2_find_X2_removeCommonTwos : GoodIn wsX2_find wsX2_removeCommonTwos := goodIn_r _ [41, 3, 4, 42, 43, 44, 45, 46, 47, 7, 48, 49, 50, 51, 52, 53, 54, 55, 56, 57, 58, 59, 29, 60, 61, 62, 95, 96, 97, 98, 99, 100] (by decide +kernel) (by decide +kernel)
set_option maxRecDepth 20000 in
theorem gX2_find_X2_removeCommonTwos : GoodIn wsX2_find (wsV RX2 42 RX2 yX2_removeCommonTwos wsX2_removeCommonTwos) := goodIn_app (goodIn_of _ (by decide +kernel)) ggX2_find_X2_removeCommonTwos
set_option maxRecDepth 20000 in
theorem ggX2_find_X2_removeCommonOddFactor : GoodIn wsX2_find wsX2_removeCommonOddFactor := goodIn_r _ [66, 3, 67, 4, 68, 69, 31, 7, 32, 33, 34, 35, 36, 70, 71, 40, 72, 46, 47, 48, 49, 50, 51, 52, 53, 54, 55, 56, 57, 58, 59, 29, 60, 61, 62, 73, 74, 75, 76, 77, 78, 79, 80, 27, 28, 81, 82, 83, 84, 85, 86, 87, 26, 95, 96, 97, 98, 99, 100] (by decide +kernel) (by decide +kernel)
set_option maxRecDepth 20000 in
theorem gX2_find_X2_removeCommonOddFactor : GoodIn wsX2_find (wsV RX2 46 RX2 yX2_removeCommonOddFactor wsX2_removeCommonOddFactor) := goodIn_app (goodIn_of _ (by decide +kernel)) ggX2_find_X2_removeCommonOddFactor
set_option maxRecDepth 20000 in
theorem ggX2_find_X2_fitsLong : GoodIn wsX2_find wsX2_fitsLong := goodIn_r _ [90, 91, 92, 93, 40, 94] (by decide +kernel) (by decide +kernel)
set_option maxRecDepth 20000 in
theorem gX2_find_X2_fitsLong : GoodIn wsX2_find (va_wsS RX2 49 yX2_fitsLong wsX2_fitsLong) := goodIn_app (goodIn_of _ (by decide +kernel)) ggX2_find_X2_fitsLong
set_option maxRecDepth 20000 in
theorem ggX2_find_X2_lowBits : GoodIn wsX2_find wsX2_lowBits := goodIn_r _ [94] (by decide +kernel) (by decide +kernel)
set_option maxRecDepth 20000 in
theorem gX2_find_X2_lowBits : GoodIn wsX2_find (va_wsS RX2 53 yX2_lowBits wsX2_lowBits) := goodIn_app (goodIn_of _ (by decide +kernel)) ggX2_find_X2_lowBits
theorem dX2_find_0 : decode cX2_find 0 = .ok (.aload_n 1, 1) := by decide +kernel
theorem dX2_find_1 : decode cX2_find 1 = .ok (.invokestatic 31, 3) := by decide +kernel
theorem dX2_find_4 : decode cX2_find 4 = .ok (.ifCond .eq 15, 3) := by decide +kernel
theorem dX2_find_7 : decode cX2_find 7 = .ok (.aload_n 0, 1) := by decide +kernel
theorem dX2_find_8 : decode cX2_find 8 = .ok (.lconst 0, 1) := by decide +kernel
theorem dX2_find_9 : decode cX2_find 9 = .ok (.putfield 24, 3) := by decide +kernel
theorem dX2_find_12 : decode cX2_find 12 = .ok (.aload_n 0, 1) := by decide +kernel
theorem dX2_find_13 : decode cX2_find 13 = .ok (.lconst 1, 1) := by decide +kernel
theorem dX2_find_14 : decode cX2_find 14 = .ok (.putfield 28, 3) := by decide +kernel
theorem dX2_find_17 : decode cX2_find 17 = .ok (.iconst 1, 1) := by decide +kernel
theorem dX2_find_18 : decode cX2_find 18 = .ok (.ireturn, 1) := by decide +kernel
theorem dX2_find_19 : decode cX2_find 19 = .ok (.aload_n 1, 1) := by decide +kernel
theorem dX2_find_20 : decode cX2_find 20 = .ok (.invokestatic 35, 3) := by decide +kernel
theorem dX2_find_23 : decode cX2_find 23 = .ok (.aload_n 2, 1) := by decide +kernel
theorem dX2_find_24 : decode cX2_find 24 = .ok (.invokestatic 35, 3) := by decide +kernel
theorem dX2_find_27 : decode cX2_find 27 = .ok (.if_icmp .eq 7, 3) := by decide +kernel
theorem dX2_find_30 : decode cX2_find 30 = .ok (.iconst 1, 1) := by decide +kernel
theorem dX2_find_31 : decode cX2_find 31 = .ok (.goto 4, 3) := by decide +kernel
theorem dX2_find_34 : decode cX2_find 34 = .ok (.iconst 0, 1) := by decide +kernel
theorem dX2_find_35 : decode cX2_find 35 = .ok (.istore 4, 2) := by decide +kernel
theorem dX2_find_37 : decode cX2_find 37 = .ok (.aload_n 1, 1) := by decide +kernel
theorem dX2_find_38 : decode cX2_find 38 = .ok (.aload_n 0, 1) := by decide +kernel
theorem dX2_find_39 : decode cX2_find 39 = .ok (.getfield 9, 3) := by decide +kernel
theorem dX2_find_42 : decode cX2_find 42 = .ok (.invokestatic 38, 3) := by decide +kernel
theorem dX2_find_45 : decode cX2_find 45 = .ok (.aload_n 2, 1) := by decide +kernel
theorem dX2_find_46 : decode cX2_find 46 = .ok (.aload_n 0, 1) := by decide +kernel
theorem dX2_find_47 : decode cX2_find 47 = .ok (.getfield 15, 3) := by decide +kernel
theorem dX2_find_50 : decode cX2_find 50 = .ok (.invokestatic 38, 3) := by decide +kernel
theorem dX2_find_53 : decode cX2_find 53 = .ok (.aload_n 0, 1) := by decide +kernel
theorem dX2_find_54 : decode cX2_find 54 = .ok (.iload_n 3, 1) := by decide +kernel
theorem dX2_find_55 : decode cX2_find 55 = .ok (.invokevirtual 42, 3) := by decide +kernel
theorem dX2_find_58 : decode cX2_find 58 = .ok (.aload_n 0, 1) := by decide +kernel
theorem dX2_find_59 : decode cX2_find 59 = .ok (.iload_n 3, 1) := by decide +kernel
theorem dX2_find_60 : decode cX2_find 60 = .ok (.invokevirtual 46, 3) := by decide +kernel
theorem dX2_find_63 : decode cX2_find 63 = .ok (.aload_n 0, 1) := by decide +kernel
theorem dX2_find_64 : decode cX2_find 64 = .ok (.getfield 9, 3) := by decide +kernel
theorem dX2_find_67 : decode cX2_find 67 = .ok (.iload 4, 2) := by decide +kernel
theorem dX2_find_69 : decode cX2_find 69 = .ok (.invokestatic 49, 3) := by decide +kernel
theorem dX2_find_72 : decode cX2_find 72 = .ok (.ifCond .eq 14, 3) := by decide +kernel
theorem dX2_find_75 : decode cX2_find 75 = .ok (.aload_n 0, 1) := by decide +kernel
theorem dX2_find_76 : decode cX2_find 76 = .ok (.getfield 15, 3) := by decide +kernel
theorem dX2_find_79 : decode cX2_find 79 = .ok (.iconst 0, 1) := by decide +kernel
theorem dX2_find_80 : decode cX2_find 80 = .ok (.invokestatic 49, 3) := by decide +kernel
theorem dX2_find_83 : decode cX2_find 83 = .ok (.ifCond .ne 5, 3) := by decide +kernel
theorem dX2_find_86 : decode cX2_find 86 = .ok (.iconst 0, 1) := by decide +kernel
theorem dX2_find_87 : decode cX2_find 87 = .ok (.ireturn, 1) := by decide +kernel
theorem dX2_find_88 : decode cX2_find 88 = .ok (.aload_n 0, 1) := by decide +kernel
theorem dX2_find_89 : decode cX2_find 89 = .ok (.iload 4, 2) := by decide +kernel
theorem dX2_find_91 : decode cX2_find 91 = .ok (.ifCond .eq 14, 3) := by decide +kernel
theorem dX2_find_94 : decode cX2_find 94 = .ok (.aload_n 0, 1) := by decide +kernel
theorem dX2_find_95 : decode cX2_find 95 = .ok (.getfield 9, 3) := by decide +kernel
theorem dX2_find_98 : decode cX2_find 98 = .ok (.invokestatic 53, 3) := by decide +kernel
theorem dX2_find_101 : decode cX2_find 101 = .ok (.lneg, 1) := by decide +kernel
theorem dX2_find_102 : decode cX2_find 102 = .ok (.goto 10, 3) := by decide +kernel
theorem dX2_find_105 : decode cX2_find 105 = .ok (.aload_n 0, 1) := by decide +kernel
theorem dX2_find_106 : decode cX2_find 106 = .ok (.getfield 9, 3) := by decide +kernel
theorem dX2_find_109 : decode cX2_find 109 = .ok (.invokestatic 53, 3) := by decide +kernel
theorem dX2_find_112 : decode cX2_find 112 = .ok (.putfield 24, 3) := by decide +kernel
theorem dX2_find_115 : decode cX2_find 115 = .ok (.aload_n 0, 1) := by decide +kernel
theorem dX2_find_116 : decode cX2_find 116 = .ok (.aload_n 0, 1) := by decide +kernel
theorem dX2_find_117 : decode cX2_find 117 = .ok (.getfield 15, 3) := by decide +kernel
theorem dX2_find_120 : decode cX2_find 120 = .ok (.invokestatic 53, 3) := by decide +kernel
theorem dX2_find_123 : decode cX2_find 123 = .ok (.putfield 28, 3) := by decide +kernel
theorem dX2_find_126 : decode cX2_find 126 = .ok (.iconst 1, 1) := by decide +kernel
theorem dX2_find_127 : decode cX2_find 127 = .ok (.ireturn, 1) := by decide +kernel
set_option maxRecDepth 20000 in
theorem ggX2_removeCommonTwos_X1_trailingZeros : GoodIn wsX2_removeCommonTwos wsX1_trailingZeros := goodIn_r _ [10, 11, 12, 13, 14, 15, 16, 17, 18] (by decide +kernel) (by decide +kernel)
set_option maxRecDepth 20000 in
theorem gX2_removeCommonTwos_X1_trailingZeros : GoodIn wsX2_removeCommonTwos (va_wsS RX2 57 yX1_trailingZeros wsX1_trailingZeros) := goodIn_app (goodIn_of _ (by decide +kernel)) ggX2_removeCommonTwos_X1_trailingZeros
set_option maxRecDepth 20000 in
theorem ggX2_removeCommonTwos_X1_shiftRight : GoodIn wsX2_removeCommonTwos wsX1_shiftRight := goodIn_r _ [21, 22, 23, 24, 9, 25] (by decide +kernel) (by decide +kernel)
set_option maxRecDepth 20000 in
theorem gX2_removeCommonTwos_X1_shiftRight : GoodIn wsX2_removeCommonTwos (va_wsS RX2 67 yX1_shiftRight wsX1_shiftRight) := goodIn_app (goodIn_of _ (by decide +kernel)) ggX2_removeCommonTwos_X1_shiftRight
theorem dX2_removeCommonTwos_0 : decode cX2_removeCommonTwos 0 = .ok (.aload_n 0, 1) := by decide +kernel
theorem dX2_removeCommonTwos_1 : decode cX2_removeCommonTwos 1 = .ok (.getfield 9, 3) := by decide +kernel
theorem dX2_removeCommonTwos_4 : decode cX2_removeCommonTwos 4 = .ok (.invokestatic 57, 3) := by decide +kernel
theorem dX2_removeCommonTwos_7 : decode cX2_removeCommonTwos 7 = .ok (.aload_n 0, 1) := by decide +kernel
theorem dX2_removeCommonTwos_8 : decode cX2_removeCommonTwos 8 = .ok (.getfield 15, 3) := by decide +kernel
theorem dX2_removeCommonTwos_11 : decode cX2_removeCommonTwos 11 = .ok (.invokestatic 57, 3) := by decide +kernel
theorem dX2_removeCommonTwos_14 : decode cX2_removeCommonTwos 14 = .ok (.invokestatic 61, 3) := by decide +kernel
theorem dX2_removeCommonTwos_17 : decode cX2_removeCommonTwos 17 = .ok (.istore_n 2, 1) := by decide +kernel
theorem dX2_removeCommonTwos_18 : decode cX2_removeCommonTwos 18 = .ok (.aload_n 0, 1) := by decide +kernel
theorem dX2_removeCommonTwos_19 : decode cX2_removeCommonTwos 19 = .ok (.getfield 9, 3) := by decide +kernel
theorem dX2_removeCommonTwos_22 : decode cX2_removeCommonTwos 22 = .ok (.iload_n 2, 1) := by decide +kernel
theorem dX2_removeCommonTwos_23 : decode cX2_removeCommonTwos 23 = .ok (.iload_n 1, 1) := by decide +kernel
theorem dX2_removeCommonTwos_24 : decode cX2_removeCommonTwos 24 = .ok (.invokestatic 67, 3) := by decide +kernel
theorem dX2_removeCommonTwos_27 : decode cX2_removeCommonTwos 27 = .ok (.aload_n 0, 1) := by decide +kernel
theorem dX2_removeCommonTwos_28 : decode cX2_removeCommonTwos 28 = .ok (.getfield 15, 3) := by decide +kernel
theorem dX2_removeCommonTwos_31 : decode cX2_removeCommonTwos 31 = .ok (.iload_n 2, 1) := by decide +kernel
theorem dX2_removeCommonTwos_32 : decode cX2_removeCommonTwos 32 = .ok (.iload_n 1, 1) := by decide +kernel
theorem dX2_removeCommonTwos_33 : decode cX2_removeCommonTwos 33 = .ok (.invokestatic 67, 3) := by decide +kernel
theorem dX2_removeCommonTwos_36 : decode cX2_removeCommonTwos 36 = .ok (.return_, 1) := by decide +kernel
set_option maxRecDepth 20000 in
theorem ggX2_removeCommonOddFactor_X1_copy : GoodIn wsX2_removeCommonOddFactor wsX1_copy := goodIn_r _ [8, 9, 10, 11, 12] (by decide +kernel) (by decide +kernel)
set_option maxRecDepth 20000 in
theorem gX2_removeCommonOddFactor_X1_copy : GoodIn wsX2_removeCommonOddFactor (va_wsS RX2 71 yX1_copy wsX1_copy) := goodIn_app (goodIn_of _ (by decide +kernel)) ggX2_removeCommonOddFactor_X1_copy
set_option maxRecDepth 20000 in
theorem ggX2_removeCommonOddFactor_X2_removeTwos : GoodIn wsX2_removeCommonOddFactor wsX2_removeTwos := goodIn_r _ [16, 17, 18, 7, 19, 20, 21, 22, 23, 24, 25, 26, 27, 28, 29, 30, 31, 32, 33, 34] (by decide +kernel) (by decide +kernel)
set_option maxRecDepth 20000 in
theorem gX2_removeCommonOddFactor_X2_removeTwos : GoodIn wsX2_removeCommonOddFactor (va_wsS RX2 74 yX2_removeTwos wsX2_removeTwos) := goodIn_app (goodIn_of _ (by decide +kernel)) ggX2_removeCommonOddFactor_X2_removeTwos
set_option maxRecDepth 20000 in
theorem ggX2_removeCommonOddFactor_X2_commonOddFactor : GoodIn wsX2_removeCommonOddFactor wsX2_commonOddFactor := goodIn_r _ [38, 2, 4, 39, 40, 7, 41, 42, 43, 44, 31, 13, 14, 15, 16, 17, 18, 19, 20, 21, 22, 23, 24, 25, 26, 27, 28, 29, 30, 32, 33, 34, 53, 54, 55, 56, 57, 58] (by decide +kernel) (by decide +kernel)
set_option maxRecDepth 20000 in
theorem gX2_removeCommonOddFactor_X2_commonOddFactor : GoodIn wsX2_removeCommonOddFactor (wsV RX2 78 RX2 yX2_commonOddFactor wsX2_commonOddFactor) := goodIn_app (goodIn_of _ (by decide +kernel)) ggX2_removeCommonOddFactor_X2_commonOddFactor
set_option maxRecDepth 20000 in
theorem ggX2_removeCommonOddFactor_X1_inverse : GoodIn wsX2_removeCommonOddFactor wsX1_inverse := goodIn_r _ [47, 48, 31] (by decide +kernel) (by decide +kernel)
set_option maxRecDepth 20000 in
theorem gX2_removeCommonOddFactor_X1_inverse : GoodIn wsX2_removeCommonOddFactor (va_wsS RX2 82 yX1_inverse wsX1_inverse) := goodIn_app (goodIn_of _ (by decide +kernel)) ggX2_removeCommonOddFactor_X1_inverse
set_option maxRecDepth 20000 in
theorem ggX2_removeCommonOddFactor_X1_divideEvenly : GoodIn wsX2_removeCommonOddFactor wsX1_divideEvenly := goodIn_r _ [51, 31, 52, 43, 7, 44] (by decide +kernel) (by decide +kernel)
set_option maxRecDepth 20000 in
theorem gX2_removeCommonOddFactor_X1_divideEvenly : GoodIn wsX2_removeCommonOddFactor (va_wsS RX2 86 yX1_divideEvenly wsX1_divideEvenly) := goodIn_app (goodIn_of _ (by decide +kernel)) ggX2_removeCommonOddFactor_X1_divideEvenly
theorem dX2_removeCommonOddFactor_0 : decode cX2_removeCommonOddFactor 0 = .ok (.aload_n 0, 1) := by decide +kernel
theorem dX2_removeCommonOddFactor_1 : decode cX2_removeCommonOddFactor 1 = .ok (.getfield 9, 3) := by decide +kernel
theorem dX2_removeCommonOddFactor_4 : decode cX2_removeCommonOddFactor 4 = .ok (.aload_n 0, 1) := by decide +kernel
theorem dX2_removeCommonOddFactor_5 : decode cX2_removeCommonOddFactor 5 = .ok (.getfield 18, 3) := by decide +kernel
theorem dX2_removeCommonOddFactor_8 : decode cX2_removeCommonOddFactor 8 = .ok (.invokestatic 71, 3) := by decide +kernel
theorem dX2_removeCommonOddFactor_11 : decode cX2_removeCommonOddFactor 11 = .ok (.aload_n 0, 1) := by decide +kernel
theorem dX2_removeCommonOddFactor_12 : decode cX2_removeCommonOddFactor 12 = .ok (.getfield 15, 3) := by decide +kernel
theorem dX2_removeCommonOddFactor_15 : decode cX2_removeCommonOddFactor 15 = .ok (.aload_n 0, 1) := by decide +kernel
theorem dX2_removeCommonOddFactor_16 : decode cX2_removeCommonOddFactor 16 = .ok (.getfield 21, 3) := by decide +kernel
theorem dX2_removeCommonOddFactor_19 : decode cX2_removeCommonOddFactor 19 = .ok (.invokestatic 71, 3) := by decide +kernel
theorem dX2_removeCommonOddFactor_22 : decode cX2_removeCommonOddFactor 22 = .ok (.aload_n 0, 1) := by decide +kernel
theorem dX2_removeCommonOddFactor_23 : decode cX2_removeCommonOddFactor 23 = .ok (.getfield 18, 3) := by decide +kernel
theorem dX2_removeCommonOddFactor_26 : decode cX2_removeCommonOddFactor 26 = .ok (.iload_n 1, 1) := by decide +kernel
theorem dX2_removeCommonOddFactor_27 : decode cX2_removeCommonOddFactor 27 = .ok (.invokestatic 74, 3) := by decide +kernel
theorem dX2_removeCommonOddFactor_30 : decode cX2_removeCommonOddFactor 30 = .ok (.aload_n 0, 1) := by decide +kernel
theorem dX2_removeCommonOddFactor_31 : decode cX2_removeCommonOddFactor 31 = .ok (.getfield 21, 3) := by decide +kernel
theorem dX2_removeCommonOddFactor_34 : decode cX2_removeCommonOddFactor 34 = .ok (.iload_n 1, 1) := by decide +kernel
theorem dX2_removeCommonOddFactor_35 : decode cX2_removeCommonOddFactor 35 = .ok (.invokestatic 74, 3) := by decide +kernel
theorem dX2_removeCommonOddFactor_38 : decode cX2_removeCommonOddFactor 38 = .ok (.aload_n 0, 1) := by decide +kernel
theorem dX2_removeCommonOddFactor_39 : decode cX2_removeCommonOddFactor 39 = .ok (.iload_n 1, 1) := by decide +kernel
theorem dX2_removeCommonOddFactor_40 : decode cX2_removeCommonOddFactor 40 = .ok (.invokevirtual 78, 3) := by decide +kernel
theorem dX2_removeCommonOddFactor_43 : decode cX2_removeCommonOddFactor 43 = .ok (.astore_n 2, 1) := by decide +kernel
theorem dX2_removeCommonOddFactor_44 : decode cX2_removeCommonOddFactor 44 = .ok (.aload_n 2, 1) := by decide +kernel
theorem dX2_removeCommonOddFactor_45 : decode cX2_removeCommonOddFactor 45 = .ok (.iconst 0, 1) := by decide +kernel
theorem dX2_removeCommonOddFactor_46 : decode cX2_removeCommonOddFactor 46 = .ok (.laload, 1) := by decide +kernel
theorem dX2_removeCommonOddFactor_47 : decode cX2_removeCommonOddFactor 47 = .ok (.invokestatic 82, 3) := by decide +kernel
theorem dX2_removeCommonOddFactor_50 : decode cX2_removeCommonOddFactor 50 = .ok (.lstore_n 3, 1) := by decide +kernel
theorem dX2_removeCommonOddFactor_51 : decode cX2_removeCommonOddFactor 51 = .ok (.aload_n 0, 1) := by decide +kernel
theorem dX2_removeCommonOddFactor_52 : decode cX2_removeCommonOddFactor 52 = .ok (.getfield 9, 3) := by decide +kernel
theorem dX2_removeCommonOddFactor_55 : decode cX2_removeCommonOddFactor 55 = .ok (.aload_n 2, 1) := by decide +kernel
theorem dX2_removeCommonOddFactor_56 : decode cX2_removeCommonOddFactor 56 = .ok (.lload_n 3, 1) := by decide +kernel
theorem dX2_removeCommonOddFactor_57 : decode cX2_removeCommonOddFactor 57 = .ok (.iload_n 1, 1) := by decide +kernel
theorem dX2_removeCommonOddFactor_58 : decode cX2_removeCommonOddFactor 58 = .ok (.invokestatic 86, 3) := by decide +kernel
theorem dX2_removeCommonOddFactor_61 : decode cX2_removeCommonOddFactor 61 = .ok (.aload_n 0, 1) := by decide +kernel
theorem dX2_removeCommonOddFactor_62 : decode cX2_removeCommonOddFactor 62 = .ok (.getfield 15, 3) := by decide +kernel
theorem dX2_removeCommonOddFactor_65 : decode cX2_removeCommonOddFactor 65 = .ok (.aload_n 2, 1) := by decide +kernel
theorem dX2_removeCommonOddFactor_66 : decode cX2_removeCommonOddFactor 66 = .ok (.lload_n 3, 1) := by decide +kernel
theorem dX2_removeCommonOddFactor_67 : decode cX2_removeCommonOddFactor 67 = .ok (.iload_n 1, 1) := by decide +kernel
theorem dX2_removeCommonOddFactor_68 : decode cX2_removeCommonOddFactor 68 = .ok (.invokestatic 86, 3) := by decide +kernel
theorem dX2_removeCommonOddFactor_71 : decode cX2_removeCommonOddFactor 71 = .ok (.return_, 1) := by decide +kernel
set_option maxRecDepth 20000 in
theorem ggX2_removeTwos_X1_trailingZeros : GoodIn wsX2_removeTwos wsX1_trailingZeros := goodIn_r _ [4, 5, 6, 7, 8, 9, 10, 11, 12] (by decide +kernel) (by decide +kernel)
set_option maxRecDepth 20000 in
theorem gX2_removeTwos_X1_trailingZeros : GoodIn wsX2_removeTwos (va_wsS RX2 57 yX1_trailingZeros wsX1_trailingZeros) := goodIn_app (goodIn_of _ (by decide +kernel)) ggX2_removeTwos_X1_trailingZeros
set_option maxRecDepth 20000 in
theorem ggX2_removeTwos_X1_shiftRight : GoodIn wsX2_removeTwos wsX1_shiftRight := goodIn_r _ [15, 16, 17, 18, 3, 19] (by decide +kernel) (by decide +kernel)
set_option maxRecDepth 20000 in
theorem gX2_removeTwos_X1_shiftRight : GoodIn wsX2_removeTwos (va_wsS RX2 67 yX1_shiftRight wsX1_shiftRight) := goodIn_app (goodIn_of _ (by decide +kernel)) ggX2_removeTwos_X1_shiftRight
theorem dX2_removeTwos_0 : decode cX2_removeTwos 0 = .ok (.aload_n 0, 1) := by decide +kernel
theorem dX2_removeTwos_1 : decode cX2_removeTwos 1 = .ok (.aload_n 0, 1) := by decide +kernel
theorem dX2_removeTwos_2 : decode cX2_removeTwos 2 = .ok (.invokestatic 57, 3) := by decide +kernel
theorem dX2_removeTwos_5 : decode cX2_removeTwos 5 = .ok (.iload_n 1, 1) := by decide +kernel
theorem dX2_removeTwos_6 : decode cX2_removeTwos 6 = .ok (.invokestatic 67, 3) := by decide +kernel
theorem dX2_removeTwos_9 : decode cX2_removeTwos 9 = .ok (.return_, 1) := by decide +kernel
set_option maxRecDepth 20000 in
theorem ggX2_commonOddFactor_X1_compare : GoodIn wsX2_commonOddFactor wsX1_compare := goodIn_r _ [6] (by decide +kernel) (by decide +kernel)
set_option maxRecDepth 20000 in
theorem gX2_commonOddFactor_X1_compare : GoodIn wsX2_commonOddFactor (va_wsS RX2 90 yX1_compare wsX1_compare) := goodIn_app (goodIn_of _ (by decide +kernel)) ggX2_commonOddFactor_X1_compare
set_option maxRecDepth 20000 in
theorem ggX2_commonOddFactor_X1_subtractScaled : GoodIn wsX2_commonOddFactor wsX1_subtractScaled := goodIn_r _ [9, 10] (by decide +kernel) (by decide +kernel)
set_option maxRecDepth 20000 in
theorem gX2_commonOddFactor_X1_subtractScaled : GoodIn wsX2_commonOddFactor (va_wsS RX2 94 yX1_subtractScaled wsX1_subtractScaled) := goodIn_app (goodIn_of _ (by decide +kernel)) ggX2_commonOddFactor_X1_subtractScaled
set_option maxRecDepth 20000 in
theorem ggX2_commonOddFactor_X2_removeTwos : GoodIn wsX2_commonOddFactor wsX2_removeTwos := goodIn_r _ [14, 15, 16, 5, 17, 18, 19, 20, 21, 22, 23, 24, 25, 26, 27, 28, 10, 29, 30, 31] (by decide +kernel) (by decide +kernel)
set_option maxRecDepth 20000 in
theorem gX2_commonOddFactor_X2_removeTwos : GoodIn wsX2_commonOddFactor (va_wsS RX2 74 yX2_removeTwos wsX2_removeTwos) := goodIn_app (goodIn_of _ (by decide +kernel)) ggX2_commonOddFactor_X2_removeTwos
theorem dX2_commonOddFactor_0 : decode cX2_commonOddFactor 0 = .ok (.aload_n 0, 1) := by decide +kernel
theorem dX2_commonOddFactor_1 : decode cX2_commonOddFactor 1 = .ok (.getfield 18, 3) := by decide +kernel
theorem dX2_commonOddFactor_4 : decode cX2_commonOddFactor 4 = .ok (.astore_n 2, 1) := by decide +kernel
theorem dX2_commonOddFactor_5 : decode cX2_commonOddFactor 5 = .ok (.aload_n 0, 1) := by decide +kernel
theorem dX2_commonOddFactor_6 : decode cX2_commonOddFactor 6 = .ok (.getfield 21, 3) := by decide +kernel
theorem dX2_commonOddFactor_9 : decode cX2_commonOddFactor 9 = .ok (.astore_n 3, 1) := by decide +kernel
theorem dX2_commonOddFactor_10 : decode cX2_commonOddFactor 10 = .ok (.iload_n 1, 1) := by decide +kernel
theorem dX2_commonOddFactor_11 : decode cX2_commonOddFactor 11 = .ok (.istore 4, 2) := by decide +kernel
theorem dX2_commonOddFactor_13 : decode cX2_commonOddFactor 13 = .ok (.iconst 0, 1) := by decide +kernel
theorem dX2_commonOddFactor_14 : decode cX2_commonOddFactor 14 = .ok (.istore 5, 2) := by decide +kernel
theorem dX2_commonOddFactor_16 : decode cX2_commonOddFactor 16 = .ok (.iload 5, 2) := by decide +kernel
theorem dX2_commonOddFactor_18 : decode cX2_commonOddFactor 18 = .ok (.sipush 1344, 3) := by decide +kernel
theorem dX2_commonOddFactor_21 : decode cX2_commonOddFactor 21 = .ok (.if_icmp .ge 88, 3) := by decide +kernel
theorem dX2_commonOddFactor_24 : decode cX2_commonOddFactor 24 = .ok (.iload 4, 2) := by decide +kernel
theorem dX2_commonOddFactor_26 : decode cX2_commonOddFactor 26 = .ok (.iconst 1, 1) := by decide +kernel
theorem dX2_commonOddFactor_27 : decode cX2_commonOddFactor 27 = .ok (.if_icmp .le 31, 3) := by decide +kernel
theorem dX2_commonOddFactor_30 : decode cX2_commonOddFactor 30 = .ok (.aload_n 2, 1) := by decide +kernel
theorem dX2_commonOddFactor_31 : decode cX2_commonOddFactor 31 = .ok (.iload 4, 2) := by decide +kernel
theorem dX2_commonOddFactor_33 : decode cX2_commonOddFactor 33 = .ok (.iconst 1, 1) := by decide +kernel
theorem dX2_commonOddFactor_34 : decode cX2_commonOddFactor 34 = .ok (.isub, 1) := by decide +kernel
theorem dX2_commonOddFactor_35 : decode cX2_commonOddFactor 35 = .ok (.laload, 1) := by decide +kernel
theorem dX2_commonOddFactor_36 : decode cX2_commonOddFactor 36 = .ok (.lconst 0, 1) := by decide +kernel
theorem dX2_commonOddFactor_37 : decode cX2_commonOddFactor 37 = .ok (.lcmp, 1) := by decide +kernel
theorem dX2_commonOddFactor_38 : decode cX2_commonOddFactor 38 = .ok (.ifCond .ne 20, 3) := by decide +kernel
theorem dX2_commonOddFactor_41 : decode cX2_commonOddFactor 41 = .ok (.aload_n 3, 1) := by decide +kernel
theorem dX2_commonOddFactor_42 : decode cX2_commonOddFactor 42 = .ok (.iload 4, 2) := by decide +kernel
theorem dX2_commonOddFactor_44 : decode cX2_commonOddFactor 44 = .ok (.iconst 1, 1) := by decide +kernel
theorem dX2_commonOddFactor_45 : decode cX2_commonOddFactor 45 = .ok (.isub, 1) := by decide +kernel
theorem dX2_commonOddFactor_46 : decode cX2_commonOddFactor 46 = .ok (.laload, 1) := by decide +kernel
theorem dX2_commonOddFactor_47 : decode cX2_commonOddFactor 47 = .ok (.lconst 0, 1) := by decide +kernel
theorem dX2_commonOddFactor_48 : decode cX2_commonOddFactor 48 = .ok (.lcmp, 1) := by decide +kernel
theorem dX2_commonOddFactor_49 : decode cX2_commonOddFactor 49 = .ok (.ifCond .ne 9, 3) := by decide +kernel
theorem dX2_commonOddFactor_52 : decode cX2_commonOddFactor 52 = .ok (.iinc 4 (-1), 3) := by decide +kernel
theorem dX2_commonOddFactor_55 : decode cX2_commonOddFactor 55 = .ok (.goto (-31), 3) := by decide +kernel
theorem dX2_commonOddFactor_58 : decode cX2_commonOddFactor 58 = .ok (.aload_n 2, 1) := by decide +kernel
theorem dX2_commonOddFactor_59 : decode cX2_commonOddFactor 59 = .ok (.aload_n 3, 1) := by decide +kernel
theorem dX2_commonOddFactor_60 : decode cX2_commonOddFactor 60 = .ok (.iload 4, 2) := by decide +kernel
theorem dX2_commonOddFactor_62 : decode cX2_commonOddFactor 62 = .ok (.invokestatic 90, 3) := by decide +kernel
theorem dX2_commonOddFactor_65 : decode cX2_commonOddFactor 65 = .ok (.istore 6, 2) := by decide +kernel
theorem dX2_commonOddFactor_67 : decode cX2_commonOddFactor 67 = .ok (.iload 6, 2) := by decide +kernel
theorem dX2_commonOddFactor_69 : decode cX2_commonOddFactor 69 = .ok (.ifCond .ne 6, 3) := by decide +kernel
theorem dX2_commonOddFactor_72 : decode cX2_commonOddFactor 72 = .ok (.goto 37, 3) := by decide +kernel
theorem dX2_commonOddFactor_75 : decode cX2_commonOddFactor 75 = .ok (.iload 6, 2) := by decide +kernel
theorem dX2_commonOddFactor_77 : decode cX2_commonOddFactor 77 = .ok (.ifCond .ge 11, 3) := by decide +kernel
theorem dX2_commonOddFactor_80 : decode cX2_commonOddFactor 80 = .ok (.aload_n 2, 1) := by decide +kernel
theorem dX2_commonOddFactor_81 : decode cX2_commonOddFactor 81 = .ok (.astore 7, 2) := by decide +kernel
theorem dX2_commonOddFactor_83 : decode cX2_commonOddFactor 83 = .ok (.aload_n 3, 1) := by decide +kernel
theorem dX2_commonOddFactor_84 : decode cX2_commonOddFactor 84 = .ok (.astore_n 2, 1) := by decide +kernel
theorem dX2_commonOddFactor_85 : decode cX2_commonOddFactor 85 = .ok (.aload 7, 2) := by decide +kernel
theorem dX2_commonOddFactor_87 : decode cX2_commonOddFactor 87 = .ok (.astore_n 3, 1) := by decide +kernel
theorem dX2_commonOddFactor_88 : decode cX2_commonOddFactor 88 = .ok (.aload_n 2, 1) := by decide +kernel
theorem dX2_commonOddFactor_89 : decode cX2_commonOddFactor 89 = .ok (.iconst 0, 1) := by decide +kernel
theorem dX2_commonOddFactor_90 : decode cX2_commonOddFactor 90 = .ok (.lconst 1, 1) := by decide +kernel
theorem dX2_commonOddFactor_91 : decode cX2_commonOddFactor 91 = .ok (.aload_n 3, 1) := by decide +kernel
theorem dX2_commonOddFactor_92 : decode cX2_commonOddFactor 92 = .ok (.iload 4, 2) := by decide +kernel
theorem dX2_commonOddFactor_94 : decode cX2_commonOddFactor 94 = .ok (.invokestatic 94, 3) := by decide +kernel
theorem dX2_commonOddFactor_97 : decode cX2_commonOddFactor 97 = .ok (.aload_n 2, 1) := by decide +kernel
theorem dX2_commonOddFactor_98 : decode cX2_commonOddFactor 98 = .ok (.iload 4, 2) := by decide +kernel
theorem dX2_commonOddFactor_100 : decode cX2_commonOddFactor 100 = .ok (.invokestatic 74, 3) := by decide +kernel
theorem dX2_commonOddFactor_103 : decode cX2_commonOddFactor 103 = .ok (.iinc 5 1, 3) := by decide +kernel
theorem dX2_commonOddFactor_106 : decode cX2_commonOddFactor 106 = .ok (.goto (-90), 3) := by decide +kernel
theorem dX2_commonOddFactor_109 : decode cX2_commonOddFactor 109 = .ok (.aload_n 2, 1) := by decide +kernel
theorem dX2_commonOddFactor_110 : decode cX2_commonOddFactor 110 = .ok (.areturn, 1) := by decide +kernel
set_option maxRecDepth 20000 in
theorem ggX2_fitsLong_X2_lowBits : GoodIn wsX2_fitsLong wsX2_lowBits := goodIn_r _ [5] (by decide +kernel) (by decide +kernel)
set_option maxRecDepth 20000 in
theorem gX2_fitsLong_X2_lowBits : GoodIn wsX2_fitsLong (va_wsS RX2 53 yX2_lowBits wsX2_lowBits) := goodIn_app (goodIn_of _ (by decide +kernel)) ggX2_fitsLong_X2_lowBits
theorem dX2_fitsLong_0 : decode cX2_fitsLong 0 = .ok (.iconst 2, 1) := by decide +kernel
theorem dX2_fitsLong_1 : decode cX2_fitsLong 1 = .ok (.istore_n 2, 1) := by decide +kernel
theorem dX2_fitsLong_2 : decode cX2_fitsLong 2 = .ok (.iload_n 2, 1) := by decide +kernel
theorem dX2_fitsLong_3 : decode cX2_fitsLong 3 = .ok (.bipush 21, 2) := by decide +kernel
theorem dX2_fitsLong_5 : decode cX2_fitsLong 5 = .ok (.if_icmp .ge 19, 3) := by decide +kernel
theorem dX2_fitsLong_8 : decode cX2_fitsLong 8 = .ok (.aload_n 0, 1) := by decide +kernel
theorem dX2_fitsLong_9 : decode cX2_fitsLong 9 = .ok (.iload_n 2, 1) := by decide +kernel
theorem dX2_fitsLong_10 : decode cX2_fitsLong 10 = .ok (.laload, 1) := by decide +kernel
theorem dX2_fitsLong_11 : decode cX2_fitsLong 11 = .ok (.lconst 0, 1) := by decide +kernel
theorem dX2_fitsLong_12 : decode cX2_fitsLong 12 = .ok (.lcmp, 1) := by decide +kernel
theorem dX2_fitsLong_13 : decode cX2_fitsLong 13 = .ok (.ifCond .eq 5, 3) := by decide +kernel
theorem dX2_fitsLong_16 : decode cX2_fitsLong 16 = .ok (.iconst 0, 1) := by decide +kernel
theorem dX2_fitsLong_17 : decode cX2_fitsLong 17 = .ok (.ireturn, 1) := by decide +kernel
theorem dX2_fitsLong_18 : decode cX2_fitsLong 18 = .ok (.iinc 2 1, 3) := by decide +kernel
theorem dX2_fitsLong_21 : decode cX2_fitsLong 21 = .ok (.goto (-19), 3) := by decide +kernel
theorem dX2_fitsLong_24 : decode cX2_fitsLong 24 = .ok (.aload_n 0, 1) := by decide +kernel
theorem dX2_fitsLong_25 : decode cX2_fitsLong 25 = .ok (.invokestatic 53, 3) := by decide +kernel
theorem dX2_fitsLong_28 : decode cX2_fitsLong 28 = .ok (.lstore_n 2, 1) := by decide +kernel
theorem dX2_fitsLong_29 : decode cX2_fitsLong 29 = .ok (.lload_n 2, 1) := by decide +kernel
theorem dX2_fitsLong_30 : decode cX2_fitsLong 30 = .ok (.lconst 0, 1) := by decide +kernel
theorem dX2_fitsLong_31 : decode cX2_fitsLong 31 = .ok (.lcmp, 1) := by decide +kernel
theorem dX2_fitsLong_32 : decode cX2_fitsLong 32 = .ok (.ifCond .ge 15, 3) := by decide +kernel
theorem dX2_fitsLong_35 : decode cX2_fitsLong 35 = .ok (.iload_n 1, 1) := by decide +kernel
theorem dX2_fitsLong_36 : decode cX2_fitsLong 36 = .ok (.ifCond .eq 15, 3) := by decide +kernel
theorem dX2_fitsLong_39 : decode cX2_fitsLong 39 = .ok (.lload_n 2, 1) := by decide +kernel
theorem dX2_fitsLong_40 : decode cX2_fitsLong 40 = .ok (.ldc2_w 100, 3) := by decide +kernel
theorem dX2_fitsLong_43 : decode cX2_fitsLong 43 = .ok (.lcmp, 1) := by decide +kernel
theorem dX2_fitsLong_44 : decode cX2_fitsLong 44 = .ok (.ifCond .ne 7, 3) := by decide +kernel
theorem dX2_fitsLong_47 : decode cX2_fitsLong 47 = .ok (.iconst 1, 1) := by decide +kernel
theorem dX2_fitsLong_48 : decode cX2_fitsLong 48 = .ok (.goto 4, 3) := by decide +kernel
theorem dX2_fitsLong_51 : decode cX2_fitsLong 51 = .ok (.iconst 0, 1) := by decide +kernel
theorem dX2_fitsLong_52 : decode cX2_fitsLong 52 = .ok (.ireturn, 1) := by decide +kernel
theorem dX2_lowBits_0 : decode cX2_lowBits 0 = .ok (.aload_n 0, 1) := by decide +kernel
theorem dX2_lowBits_1 : decode cX2_lowBits 1 = .ok (.iconst 1, 1) := by decide +kernel
theorem dX2_lowBits_2 : decode cX2_lowBits 2 = .ok (.laload, 1) := by decide +kernel
theorem dX2_lowBits_3 : decode cX2_lowBits 3 = .ok (.bipush 32, 2) := by decide +kernel
theorem dX2_lowBits_5 : decode cX2_lowBits 5 = .ok (.lshl, 1) := by decide +kernel
theorem dX2_lowBits_6 : decode cX2_lowBits 6 = .ok (.aload_n 0, 1) := by decide +kernel
theorem dX2_lowBits_7 : decode cX2_lowBits 7 = .ok (.iconst 0, 1) := by decide +kernel
theorem dX2_lowBits_8 : decode cX2_lowBits 8 = .ok (.laload, 1) := by decide +kernel
theorem dX2_lowBits_9 : decode cX2_lowBits 9 = .ok (.lor, 1) := by decide +kernel
theorem dX2_lowBits_10 : decode cX2_lowBits 10 = .ok (.lreturn, 1) := by decide +kernel
set_option maxRecDepth 20000 in
theorem ggX3_init_X0_init : GoodIn wsX3_init wsX0_init := goodIn_r _ [21, 22, 2, 3, 23, 7, 24, 25, 26, 27, 28, 29, 30, 31, 32, 33, 50, 51, 52, 53, 54, 55, 56, 57, 58, 59] (by decide +kernel) (by decide +kernel)
set_option maxRecDepth 20000 in
theorem gX3_init_X0_init_n23 : GoodIn wsX3_init (wsX0_init) := ggX3_init_X0_init
set_option maxRecDepth 20000 in
theorem ggX3_init_X2_init : GoodIn wsX3_init wsX2_init := goodIn_r _ [35, 36, 2, 3, 7, 37, 38, 39, 40, 41, 42, 60, 61, 62, 63, 64, 65] (by decide +kernel) (by decide +kernel)
set_option maxRecDepth 20000 in
theorem gX3_init_X2_init_n30 : GoodIn wsX3_init (wsX2_init) := ggX3_init_X2_init
theorem dX3_init_0 : decode cX3_init 0 = .ok (.aload_n 0, 1) := by decide +kernel
theorem dX3_init_1 : decode cX3_init 1 = .ok (.invokespecial 3, 3) := by decide +kernel
theorem dX3_init_4 : decode cX3_init 4 = .ok (.aload_n 0, 1) := by decide +kernel
theorem dX3_init_5 : decode cX3_init 5 = .ok (.bipush 10, 2) := by decide +kernel
theorem dX3_init_7 : decode cX3_init 7 = .ok (.bipush 11, 2) := by decide +kernel
theorem dX3_init_9 : decode cX3_init 9 = .ok (.multianewarray 9 2, 4) := by decide +kernel
theorem dX3_init_13 : decode cX3_init 13 = .ok (.putfield 11, 3) := by decide +kernel
theorem dX3_init_16 : decode cX3_init 16 = .ok (.aload_n 0, 1) := by decide +kernel
theorem dX3_init_17 : decode cX3_init 17 = .ok (.bipush 10, 2) := by decide +kernel
theorem dX3_init_19 : decode cX3_init 19 = .ok (.newarray .long, 2) := by decide +kernel
theorem dX3_init_21 : decode cX3_init 21 = .ok (.putfield 14, 3) := by decide +kernel
theorem dX3_init_24 : decode cX3_init 24 = .ok (.aload_n 0, 1) := by decide +kernel
theorem dX3_init_25 : decode cX3_init 25 = .ok (.bipush 10, 2) := by decide +kernel
theorem dX3_init_27 : decode cX3_init 27 = .ok (.newarray .long, 2) := by decide +kernel
theorem dX3_init_29 : decode cX3_init 29 = .ok (.putfield 18, 3) := by decide +kernel
theorem dX3_init_32 : decode cX3_init 32 = .ok (.aload_n 0, 1) := by decide +kernel
theorem dX3_init_33 : decode cX3_init 33 = .ok (.new 21, 3) := by decide +kernel
theorem dX3_init_36 : decode cX3_init 36 = .ok (.dup, 1) := by decide +kernel
theorem dX3_init_37 : decode cX3_init 37 = .ok (.invokespecial 23, 3) := by decide +kernel
theorem dX3_init_40 : decode cX3_init 40 = .ok (.putfield 24, 3) := by decide +kernel
theorem dX3_init_43 : decode cX3_init 43 = .ok (.aload_n 0, 1) := by decide +kernel
theorem dX3_init_44 : decode cX3_init 44 = .ok (.new 28, 3) := by decide +kernel
theorem dX3_init_47 : decode cX3_init 47 = .ok (.dup, 1) := by decide +kernel
theorem dX3_init_48 : decode cX3_init 48 = .ok (.invokespecial 30, 3) := by decide +kernel
theorem dX3_init_51 : decode cX3_init 51 = .ok (.putfield 31, 3) := by decide +kernel
theorem dX3_init_54 : decode cX3_init 54 = .ok (.aload_n 0, 1) := by decide +kernel
theorem dX3_init_55 : decode cX3_init 55 = .ok (.iconst 1, 1) := by decide +kernel
theorem dX3_init_56 : decode cX3_init 56 = .ok (.putfield 35, 3) := by decide +kernel
theorem dX3_init_59 : decode cX3_init 59 = .ok (.aload_n 0, 1) := by decide +kernel
theorem dX3_init_60 : decode cX3_init 60 = .ok (.iconst 0, 1) := by decide +kernel
theorem dX3_init_61 : decode cX3_init 61 = .ok (.putfield 39, 3) := by decide +kernel
theorem dX3_init_64 : decode cX3_init 64 = .ok (.return_, 1) := by decide +kernel
set_option maxRecDepth 20000 in
theorem ggX3_begin_J7_fill_53178 : GoodIn wsX3_begin wsJ7_fill_53178 := goodIn_r _ [7] (by decide +kernel) (by decide +kernel)
set_option maxRecDepth 20000 in
theorem gX3_begin_J7_fill_53178 : GoodIn wsX3_begin (va_wsS RX3 43 yJ7_fill_53178 wsJ7_fill_53178) := goodIn_app (goodIn_of _ (by decide +kernel)) ggX3_begin_J7_fill_53178
theorem dX3_begin_0 : decode cX3_begin 0 = .ok (.iload_n 1, 1) := by decide +kernel
theorem dX3_begin_1 : decode cX3_begin 1 = .ok (.iconst 1, 1) := by decide +kernel
theorem dX3_begin_2 : decode cX3_begin 2 = .ok (.if_icmp .lt 9, 3) := by decide +kernel
theorem dX3_begin_5 : decode cX3_begin 5 = .ok (.iload_n 1, 1) := by decide +kernel
theorem dX3_begin_6 : decode cX3_begin 6 = .ok (.bipush 10, 2) := by decide +kernel
theorem dX3_begin_8 : decode cX3_begin 8 = .ok (.if_icmp .le 5, 3) := by decide +kernel
theorem dX3_begin_11 : decode cX3_begin 11 = .ok (.iconst 0, 1) := by decide +kernel
theorem dX3_begin_12 : decode cX3_begin 12 = .ok (.ireturn, 1) := by decide +kernel
theorem dX3_begin_13 : decode cX3_begin 13 = .ok (.iconst 0, 1) := by decide +kernel
theorem dX3_begin_14 : decode cX3_begin 14 = .ok (.istore_n 2, 1) := by decide +kernel
theorem dX3_begin_15 : decode cX3_begin 15 = .ok (.iload_n 2, 1) := by decide +kernel
theorem dX3_begin_16 : decode cX3_begin 16 = .ok (.bipush 10, 2) := by decide +kernel
theorem dX3_begin_18 : decode cX3_begin 18 = .ok (.if_icmp .ge 19, 3) := by decide +kernel
theorem dX3_begin_21 : decode cX3_begin 21 = .ok (.aload_n 0, 1) := by decide +kernel
theorem dX3_begin_22 : decode cX3_begin 22 = .ok (.getfield 11, 3) := by decide +kernel
theorem dX3_begin_25 : decode cX3_begin 25 = .ok (.iload_n 2, 1) := by decide +kernel
theorem dX3_begin_26 : decode cX3_begin 26 = .ok (.aaload, 1) := by decide +kernel
theorem dX3_begin_27 : decode cX3_begin 27 = .ok (.iconst 0, 1) := by decide +kernel
theorem dX3_begin_28 : decode cX3_begin 28 = .ok (.invokestatic 43, 3) := by decide +kernel
theorem dX3_begin_31 : decode cX3_begin 31 = .ok (.iinc 2 1, 3) := by decide +kernel
theorem dX3_begin_34 : decode cX3_begin 34 = .ok (.goto (-19), 3) := by decide +kernel
theorem dX3_begin_37 : decode cX3_begin 37 = .ok (.aload_n 0, 1) := by decide +kernel
theorem dX3_begin_38 : decode cX3_begin 38 = .ok (.iload_n 1, 1) := by decide +kernel
theorem dX3_begin_39 : decode cX3_begin 39 = .ok (.putfield 35, 3) := by decide +kernel
theorem dX3_begin_42 : decode cX3_begin 42 = .ok (.aload_n 0, 1) := by decide +kernel
theorem dX3_begin_43 : decode cX3_begin 43 = .ok (.iconst 0, 1) := by decide +kernel
theorem dX3_begin_44 : decode cX3_begin 44 = .ok (.putfield 39, 3) := by decide +kernel
theorem dX3_begin_47 : decode cX3_begin 47 = .ok (.iconst 1, 1) := by decide +kernel
theorem dX3_begin_48 : decode cX3_begin 48 = .ok (.ireturn, 1) := by decide +kernel
set_option maxRecDepth 20000 in
theorem ggX3_put_X3_hasNumber : GoodIn wsX3_put wsX3_hasNumber := goodIn_r _ [6, 7, 8, 9, 10, 11, 12, 13, 14] (by decide +kernel) (by decide +kernel)
set_option maxRecDepth 20000 in
theorem gX3_put_X3_hasNumber : GoodIn wsX3_put (wsV RX3 49 RX3 yX3_hasNumber wsX3_hasNumber) := goodIn_app (goodIn_of _ (by decide +kernel)) ggX3_put_X3_hasNumber
theorem dX3_put_0 : decode cX3_put 0 = .ok (.aload_n 0, 1) := by decide +kernel
theorem dX3_put_1 : decode cX3_put 1 = .ok (.iload_n 1, 1) := by decide +kernel
theorem dX3_put_2 : decode cX3_put 2 = .ok (.iload_n 2, 1) := by decide +kernel
theorem dX3_put_3 : decode cX3_put 3 = .ok (.invokevirtual 49, 3) := by decide +kernel
theorem dX3_put_6 : decode cX3_put 6 = .ok (.ifCond .ne 5, 3) := by decide +kernel
theorem dX3_put_9 : decode cX3_put 9 = .ok (.iconst 0, 1) := by decide +kernel
theorem dX3_put_10 : decode cX3_put 10 = .ok (.ireturn, 1) := by decide +kernel
theorem dX3_put_11 : decode cX3_put 11 = .ok (.aload_n 0, 1) := by decide +kernel
theorem dX3_put_12 : decode cX3_put 12 = .ok (.getfield 11, 3) := by decide +kernel
theorem dX3_put_15 : decode cX3_put 15 = .ok (.iload_n 1, 1) := by decide +kernel
theorem dX3_put_16 : decode cX3_put 16 = .ok (.aaload, 1) := by decide +kernel
theorem dX3_put_17 : decode cX3_put 17 = .ok (.iload_n 2, 1) := by decide +kernel
theorem dX3_put_18 : decode cX3_put 18 = .ok (.iload_n 3, 1) := by decide +kernel
theorem dX3_put_19 : decode cX3_put 19 = .ok (.iastore, 1) := by decide +kernel
theorem dX3_put_20 : decode cX3_put 20 = .ok (.iconst 1, 1) := by decide +kernel
theorem dX3_put_21 : decode cX3_put 21 = .ok (.ireturn, 1) := by decide +kernel
set_option maxRecDepth 20000 in
theorem ggX3_get_X3_hasNumber : GoodIn wsX3_get wsX3_hasNumber := goodIn_r _ [6, 7, 8, 9, 10, 11, 12, 13, 14] (by decide +kernel) (by decide +kernel)
set_option maxRecDepth 20000 in
theorem gX3_get_X3_hasNumber : GoodIn wsX3_get (wsV RX3 49 RX3 yX3_hasNumber wsX3_hasNumber) := goodIn_app (goodIn_of _ (by decide +kernel)) ggX3_get_X3_hasNumber
theorem dX3_get_0 : decode cX3_get 0 = .ok (.aload_n 0, 1) := by decide +kernel
theorem dX3_get_1 : decode cX3_get 1 = .ok (.iload_n 1, 1) := by decide +kernel
theorem dX3_get_2 : decode cX3_get 2 = .ok (.iload_n 2, 1) := by decide +kernel
theorem dX3_get_3 : decode cX3_get 3 = .ok (.invokevirtual 49, 3) := by decide +kernel
theorem dX3_get_6 : decode cX3_get 6 = .ok (.ifCond .eq 14, 3) := by decide +kernel
theorem dX3_get_9 : decode cX3_get 9 = .ok (.aload_n 0, 1) := by decide +kernel
theorem dX3_get_10 : decode cX3_get 10 = .ok (.getfield 11, 3) := by decide +kernel
theorem dX3_get_13 : decode cX3_get 13 = .ok (.iload_n 1, 1) := by decide +kernel
theorem dX3_get_14 : decode cX3_get 14 = .ok (.aaload, 1) := by decide +kernel
theorem dX3_get_15 : decode cX3_get 15 = .ok (.iload_n 2, 1) := by decide +kernel
theorem dX3_get_16 : decode cX3_get 16 = .ok (.iaload, 1) := by decide +kernel
theorem dX3_get_17 : decode cX3_get 17 = .ok (.goto 4, 3) := by decide +kernel
theorem dX3_get_20 : decode cX3_get 20 = .ok (.iconst 0, 1) := by decide +kernel
theorem dX3_get_21 : decode cX3_get 21 = .ok (.ireturn, 1) := by decide +kernel
set_option maxRecDepth 20000 in
theorem ggX3_solve_X0_reduce : GoodIn wsX3_solve wsX0_reduce := goodIn_r _ [12, 13, 14, 15, 16, 11, 17, 18, 19, 20, 21, 22, 23, 24, 25, 26, 27, 28, 29, 30, 31, 32, 33, 34, 35, 36, 37, 38, 39, 40, 41, 42, 43, 44, 45, 46, 47, 48, 49, 50, 51, 52, 53, 54, 55, 56, 57, 58, 59, 60, 61, 62, 63, 64, 65, 66, 67, 68, 69, 70, 71, 72, 73, 74, 75, 76, 77, 78, 79, 80, 81, 82, 83, 84, 85, 86, 87, 88, 89, 90, 91, 92, 93, 94, 95, 96, 97, 98, 99, 100, 101, 102, 103, 104, 105, 106, 107, 108, 109, 110, 111, 112, 113, 114, 115, 116, 117, 118, 119, 120, 121, 122, 123, 202, 203, 204, 205, 206, 207, 208, 209, 210, 211] (by decide +kernel) (by decide +kernel)
set_option maxRecDepth 20000 in
theorem gX3_solve_X0_reduce : GoodIn wsX3_solve (wsV RX3 53 RX0 yX0_reduce wsX0_reduce) := goodIn_app (goodIn_of _ (by decide +kernel)) ggX3_solve_X0_reduce
set_option maxRecDepth 20000 in
theorem ggX3_solve_X0_dividend : GoodIn wsX3_solve wsX0_dividend := goodIn_r _ [127, 13, 19, 20, 21, 11, 22, 23, 202, 203, 204, 205, 206, 207, 208, 209, 210, 211] (by decide +kernel) (by decide +kernel)
set_option maxRecDepth 20000 in
theorem gX3_solve_X0_dividend : GoodIn wsX3_solve (wsV RX3 57 RX0 yX0_dividend wsX0_dividend) := goodIn_app (goodIn_of _ (by decide +kernel)) ggX3_solve_X0_dividend
set_option maxRecDepth 20000 in
theorem ggX3_solve_X0_divisor : GoodIn wsX3_solve wsX0_divisor := goodIn_r _ [131, 13, 19, 20, 21, 11, 22, 23, 202, 203, 204, 205, 206, 207, 208, 209, 210, 211] (by decide +kernel) (by decide +kernel)
set_option maxRecDepth 20000 in
theorem gX3_solve_X0_divisor : GoodIn wsX3_solve (wsV RX3 61 RX0 yX0_divisor wsX0_divisor) := goodIn_app (goodIn_of _ (by decide +kernel)) ggX3_solve_X0_divisor
set_option maxRecDepth 20000 in
theorem ggX3_solve_X0_width : GoodIn wsX3_solve wsX0_width := goodIn_r _ [135, 13, 92, 93, 94, 11, 95, 18, 202, 203, 204, 205, 206, 207, 208, 209, 210, 211] (by decide +kernel) (by decide +kernel)
set_option maxRecDepth 20000 in
theorem gX3_solve_X0_width : GoodIn wsX3_solve (wsV RX3 65 RX0 yX0_width wsX0_width) := goodIn_app (goodIn_of _ (by decide +kernel)) ggX3_solve_X0_width
set_option maxRecDepth 20000 in
theorem ggX3_solve_X2_find : GoodIn wsX3_solve wsX2_find := goodIn_r _ [140, 141, 142, 143, 144, 145, 38, 26, 39, 146, 147, 148, 115, 116, 117, 149, 150, 151, 152, 153, 59, 60, 29, 30, 31, 32, 61, 62, 63, 28, 154, 65, 66, 67, 68, 69, 70, 155, 156, 157, 139, 158, 159, 53, 54, 55, 160, 72, 73, 74, 75, 76, 77, 78, 79, 80, 81, 161, 83, 84, 85, 86, 87, 162, 163, 164, 165, 166, 167, 168, 169, 170, 171, 172, 173, 174, 175, 176, 177, 178, 179, 180, 89, 90, 91, 181, 110, 111, 182, 183, 184, 185, 186, 187, 188, 196, 197, 198, 199, 200, 201] (by decide +kernel) (by decide +kernel)
set_option maxRecDepth 20000 in
theorem gX3_solve_X2_find : GoodIn wsX3_solve (wsV RX3 69 RX2 yX2_find wsX2_find) := goodIn_app (goodIn_of _ (by decide +kernel)) ggX3_solve_X2_find
theorem dX3_solve_0 : decode cX3_solve 0 = .ok (.aload_n 0, 1) := by decide +kernel
theorem dX3_solve_1 : decode cX3_solve 1 = .ok (.iconst 0, 1) := by decide +kernel
theorem dX3_solve_2 : decode cX3_solve 2 = .ok (.putfield 39, 3) := by decide +kernel
theorem dX3_solve_5 : decode cX3_solve 5 = .ok (.aload_n 0, 1) := by decide +kernel
theorem dX3_solve_6 : decode cX3_solve 6 = .ok (.getfield 24, 3) := by decide +kernel
theorem dX3_solve_9 : decode cX3_solve 9 = .ok (.aload_n 0, 1) := by decide +kernel
theorem dX3_solve_10 : decode cX3_solve 10 = .ok (.getfield 11, 3) := by decide +kernel
theorem dX3_solve_13 : decode cX3_solve 13 = .ok (.aload_n 0, 1) := by decide +kernel
theorem dX3_solve_14 : decode cX3_solve 14 = .ok (.getfield 35, 3) := by decide +kernel
theorem dX3_solve_17 : decode cX3_solve 17 = .ok (.invokevirtual 53, 3) := by decide +kernel
theorem dX3_solve_20 : decode cX3_solve 20 = .ok (.ifCond .ne 5, 3) := by decide +kernel
theorem dX3_solve_23 : decode cX3_solve 23 = .ok (.iconst (-1), 1) := by decide +kernel
theorem dX3_solve_24 : decode cX3_solve 24 = .ok (.ireturn, 1) := by decide +kernel
theorem dX3_solve_25 : decode cX3_solve 25 = .ok (.iconst 0, 1) := by decide +kernel
theorem dX3_solve_26 : decode cX3_solve 26 = .ok (.istore_n 1, 1) := by decide +kernel
theorem dX3_solve_27 : decode cX3_solve 27 = .ok (.iload_n 1, 1) := by decide +kernel
theorem dX3_solve_28 : decode cX3_solve 28 = .ok (.aload_n 0, 1) := by decide +kernel
theorem dX3_solve_29 : decode cX3_solve 29 = .ok (.getfield 35, 3) := by decide +kernel
theorem dX3_solve_32 : decode cX3_solve 32 = .ok (.if_icmp .ge 71, 3) := by decide +kernel
theorem dX3_solve_35 : decode cX3_solve 35 = .ok (.aload_n 0, 1) := by decide +kernel
theorem dX3_solve_36 : decode cX3_solve 36 = .ok (.getfield 31, 3) := by decide +kernel
theorem dX3_solve_39 : decode cX3_solve 39 = .ok (.aload_n 0, 1) := by decide +kernel
theorem dX3_solve_40 : decode cX3_solve 40 = .ok (.getfield 24, 3) := by decide +kernel
theorem dX3_solve_43 : decode cX3_solve 43 = .ok (.iload_n 1, 1) := by decide +kernel
theorem dX3_solve_44 : decode cX3_solve 44 = .ok (.invokevirtual 57, 3) := by decide +kernel
theorem dX3_solve_47 : decode cX3_solve 47 = .ok (.aload_n 0, 1) := by decide +kernel
theorem dX3_solve_48 : decode cX3_solve 48 = .ok (.getfield 24, 3) := by decide +kernel
theorem dX3_solve_51 : decode cX3_solve 51 = .ok (.invokevirtual 61, 3) := by decide +kernel
theorem dX3_solve_54 : decode cX3_solve 54 = .ok (.aload_n 0, 1) := by decide +kernel
theorem dX3_solve_55 : decode cX3_solve 55 = .ok (.getfield 24, 3) := by decide +kernel
theorem dX3_solve_58 : decode cX3_solve 58 = .ok (.invokevirtual 65, 3) := by decide +kernel
theorem dX3_solve_61 : decode cX3_solve 61 = .ok (.invokevirtual 69, 3) := by decide +kernel
theorem dX3_solve_64 : decode cX3_solve 64 = .ok (.ifCond .ne 7, 3) := by decide +kernel
theorem dX3_solve_67 : decode cX3_solve 67 = .ok (.iconst 1, 1) := by decide +kernel
theorem dX3_solve_68 : decode cX3_solve 68 = .ok (.iload_n 1, 1) := by decide +kernel
theorem dX3_solve_69 : decode cX3_solve 69 = .ok (.iadd, 1) := by decide +kernel
theorem dX3_solve_70 : decode cX3_solve 70 = .ok (.ireturn, 1) := by decide +kernel
theorem dX3_solve_71 : decode cX3_solve 71 = .ok (.aload_n 0, 1) := by decide +kernel
theorem dX3_solve_72 : decode cX3_solve 72 = .ok (.getfield 14, 3) := by decide +kernel
theorem dX3_solve_75 : decode cX3_solve 75 = .ok (.iload_n 1, 1) := by decide +kernel
theorem dX3_solve_76 : decode cX3_solve 76 = .ok (.aload_n 0, 1) := by decide +kernel
theorem dX3_solve_77 : decode cX3_solve 77 = .ok (.getfield 31, 3) := by decide +kernel
theorem dX3_solve_80 : decode cX3_solve 80 = .ok (.getfield 73, 3) := by decide +kernel
theorem dX3_solve_83 : decode cX3_solve 83 = .ok (.lastore, 1) := by decide +kernel
theorem dX3_solve_84 : decode cX3_solve 84 = .ok (.aload_n 0, 1) := by decide +kernel
theorem dX3_solve_85 : decode cX3_solve 85 = .ok (.getfield 18, 3) := by decide +kernel
theorem dX3_solve_88 : decode cX3_solve 88 = .ok (.iload_n 1, 1) := by decide +kernel
theorem dX3_solve_89 : decode cX3_solve 89 = .ok (.aload_n 0, 1) := by decide +kernel
theorem dX3_solve_90 : decode cX3_solve 90 = .ok (.getfield 31, 3) := by decide +kernel
theorem dX3_solve_93 : decode cX3_solve 93 = .ok (.getfield 77, 3) := by decide +kernel
theorem dX3_solve_96 : decode cX3_solve 96 = .ok (.lastore, 1) := by decide +kernel
theorem dX3_solve_97 : decode cX3_solve 97 = .ok (.iinc 1 1, 3) := by decide +kernel
theorem dX3_solve_100 : decode cX3_solve 100 = .ok (.goto (-73), 3) := by decide +kernel
theorem dX3_solve_103 : decode cX3_solve 103 = .ok (.aload_n 0, 1) := by decide +kernel
theorem dX3_solve_104 : decode cX3_solve 104 = .ok (.iconst 1, 1) := by decide +kernel
theorem dX3_solve_105 : decode cX3_solve 105 = .ok (.putfield 39, 3) := by decide +kernel
theorem dX3_solve_108 : decode cX3_solve 108 = .ok (.iconst 0, 1) := by decide +kernel
theorem dX3_solve_109 : decode cX3_solve 109 = .ok (.ireturn, 1) := by decide +kernel
set_option maxRecDepth 20000 in
theorem ggX3_above_X3_isTold : GoodIn wsX3_above wsX3_isTold := goodIn_r _ [6, 7, 8, 9, 10, 11, 12, 13, 14, 15] (by decide +kernel) (by decide +kernel)
set_option maxRecDepth 20000 in
theorem gX3_above_X3_isTold : GoodIn wsX3_above (wsV RX3 80 RX3 yX3_isTold wsX3_isTold) := goodIn_app (goodIn_of _ (by decide +kernel)) ggX3_above_X3_isTold
theorem dX3_above_0 : decode cX3_above 0 = .ok (.aload_n 0, 1) := by decide +kernel
theorem dX3_above_1 : decode cX3_above 1 = .ok (.iload_n 1, 1) := by decide +kernel
theorem dX3_above_2 : decode cX3_above 2 = .ok (.invokevirtual 80, 3) := by decide +kernel
theorem dX3_above_5 : decode cX3_above 5 = .ok (.ifCond .eq 12, 3) := by decide +kernel
theorem dX3_above_8 : decode cX3_above 8 = .ok (.aload_n 0, 1) := by decide +kernel
theorem dX3_above_9 : decode cX3_above 9 = .ok (.getfield 14, 3) := by decide +kernel
theorem dX3_above_12 : decode cX3_above 12 = .ok (.iload_n 1, 1) := by decide +kernel
theorem dX3_above_13 : decode cX3_above 13 = .ok (.laload, 1) := by decide +kernel
theorem dX3_above_14 : decode cX3_above 14 = .ok (.goto 4, 3) := by decide +kernel
theorem dX3_above_17 : decode cX3_above 17 = .ok (.lconst 0, 1) := by decide +kernel
theorem dX3_above_18 : decode cX3_above 18 = .ok (.lreturn, 1) := by decide +kernel
set_option maxRecDepth 20000 in
theorem ggX3_under_X3_isTold : GoodIn wsX3_under wsX3_isTold := goodIn_r _ [6, 7, 8, 9, 10, 11, 12, 13, 14, 15] (by decide +kernel) (by decide +kernel)
set_option maxRecDepth 20000 in
theorem gX3_under_X3_isTold : GoodIn wsX3_under (wsV RX3 80 RX3 yX3_isTold wsX3_isTold) := goodIn_app (goodIn_of _ (by decide +kernel)) ggX3_under_X3_isTold
theorem dX3_under_0 : decode cX3_under 0 = .ok (.aload_n 0, 1) := by decide +kernel
theorem dX3_under_1 : decode cX3_under 1 = .ok (.iload_n 1, 1) := by decide +kernel
theorem dX3_under_2 : decode cX3_under 2 = .ok (.invokevirtual 80, 3) := by decide +kernel
theorem dX3_under_5 : decode cX3_under 5 = .ok (.ifCond .eq 12, 3) := by decide +kernel
theorem dX3_under_8 : decode cX3_under 8 = .ok (.aload_n 0, 1) := by decide +kernel
theorem dX3_under_9 : decode cX3_under 9 = .ok (.getfield 18, 3) := by decide +kernel
theorem dX3_under_12 : decode cX3_under 12 = .ok (.iload_n 1, 1) := by decide +kernel
theorem dX3_under_13 : decode cX3_under 13 = .ok (.laload, 1) := by decide +kernel
theorem dX3_under_14 : decode cX3_under 14 = .ok (.goto 4, 3) := by decide +kernel
theorem dX3_under_17 : decode cX3_under 17 = .ok (.lconst 0, 1) := by decide +kernel
theorem dX3_under_18 : decode cX3_under 18 = .ok (.lreturn, 1) := by decide +kernel
theorem dX3_hasNumber_0 : decode cX3_hasNumber 0 = .ok (.iload_n 1, 1) := by decide +kernel
theorem dX3_hasNumber_1 : decode cX3_hasNumber 1 = .ok (.ifCond .lt 27, 3) := by decide +kernel
theorem dX3_hasNumber_4 : decode cX3_hasNumber 4 = .ok (.iload_n 1, 1) := by decide +kernel
theorem dX3_hasNumber_5 : decode cX3_hasNumber 5 = .ok (.aload_n 0, 1) := by decide +kernel
theorem dX3_hasNumber_6 : decode cX3_hasNumber 6 = .ok (.getfield 35, 3) := by decide +kernel
theorem dX3_hasNumber_9 : decode cX3_hasNumber 9 = .ok (.if_icmp .ge 19, 3) := by decide +kernel
theorem dX3_hasNumber_12 : decode cX3_hasNumber 12 = .ok (.iload_n 2, 1) := by decide +kernel
theorem dX3_hasNumber_13 : decode cX3_hasNumber 13 = .ok (.ifCond .lt 15, 3) := by decide +kernel
theorem dX3_hasNumber_16 : decode cX3_hasNumber 16 = .ok (.iload_n 2, 1) := by decide +kernel
theorem dX3_hasNumber_17 : decode cX3_hasNumber 17 = .ok (.aload_n 0, 1) := by decide +kernel
theorem dX3_hasNumber_18 : decode cX3_hasNumber 18 = .ok (.getfield 35, 3) := by decide +kernel
theorem dX3_hasNumber_21 : decode cX3_hasNumber 21 = .ok (.if_icmp .gt 7, 3) := by decide +kernel
theorem dX3_hasNumber_24 : decode cX3_hasNumber 24 = .ok (.iconst 1, 1) := by decide +kernel
theorem dX3_hasNumber_25 : decode cX3_hasNumber 25 = .ok (.goto 4, 3) := by decide +kernel
theorem dX3_hasNumber_28 : decode cX3_hasNumber 28 = .ok (.iconst 0, 1) := by decide +kernel
theorem dX3_hasNumber_29 : decode cX3_hasNumber 29 = .ok (.ireturn, 1) := by decide +kernel
theorem dX3_isTold_0 : decode cX3_isTold 0 = .ok (.aload_n 0, 1) := by decide +kernel
theorem dX3_isTold_1 : decode cX3_isTold 1 = .ok (.getfield 39, 3) := by decide +kernel
theorem dX3_isTold_4 : decode cX3_isTold 4 = .ok (.ifCond .eq 19, 3) := by decide +kernel
theorem dX3_isTold_7 : decode cX3_isTold 7 = .ok (.iload_n 1, 1) := by decide +kernel
theorem dX3_isTold_8 : decode cX3_isTold 8 = .ok (.ifCond .lt 15, 3) := by decide +kernel
theorem dX3_isTold_11 : decode cX3_isTold 11 = .ok (.iload_n 1, 1) := by decide +kernel
theorem dX3_isTold_12 : decode cX3_isTold 12 = .ok (.aload_n 0, 1) := by decide +kernel
theorem dX3_isTold_13 : decode cX3_isTold 13 = .ok (.getfield 35, 3) := by decide +kernel
theorem dX3_isTold_16 : decode cX3_isTold 16 = .ok (.if_icmp .ge 7, 3) := by decide +kernel
theorem dX3_isTold_19 : decode cX3_isTold 19 = .ok (.iconst 1, 1) := by decide +kernel
theorem dX3_isTold_20 : decode cX3_isTold 20 = .ok (.goto 4, 3) := by decide +kernel
theorem dX3_isTold_23 : decode cX3_isTold 23 = .ok (.iconst 0, 1) := by decide +kernel
theorem dX3_isTold_24 : decode cX3_isTold 24 = .ok (.ireturn, 1) := by decide +kernel
end
section
theorem dX4_init_0 : decode cX4_init 0 = .ok (.aload_n 0, 1) := by decide +kernel
theorem dX4_init_1 : decode cX4_init 1 = .ok (.invokespecial 3, 3) := by decide +kernel
theorem dX4_init_4 : decode cX4_init 4 = .ok (.aload_n 0, 1) := by decide +kernel
theorem dX4_init_5 : decode cX4_init 5 = .ok (.bipush 40, 2) := by decide +kernel
theorem dX4_init_7 : decode cX4_init 7 = .ok (.newarray .int, 2) := by decide +kernel
theorem dX4_init_9 : decode cX4_init 9 = .ok (.putfield 9, 3) := by decide +kernel
theorem dX4_init_12 : decode cX4_init 12 = .ok (.return_, 1) := by decide +kernel
theorem dX4_isZero_0 : decode cX4_isZero 0 = .ok (.aload_n 0, 1) := by decide +kernel
theorem dX4_isZero_1 : decode cX4_isZero 1 = .ok (.getfield 15, 3) := by decide +kernel
theorem dX4_isZero_4 : decode cX4_isZero 4 = .ok (.ifCond .ne 7, 3) := by decide +kernel
theorem dX4_isZero_7 : decode cX4_isZero 7 = .ok (.iconst 1, 1) := by decide +kernel
theorem dX4_isZero_8 : decode cX4_isZero 8 = .ok (.goto 4, 3) := by decide +kernel
theorem dX4_isZero_11 : decode cX4_isZero 11 = .ok (.iconst 0, 1) := by decide +kernel
theorem dX4_isZero_12 : decode cX4_isZero 12 = .ok (.ireturn, 1) := by decide +kernel
theorem dX4_set_0 : decode cX4_set 0 = .ok (.aload_n 0, 1) := by decide +kernel
theorem dX4_set_1 : decode cX4_set 1 = .ok (.lload_n 1, 1) := by decide +kernel
theorem dX4_set_2 : decode cX4_set 2 = .ok (.lconst 0, 1) := by decide +kernel
theorem dX4_set_3 : decode cX4_set 3 = .ok (.lcmp, 1) := by decide +kernel
theorem dX4_set_4 : decode cX4_set 4 = .ok (.ifCond .ge 7, 3) := by decide +kernel
theorem dX4_set_7 : decode cX4_set 7 = .ok (.iconst 1, 1) := by decide +kernel
theorem dX4_set_8 : decode cX4_set 8 = .ok (.goto 4, 3) := by decide +kernel
theorem dX4_set_11 : decode cX4_set 11 = .ok (.iconst 0, 1) := by decide +kernel
theorem dX4_set_12 : decode cX4_set 12 = .ok (.putfield 19, 3) := by decide +kernel
theorem dX4_set_15 : decode cX4_set 15 = .ok (.aload_n 0, 1) := by decide +kernel
theorem dX4_set_16 : decode cX4_set 16 = .ok (.iconst 0, 1) := by decide +kernel
theorem dX4_set_17 : decode cX4_set 17 = .ok (.putfield 15, 3) := by decide +kernel
theorem dX4_set_20 : decode cX4_set 20 = .ok (.lload_n 1, 1) := by decide +kernel
theorem dX4_set_21 : decode cX4_set 21 = .ok (.lstore_n 3, 1) := by decide +kernel
theorem dX4_set_22 : decode cX4_set 22 = .ok (.lload_n 3, 1) := by decide +kernel
theorem dX4_set_23 : decode cX4_set 23 = .ok (.lconst 0, 1) := by decide +kernel
theorem dX4_set_24 : decode cX4_set 24 = .ok (.lcmp, 1) := by decide +kernel
theorem dX4_set_25 : decode cX4_set 25 = .ok (.ifCond .eq 54, 3) := by decide +kernel
theorem dX4_set_28 : decode cX4_set 28 = .ok (.lload_n 3, 1) := by decide +kernel
theorem dX4_set_29 : decode cX4_set 29 = .ok (.ldc2_w 23, 3) := by decide +kernel
theorem dX4_set_32 : decode cX4_set 32 = .ok (.lrem, 1) := by decide +kernel
theorem dX4_set_33 : decode cX4_set 33 = .ok (.lstore 5, 2) := by decide +kernel
theorem dX4_set_35 : decode cX4_set 35 = .ok (.aload_n 0, 1) := by decide +kernel
theorem dX4_set_36 : decode cX4_set 36 = .ok (.getfield 9, 3) := by decide +kernel
theorem dX4_set_39 : decode cX4_set 39 = .ok (.aload_n 0, 1) := by decide +kernel
theorem dX4_set_40 : decode cX4_set 40 = .ok (.getfield 15, 3) := by decide +kernel
theorem dX4_set_43 : decode cX4_set 43 = .ok (.lload 5, 2) := by decide +kernel
theorem dX4_set_45 : decode cX4_set 45 = .ok (.lconst 0, 1) := by decide +kernel
theorem dX4_set_46 : decode cX4_set 46 = .ok (.lcmp, 1) := by decide +kernel
theorem dX4_set_47 : decode cX4_set 47 = .ok (.ifCond .ge 9, 3) := by decide +kernel
theorem dX4_set_50 : decode cX4_set 50 = .ok (.lload 5, 2) := by decide +kernel
theorem dX4_set_52 : decode cX4_set 52 = .ok (.lneg, 1) := by decide +kernel
theorem dX4_set_53 : decode cX4_set 53 = .ok (.goto 5, 3) := by decide +kernel
theorem dX4_set_56 : decode cX4_set 56 = .ok (.lload 5, 2) := by decide +kernel
theorem dX4_set_58 : decode cX4_set 58 = .ok (.l2i, 1) := by decide +kernel
theorem dX4_set_59 : decode cX4_set 59 = .ok (.iastore, 1) := by decide +kernel
theorem dX4_set_60 : decode cX4_set 60 = .ok (.lload_n 3, 1) := by decide +kernel
theorem dX4_set_61 : decode cX4_set 61 = .ok (.ldc2_w 23, 3) := by decide +kernel
theorem dX4_set_64 : decode cX4_set 64 = .ok (.ldiv, 1) := by decide +kernel
theorem dX4_set_65 : decode cX4_set 65 = .ok (.lstore_n 3, 1) := by decide +kernel
theorem dX4_set_66 : decode cX4_set 66 = .ok (.aload_n 0, 1) := by decide +kernel
theorem dX4_set_67 : decode cX4_set 67 = .ok (.dup, 1) := by decide +kernel
theorem dX4_set_68 : decode cX4_set 68 = .ok (.getfield 15, 3) := by decide +kernel
theorem dX4_set_71 : decode cX4_set 71 = .ok (.iconst 1, 1) := by decide +kernel
theorem dX4_set_72 : decode cX4_set 72 = .ok (.iadd, 1) := by decide +kernel
theorem dX4_set_73 : decode cX4_set 73 = .ok (.putfield 15, 3) := by decide +kernel
theorem dX4_set_76 : decode cX4_set 76 = .ok (.goto (-54), 3) := by decide +kernel
theorem dX4_set_79 : decode cX4_set 79 = .ok (.return_, 1) := by decide +kernel
theorem dX4_set__0 : decode cX4_set_ 0 = .ok (.aload_n 0, 1) := by decide +kernel
theorem dX4_set__1 : decode cX4_set_ 1 = .ok (.aload_n 1, 1) := by decide +kernel
theorem dX4_set__2 : decode cX4_set_ 2 = .ok (.getfield 19, 3) := by decide +kernel
theorem dX4_set__5 : decode cX4_set_ 5 = .ok (.putfield 19, 3) := by decide +kernel
theorem dX4_set__8 : decode cX4_set_ 8 = .ok (.aload_n 0, 1) := by decide +kernel
theorem dX4_set__9 : decode cX4_set_ 9 = .ok (.aload_n 1, 1) := by decide +kernel
theorem dX4_set__10 : decode cX4_set_ 10 = .ok (.getfield 15, 3) := by decide +kernel
theorem dX4_set__13 : decode cX4_set_ 13 = .ok (.putfield 15, 3) := by decide +kernel
theorem dX4_set__16 : decode cX4_set_ 16 = .ok (.iconst 0, 1) := by decide +kernel
theorem dX4_set__17 : decode cX4_set_ 17 = .ok (.istore_n 2, 1) := by decide +kernel
theorem dX4_set__18 : decode cX4_set_ 18 = .ok (.iload_n 2, 1) := by decide +kernel
theorem dX4_set__19 : decode cX4_set_ 19 = .ok (.aload_n 0, 1) := by decide +kernel
theorem dX4_set__20 : decode cX4_set_ 20 = .ok (.getfield 15, 3) := by decide +kernel
theorem dX4_set__23 : decode cX4_set_ 23 = .ok (.if_icmp .ge 21, 3) := by decide +kernel
theorem dX4_set__26 : decode cX4_set_ 26 = .ok (.aload_n 0, 1) := by decide +kernel
theorem dX4_set__27 : decode cX4_set_ 27 = .ok (.getfield 9, 3) := by decide +kernel
theorem dX4_set__30 : decode cX4_set_ 30 = .ok (.iload_n 2, 1) := by decide +kernel
theorem dX4_set__31 : decode cX4_set_ 31 = .ok (.aload_n 1, 1) := by decide +kernel
theorem dX4_set__32 : decode cX4_set_ 32 = .ok (.getfield 9, 3) := by decide +kernel
theorem dX4_set__35 : decode cX4_set_ 35 = .ok (.iload_n 2, 1) := by decide +kernel
theorem dX4_set__36 : decode cX4_set_ 36 = .ok (.iaload, 1) := by decide +kernel
theorem dX4_set__37 : decode cX4_set_ 37 = .ok (.iastore, 1) := by decide +kernel
theorem dX4_set__38 : decode cX4_set_ 38 = .ok (.iinc 2 1, 3) := by decide +kernel
theorem dX4_set__41 : decode cX4_set_ 41 = .ok (.goto (-23), 3) := by decide +kernel
theorem dX4_set__44 : decode cX4_set_ 44 = .ok (.return_, 1) := by decide +kernel
theorem dX4_trim_0 : decode cX4_trim 0 = .ok (.aload_n 0, 1) := by decide +kernel
theorem dX4_trim_1 : decode cX4_trim 1 = .ok (.iload_n 1, 1) := by decide +kernel
theorem dX4_trim_2 : decode cX4_trim 2 = .ok (.putfield 15, 3) := by decide +kernel
theorem dX4_trim_5 : decode cX4_trim 5 = .ok (.aload_n 0, 1) := by decide +kernel
theorem dX4_trim_6 : decode cX4_trim 6 = .ok (.getfield 15, 3) := by decide +kernel
theorem dX4_trim_9 : decode cX4_trim 9 = .ok (.ifCond .le 30, 3) := by decide +kernel
theorem dX4_trim_12 : decode cX4_trim 12 = .ok (.aload_n 0, 1) := by decide +kernel
theorem dX4_trim_13 : decode cX4_trim 13 = .ok (.getfield 9, 3) := by decide +kernel
theorem dX4_trim_16 : decode cX4_trim 16 = .ok (.aload_n 0, 1) := by decide +kernel
theorem dX4_trim_17 : decode cX4_trim 17 = .ok (.getfield 15, 3) := by decide +kernel
theorem dX4_trim_20 : decode cX4_trim 20 = .ok (.iconst 1, 1) := by decide +kernel
theorem dX4_trim_21 : decode cX4_trim 21 = .ok (.isub, 1) := by decide +kernel
theorem dX4_trim_22 : decode cX4_trim 22 = .ok (.iaload, 1) := by decide +kernel
theorem dX4_trim_23 : decode cX4_trim 23 = .ok (.ifCond .ne 16, 3) := by decide +kernel
theorem dX4_trim_26 : decode cX4_trim 26 = .ok (.aload_n 0, 1) := by decide +kernel
theorem dX4_trim_27 : decode cX4_trim 27 = .ok (.dup, 1) := by decide +kernel
theorem dX4_trim_28 : decode cX4_trim 28 = .ok (.getfield 15, 3) := by decide +kernel
theorem dX4_trim_31 : decode cX4_trim 31 = .ok (.iconst 1, 1) := by decide +kernel
theorem dX4_trim_32 : decode cX4_trim 32 = .ok (.isub, 1) := by decide +kernel
theorem dX4_trim_33 : decode cX4_trim 33 = .ok (.putfield 15, 3) := by decide +kernel
theorem dX4_trim_36 : decode cX4_trim 36 = .ok (.goto (-31), 3) := by decide +kernel
theorem dX4_trim_39 : decode cX4_trim 39 = .ok (.aload_n 0, 1) := by decide +kernel
theorem dX4_trim_40 : decode cX4_trim 40 = .ok (.getfield 15, 3) := by decide +kernel
theorem dX4_trim_43 : decode cX4_trim 43 = .ok (.ifCond .ne 8, 3) := by decide +kernel
theorem dX4_trim_46 : decode cX4_trim 46 = .ok (.aload_n 0, 1) := by decide +kernel
theorem dX4_trim_47 : decode cX4_trim 47 = .ok (.iconst 0, 1) := by decide +kernel
theorem dX4_trim_48 : decode cX4_trim 48 = .ok (.putfield 19, 3) := by decide +kernel
theorem dX4_trim_51 : decode cX4_trim 51 = .ok (.return_, 1) := by decide +kernel
theorem dX4_compare_0 : decode cX4_compare 0 = .ok (.aload_n 0, 1) := by decide +kernel
theorem dX4_compare_1 : decode cX4_compare 1 = .ok (.getfield 15, 3) := by decide +kernel
theorem dX4_compare_4 : decode cX4_compare 4 = .ok (.aload_n 1, 1) := by decide +kernel
theorem dX4_compare_5 : decode cX4_compare 5 = .ok (.getfield 15, 3) := by decide +kernel
theorem dX4_compare_8 : decode cX4_compare 8 = .ok (.if_icmp .eq 20, 3) := by decide +kernel
theorem dX4_compare_11 : decode cX4_compare 11 = .ok (.aload_n 0, 1) := by decide +kernel
theorem dX4_compare_12 : decode cX4_compare 12 = .ok (.getfield 15, 3) := by decide +kernel
theorem dX4_compare_15 : decode cX4_compare 15 = .ok (.aload_n 1, 1) := by decide +kernel
theorem dX4_compare_16 : decode cX4_compare 16 = .ok (.getfield 15, 3) := by decide +kernel
theorem dX4_compare_19 : decode cX4_compare 19 = .ok (.if_icmp .ge 7, 3) := by decide +kernel
theorem dX4_compare_22 : decode cX4_compare 22 = .ok (.iconst (-1), 1) := by decide +kernel
theorem dX4_compare_23 : decode cX4_compare 23 = .ok (.goto 4, 3) := by decide +kernel
theorem dX4_compare_26 : decode cX4_compare 26 = .ok (.iconst 1, 1) := by decide +kernel
theorem dX4_compare_27 : decode cX4_compare 27 = .ok (.ireturn, 1) := by decide +kernel
theorem dX4_compare_28 : decode cX4_compare 28 = .ok (.aload_n 0, 1) := by decide +kernel
theorem dX4_compare_29 : decode cX4_compare 29 = .ok (.getfield 15, 3) := by decide +kernel
theorem dX4_compare_32 : decode cX4_compare 32 = .ok (.iconst 1, 1) := by decide +kernel
theorem dX4_compare_33 : decode cX4_compare 33 = .ok (.isub, 1) := by decide +kernel
theorem dX4_compare_34 : decode cX4_compare 34 = .ok (.istore_n 2, 1) := by decide +kernel
theorem dX4_compare_35 : decode cX4_compare 35 = .ok (.iload_n 2, 1) := by decide +kernel
theorem dX4_compare_36 : decode cX4_compare 36 = .ok (.ifCond .lt 45, 3) := by decide +kernel
theorem dX4_compare_39 : decode cX4_compare 39 = .ok (.aload_n 0, 1) := by decide +kernel
theorem dX4_compare_40 : decode cX4_compare 40 = .ok (.getfield 9, 3) := by decide +kernel
theorem dX4_compare_43 : decode cX4_compare 43 = .ok (.iload_n 2, 1) := by decide +kernel
theorem dX4_compare_44 : decode cX4_compare 44 = .ok (.iaload, 1) := by decide +kernel
theorem dX4_compare_45 : decode cX4_compare 45 = .ok (.aload_n 1, 1) := by decide +kernel
theorem dX4_compare_46 : decode cX4_compare 46 = .ok (.getfield 9, 3) := by decide +kernel
theorem dX4_compare_49 : decode cX4_compare 49 = .ok (.iload_n 2, 1) := by decide +kernel
theorem dX4_compare_50 : decode cX4_compare 50 = .ok (.iaload, 1) := by decide +kernel
theorem dX4_compare_51 : decode cX4_compare 51 = .ok (.if_icmp .eq 24, 3) := by decide +kernel
theorem dX4_compare_54 : decode cX4_compare 54 = .ok (.aload_n 0, 1) := by decide +kernel
theorem dX4_compare_55 : decode cX4_compare 55 = .ok (.getfield 9, 3) := by decide +kernel
theorem dX4_compare_58 : decode cX4_compare 58 = .ok (.iload_n 2, 1) := by decide +kernel
theorem dX4_compare_59 : decode cX4_compare 59 = .ok (.iaload, 1) := by decide +kernel
theorem dX4_compare_60 : decode cX4_compare 60 = .ok (.aload_n 1, 1) := by decide +kernel
theorem dX4_compare_61 : decode cX4_compare 61 = .ok (.getfield 9, 3) := by decide +kernel
theorem dX4_compare_64 : decode cX4_compare 64 = .ok (.iload_n 2, 1) := by decide +kernel
theorem dX4_compare_65 : decode cX4_compare 65 = .ok (.iaload, 1) := by decide +kernel
theorem dX4_compare_66 : decode cX4_compare 66 = .ok (.if_icmp .ge 7, 3) := by decide +kernel
theorem dX4_compare_69 : decode cX4_compare 69 = .ok (.iconst (-1), 1) := by decide +kernel
theorem dX4_compare_70 : decode cX4_compare 70 = .ok (.goto 4, 3) := by decide +kernel
theorem dX4_compare_73 : decode cX4_compare 73 = .ok (.iconst 1, 1) := by decide +kernel
theorem dX4_compare_74 : decode cX4_compare 74 = .ok (.ireturn, 1) := by decide +kernel
theorem dX4_compare_75 : decode cX4_compare 75 = .ok (.iinc 2 (-1), 3) := by decide +kernel
theorem dX4_compare_78 : decode cX4_compare 78 = .ok (.goto (-43), 3) := by decide +kernel
theorem dX4_compare_81 : decode cX4_compare 81 = .ok (.iconst 0, 1) := by decide +kernel
theorem dX4_compare_82 : decode cX4_compare 82 = .ok (.ireturn, 1) := by decide +kernel
set_option maxRecDepth 20000 in
theorem ggX4_product_X4_trim : GoodIn wsX4_product wsX4_trim := goodIn_r _ [13, 2, 1, 4, 14, 15, 16, 17] (by decide +kernel) (by decide +kernel)
set_option maxRecDepth 20000 in
theorem gX4_product_X4_trim : GoodIn wsX4_product (wsV RX4 33 RX4 yX4_trim wsX4_trim) := goodIn_app (goodIn_of _ (by decide +kernel)) ggX4_product_X4_trim
theorem dX4_product_0 : decode cX4_product 0 = .ok (.iconst 0, 1) := by decide +kernel
theorem dX4_product_1 : decode cX4_product 1 = .ok (.istore_n 3, 1) := by decide +kernel
theorem dX4_product_2 : decode cX4_product 2 = .ok (.iload_n 3, 1) := by decide +kernel
theorem dX4_product_3 : decode cX4_product 3 = .ok (.bipush 40, 2) := by decide +kernel
theorem dX4_product_5 : decode cX4_product 5 = .ok (.if_icmp .ge 16, 3) := by decide +kernel
theorem dX4_product_8 : decode cX4_product 8 = .ok (.aload_n 0, 1) := by decide +kernel
theorem dX4_product_9 : decode cX4_product 9 = .ok (.getfield 9, 3) := by decide +kernel
theorem dX4_product_12 : decode cX4_product 12 = .ok (.iload_n 3, 1) := by decide +kernel
theorem dX4_product_13 : decode cX4_product 13 = .ok (.iconst 0, 1) := by decide +kernel
theorem dX4_product_14 : decode cX4_product 14 = .ok (.iastore, 1) := by decide +kernel
theorem dX4_product_15 : decode cX4_product 15 = .ok (.iinc 3 1, 3) := by decide +kernel
theorem dX4_product_18 : decode cX4_product 18 = .ok (.goto (-16), 3) := by decide +kernel
theorem dX4_product_21 : decode cX4_product 21 = .ok (.iconst 0, 1) := by decide +kernel
theorem dX4_product_22 : decode cX4_product 22 = .ok (.istore_n 3, 1) := by decide +kernel
theorem dX4_product_23 : decode cX4_product 23 = .ok (.iload_n 3, 1) := by decide +kernel
theorem dX4_product_24 : decode cX4_product 24 = .ok (.aload_n 1, 1) := by decide +kernel
theorem dX4_product_25 : decode cX4_product 25 = .ok (.getfield 15, 3) := by decide +kernel
theorem dX4_product_28 : decode cX4_product 28 = .ok (.if_icmp .ge 105, 3) := by decide +kernel
theorem dX4_product_31 : decode cX4_product 31 = .ok (.lconst 0, 1) := by decide +kernel
theorem dX4_product_32 : decode cX4_product 32 = .ok (.lstore 4, 2) := by decide +kernel
theorem dX4_product_34 : decode cX4_product 34 = .ok (.iconst 0, 1) := by decide +kernel
theorem dX4_product_35 : decode cX4_product 35 = .ok (.istore 6, 2) := by decide +kernel
theorem dX4_product_37 : decode cX4_product 37 = .ok (.iload 6, 2) := by decide +kernel
theorem dX4_product_39 : decode cX4_product 39 = .ok (.aload_n 2, 1) := by decide +kernel
theorem dX4_product_40 : decode cX4_product 40 = .ok (.getfield 15, 3) := by decide +kernel
theorem dX4_product_43 : decode cX4_product 43 = .ok (.if_icmp .lt 10, 3) := by decide +kernel
theorem dX4_product_46 : decode cX4_product 46 = .ok (.lload 4, 2) := by decide +kernel
theorem dX4_product_48 : decode cX4_product 48 = .ok (.lconst 0, 1) := by decide +kernel
theorem dX4_product_49 : decode cX4_product 49 = .ok (.lcmp, 1) := by decide +kernel
theorem dX4_product_50 : decode cX4_product 50 = .ok (.ifCond .le 77, 3) := by decide +kernel
theorem dX4_product_53 : decode cX4_product 53 = .ok (.aload_n 0, 1) := by decide +kernel
theorem dX4_product_54 : decode cX4_product 54 = .ok (.getfield 9, 3) := by decide +kernel
theorem dX4_product_57 : decode cX4_product 57 = .ok (.iload_n 3, 1) := by decide +kernel
theorem dX4_product_58 : decode cX4_product 58 = .ok (.iload 6, 2) := by decide +kernel
theorem dX4_product_60 : decode cX4_product 60 = .ok (.iadd, 1) := by decide +kernel
theorem dX4_product_61 : decode cX4_product 61 = .ok (.iaload, 1) := by decide +kernel
theorem dX4_product_62 : decode cX4_product 62 = .ok (.i2l, 1) := by decide +kernel
theorem dX4_product_63 : decode cX4_product 63 = .ok (.lload 4, 2) := by decide +kernel
theorem dX4_product_65 : decode cX4_product 65 = .ok (.ladd, 1) := by decide +kernel
theorem dX4_product_66 : decode cX4_product 66 = .ok (.iload 6, 2) := by decide +kernel
theorem dX4_product_68 : decode cX4_product 68 = .ok (.aload_n 2, 1) := by decide +kernel
theorem dX4_product_69 : decode cX4_product 69 = .ok (.getfield 15, 3) := by decide +kernel
theorem dX4_product_72 : decode cX4_product 72 = .ok (.if_icmp .ge 22, 3) := by decide +kernel
theorem dX4_product_75 : decode cX4_product 75 = .ok (.aload_n 1, 1) := by decide +kernel
theorem dX4_product_76 : decode cX4_product 76 = .ok (.getfield 9, 3) := by decide +kernel
theorem dX4_product_79 : decode cX4_product 79 = .ok (.iload_n 3, 1) := by decide +kernel
theorem dX4_product_80 : decode cX4_product 80 = .ok (.iaload, 1) := by decide +kernel
theorem dX4_product_81 : decode cX4_product 81 = .ok (.i2l, 1) := by decide +kernel
theorem dX4_product_82 : decode cX4_product 82 = .ok (.aload_n 2, 1) := by decide +kernel
theorem dX4_product_83 : decode cX4_product 83 = .ok (.getfield 9, 3) := by decide +kernel
theorem dX4_product_86 : decode cX4_product 86 = .ok (.iload 6, 2) := by decide +kernel
theorem dX4_product_88 : decode cX4_product 88 = .ok (.iaload, 1) := by decide +kernel
theorem dX4_product_89 : decode cX4_product 89 = .ok (.i2l, 1) := by decide +kernel
theorem dX4_product_90 : decode cX4_product 90 = .ok (.lmul, 1) := by decide +kernel
theorem dX4_product_91 : decode cX4_product 91 = .ok (.goto 4, 3) := by decide +kernel
theorem dX4_product_94 : decode cX4_product 94 = .ok (.lconst 0, 1) := by decide +kernel
theorem dX4_product_95 : decode cX4_product 95 = .ok (.ladd, 1) := by decide +kernel
theorem dX4_product_96 : decode cX4_product 96 = .ok (.lstore 7, 2) := by decide +kernel
theorem dX4_product_98 : decode cX4_product 98 = .ok (.aload_n 0, 1) := by decide +kernel
theorem dX4_product_99 : decode cX4_product 99 = .ok (.getfield 9, 3) := by decide +kernel
theorem dX4_product_102 : decode cX4_product 102 = .ok (.iload_n 3, 1) := by decide +kernel
theorem dX4_product_103 : decode cX4_product 103 = .ok (.iload 6, 2) := by decide +kernel
theorem dX4_product_105 : decode cX4_product 105 = .ok (.iadd, 1) := by decide +kernel
theorem dX4_product_106 : decode cX4_product 106 = .ok (.lload 7, 2) := by decide +kernel
theorem dX4_product_108 : decode cX4_product 108 = .ok (.ldc2_w 25, 3) := by decide +kernel
theorem dX4_product_111 : decode cX4_product 111 = .ok (.land, 1) := by decide +kernel
theorem dX4_product_112 : decode cX4_product 112 = .ok (.l2i, 1) := by decide +kernel
theorem dX4_product_113 : decode cX4_product 113 = .ok (.iastore, 1) := by decide +kernel
theorem dX4_product_114 : decode cX4_product 114 = .ok (.lload 7, 2) := by decide +kernel
theorem dX4_product_116 : decode cX4_product 116 = .ok (.bipush 28, 2) := by decide +kernel
theorem dX4_product_118 : decode cX4_product 118 = .ok (.lshr, 1) := by decide +kernel
theorem dX4_product_119 : decode cX4_product 119 = .ok (.lstore 4, 2) := by decide +kernel
theorem dX4_product_121 : decode cX4_product 121 = .ok (.iinc 6 1, 3) := by decide +kernel
theorem dX4_product_124 : decode cX4_product 124 = .ok (.goto (-87), 3) := by decide +kernel
theorem dX4_product_127 : decode cX4_product 127 = .ok (.iinc 3 1, 3) := by decide +kernel
theorem dX4_product_130 : decode cX4_product 130 = .ok (.goto (-107), 3) := by decide +kernel
theorem dX4_product_133 : decode cX4_product 133 = .ok (.aload_n 0, 1) := by decide +kernel
theorem dX4_product_134 : decode cX4_product 134 = .ok (.aload_n 1, 1) := by decide +kernel
theorem dX4_product_135 : decode cX4_product 135 = .ok (.getfield 19, 3) := by decide +kernel
theorem dX4_product_138 : decode cX4_product 138 = .ok (.aload_n 2, 1) := by decide +kernel
theorem dX4_product_139 : decode cX4_product 139 = .ok (.getfield 19, 3) := by decide +kernel
theorem dX4_product_142 : decode cX4_product 142 = .ok (.if_icmp .eq 7, 3) := by decide +kernel
theorem dX4_product_145 : decode cX4_product 145 = .ok (.iconst 1, 1) := by decide +kernel
theorem dX4_product_146 : decode cX4_product 146 = .ok (.goto 4, 3) := by decide +kernel
theorem dX4_product_149 : decode cX4_product 149 = .ok (.iconst 0, 1) := by decide +kernel
theorem dX4_product_150 : decode cX4_product 150 = .ok (.putfield 19, 3) := by decide +kernel
theorem dX4_product_153 : decode cX4_product 153 = .ok (.aload_n 0, 1) := by decide +kernel
theorem dX4_product_154 : decode cX4_product 154 = .ok (.bipush 40, 2) := by decide +kernel
theorem dX4_product_156 : decode cX4_product 156 = .ok (.aload_n 1, 1) := by decide +kernel
theorem dX4_product_157 : decode cX4_product 157 = .ok (.getfield 15, 3) := by decide +kernel
theorem dX4_product_160 : decode cX4_product 160 = .ok (.aload_n 2, 1) := by decide +kernel
theorem dX4_product_161 : decode cX4_product 161 = .ok (.getfield 15, 3) := by decide +kernel
theorem dX4_product_164 : decode cX4_product 164 = .ok (.iadd, 1) := by decide +kernel
theorem dX4_product_165 : decode cX4_product 165 = .ok (.iconst 1, 1) := by decide +kernel
theorem dX4_product_166 : decode cX4_product 166 = .ok (.iadd, 1) := by decide +kernel
theorem dX4_product_167 : decode cX4_product 167 = .ok (.invokestatic 27, 3) := by decide +kernel
theorem dX4_product_170 : decode cX4_product 170 = .ok (.invokevirtual 33, 3) := by decide +kernel
theorem dX4_product_173 : decode cX4_product 173 = .ok (.return_, 1) := by decide +kernel
set_option maxRecDepth 20000 in
theorem ggX4_take_X4_addAmount : GoodIn wsX4_take wsX4_addAmount := goodIn_r _ [7, 2, 1, 8, 9, 10, 11, 12, 13, 14, 15, 16, 6, 17, 26, 27, 28, 29] (by decide +kernel) (by decide +kernel)
set_option maxRecDepth 20000 in
theorem gX4_take_X4_addAmount : GoodIn wsX4_take (wsV RX4 37 RX4 yX4_addAmount wsX4_addAmount) := goodIn_app (goodIn_of _ (by decide +kernel)) ggX4_take_X4_addAmount
set_option maxRecDepth 20000 in
theorem ggX4_take_X4_compare : GoodIn wsX4_take wsX4_compare := goodIn_r _ [21, 2, 12, 26, 27, 28, 29] (by decide +kernel) (by decide +kernel)
set_option maxRecDepth 20000 in
theorem gX4_take_X4_compare : GoodIn wsX4_take (wsV RX4 41 RX4 yX4_compare wsX4_compare) := goodIn_app (goodIn_of _ (by decide +kernel)) ggX4_take_X4_compare
set_option maxRecDepth 20000 in
theorem ggX4_take_X4_takeAmount : GoodIn wsX4_take wsX4_takeAmount := goodIn_r _ [25, 2, 12, 13, 14, 15, 16, 6, 17, 1, 26, 27, 28, 29] (by decide +kernel) (by decide +kernel)
set_option maxRecDepth 20000 in
theorem gX4_take_X4_takeAmount : GoodIn wsX4_take (wsV RX4 45 RX4 yX4_takeAmount wsX4_takeAmount) := goodIn_app (goodIn_of _ (by decide +kernel)) ggX4_take_X4_takeAmount
theorem dX4_take_0 : decode cX4_take 0 = .ok (.aload_n 0, 1) := by decide +kernel
theorem dX4_take_1 : decode cX4_take 1 = .ok (.getfield 19, 3) := by decide +kernel
theorem dX4_take_4 : decode cX4_take 4 = .ok (.aload_n 1, 1) := by decide +kernel
theorem dX4_take_5 : decode cX4_take 5 = .ok (.getfield 19, 3) := by decide +kernel
theorem dX4_take_8 : decode cX4_take 8 = .ok (.if_icmp .eq 9, 3) := by decide +kernel
theorem dX4_take_11 : decode cX4_take 11 = .ok (.aload_n 0, 1) := by decide +kernel
theorem dX4_take_12 : decode cX4_take 12 = .ok (.aload_n 1, 1) := by decide +kernel
theorem dX4_take_13 : decode cX4_take 13 = .ok (.invokevirtual 37, 3) := by decide +kernel
theorem dX4_take_16 : decode cX4_take 16 = .ok (.return_, 1) := by decide +kernel
theorem dX4_take_17 : decode cX4_take 17 = .ok (.aload_n 0, 1) := by decide +kernel
theorem dX4_take_18 : decode cX4_take 18 = .ok (.aload_n 1, 1) := by decide +kernel
theorem dX4_take_19 : decode cX4_take 19 = .ok (.invokevirtual 41, 3) := by decide +kernel
theorem dX4_take_22 : decode cX4_take 22 = .ok (.ifCond .lt 10, 3) := by decide +kernel
theorem dX4_take_25 : decode cX4_take 25 = .ok (.aload_n 0, 1) := by decide +kernel
theorem dX4_take_26 : decode cX4_take 26 = .ok (.aload_n 0, 1) := by decide +kernel
theorem dX4_take_27 : decode cX4_take 27 = .ok (.aload_n 1, 1) := by decide +kernel
theorem dX4_take_28 : decode cX4_take 28 = .ok (.invokevirtual 45, 3) := by decide +kernel
theorem dX4_take_31 : decode cX4_take 31 = .ok (.return_, 1) := by decide +kernel
theorem dX4_take_32 : decode cX4_take 32 = .ok (.aload_n 0, 1) := by decide +kernel
theorem dX4_take_33 : decode cX4_take 33 = .ok (.aload_n 1, 1) := by decide +kernel
theorem dX4_take_34 : decode cX4_take 34 = .ok (.aload_n 0, 1) := by decide +kernel
theorem dX4_take_35 : decode cX4_take 35 = .ok (.invokevirtual 45, 3) := by decide +kernel
theorem dX4_take_38 : decode cX4_take 38 = .ok (.aload_n 0, 1) := by decide +kernel
theorem dX4_take_39 : decode cX4_take 39 = .ok (.aload_n 0, 1) := by decide +kernel
theorem dX4_take_40 : decode cX4_take 40 = .ok (.getfield 19, 3) := by decide +kernel
theorem dX4_take_43 : decode cX4_take 43 = .ok (.ifCond .ne 7, 3) := by decide +kernel
theorem dX4_take_46 : decode cX4_take 46 = .ok (.iconst 1, 1) := by decide +kernel
theorem dX4_take_47 : decode cX4_take 47 = .ok (.goto 4, 3) := by decide +kernel
theorem dX4_take_50 : decode cX4_take 50 = .ok (.iconst 0, 1) := by decide +kernel
theorem dX4_take_51 : decode cX4_take 51 = .ok (.putfield 19, 3) := by decide +kernel
theorem dX4_take_54 : decode cX4_take 54 = .ok (.aload_n 0, 1) := by decide +kernel
theorem dX4_take_55 : decode cX4_take 55 = .ok (.getfield 15, 3) := by decide +kernel
theorem dX4_take_58 : decode cX4_take 58 = .ok (.ifCond .ne 8, 3) := by decide +kernel
theorem dX4_take_61 : decode cX4_take 61 = .ok (.aload_n 0, 1) := by decide +kernel
theorem dX4_take_62 : decode cX4_take 62 = .ok (.iconst 0, 1) := by decide +kernel
theorem dX4_take_63 : decode cX4_take 63 = .ok (.putfield 19, 3) := by decide +kernel
theorem dX4_take_66 : decode cX4_take 66 = .ok (.return_, 1) := by decide +kernel
set_option maxRecDepth 20000 in
theorem ggX4_addAmount_X4_trim : GoodIn wsX4_addAmount wsX4_trim := goodIn_r _ [13, 1, 7, 2, 14, 15, 16, 17] (by decide +kernel) (by decide +kernel)
set_option maxRecDepth 20000 in
theorem gX4_addAmount_X4_trim : GoodIn wsX4_addAmount (wsV RX4 33 RX4 yX4_trim wsX4_trim) := goodIn_app (goodIn_of _ (by decide +kernel)) ggX4_addAmount_X4_trim
theorem dX4_addAmount_0 : decode cX4_addAmount 0 = .ok (.aload_n 0, 1) := by decide +kernel
theorem dX4_addAmount_1 : decode cX4_addAmount 1 = .ok (.getfield 15, 3) := by decide +kernel
theorem dX4_addAmount_4 : decode cX4_addAmount 4 = .ok (.ifCond .ne 19, 3) := by decide +kernel
theorem dX4_addAmount_7 : decode cX4_addAmount 7 = .ok (.aload_n 0, 1) := by decide +kernel
theorem dX4_addAmount_8 : decode cX4_addAmount 8 = .ok (.aload_n 1, 1) := by decide +kernel
theorem dX4_addAmount_9 : decode cX4_addAmount 9 = .ok (.getfield 19, 3) := by decide +kernel
theorem dX4_addAmount_12 : decode cX4_addAmount 12 = .ok (.ifCond .ne 7, 3) := by decide +kernel
theorem dX4_addAmount_15 : decode cX4_addAmount 15 = .ok (.iconst 1, 1) := by decide +kernel
theorem dX4_addAmount_16 : decode cX4_addAmount 16 = .ok (.goto 4, 3) := by decide +kernel
theorem dX4_addAmount_19 : decode cX4_addAmount 19 = .ok (.iconst 0, 1) := by decide +kernel
theorem dX4_addAmount_20 : decode cX4_addAmount 20 = .ok (.putfield 19, 3) := by decide +kernel
theorem dX4_addAmount_23 : decode cX4_addAmount 23 = .ok (.aload_n 0, 1) := by decide +kernel
theorem dX4_addAmount_24 : decode cX4_addAmount 24 = .ok (.getfield 15, 3) := by decide +kernel
theorem dX4_addAmount_27 : decode cX4_addAmount 27 = .ok (.aload_n 1, 1) := by decide +kernel
theorem dX4_addAmount_28 : decode cX4_addAmount 28 = .ok (.getfield 15, 3) := by decide +kernel
theorem dX4_addAmount_31 : decode cX4_addAmount 31 = .ok (.invokestatic 49, 3) := by decide +kernel
theorem dX4_addAmount_34 : decode cX4_addAmount 34 = .ok (.istore_n 2, 1) := by decide +kernel
theorem dX4_addAmount_35 : decode cX4_addAmount 35 = .ok (.iconst 0, 1) := by decide +kernel
theorem dX4_addAmount_36 : decode cX4_addAmount 36 = .ok (.istore_n 3, 1) := by decide +kernel
theorem dX4_addAmount_37 : decode cX4_addAmount 37 = .ok (.iconst 0, 1) := by decide +kernel
theorem dX4_addAmount_38 : decode cX4_addAmount 38 = .ok (.istore 4, 2) := by decide +kernel
theorem dX4_addAmount_40 : decode cX4_addAmount 40 = .ok (.iload 4, 2) := by decide +kernel
theorem dX4_addAmount_42 : decode cX4_addAmount 42 = .ok (.iload_n 2, 1) := by decide +kernel
theorem dX4_addAmount_43 : decode cX4_addAmount 43 = .ok (.if_icmp .gt 72, 3) := by decide +kernel
theorem dX4_addAmount_46 : decode cX4_addAmount 46 = .ok (.iload 4, 2) := by decide +kernel
theorem dX4_addAmount_48 : decode cX4_addAmount 48 = .ok (.aload_n 0, 1) := by decide +kernel
theorem dX4_addAmount_49 : decode cX4_addAmount 49 = .ok (.getfield 15, 3) := by decide +kernel
theorem dX4_addAmount_52 : decode cX4_addAmount 52 = .ok (.if_icmp .ge 13, 3) := by decide +kernel
theorem dX4_addAmount_55 : decode cX4_addAmount 55 = .ok (.aload_n 0, 1) := by decide +kernel
theorem dX4_addAmount_56 : decode cX4_addAmount 56 = .ok (.getfield 9, 3) := by decide +kernel
theorem dX4_addAmount_59 : decode cX4_addAmount 59 = .ok (.iload 4, 2) := by decide +kernel
theorem dX4_addAmount_61 : decode cX4_addAmount 61 = .ok (.iaload, 1) := by decide +kernel
theorem dX4_addAmount_62 : decode cX4_addAmount 62 = .ok (.goto 4, 3) := by decide +kernel
theorem dX4_addAmount_65 : decode cX4_addAmount 65 = .ok (.iconst 0, 1) := by decide +kernel
theorem dX4_addAmount_66 : decode cX4_addAmount 66 = .ok (.iload 4, 2) := by decide +kernel
theorem dX4_addAmount_68 : decode cX4_addAmount 68 = .ok (.aload_n 1, 1) := by decide +kernel
theorem dX4_addAmount_69 : decode cX4_addAmount 69 = .ok (.getfield 15, 3) := by decide +kernel
theorem dX4_addAmount_72 : decode cX4_addAmount 72 = .ok (.if_icmp .ge 13, 3) := by decide +kernel
theorem dX4_addAmount_75 : decode cX4_addAmount 75 = .ok (.aload_n 1, 1) := by decide +kernel
theorem dX4_addAmount_76 : decode cX4_addAmount 76 = .ok (.getfield 9, 3) := by decide +kernel
theorem dX4_addAmount_79 : decode cX4_addAmount 79 = .ok (.iload 4, 2) := by decide +kernel
theorem dX4_addAmount_81 : decode cX4_addAmount 81 = .ok (.iaload, 1) := by decide +kernel
theorem dX4_addAmount_82 : decode cX4_addAmount 82 = .ok (.goto 4, 3) := by decide +kernel
theorem dX4_addAmount_85 : decode cX4_addAmount 85 = .ok (.iconst 0, 1) := by decide +kernel
theorem dX4_addAmount_86 : decode cX4_addAmount 86 = .ok (.iadd, 1) := by decide +kernel
theorem dX4_addAmount_87 : decode cX4_addAmount 87 = .ok (.iload_n 3, 1) := by decide +kernel
theorem dX4_addAmount_88 : decode cX4_addAmount 88 = .ok (.iadd, 1) := by decide +kernel
theorem dX4_addAmount_89 : decode cX4_addAmount 89 = .ok (.istore 5, 2) := by decide +kernel
theorem dX4_addAmount_91 : decode cX4_addAmount 91 = .ok (.aload_n 0, 1) := by decide +kernel
theorem dX4_addAmount_92 : decode cX4_addAmount 92 = .ok (.getfield 9, 3) := by decide +kernel
theorem dX4_addAmount_95 : decode cX4_addAmount 95 = .ok (.iload 4, 2) := by decide +kernel
theorem dX4_addAmount_97 : decode cX4_addAmount 97 = .ok (.iload 5, 2) := by decide +kernel
theorem dX4_addAmount_99 : decode cX4_addAmount 99 = .ok (.ldc 52, 2) := by decide +kernel
theorem dX4_addAmount_101 : decode cX4_addAmount 101 = .ok (.iand, 1) := by decide +kernel
theorem dX4_addAmount_102 : decode cX4_addAmount 102 = .ok (.iastore, 1) := by decide +kernel
theorem dX4_addAmount_103 : decode cX4_addAmount 103 = .ok (.iload 5, 2) := by decide +kernel
theorem dX4_addAmount_105 : decode cX4_addAmount 105 = .ok (.bipush 28, 2) := by decide +kernel
theorem dX4_addAmount_107 : decode cX4_addAmount 107 = .ok (.ishr, 1) := by decide +kernel
theorem dX4_addAmount_108 : decode cX4_addAmount 108 = .ok (.istore_n 3, 1) := by decide +kernel
theorem dX4_addAmount_109 : decode cX4_addAmount 109 = .ok (.iinc 4 1, 3) := by decide +kernel
theorem dX4_addAmount_112 : decode cX4_addAmount 112 = .ok (.goto (-72), 3) := by decide +kernel
theorem dX4_addAmount_115 : decode cX4_addAmount 115 = .ok (.aload_n 0, 1) := by decide +kernel
theorem dX4_addAmount_116 : decode cX4_addAmount 116 = .ok (.iload_n 2, 1) := by decide +kernel
theorem dX4_addAmount_117 : decode cX4_addAmount 117 = .ok (.iconst 1, 1) := by decide +kernel
theorem dX4_addAmount_118 : decode cX4_addAmount 118 = .ok (.iadd, 1) := by decide +kernel
theorem dX4_addAmount_119 : decode cX4_addAmount 119 = .ok (.invokevirtual 33, 3) := by decide +kernel
theorem dX4_addAmount_122 : decode cX4_addAmount 122 = .ok (.return_, 1) := by decide +kernel
set_option maxRecDepth 20000 in
theorem ggX4_takeAmount_X4_trim : GoodIn wsX4_takeAmount wsX4_trim := goodIn_r _ [8, 1, 2, 9, 10, 11, 12, 13] (by decide +kernel) (by decide +kernel)
set_option maxRecDepth 20000 in
theorem gX4_takeAmount_X4_trim : GoodIn wsX4_takeAmount (wsV RX4 33 RX4 yX4_trim wsX4_trim) := goodIn_app (goodIn_of _ (by decide +kernel)) ggX4_takeAmount_X4_trim
theorem dX4_takeAmount_0 : decode cX4_takeAmount 0 = .ok (.aload_n 1, 1) := by decide +kernel
theorem dX4_takeAmount_1 : decode cX4_takeAmount 1 = .ok (.getfield 15, 3) := by decide +kernel
theorem dX4_takeAmount_4 : decode cX4_takeAmount 4 = .ok (.istore_n 3, 1) := by decide +kernel
theorem dX4_takeAmount_5 : decode cX4_takeAmount 5 = .ok (.iconst 0, 1) := by decide +kernel
theorem dX4_takeAmount_6 : decode cX4_takeAmount 6 = .ok (.istore 4, 2) := by decide +kernel
theorem dX4_takeAmount_8 : decode cX4_takeAmount 8 = .ok (.iconst 0, 1) := by decide +kernel
theorem dX4_takeAmount_9 : decode cX4_takeAmount 9 = .ok (.istore 5, 2) := by decide +kernel
theorem dX4_takeAmount_11 : decode cX4_takeAmount 11 = .ok (.iload 5, 2) := by decide +kernel
theorem dX4_takeAmount_13 : decode cX4_takeAmount 13 = .ok (.iload_n 3, 1) := by decide +kernel
theorem dX4_takeAmount_14 : decode cX4_takeAmount 14 = .ok (.if_icmp .ge 66, 3) := by decide +kernel
theorem dX4_takeAmount_17 : decode cX4_takeAmount 17 = .ok (.aload_n 1, 1) := by decide +kernel
theorem dX4_takeAmount_18 : decode cX4_takeAmount 18 = .ok (.getfield 9, 3) := by decide +kernel
theorem dX4_takeAmount_21 : decode cX4_takeAmount 21 = .ok (.iload 5, 2) := by decide +kernel
theorem dX4_takeAmount_23 : decode cX4_takeAmount 23 = .ok (.iaload, 1) := by decide +kernel
theorem dX4_takeAmount_24 : decode cX4_takeAmount 24 = .ok (.iload 5, 2) := by decide +kernel
theorem dX4_takeAmount_26 : decode cX4_takeAmount 26 = .ok (.aload_n 2, 1) := by decide +kernel
theorem dX4_takeAmount_27 : decode cX4_takeAmount 27 = .ok (.getfield 15, 3) := by decide +kernel
theorem dX4_takeAmount_30 : decode cX4_takeAmount 30 = .ok (.if_icmp .ge 13, 3) := by decide +kernel
theorem dX4_takeAmount_33 : decode cX4_takeAmount 33 = .ok (.aload_n 2, 1) := by decide +kernel
theorem dX4_takeAmount_34 : decode cX4_takeAmount 34 = .ok (.getfield 9, 3) := by decide +kernel
theorem dX4_takeAmount_37 : decode cX4_takeAmount 37 = .ok (.iload 5, 2) := by decide +kernel
theorem dX4_takeAmount_39 : decode cX4_takeAmount 39 = .ok (.iaload, 1) := by decide +kernel
theorem dX4_takeAmount_40 : decode cX4_takeAmount 40 = .ok (.goto 4, 3) := by decide +kernel
theorem dX4_takeAmount_43 : decode cX4_takeAmount 43 = .ok (.iconst 0, 1) := by decide +kernel
theorem dX4_takeAmount_44 : decode cX4_takeAmount 44 = .ok (.isub, 1) := by decide +kernel
theorem dX4_takeAmount_45 : decode cX4_takeAmount 45 = .ok (.iload 4, 2) := by decide +kernel
theorem dX4_takeAmount_47 : decode cX4_takeAmount 47 = .ok (.isub, 1) := by decide +kernel
theorem dX4_takeAmount_48 : decode cX4_takeAmount 48 = .ok (.istore 6, 2) := by decide +kernel
theorem dX4_takeAmount_50 : decode cX4_takeAmount 50 = .ok (.iload 6, 2) := by decide +kernel
theorem dX4_takeAmount_52 : decode cX4_takeAmount 52 = .ok (.ifCond .ge 7, 3) := by decide +kernel
theorem dX4_takeAmount_55 : decode cX4_takeAmount 55 = .ok (.iconst 1, 1) := by decide +kernel
theorem dX4_takeAmount_56 : decode cX4_takeAmount 56 = .ok (.goto 4, 3) := by decide +kernel
theorem dX4_takeAmount_59 : decode cX4_takeAmount 59 = .ok (.iconst 0, 1) := by decide +kernel
theorem dX4_takeAmount_60 : decode cX4_takeAmount 60 = .ok (.istore 4, 2) := by decide +kernel
theorem dX4_takeAmount_62 : decode cX4_takeAmount 62 = .ok (.aload_n 0, 1) := by decide +kernel
theorem dX4_takeAmount_63 : decode cX4_takeAmount 63 = .ok (.getfield 9, 3) := by decide +kernel
theorem dX4_takeAmount_66 : decode cX4_takeAmount 66 = .ok (.iload 5, 2) := by decide +kernel
theorem dX4_takeAmount_68 : decode cX4_takeAmount 68 = .ok (.iload 6, 2) := by decide +kernel
theorem dX4_takeAmount_70 : decode cX4_takeAmount 70 = .ok (.ldc 52, 2) := by decide +kernel
theorem dX4_takeAmount_72 : decode cX4_takeAmount 72 = .ok (.iand, 1) := by decide +kernel
theorem dX4_takeAmount_73 : decode cX4_takeAmount 73 = .ok (.iastore, 1) := by decide +kernel
theorem dX4_takeAmount_74 : decode cX4_takeAmount 74 = .ok (.iinc 5 1, 3) := by decide +kernel
theorem dX4_takeAmount_77 : decode cX4_takeAmount 77 = .ok (.goto (-66), 3) := by decide +kernel
theorem dX4_takeAmount_80 : decode cX4_takeAmount 80 = .ok (.aload_n 0, 1) := by decide +kernel
theorem dX4_takeAmount_81 : decode cX4_takeAmount 81 = .ok (.iload_n 3, 1) := by decide +kernel
theorem dX4_takeAmount_82 : decode cX4_takeAmount 82 = .ok (.invokevirtual 33, 3) := by decide +kernel
theorem dX4_takeAmount_85 : decode cX4_takeAmount 85 = .ok (.return_, 1) := by decide +kernel
theorem dX4_isSet_0 : decode cX4_isSet 0 = .ok (.iload_n 1, 1) := by decide +kernel
theorem dX4_isSet_1 : decode cX4_isSet 1 = .ok (.bipush 28, 2) := by decide +kernel
theorem dX4_isSet_3 : decode cX4_isSet 3 = .ok (.idiv, 1) := by decide +kernel
theorem dX4_isSet_4 : decode cX4_isSet 4 = .ok (.aload_n 0, 1) := by decide +kernel
theorem dX4_isSet_5 : decode cX4_isSet 5 = .ok (.getfield 15, 3) := by decide +kernel
theorem dX4_isSet_8 : decode cX4_isSet 8 = .ok (.if_icmp .ge 27, 3) := by decide +kernel
theorem dX4_isSet_11 : decode cX4_isSet 11 = .ok (.aload_n 0, 1) := by decide +kernel
theorem dX4_isSet_12 : decode cX4_isSet 12 = .ok (.getfield 9, 3) := by decide +kernel
theorem dX4_isSet_15 : decode cX4_isSet 15 = .ok (.iload_n 1, 1) := by decide +kernel
theorem dX4_isSet_16 : decode cX4_isSet 16 = .ok (.bipush 28, 2) := by decide +kernel
theorem dX4_isSet_18 : decode cX4_isSet 18 = .ok (.idiv, 1) := by decide +kernel
theorem dX4_isSet_19 : decode cX4_isSet 19 = .ok (.iaload, 1) := by decide +kernel
theorem dX4_isSet_20 : decode cX4_isSet 20 = .ok (.iload_n 1, 1) := by decide +kernel
theorem dX4_isSet_21 : decode cX4_isSet 21 = .ok (.bipush 28, 2) := by decide +kernel
theorem dX4_isSet_23 : decode cX4_isSet 23 = .ok (.irem, 1) := by decide +kernel
theorem dX4_isSet_24 : decode cX4_isSet 24 = .ok (.ishr, 1) := by decide +kernel
theorem dX4_isSet_25 : decode cX4_isSet 25 = .ok (.iconst 1, 1) := by decide +kernel
theorem dX4_isSet_26 : decode cX4_isSet 26 = .ok (.iand, 1) := by decide +kernel
theorem dX4_isSet_27 : decode cX4_isSet 27 = .ok (.iconst 1, 1) := by decide +kernel
theorem dX4_isSet_28 : decode cX4_isSet 28 = .ok (.if_icmp .ne 7, 3) := by decide +kernel
theorem dX4_isSet_31 : decode cX4_isSet 31 = .ok (.iconst 1, 1) := by decide +kernel
theorem dX4_isSet_32 : decode cX4_isSet 32 = .ok (.goto 4, 3) := by decide +kernel
theorem dX4_isSet_35 : decode cX4_isSet 35 = .ok (.iconst 0, 1) := by decide +kernel
theorem dX4_isSet_36 : decode cX4_isSet 36 = .ok (.ireturn, 1) := by decide +kernel
theorem dX4_twice_0 : decode cX4_twice 0 = .ok (.iload_n 1, 1) := by decide +kernel
theorem dX4_twice_1 : decode cX4_twice 1 = .ok (.ifCond .eq 7, 3) := by decide +kernel
theorem dX4_twice_4 : decode cX4_twice 4 = .ok (.iconst 1, 1) := by decide +kernel
theorem dX4_twice_5 : decode cX4_twice 5 = .ok (.goto 4, 3) := by decide +kernel
theorem dX4_twice_8 : decode cX4_twice 8 = .ok (.iconst 0, 1) := by decide +kernel
theorem dX4_twice_9 : decode cX4_twice 9 = .ok (.istore_n 2, 1) := by decide +kernel
theorem dX4_twice_10 : decode cX4_twice 10 = .ok (.iconst 0, 1) := by decide +kernel
theorem dX4_twice_11 : decode cX4_twice 11 = .ok (.istore_n 3, 1) := by decide +kernel
theorem dX4_twice_12 : decode cX4_twice 12 = .ok (.iload_n 3, 1) := by decide +kernel
theorem dX4_twice_13 : decode cX4_twice 13 = .ok (.aload_n 0, 1) := by decide +kernel
theorem dX4_twice_14 : decode cX4_twice 14 = .ok (.getfield 15, 3) := by decide +kernel
theorem dX4_twice_17 : decode cX4_twice 17 = .ok (.if_icmp .ge 38, 3) := by decide +kernel
theorem dX4_twice_20 : decode cX4_twice 20 = .ok (.aload_n 0, 1) := by decide +kernel
theorem dX4_twice_21 : decode cX4_twice 21 = .ok (.getfield 9, 3) := by decide +kernel
theorem dX4_twice_24 : decode cX4_twice 24 = .ok (.iload_n 3, 1) := by decide +kernel
theorem dX4_twice_25 : decode cX4_twice 25 = .ok (.iaload, 1) := by decide +kernel
theorem dX4_twice_26 : decode cX4_twice 26 = .ok (.iconst 1, 1) := by decide +kernel
theorem dX4_twice_27 : decode cX4_twice 27 = .ok (.ishl, 1) := by decide +kernel
theorem dX4_twice_28 : decode cX4_twice 28 = .ok (.iload_n 2, 1) := by decide +kernel
theorem dX4_twice_29 : decode cX4_twice 29 = .ok (.ior, 1) := by decide +kernel
theorem dX4_twice_30 : decode cX4_twice 30 = .ok (.istore 4, 2) := by decide +kernel
theorem dX4_twice_32 : decode cX4_twice 32 = .ok (.aload_n 0, 1) := by decide +kernel
theorem dX4_twice_33 : decode cX4_twice 33 = .ok (.getfield 9, 3) := by decide +kernel
theorem dX4_twice_36 : decode cX4_twice 36 = .ok (.iload_n 3, 1) := by decide +kernel
theorem dX4_twice_37 : decode cX4_twice 37 = .ok (.iload 4, 2) := by decide +kernel
theorem dX4_twice_39 : decode cX4_twice 39 = .ok (.ldc 52, 2) := by decide +kernel
theorem dX4_twice_41 : decode cX4_twice 41 = .ok (.iand, 1) := by decide +kernel
theorem dX4_twice_42 : decode cX4_twice 42 = .ok (.iastore, 1) := by decide +kernel
theorem dX4_twice_43 : decode cX4_twice 43 = .ok (.iload 4, 2) := by decide +kernel
theorem dX4_twice_45 : decode cX4_twice 45 = .ok (.bipush 28, 2) := by decide +kernel
theorem dX4_twice_47 : decode cX4_twice 47 = .ok (.ishr, 1) := by decide +kernel
theorem dX4_twice_48 : decode cX4_twice 48 = .ok (.istore_n 2, 1) := by decide +kernel
theorem dX4_twice_49 : decode cX4_twice 49 = .ok (.iinc 3 1, 3) := by decide +kernel
theorem dX4_twice_52 : decode cX4_twice 52 = .ok (.goto (-40), 3) := by decide +kernel
theorem dX4_twice_55 : decode cX4_twice 55 = .ok (.iload_n 2, 1) := by decide +kernel
theorem dX4_twice_56 : decode cX4_twice 56 = .ok (.ifCond .le 23, 3) := by decide +kernel
theorem dX4_twice_59 : decode cX4_twice 59 = .ok (.aload_n 0, 1) := by decide +kernel
theorem dX4_twice_60 : decode cX4_twice 60 = .ok (.getfield 9, 3) := by decide +kernel
theorem dX4_twice_63 : decode cX4_twice 63 = .ok (.aload_n 0, 1) := by decide +kernel
theorem dX4_twice_64 : decode cX4_twice 64 = .ok (.getfield 15, 3) := by decide +kernel
theorem dX4_twice_67 : decode cX4_twice 67 = .ok (.iload_n 2, 1) := by decide +kernel
theorem dX4_twice_68 : decode cX4_twice 68 = .ok (.iastore, 1) := by decide +kernel
theorem dX4_twice_69 : decode cX4_twice 69 = .ok (.aload_n 0, 1) := by decide +kernel
theorem dX4_twice_70 : decode cX4_twice 70 = .ok (.dup, 1) := by decide +kernel
theorem dX4_twice_71 : decode cX4_twice 71 = .ok (.getfield 15, 3) := by decide +kernel
theorem dX4_twice_74 : decode cX4_twice 74 = .ok (.iconst 1, 1) := by decide +kernel
theorem dX4_twice_75 : decode cX4_twice 75 = .ok (.iadd, 1) := by decide +kernel
theorem dX4_twice_76 : decode cX4_twice 76 = .ok (.putfield 15, 3) := by decide +kernel
theorem dX4_twice_79 : decode cX4_twice 79 = .ok (.return_, 1) := by decide +kernel
set_option maxRecDepth 20000 in
theorem ggX4_quotient_X4_isSet : GoodIn wsX4_quotient wsX4_isSet := goodIn_r _ [8, 2, 1, 26, 27, 28, 29] (by decide +kernel) (by decide +kernel)
set_option maxRecDepth 20000 in
theorem gX4_quotient_X4_isSet : GoodIn wsX4_quotient (wsV RX4 53 RX4 yX4_isSet wsX4_isSet) := goodIn_app (goodIn_of _ (by decide +kernel)) ggX4_quotient_X4_isSet
set_option maxRecDepth 20000 in
theorem ggX4_quotient_X4_twice : GoodIn wsX4_quotient wsX4_twice := goodIn_r _ [12, 2, 1, 13, 26, 27, 28, 29] (by decide +kernel) (by decide +kernel)
set_option maxRecDepth 20000 in
theorem gX4_quotient_X4_twice : GoodIn wsX4_quotient (wsV RX4 57 RX4 yX4_twice wsX4_twice) := goodIn_app (goodIn_of _ (by decide +kernel)) ggX4_quotient_X4_twice
set_option maxRecDepth 20000 in
theorem ggX4_quotient_X4_compare : GoodIn wsX4_quotient wsX4_compare := goodIn_r _ [17, 2, 1, 26, 27, 28, 29] (by decide +kernel) (by decide +kernel)
set_option maxRecDepth 20000 in
theorem gX4_quotient_X4_compare : GoodIn wsX4_quotient (wsV RX4 41 RX4 yX4_compare wsX4_compare) := goodIn_app (goodIn_of _ (by decide +kernel)) ggX4_quotient_X4_compare
set_option maxRecDepth 20000 in
theorem ggX4_quotient_X4_takeAmount : GoodIn wsX4_quotient wsX4_takeAmount := goodIn_r _ [21, 2, 1, 13, 22, 23, 24, 7, 25, 3, 26, 27, 28, 29] (by decide +kernel) (by decide +kernel)
set_option maxRecDepth 20000 in
theorem gX4_quotient_X4_takeAmount : GoodIn wsX4_quotient (wsV RX4 45 RX4 yX4_takeAmount wsX4_takeAmount) := goodIn_app (goodIn_of _ (by decide +kernel)) ggX4_quotient_X4_takeAmount
set_option maxRecDepth 20000 in
theorem ggX4_quotient_X4_trim : GoodIn wsX4_quotient wsX4_trim := goodIn_r _ [25, 2, 1, 3, 26, 27, 28, 29] (by decide +kernel) (by decide +kernel)
set_option maxRecDepth 20000 in
theorem gX4_quotient_X4_trim : GoodIn wsX4_quotient (wsV RX4 33 RX4 yX4_trim wsX4_trim) := goodIn_app (goodIn_of _ (by decide +kernel)) ggX4_quotient_X4_trim
theorem dX4_quotient_0 : decode cX4_quotient 0 = .ok (.iconst 0, 1) := by decide +kernel
theorem dX4_quotient_1 : decode cX4_quotient 1 = .ok (.istore 4, 2) := by decide +kernel
theorem dX4_quotient_3 : decode cX4_quotient 3 = .ok (.iload 4, 2) := by decide +kernel
theorem dX4_quotient_5 : decode cX4_quotient 5 = .ok (.bipush 40, 2) := by decide +kernel
theorem dX4_quotient_7 : decode cX4_quotient 7 = .ok (.if_icmp .ge 17, 3) := by decide +kernel
theorem dX4_quotient_10 : decode cX4_quotient 10 = .ok (.aload_n 0, 1) := by decide +kernel
theorem dX4_quotient_11 : decode cX4_quotient 11 = .ok (.getfield 9, 3) := by decide +kernel
theorem dX4_quotient_14 : decode cX4_quotient 14 = .ok (.iload 4, 2) := by decide +kernel
theorem dX4_quotient_16 : decode cX4_quotient 16 = .ok (.iconst 0, 1) := by decide +kernel
theorem dX4_quotient_17 : decode cX4_quotient 17 = .ok (.iastore, 1) := by decide +kernel
theorem dX4_quotient_18 : decode cX4_quotient 18 = .ok (.iinc 4 1, 3) := by decide +kernel
theorem dX4_quotient_21 : decode cX4_quotient 21 = .ok (.goto (-18), 3) := by decide +kernel
theorem dX4_quotient_24 : decode cX4_quotient 24 = .ok (.aload_n 3, 1) := by decide +kernel
theorem dX4_quotient_25 : decode cX4_quotient 25 = .ok (.iconst 0, 1) := by decide +kernel
theorem dX4_quotient_26 : decode cX4_quotient 26 = .ok (.putfield 15, 3) := by decide +kernel
theorem dX4_quotient_29 : decode cX4_quotient 29 = .ok (.aload_n 3, 1) := by decide +kernel
theorem dX4_quotient_30 : decode cX4_quotient 30 = .ok (.iconst 0, 1) := by decide +kernel
theorem dX4_quotient_31 : decode cX4_quotient 31 = .ok (.putfield 19, 3) := by decide +kernel
theorem dX4_quotient_34 : decode cX4_quotient 34 = .ok (.bipush 28, 2) := by decide +kernel
theorem dX4_quotient_36 : decode cX4_quotient 36 = .ok (.aload_n 1, 1) := by decide +kernel
theorem dX4_quotient_37 : decode cX4_quotient 37 = .ok (.getfield 15, 3) := by decide +kernel
theorem dX4_quotient_40 : decode cX4_quotient 40 = .ok (.imul, 1) := by decide +kernel
theorem dX4_quotient_41 : decode cX4_quotient 41 = .ok (.iconst 1, 1) := by decide +kernel
theorem dX4_quotient_42 : decode cX4_quotient 42 = .ok (.isub, 1) := by decide +kernel
theorem dX4_quotient_43 : decode cX4_quotient 43 = .ok (.istore 4, 2) := by decide +kernel
theorem dX4_quotient_45 : decode cX4_quotient 45 = .ok (.iload 4, 2) := by decide +kernel
theorem dX4_quotient_47 : decode cX4_quotient 47 = .ok (.ifCond .lt 53, 3) := by decide +kernel
theorem dX4_quotient_50 : decode cX4_quotient 50 = .ok (.aload_n 3, 1) := by decide +kernel
theorem dX4_quotient_51 : decode cX4_quotient 51 = .ok (.aload_n 1, 1) := by decide +kernel
theorem dX4_quotient_52 : decode cX4_quotient 52 = .ok (.iload 4, 2) := by decide +kernel
theorem dX4_quotient_54 : decode cX4_quotient 54 = .ok (.invokevirtual 53, 3) := by decide +kernel
theorem dX4_quotient_57 : decode cX4_quotient 57 = .ok (.invokevirtual 57, 3) := by decide +kernel
theorem dX4_quotient_60 : decode cX4_quotient 60 = .ok (.aload_n 3, 1) := by decide +kernel
theorem dX4_quotient_61 : decode cX4_quotient 61 = .ok (.aload_n 2, 1) := by decide +kernel
theorem dX4_quotient_62 : decode cX4_quotient 62 = .ok (.invokevirtual 41, 3) := by decide +kernel
theorem dX4_quotient_65 : decode cX4_quotient 65 = .ok (.ifCond .lt 29, 3) := by decide +kernel
theorem dX4_quotient_68 : decode cX4_quotient 68 = .ok (.aload_n 3, 1) := by decide +kernel
theorem dX4_quotient_69 : decode cX4_quotient 69 = .ok (.aload_n 3, 1) := by decide +kernel
theorem dX4_quotient_70 : decode cX4_quotient 70 = .ok (.aload_n 2, 1) := by decide +kernel
theorem dX4_quotient_71 : decode cX4_quotient 71 = .ok (.invokevirtual 45, 3) := by decide +kernel
theorem dX4_quotient_74 : decode cX4_quotient 74 = .ok (.aload_n 0, 1) := by decide +kernel
theorem dX4_quotient_75 : decode cX4_quotient 75 = .ok (.getfield 9, 3) := by decide +kernel
theorem dX4_quotient_78 : decode cX4_quotient 78 = .ok (.iload 4, 2) := by decide +kernel
theorem dX4_quotient_80 : decode cX4_quotient 80 = .ok (.bipush 28, 2) := by decide +kernel
theorem dX4_quotient_82 : decode cX4_quotient 82 = .ok (.idiv, 1) := by decide +kernel
theorem dX4_quotient_83 : decode cX4_quotient 83 = .ok (.dup2, 1) := by decide +kernel
theorem dX4_quotient_84 : decode cX4_quotient 84 = .ok (.iaload, 1) := by decide +kernel
theorem dX4_quotient_85 : decode cX4_quotient 85 = .ok (.iconst 1, 1) := by decide +kernel
theorem dX4_quotient_86 : decode cX4_quotient 86 = .ok (.iload 4, 2) := by decide +kernel
theorem dX4_quotient_88 : decode cX4_quotient 88 = .ok (.bipush 28, 2) := by decide +kernel
theorem dX4_quotient_90 : decode cX4_quotient 90 = .ok (.irem, 1) := by decide +kernel
theorem dX4_quotient_91 : decode cX4_quotient 91 = .ok (.ishl, 1) := by decide +kernel
theorem dX4_quotient_92 : decode cX4_quotient 92 = .ok (.ior, 1) := by decide +kernel
theorem dX4_quotient_93 : decode cX4_quotient 93 = .ok (.iastore, 1) := by decide +kernel
theorem dX4_quotient_94 : decode cX4_quotient 94 = .ok (.iinc 4 (-1), 3) := by decide +kernel
theorem dX4_quotient_97 : decode cX4_quotient 97 = .ok (.goto (-52), 3) := by decide +kernel
theorem dX4_quotient_100 : decode cX4_quotient 100 = .ok (.aload_n 0, 1) := by decide +kernel
theorem dX4_quotient_101 : decode cX4_quotient 101 = .ok (.aload_n 1, 1) := by decide +kernel
theorem dX4_quotient_102 : decode cX4_quotient 102 = .ok (.getfield 19, 3) := by decide +kernel
theorem dX4_quotient_105 : decode cX4_quotient 105 = .ok (.aload_n 2, 1) := by decide +kernel
theorem dX4_quotient_106 : decode cX4_quotient 106 = .ok (.getfield 19, 3) := by decide +kernel
theorem dX4_quotient_109 : decode cX4_quotient 109 = .ok (.if_icmp .eq 7, 3) := by decide +kernel
theorem dX4_quotient_112 : decode cX4_quotient 112 = .ok (.iconst 1, 1) := by decide +kernel
theorem dX4_quotient_113 : decode cX4_quotient 113 = .ok (.goto 4, 3) := by decide +kernel
theorem dX4_quotient_116 : decode cX4_quotient 116 = .ok (.iconst 0, 1) := by decide +kernel
theorem dX4_quotient_117 : decode cX4_quotient 117 = .ok (.putfield 19, 3) := by decide +kernel
theorem dX4_quotient_120 : decode cX4_quotient 120 = .ok (.aload_n 0, 1) := by decide +kernel
theorem dX4_quotient_121 : decode cX4_quotient 121 = .ok (.aload_n 1, 1) := by decide +kernel
theorem dX4_quotient_122 : decode cX4_quotient 122 = .ok (.getfield 15, 3) := by decide +kernel
theorem dX4_quotient_125 : decode cX4_quotient 125 = .ok (.invokevirtual 33, 3) := by decide +kernel
theorem dX4_quotient_128 : decode cX4_quotient 128 = .ok (.return_, 1) := by decide +kernel
theorem dX4_isLong_0 : decode cX4_isLong 0 = .ok (.aload_n 0, 1) := by decide +kernel
theorem dX4_isLong_1 : decode cX4_isLong 1 = .ok (.getfield 15, 3) := by decide +kernel
theorem dX4_isLong_4 : decode cX4_isLong 4 = .ok (.iconst 3, 1) := by decide +kernel
theorem dX4_isLong_5 : decode cX4_isLong 5 = .ok (.if_icmp .gt 23, 3) := by decide +kernel
theorem dX4_isLong_8 : decode cX4_isLong 8 = .ok (.aload_n 0, 1) := by decide +kernel
theorem dX4_isLong_9 : decode cX4_isLong 9 = .ok (.getfield 15, 3) := by decide +kernel
theorem dX4_isLong_12 : decode cX4_isLong 12 = .ok (.iconst 3, 1) := by decide +kernel
theorem dX4_isLong_13 : decode cX4_isLong 13 = .ok (.if_icmp .ne 17, 3) := by decide +kernel
theorem dX4_isLong_16 : decode cX4_isLong 16 = .ok (.aload_n 0, 1) := by decide +kernel
theorem dX4_isLong_17 : decode cX4_isLong 17 = .ok (.getfield 9, 3) := by decide +kernel
theorem dX4_isLong_20 : decode cX4_isLong 20 = .ok (.iconst 2, 1) := by decide +kernel
theorem dX4_isLong_21 : decode cX4_isLong 21 = .ok (.iaload, 1) := by decide +kernel
theorem dX4_isLong_22 : decode cX4_isLong 22 = .ok (.sipush 255, 3) := by decide +kernel
theorem dX4_isLong_25 : decode cX4_isLong 25 = .ok (.if_icmp .le 5, 3) := by decide +kernel
theorem dX4_isLong_28 : decode cX4_isLong 28 = .ok (.iconst 0, 1) := by decide +kernel
theorem dX4_isLong_29 : decode cX4_isLong 29 = .ok (.ireturn, 1) := by decide +kernel
theorem dX4_isLong_30 : decode cX4_isLong 30 = .ok (.lconst 0, 1) := by decide +kernel
theorem dX4_isLong_31 : decode cX4_isLong 31 = .ok (.lstore_n 1, 1) := by decide +kernel
theorem dX4_isLong_32 : decode cX4_isLong 32 = .ok (.aload_n 0, 1) := by decide +kernel
theorem dX4_isLong_33 : decode cX4_isLong 33 = .ok (.getfield 15, 3) := by decide +kernel
theorem dX4_isLong_36 : decode cX4_isLong 36 = .ok (.iconst 1, 1) := by decide +kernel
theorem dX4_isLong_37 : decode cX4_isLong 37 = .ok (.isub, 1) := by decide +kernel
theorem dX4_isLong_38 : decode cX4_isLong 38 = .ok (.istore_n 3, 1) := by decide +kernel
theorem dX4_isLong_39 : decode cX4_isLong 39 = .ok (.iload_n 3, 1) := by decide +kernel
theorem dX4_isLong_40 : decode cX4_isLong 40 = .ok (.ifCond .lt 22, 3) := by decide +kernel
theorem dX4_isLong_43 : decode cX4_isLong 43 = .ok (.lload_n 1, 1) := by decide +kernel
theorem dX4_isLong_44 : decode cX4_isLong 44 = .ok (.bipush 28, 2) := by decide +kernel
theorem dX4_isLong_46 : decode cX4_isLong 46 = .ok (.lshl, 1) := by decide +kernel
theorem dX4_isLong_47 : decode cX4_isLong 47 = .ok (.aload_n 0, 1) := by decide +kernel
theorem dX4_isLong_48 : decode cX4_isLong 48 = .ok (.getfield 9, 3) := by decide +kernel
theorem dX4_isLong_51 : decode cX4_isLong 51 = .ok (.iload_n 3, 1) := by decide +kernel
theorem dX4_isLong_52 : decode cX4_isLong 52 = .ok (.iaload, 1) := by decide +kernel
theorem dX4_isLong_53 : decode cX4_isLong 53 = .ok (.i2l, 1) := by decide +kernel
theorem dX4_isLong_54 : decode cX4_isLong 54 = .ok (.lor, 1) := by decide +kernel
theorem dX4_isLong_55 : decode cX4_isLong 55 = .ok (.lstore_n 1, 1) := by decide +kernel
theorem dX4_isLong_56 : decode cX4_isLong 56 = .ok (.iinc 3 (-1), 3) := by decide +kernel
theorem dX4_isLong_59 : decode cX4_isLong 59 = .ok (.goto (-20), 3) := by decide +kernel
theorem dX4_isLong_62 : decode cX4_isLong 62 = .ok (.lload_n 1, 1) := by decide +kernel
theorem dX4_isLong_63 : decode cX4_isLong 63 = .ok (.lconst 0, 1) := by decide +kernel
theorem dX4_isLong_64 : decode cX4_isLong 64 = .ok (.lcmp, 1) := by decide +kernel
theorem dX4_isLong_65 : decode cX4_isLong 65 = .ok (.ifCond .ge 20, 3) := by decide +kernel
theorem dX4_isLong_68 : decode cX4_isLong 68 = .ok (.aload_n 0, 1) := by decide +kernel
theorem dX4_isLong_69 : decode cX4_isLong 69 = .ok (.getfield 19, 3) := by decide +kernel
theorem dX4_isLong_72 : decode cX4_isLong 72 = .ok (.ifCond .eq 11, 3) := by decide +kernel
theorem dX4_isLong_75 : decode cX4_isLong 75 = .ok (.lload_n 1, 1) := by decide +kernel
theorem dX4_isLong_76 : decode cX4_isLong 76 = .ok (.ldc2_w 63, 3) := by decide +kernel
theorem dX4_isLong_79 : decode cX4_isLong 79 = .ok (.lcmp, 1) := by decide +kernel
theorem dX4_isLong_80 : decode cX4_isLong 80 = .ok (.ifCond .eq 5, 3) := by decide +kernel
theorem dX4_isLong_83 : decode cX4_isLong 83 = .ok (.iconst 0, 1) := by decide +kernel
theorem dX4_isLong_84 : decode cX4_isLong 84 = .ok (.ireturn, 1) := by decide +kernel
theorem dX4_isLong_85 : decode cX4_isLong 85 = .ok (.aload_n 0, 1) := by decide +kernel
theorem dX4_isLong_86 : decode cX4_isLong 86 = .ok (.aload_n 0, 1) := by decide +kernel
theorem dX4_isLong_87 : decode cX4_isLong 87 = .ok (.getfield 19, 3) := by decide +kernel
theorem dX4_isLong_90 : decode cX4_isLong 90 = .ok (.ifCond .eq 8, 3) := by decide +kernel
theorem dX4_isLong_93 : decode cX4_isLong 93 = .ok (.lload_n 1, 1) := by decide +kernel
theorem dX4_isLong_94 : decode cX4_isLong 94 = .ok (.lneg, 1) := by decide +kernel
theorem dX4_isLong_95 : decode cX4_isLong 95 = .ok (.goto 4, 3) := by decide +kernel
theorem dX4_isLong_98 : decode cX4_isLong 98 = .ok (.lload_n 1, 1) := by decide +kernel
theorem dX4_isLong_99 : decode cX4_isLong 99 = .ok (.putfield 65, 3) := by decide +kernel
theorem dX4_isLong_102 : decode cX4_isLong 102 = .ok (.iconst 1, 1) := by decide +kernel
theorem dX4_isLong_103 : decode cX4_isLong 103 = .ok (.ireturn, 1) := by decide +kernel
end
section
set_option maxRecDepth 20000 in
theorem ggX5_init_X5_greats : GoodIn wsX5_init wsX5_greats := goodIn_r _ [15, 16, 17, 18, 19, 20, 21, 2, 3, 5, 22, 30, 31, 32, 33] (by decide +kernel) (by decide +kernel)
set_option maxRecDepth 20000 in
theorem gX5_init_X5_greats : GoodIn wsX5_init (va_wsS RX5 24 yX5_greats wsX5_greats) := goodIn_app (goodIn_of _ (by decide +kernel)) ggX5_init_X5_greats
theorem dX5_init_0 : decode cX5_init 0 = .ok (.aload_n 0, 1) := by decide +kernel
theorem dX5_init_1 : decode cX5_init 1 = .ok (.invokespecial 3, 3) := by decide +kernel
theorem dX5_init_4 : decode cX5_init 4 = .ok (.aload_n 0, 1) := by decide +kernel
theorem dX5_init_5 : decode cX5_init 5 = .ok (.iconst 1, 1) := by decide +kernel
theorem dX5_init_6 : decode cX5_init 6 = .ok (.putfield 9, 3) := by decide +kernel
theorem dX5_init_9 : decode cX5_init 9 = .ok (.aload_n 0, 1) := by decide +kernel
theorem dX5_init_10 : decode cX5_init 10 = .ok (.bipush 110, 2) := by decide +kernel
theorem dX5_init_12 : decode cX5_init 12 = .ok (.newarray .int, 2) := by decide +kernel
theorem dX5_init_14 : decode cX5_init 14 = .ok (.putfield 13, 3) := by decide +kernel
theorem dX5_init_17 : decode cX5_init 17 = .ok (.aload_n 0, 1) := by decide +kernel
theorem dX5_init_18 : decode cX5_init 18 = .ok (.bipush 10, 2) := by decide +kernel
theorem dX5_init_20 : decode cX5_init 20 = .ok (.newarray .long, 2) := by decide +kernel
theorem dX5_init_22 : decode cX5_init 22 = .ok (.putfield 17, 3) := by decide +kernel
theorem dX5_init_25 : decode cX5_init 25 = .ok (.aload_n 0, 1) := by decide +kernel
theorem dX5_init_26 : decode cX5_init 26 = .ok (.bipush 10, 2) := by decide +kernel
theorem dX5_init_28 : decode cX5_init 28 = .ok (.newarray .long, 2) := by decide +kernel
theorem dX5_init_30 : decode cX5_init 30 = .ok (.putfield 21, 3) := by decide +kernel
theorem dX5_init_33 : decode cX5_init 33 = .ok (.aload_n 0, 1) := by decide +kernel
theorem dX5_init_34 : decode cX5_init 34 = .ok (.bipush 110, 2) := by decide +kernel
theorem dX5_init_36 : decode cX5_init 36 = .ok (.invokestatic 24, 3) := by decide +kernel
theorem dX5_init_39 : decode cX5_init 39 = .ok (.putfield 28, 3) := by decide +kernel
theorem dX5_init_42 : decode cX5_init 42 = .ok (.aload_n 0, 1) := by decide +kernel
theorem dX5_init_43 : decode cX5_init 43 = .ok (.bipush 8, 2) := by decide +kernel
theorem dX5_init_45 : decode cX5_init 45 = .ok (.invokestatic 24, 3) := by decide +kernel
theorem dX5_init_48 : decode cX5_init 48 = .ok (.putfield 32, 3) := by decide +kernel
theorem dX5_init_51 : decode cX5_init 51 = .ok (.return_, 1) := by decide +kernel
theorem dX5_begin_0 : decode cX5_begin 0 = .ok (.iload_n 1, 1) := by decide +kernel
theorem dX5_begin_1 : decode cX5_begin 1 = .ok (.iconst 1, 1) := by decide +kernel
theorem dX5_begin_2 : decode cX5_begin 2 = .ok (.if_icmp .lt 9, 3) := by decide +kernel
theorem dX5_begin_5 : decode cX5_begin 5 = .ok (.iload_n 1, 1) := by decide +kernel
theorem dX5_begin_6 : decode cX5_begin 6 = .ok (.bipush 10, 2) := by decide +kernel
theorem dX5_begin_8 : decode cX5_begin 8 = .ok (.if_icmp .le 5, 3) := by decide +kernel
theorem dX5_begin_11 : decode cX5_begin 11 = .ok (.iconst 0, 1) := by decide +kernel
theorem dX5_begin_12 : decode cX5_begin 12 = .ok (.ireturn, 1) := by decide +kernel
theorem dX5_begin_13 : decode cX5_begin 13 = .ok (.aload_n 0, 1) := by decide +kernel
theorem dX5_begin_14 : decode cX5_begin 14 = .ok (.iload_n 1, 1) := by decide +kernel
theorem dX5_begin_15 : decode cX5_begin 15 = .ok (.putfield 9, 3) := by decide +kernel
theorem dX5_begin_18 : decode cX5_begin 18 = .ok (.iconst 0, 1) := by decide +kernel
theorem dX5_begin_19 : decode cX5_begin 19 = .ok (.istore_n 2, 1) := by decide +kernel
theorem dX5_begin_20 : decode cX5_begin 20 = .ok (.iload_n 2, 1) := by decide +kernel
theorem dX5_begin_21 : decode cX5_begin 21 = .ok (.aload_n 0, 1) := by decide +kernel
theorem dX5_begin_22 : decode cX5_begin 22 = .ok (.getfield 13, 3) := by decide +kernel
theorem dX5_begin_25 : decode cX5_begin 25 = .ok (.arraylength, 1) := by decide +kernel
theorem dX5_begin_26 : decode cX5_begin 26 = .ok (.if_icmp .ge 16, 3) := by decide +kernel
theorem dX5_begin_29 : decode cX5_begin 29 = .ok (.aload_n 0, 1) := by decide +kernel
theorem dX5_begin_30 : decode cX5_begin 30 = .ok (.getfield 13, 3) := by decide +kernel
theorem dX5_begin_33 : decode cX5_begin 33 = .ok (.iload_n 2, 1) := by decide +kernel
theorem dX5_begin_34 : decode cX5_begin 34 = .ok (.iconst 0, 1) := by decide +kernel
theorem dX5_begin_35 : decode cX5_begin 35 = .ok (.iastore, 1) := by decide +kernel
theorem dX5_begin_36 : decode cX5_begin 36 = .ok (.iinc 2 1, 3) := by decide +kernel
theorem dX5_begin_39 : decode cX5_begin 39 = .ok (.goto (-19), 3) := by decide +kernel
theorem dX5_begin_42 : decode cX5_begin 42 = .ok (.aload_n 0, 1) := by decide +kernel
theorem dX5_begin_43 : decode cX5_begin 43 = .ok (.iconst 0, 1) := by decide +kernel
theorem dX5_begin_44 : decode cX5_begin 44 = .ok (.putfield 35, 3) := by decide +kernel
theorem dX5_begin_47 : decode cX5_begin 47 = .ok (.iconst 1, 1) := by decide +kernel
theorem dX5_begin_48 : decode cX5_begin 48 = .ok (.ireturn, 1) := by decide +kernel
theorem dX5_isThere_0 : decode cX5_isThere 0 = .ok (.iload_n 1, 1) := by decide +kernel
theorem dX5_isThere_1 : decode cX5_isThere 1 = .ok (.ifCond .lt 27, 3) := by decide +kernel
theorem dX5_isThere_4 : decode cX5_isThere 4 = .ok (.iload_n 1, 1) := by decide +kernel
theorem dX5_isThere_5 : decode cX5_isThere 5 = .ok (.aload_n 0, 1) := by decide +kernel
theorem dX5_isThere_6 : decode cX5_isThere 6 = .ok (.getfield 9, 3) := by decide +kernel
theorem dX5_isThere_9 : decode cX5_isThere 9 = .ok (.if_icmp .ge 19, 3) := by decide +kernel
theorem dX5_isThere_12 : decode cX5_isThere 12 = .ok (.iload_n 2, 1) := by decide +kernel
theorem dX5_isThere_13 : decode cX5_isThere 13 = .ok (.ifCond .lt 15, 3) := by decide +kernel
theorem dX5_isThere_16 : decode cX5_isThere 16 = .ok (.iload_n 2, 1) := by decide +kernel
theorem dX5_isThere_17 : decode cX5_isThere 17 = .ok (.aload_n 0, 1) := by decide +kernel
theorem dX5_isThere_18 : decode cX5_isThere 18 = .ok (.getfield 9, 3) := by decide +kernel
theorem dX5_isThere_21 : decode cX5_isThere 21 = .ok (.if_icmp .gt 7, 3) := by decide +kernel
theorem dX5_isThere_24 : decode cX5_isThere 24 = .ok (.iconst 1, 1) := by decide +kernel
theorem dX5_isThere_25 : decode cX5_isThere 25 = .ok (.goto 4, 3) := by decide +kernel
theorem dX5_isThere_28 : decode cX5_isThere 28 = .ok (.iconst 0, 1) := by decide +kernel
theorem dX5_isThere_29 : decode cX5_isThere 29 = .ok (.ireturn, 1) := by decide +kernel
set_option maxRecDepth 20000 in
theorem ggX5_put_X5_isThere : GoodIn wsX5_put wsX5_isThere := goodIn_r _ [7, 2, 8, 9, 10, 11, 12, 13, 14] (by decide +kernel) (by decide +kernel)
set_option maxRecDepth 20000 in
theorem gX5_put_X5_isThere : GoodIn wsX5_put (wsV RX5 39 RX5 yX5_isThere wsX5_isThere) := goodIn_app (goodIn_of _ (by decide +kernel)) ggX5_put_X5_isThere
theorem dX5_put_0 : decode cX5_put 0 = .ok (.aload_n 0, 1) := by decide +kernel
theorem dX5_put_1 : decode cX5_put 1 = .ok (.iload_n 1, 1) := by decide +kernel
theorem dX5_put_2 : decode cX5_put 2 = .ok (.iload_n 2, 1) := by decide +kernel
theorem dX5_put_3 : decode cX5_put 3 = .ok (.invokevirtual 39, 3) := by decide +kernel
theorem dX5_put_6 : decode cX5_put 6 = .ok (.ifCond .ne 5, 3) := by decide +kernel
theorem dX5_put_9 : decode cX5_put 9 = .ok (.iconst 0, 1) := by decide +kernel
theorem dX5_put_10 : decode cX5_put 10 = .ok (.ireturn, 1) := by decide +kernel
theorem dX5_put_11 : decode cX5_put 11 = .ok (.aload_n 0, 1) := by decide +kernel
theorem dX5_put_12 : decode cX5_put 12 = .ok (.getfield 13, 3) := by decide +kernel
theorem dX5_put_15 : decode cX5_put 15 = .ok (.iload_n 1, 1) := by decide +kernel
theorem dX5_put_16 : decode cX5_put 16 = .ok (.aload_n 0, 1) := by decide +kernel
theorem dX5_put_17 : decode cX5_put 17 = .ok (.getfield 9, 3) := by decide +kernel
theorem dX5_put_20 : decode cX5_put 20 = .ok (.iconst 1, 1) := by decide +kernel
theorem dX5_put_21 : decode cX5_put 21 = .ok (.iadd, 1) := by decide +kernel
theorem dX5_put_22 : decode cX5_put 22 = .ok (.imul, 1) := by decide +kernel
theorem dX5_put_23 : decode cX5_put 23 = .ok (.iload_n 2, 1) := by decide +kernel
theorem dX5_put_24 : decode cX5_put 24 = .ok (.iadd, 1) := by decide +kernel
theorem dX5_put_25 : decode cX5_put 25 = .ok (.iload_n 3, 1) := by decide +kernel
theorem dX5_put_26 : decode cX5_put 26 = .ok (.iastore, 1) := by decide +kernel
theorem dX5_put_27 : decode cX5_put 27 = .ok (.iconst 1, 1) := by decide +kernel
theorem dX5_put_28 : decode cX5_put 28 = .ok (.ireturn, 1) := by decide +kernel
set_option maxRecDepth 20000 in
theorem ggX5_get_X5_isThere : GoodIn wsX5_get wsX5_isThere := goodIn_r _ [7, 2, 8, 9, 10, 11, 12, 13, 14] (by decide +kernel) (by decide +kernel)
set_option maxRecDepth 20000 in
theorem gX5_get_X5_isThere : GoodIn wsX5_get (wsV RX5 39 RX5 yX5_isThere wsX5_isThere) := goodIn_app (goodIn_of _ (by decide +kernel)) ggX5_get_X5_isThere
theorem dX5_get_0 : decode cX5_get 0 = .ok (.aload_n 0, 1) := by decide +kernel
theorem dX5_get_1 : decode cX5_get 1 = .ok (.iload_n 1, 1) := by decide +kernel
theorem dX5_get_2 : decode cX5_get 2 = .ok (.iload_n 2, 1) := by decide +kernel
theorem dX5_get_3 : decode cX5_get 3 = .ok (.invokevirtual 39, 3) := by decide +kernel
theorem dX5_get_6 : decode cX5_get 6 = .ok (.ifCond .eq 21, 3) := by decide +kernel
theorem dX5_get_9 : decode cX5_get 9 = .ok (.aload_n 0, 1) := by decide +kernel
theorem dX5_get_10 : decode cX5_get 10 = .ok (.getfield 13, 3) := by decide +kernel
theorem dX5_get_13 : decode cX5_get 13 = .ok (.iload_n 1, 1) := by decide +kernel
theorem dX5_get_14 : decode cX5_get 14 = .ok (.aload_n 0, 1) := by decide +kernel
theorem dX5_get_15 : decode cX5_get 15 = .ok (.getfield 9, 3) := by decide +kernel
theorem dX5_get_18 : decode cX5_get 18 = .ok (.iconst 1, 1) := by decide +kernel
theorem dX5_get_19 : decode cX5_get 19 = .ok (.iadd, 1) := by decide +kernel
theorem dX5_get_20 : decode cX5_get 20 = .ok (.imul, 1) := by decide +kernel
theorem dX5_get_21 : decode cX5_get 21 = .ok (.iload_n 2, 1) := by decide +kernel
theorem dX5_get_22 : decode cX5_get 22 = .ok (.iadd, 1) := by decide +kernel
theorem dX5_get_23 : decode cX5_get 23 = .ok (.iaload, 1) := by decide +kernel
theorem dX5_get_24 : decode cX5_get 24 = .ok (.goto 4, 3) := by decide +kernel
theorem dX5_get_27 : decode cX5_get 27 = .ok (.iconst 0, 1) := by decide +kernel
theorem dX5_get_28 : decode cX5_get 28 = .ok (.ireturn, 1) := by decide +kernel
set_option maxRecDepth 20000 in
theorem ggX5_solve_X4_set : GoodIn wsX5_solve wsX4_set := goodIn_r _ [9, 10, 11, 12, 13, 98, 99, 100, 101] (by decide +kernel) (by decide +kernel)
set_option maxRecDepth 20000 in
theorem gX5_solve_X4_set : GoodIn wsX5_solve (wsV RX5 43 RX4 yX4_set wsX4_set) := goodIn_app (goodIn_of _ (by decide +kernel)) ggX5_solve_X4_set
set_option maxRecDepth 20000 in
theorem ggX5_solve_X5_isReduced : GoodIn wsX5_solve wsX5_isReduced := goodIn_r _ [18, 19, 3, 5, 6, 7, 8, 9, 10, 11, 12, 13, 20, 21, 22, 23, 24, 25, 26, 17, 27, 28, 29, 30, 31, 32, 33, 34, 35, 36, 37, 38, 39, 40, 41, 42, 43, 44, 45, 46, 47, 48, 49, 50, 51, 52, 53, 54, 55, 56, 57, 58, 59, 60, 61, 62, 63, 64, 65, 66, 67, 68, 69, 70, 71, 72, 73, 74, 75, 76, 91, 92, 93, 94, 95, 96, 97, 98, 99, 100, 101] (by decide +kernel) (by decide +kernel)
set_option maxRecDepth 20000 in
theorem gX5_solve_X5_isReduced : GoodIn wsX5_solve (wsV RX5 49 RX5 yX5_isReduced wsX5_isReduced) := goodIn_app (goodIn_of _ (by decide +kernel)) ggX5_solve_X5_isReduced
set_option maxRecDepth 20000 in
theorem ggX5_solve_X5_fraction : GoodIn wsX5_solve wsX5_fraction := goodIn_r _ [80, 19, 81, 82, 83, 84, 28, 29, 30, 8, 31, 10, 11, 13, 20, 21, 22, 23, 65, 66, 67, 68, 69, 70, 71, 72, 73, 74, 75, 76, 56, 57, 58, 59, 60, 61, 62, 63, 64, 41, 42, 43, 44, 85, 86, 87, 88, 89, 90, 91, 92, 93, 94, 95, 96, 97, 98, 99, 100, 101] (by decide +kernel) (by decide +kernel)
set_option maxRecDepth 20000 in
theorem gX5_solve_X5_fraction : GoodIn wsX5_solve (wsV RX5 53 RX5 yX5_fraction wsX5_fraction) := goodIn_app (goodIn_of _ (by decide +kernel)) ggX5_solve_X5_fraction
theorem dX5_solve_0 : decode cX5_solve 0 = .ok (.aload_n 0, 1) := by decide +kernel
theorem dX5_solve_1 : decode cX5_solve 1 = .ok (.iconst 0, 1) := by decide +kernel
theorem dX5_solve_2 : decode cX5_solve 2 = .ok (.putfield 35, 3) := by decide +kernel
theorem dX5_solve_5 : decode cX5_solve 5 = .ok (.aload_n 0, 1) := by decide +kernel
theorem dX5_solve_6 : decode cX5_solve 6 = .ok (.getfield 9, 3) := by decide +kernel
theorem dX5_solve_9 : decode cX5_solve 9 = .ok (.iconst 1, 1) := by decide +kernel
theorem dX5_solve_10 : decode cX5_solve 10 = .ok (.iadd, 1) := by decide +kernel
theorem dX5_solve_11 : decode cX5_solve 11 = .ok (.istore_n 1, 1) := by decide +kernel
theorem dX5_solve_12 : decode cX5_solve 12 = .ok (.iconst 0, 1) := by decide +kernel
theorem dX5_solve_13 : decode cX5_solve 13 = .ok (.istore_n 2, 1) := by decide +kernel
theorem dX5_solve_14 : decode cX5_solve 14 = .ok (.iload_n 2, 1) := by decide +kernel
theorem dX5_solve_15 : decode cX5_solve 15 = .ok (.aload_n 0, 1) := by decide +kernel
theorem dX5_solve_16 : decode cX5_solve 16 = .ok (.getfield 9, 3) := by decide +kernel
theorem dX5_solve_19 : decode cX5_solve 19 = .ok (.iload_n 1, 1) := by decide +kernel
theorem dX5_solve_20 : decode cX5_solve 20 = .ok (.imul, 1) := by decide +kernel
theorem dX5_solve_21 : decode cX5_solve 21 = .ok (.if_icmp .ge 25, 3) := by decide +kernel
theorem dX5_solve_24 : decode cX5_solve 24 = .ok (.aload_n 0, 1) := by decide +kernel
theorem dX5_solve_25 : decode cX5_solve 25 = .ok (.getfield 28, 3) := by decide +kernel
theorem dX5_solve_28 : decode cX5_solve 28 = .ok (.iload_n 2, 1) := by decide +kernel
theorem dX5_solve_29 : decode cX5_solve 29 = .ok (.aaload, 1) := by decide +kernel
theorem dX5_solve_30 : decode cX5_solve 30 = .ok (.aload_n 0, 1) := by decide +kernel
theorem dX5_solve_31 : decode cX5_solve 31 = .ok (.getfield 13, 3) := by decide +kernel
theorem dX5_solve_34 : decode cX5_solve 34 = .ok (.iload_n 2, 1) := by decide +kernel
theorem dX5_solve_35 : decode cX5_solve 35 = .ok (.iaload, 1) := by decide +kernel
theorem dX5_solve_36 : decode cX5_solve 36 = .ok (.i2l, 1) := by decide +kernel
theorem dX5_solve_37 : decode cX5_solve 37 = .ok (.invokevirtual 43, 3) := by decide +kernel
theorem dX5_solve_40 : decode cX5_solve 40 = .ok (.iinc 2 1, 3) := by decide +kernel
theorem dX5_solve_43 : decode cX5_solve 43 = .ok (.goto (-29), 3) := by decide +kernel
theorem dX5_solve_46 : decode cX5_solve 46 = .ok (.aload_n 0, 1) := by decide +kernel
theorem dX5_solve_47 : decode cX5_solve 47 = .ok (.aload_n 0, 1) := by decide +kernel
theorem dX5_solve_48 : decode cX5_solve 48 = .ok (.getfield 9, 3) := by decide +kernel
theorem dX5_solve_51 : decode cX5_solve 51 = .ok (.invokevirtual 49, 3) := by decide +kernel
theorem dX5_solve_54 : decode cX5_solve 54 = .ok (.ifCond .ne 5, 3) := by decide +kernel
theorem dX5_solve_57 : decode cX5_solve 57 = .ok (.iconst (-1), 1) := by decide +kernel
theorem dX5_solve_58 : decode cX5_solve 58 = .ok (.ireturn, 1) := by decide +kernel
theorem dX5_solve_59 : decode cX5_solve 59 = .ok (.iconst 0, 1) := by decide +kernel
theorem dX5_solve_60 : decode cX5_solve 60 = .ok (.istore_n 2, 1) := by decide +kernel
theorem dX5_solve_61 : decode cX5_solve 61 = .ok (.iload_n 2, 1) := by decide +kernel
theorem dX5_solve_62 : decode cX5_solve 62 = .ok (.aload_n 0, 1) := by decide +kernel
theorem dX5_solve_63 : decode cX5_solve 63 = .ok (.getfield 9, 3) := by decide +kernel
theorem dX5_solve_66 : decode cX5_solve 66 = .ok (.if_icmp .ge 44, 3) := by decide +kernel
theorem dX5_solve_69 : decode cX5_solve 69 = .ok (.aload_n 0, 1) := by decide +kernel
theorem dX5_solve_70 : decode cX5_solve 70 = .ok (.aload_n 0, 1) := by decide +kernel
theorem dX5_solve_71 : decode cX5_solve 71 = .ok (.getfield 28, 3) := by decide +kernel
theorem dX5_solve_74 : decode cX5_solve 74 = .ok (.iload_n 1, 1) := by decide +kernel
theorem dX5_solve_75 : decode cX5_solve 75 = .ok (.iload_n 2, 1) := by decide +kernel
theorem dX5_solve_76 : decode cX5_solve 76 = .ok (.imul, 1) := by decide +kernel
theorem dX5_solve_77 : decode cX5_solve 77 = .ok (.aload_n 0, 1) := by decide +kernel
theorem dX5_solve_78 : decode cX5_solve 78 = .ok (.getfield 9, 3) := by decide +kernel
theorem dX5_solve_81 : decode cX5_solve 81 = .ok (.iadd, 1) := by decide +kernel
theorem dX5_solve_82 : decode cX5_solve 82 = .ok (.aaload, 1) := by decide +kernel
theorem dX5_solve_83 : decode cX5_solve 83 = .ok (.aload_n 0, 1) := by decide +kernel
theorem dX5_solve_84 : decode cX5_solve 84 = .ok (.getfield 28, 3) := by decide +kernel
theorem dX5_solve_87 : decode cX5_solve 87 = .ok (.iload_n 1, 1) := by decide +kernel
theorem dX5_solve_88 : decode cX5_solve 88 = .ok (.iload_n 2, 1) := by decide +kernel
theorem dX5_solve_89 : decode cX5_solve 89 = .ok (.imul, 1) := by decide +kernel
theorem dX5_solve_90 : decode cX5_solve 90 = .ok (.iload_n 2, 1) := by decide +kernel
theorem dX5_solve_91 : decode cX5_solve 91 = .ok (.iadd, 1) := by decide +kernel
theorem dX5_solve_92 : decode cX5_solve 92 = .ok (.aaload, 1) := by decide +kernel
theorem dX5_solve_93 : decode cX5_solve 93 = .ok (.iload_n 2, 1) := by decide +kernel
theorem dX5_solve_94 : decode cX5_solve 94 = .ok (.invokevirtual 53, 3) := by decide +kernel
theorem dX5_solve_97 : decode cX5_solve 97 = .ok (.ifCond .ne 7, 3) := by decide +kernel
theorem dX5_solve_100 : decode cX5_solve 100 = .ok (.iconst 1, 1) := by decide +kernel
theorem dX5_solve_101 : decode cX5_solve 101 = .ok (.iload_n 2, 1) := by decide +kernel
theorem dX5_solve_102 : decode cX5_solve 102 = .ok (.iadd, 1) := by decide +kernel
theorem dX5_solve_103 : decode cX5_solve 103 = .ok (.ireturn, 1) := by decide +kernel
theorem dX5_solve_104 : decode cX5_solve 104 = .ok (.iinc 2 1, 3) := by decide +kernel
theorem dX5_solve_107 : decode cX5_solve 107 = .ok (.goto (-46), 3) := by decide +kernel
theorem dX5_solve_110 : decode cX5_solve 110 = .ok (.aload_n 0, 1) := by decide +kernel
theorem dX5_solve_111 : decode cX5_solve 111 = .ok (.iconst 1, 1) := by decide +kernel
theorem dX5_solve_112 : decode cX5_solve 112 = .ok (.putfield 35, 3) := by decide +kernel
theorem dX5_solve_115 : decode cX5_solve 115 = .ok (.iconst 0, 1) := by decide +kernel
theorem dX5_solve_116 : decode cX5_solve 116 = .ok (.ireturn, 1) := by decide +kernel
theorem dX5_above_0 : decode cX5_above 0 = .ok (.aload_n 0, 1) := by decide +kernel
theorem dX5_above_1 : decode cX5_above 1 = .ok (.getfield 35, 3) := by decide +kernel
theorem dX5_above_4 : decode cX5_above 4 = .ok (.ifCond .eq 24, 3) := by decide +kernel
theorem dX5_above_7 : decode cX5_above 7 = .ok (.iload_n 1, 1) := by decide +kernel
theorem dX5_above_8 : decode cX5_above 8 = .ok (.ifCond .lt 20, 3) := by decide +kernel
theorem dX5_above_11 : decode cX5_above 11 = .ok (.iload_n 1, 1) := by decide +kernel
theorem dX5_above_12 : decode cX5_above 12 = .ok (.aload_n 0, 1) := by decide +kernel
theorem dX5_above_13 : decode cX5_above 13 = .ok (.getfield 9, 3) := by decide +kernel
theorem dX5_above_16 : decode cX5_above 16 = .ok (.if_icmp .ge 12, 3) := by decide +kernel
theorem dX5_above_19 : decode cX5_above 19 = .ok (.aload_n 0, 1) := by decide +kernel
theorem dX5_above_20 : decode cX5_above 20 = .ok (.getfield 17, 3) := by decide +kernel
theorem dX5_above_23 : decode cX5_above 23 = .ok (.iload_n 1, 1) := by decide +kernel
theorem dX5_above_24 : decode cX5_above 24 = .ok (.laload, 1) := by decide +kernel
theorem dX5_above_25 : decode cX5_above 25 = .ok (.goto 4, 3) := by decide +kernel
theorem dX5_above_28 : decode cX5_above 28 = .ok (.lconst 0, 1) := by decide +kernel
theorem dX5_above_29 : decode cX5_above 29 = .ok (.lreturn, 1) := by decide +kernel
theorem dX5_under_0 : decode cX5_under 0 = .ok (.aload_n 0, 1) := by decide +kernel
theorem dX5_under_1 : decode cX5_under 1 = .ok (.getfield 35, 3) := by decide +kernel
theorem dX5_under_4 : decode cX5_under 4 = .ok (.ifCond .eq 24, 3) := by decide +kernel
theorem dX5_under_7 : decode cX5_under 7 = .ok (.iload_n 1, 1) := by decide +kernel
theorem dX5_under_8 : decode cX5_under 8 = .ok (.ifCond .lt 20, 3) := by decide +kernel
theorem dX5_under_11 : decode cX5_under 11 = .ok (.iload_n 1, 1) := by decide +kernel
theorem dX5_under_12 : decode cX5_under 12 = .ok (.aload_n 0, 1) := by decide +kernel
theorem dX5_under_13 : decode cX5_under 13 = .ok (.getfield 9, 3) := by decide +kernel
theorem dX5_under_16 : decode cX5_under 16 = .ok (.if_icmp .ge 12, 3) := by decide +kernel
theorem dX5_under_19 : decode cX5_under 19 = .ok (.aload_n 0, 1) := by decide +kernel
theorem dX5_under_20 : decode cX5_under 20 = .ok (.getfield 21, 3) := by decide +kernel
theorem dX5_under_23 : decode cX5_under 23 = .ok (.iload_n 1, 1) := by decide +kernel
theorem dX5_under_24 : decode cX5_under 24 = .ok (.laload, 1) := by decide +kernel
theorem dX5_under_25 : decode cX5_under 25 = .ok (.goto 4, 3) := by decide +kernel
theorem dX5_under_28 : decode cX5_under 28 = .ok (.lconst 0, 1) := by decide +kernel
theorem dX5_under_29 : decode cX5_under 29 = .ok (.lreturn, 1) := by decide +kernel
set_option maxRecDepth 20000 in
theorem ggX5_greats_X4_init : GoodIn wsX5_greats wsX4_init := goodIn_r _ [5, 6, 7, 8, 9, 10, 11, 12, 13, 14] (by decide +kernel) (by decide +kernel)
set_option maxRecDepth 20000 in
theorem gX5_greats_X4_init_n57 : GoodIn wsX5_greats (wsX4_init) := ggX5_greats_X4_init
theorem dX5_greats_0 : decode cX5_greats 0 = .ok (.iload_n 0, 1) := by decide +kernel
theorem dX5_greats_1 : decode cX5_greats 1 = .ok (.anewarray 44, 3) := by decide +kernel
theorem dX5_greats_4 : decode cX5_greats 4 = .ok (.astore_n 1, 1) := by decide +kernel
theorem dX5_greats_5 : decode cX5_greats 5 = .ok (.iconst 0, 1) := by decide +kernel
theorem dX5_greats_6 : decode cX5_greats 6 = .ok (.istore_n 2, 1) := by decide +kernel
theorem dX5_greats_7 : decode cX5_greats 7 = .ok (.iload_n 2, 1) := by decide +kernel
theorem dX5_greats_8 : decode cX5_greats 8 = .ok (.iload_n 0, 1) := by decide +kernel
theorem dX5_greats_9 : decode cX5_greats 9 = .ok (.if_icmp .ge 19, 3) := by decide +kernel
theorem dX5_greats_12 : decode cX5_greats 12 = .ok (.aload_n 1, 1) := by decide +kernel
theorem dX5_greats_13 : decode cX5_greats 13 = .ok (.iload_n 2, 1) := by decide +kernel
theorem dX5_greats_14 : decode cX5_greats 14 = .ok (.new 44, 3) := by decide +kernel
theorem dX5_greats_17 : decode cX5_greats 17 = .ok (.dup, 1) := by decide +kernel
theorem dX5_greats_18 : decode cX5_greats 18 = .ok (.invokespecial 57, 3) := by decide +kernel
theorem dX5_greats_21 : decode cX5_greats 21 = .ok (.aastore, 1) := by decide +kernel
theorem dX5_greats_22 : decode cX5_greats 22 = .ok (.iinc 2 1, 3) := by decide +kernel
theorem dX5_greats_25 : decode cX5_greats 25 = .ok (.goto (-18), 3) := by decide +kernel
theorem dX5_greats_28 : decode cX5_greats 28 = .ok (.aload_n 1, 1) := by decide +kernel
theorem dX5_greats_29 : decode cX5_greats 29 = .ok (.areturn, 1) := by decide +kernel
end
section
set_option maxRecDepth 20000 in
theorem ggX5_isReduced_X4_set : GoodIn wsX5_isReduced wsX4_set := goodIn_r _ [7, 8, 9, 10, 11, 77, 78, 79, 80] (by decide +kernel) (by decide +kernel)
set_option maxRecDepth 20000 in
theorem gX5_isReduced_X4_set : GoodIn wsX5_isReduced (wsV RX5 43 RX4 yX4_set wsX4_set) := goodIn_app (goodIn_of _ (by decide +kernel)) ggX5_isReduced_X4_set
set_option maxRecDepth 20000 in
theorem ggX5_isReduced_X4_isZero : GoodIn wsX5_isReduced wsX4_isZero := goodIn_r _ [15, 9, 77, 78, 79, 80] (by decide +kernel) (by decide +kernel)
set_option maxRecDepth 20000 in
theorem gX5_isReduced_X4_isZero : GoodIn wsX5_isReduced (wsV RX5 58 RX4 yX4_isZero wsX4_isZero) := goodIn_app (goodIn_of _ (by decide +kernel)) ggX5_isReduced_X4_isZero
set_option maxRecDepth 20000 in
theorem ggX5_isReduced_X5_eliminate : GoodIn wsX5_isReduced wsX5_eliminate := goodIn_r _ [20, 1, 2, 21, 22, 23, 6, 24, 8, 9, 11, 25, 26, 27, 28, 29, 30, 31, 32, 33, 34, 35, 36, 37, 38, 39, 40, 41, 42, 43, 44, 45, 46, 47, 48, 49, 50, 51, 52, 53, 54, 55, 56, 57, 58, 59, 60, 61, 62, 63, 64, 65, 66, 67, 68, 69, 70, 71, 72, 73, 74, 75, 76, 77, 78, 79, 80] (by decide +kernel) (by decide +kernel)
set_option maxRecDepth 20000 in
theorem gX5_isReduced_X5_eliminate : GoodIn wsX5_isReduced (wsV RX5 62 RX5 yX5_eliminate wsX5_eliminate) := goodIn_app (goodIn_of _ (by decide +kernel)) ggX5_isReduced_X5_eliminate
set_option maxRecDepth 20000 in
theorem ggX5_isReduced_X4_set_ : GoodIn wsX5_isReduced wsX4_set_ := goodIn_r _ [24, 8, 9, 11, 77, 78, 79, 80] (by decide +kernel) (by decide +kernel)
set_option maxRecDepth 20000 in
theorem gX5_isReduced_X4_set_ : GoodIn wsX5_isReduced (wsV RX5 66 RX4 yX4_set_ wsX4_set_) := goodIn_app (goodIn_of _ (by decide +kernel)) ggX5_isReduced_X4_set_
theorem dX5_isReduced_0 : decode cX5_isReduced 0 = .ok (.iload_n 1, 1) := by decide +kernel
theorem dX5_isReduced_1 : decode cX5_isReduced 1 = .ok (.iconst 1, 1) := by decide +kernel
theorem dX5_isReduced_2 : decode cX5_isReduced 2 = .ok (.iadd, 1) := by decide +kernel
theorem dX5_isReduced_3 : decode cX5_isReduced 3 = .ok (.istore_n 2, 1) := by decide +kernel
theorem dX5_isReduced_4 : decode cX5_isReduced 4 = .ok (.aload_n 0, 1) := by decide +kernel
theorem dX5_isReduced_5 : decode cX5_isReduced 5 = .ok (.getfield 32, 3) := by decide +kernel
theorem dX5_isReduced_8 : decode cX5_isReduced 8 = .ok (.iconst 0, 1) := by decide +kernel
theorem dX5_isReduced_9 : decode cX5_isReduced 9 = .ok (.aaload, 1) := by decide +kernel
theorem dX5_isReduced_10 : decode cX5_isReduced 10 = .ok (.astore_n 3, 1) := by decide +kernel
theorem dX5_isReduced_11 : decode cX5_isReduced 11 = .ok (.aload_n 3, 1) := by decide +kernel
theorem dX5_isReduced_12 : decode cX5_isReduced 12 = .ok (.lconst 1, 1) := by decide +kernel
theorem dX5_isReduced_13 : decode cX5_isReduced 13 = .ok (.invokevirtual 43, 3) := by decide +kernel
theorem dX5_isReduced_16 : decode cX5_isReduced 16 = .ok (.iconst 0, 1) := by decide +kernel
theorem dX5_isReduced_17 : decode cX5_isReduced 17 = .ok (.istore 4, 2) := by decide +kernel
theorem dX5_isReduced_19 : decode cX5_isReduced 19 = .ok (.iload 4, 2) := by decide +kernel
theorem dX5_isReduced_21 : decode cX5_isReduced 21 = .ok (.iload_n 1, 1) := by decide +kernel
theorem dX5_isReduced_22 : decode cX5_isReduced 22 = .ok (.if_icmp .ge 173, 3) := by decide +kernel
theorem dX5_isReduced_25 : decode cX5_isReduced 25 = .ok (.iload 4, 2) := by decide +kernel
theorem dX5_isReduced_27 : decode cX5_isReduced 27 = .ok (.istore 5, 2) := by decide +kernel
theorem dX5_isReduced_29 : decode cX5_isReduced 29 = .ok (.iload 5, 2) := by decide +kernel
theorem dX5_isReduced_31 : decode cX5_isReduced 31 = .ok (.iload_n 1, 1) := by decide +kernel
theorem dX5_isReduced_32 : decode cX5_isReduced 32 = .ok (.if_icmp .ge 27, 3) := by decide +kernel
theorem dX5_isReduced_35 : decode cX5_isReduced 35 = .ok (.aload_n 0, 1) := by decide +kernel
theorem dX5_isReduced_36 : decode cX5_isReduced 36 = .ok (.getfield 28, 3) := by decide +kernel
theorem dX5_isReduced_39 : decode cX5_isReduced 39 = .ok (.iload_n 2, 1) := by decide +kernel
theorem dX5_isReduced_40 : decode cX5_isReduced 40 = .ok (.iload 5, 2) := by decide +kernel
theorem dX5_isReduced_42 : decode cX5_isReduced 42 = .ok (.imul, 1) := by decide +kernel
theorem dX5_isReduced_43 : decode cX5_isReduced 43 = .ok (.iload 4, 2) := by decide +kernel
theorem dX5_isReduced_45 : decode cX5_isReduced 45 = .ok (.iadd, 1) := by decide +kernel
theorem dX5_isReduced_46 : decode cX5_isReduced 46 = .ok (.aaload, 1) := by decide +kernel
theorem dX5_isReduced_47 : decode cX5_isReduced 47 = .ok (.invokevirtual 58, 3) := by decide +kernel
theorem dX5_isReduced_50 : decode cX5_isReduced 50 = .ok (.ifCond .eq 9, 3) := by decide +kernel
theorem dX5_isReduced_53 : decode cX5_isReduced 53 = .ok (.iinc 5 1, 3) := by decide +kernel
theorem dX5_isReduced_56 : decode cX5_isReduced 56 = .ok (.goto (-27), 3) := by decide +kernel
theorem dX5_isReduced_59 : decode cX5_isReduced 59 = .ok (.iload 5, 2) := by decide +kernel
theorem dX5_isReduced_61 : decode cX5_isReduced 61 = .ok (.iload_n 1, 1) := by decide +kernel
theorem dX5_isReduced_62 : decode cX5_isReduced 62 = .ok (.if_icmp .ne 5, 3) := by decide +kernel
theorem dX5_isReduced_65 : decode cX5_isReduced 65 = .ok (.iconst 0, 1) := by decide +kernel
theorem dX5_isReduced_66 : decode cX5_isReduced 66 = .ok (.ireturn, 1) := by decide +kernel
theorem dX5_isReduced_67 : decode cX5_isReduced 67 = .ok (.iconst 0, 1) := by decide +kernel
theorem dX5_isReduced_68 : decode cX5_isReduced 68 = .ok (.istore 6, 2) := by decide +kernel
theorem dX5_isReduced_70 : decode cX5_isReduced 70 = .ok (.iload 6, 2) := by decide +kernel
theorem dX5_isReduced_72 : decode cX5_isReduced 72 = .ok (.iload_n 2, 1) := by decide +kernel
theorem dX5_isReduced_73 : decode cX5_isReduced 73 = .ok (.if_icmp .ge 68, 3) := by decide +kernel
theorem dX5_isReduced_76 : decode cX5_isReduced 76 = .ok (.iload 5, 2) := by decide +kernel
theorem dX5_isReduced_78 : decode cX5_isReduced 78 = .ok (.iload 4, 2) := by decide +kernel
theorem dX5_isReduced_80 : decode cX5_isReduced 80 = .ok (.if_icmp .eq 61, 3) := by decide +kernel
theorem dX5_isReduced_83 : decode cX5_isReduced 83 = .ok (.aload_n 0, 1) := by decide +kernel
theorem dX5_isReduced_84 : decode cX5_isReduced 84 = .ok (.getfield 28, 3) := by decide +kernel
theorem dX5_isReduced_87 : decode cX5_isReduced 87 = .ok (.iload_n 2, 1) := by decide +kernel
theorem dX5_isReduced_88 : decode cX5_isReduced 88 = .ok (.iload 5, 2) := by decide +kernel
theorem dX5_isReduced_90 : decode cX5_isReduced 90 = .ok (.imul, 1) := by decide +kernel
theorem dX5_isReduced_91 : decode cX5_isReduced 91 = .ok (.iload 6, 2) := by decide +kernel
theorem dX5_isReduced_93 : decode cX5_isReduced 93 = .ok (.iadd, 1) := by decide +kernel
theorem dX5_isReduced_94 : decode cX5_isReduced 94 = .ok (.aaload, 1) := by decide +kernel
theorem dX5_isReduced_95 : decode cX5_isReduced 95 = .ok (.astore 7, 2) := by decide +kernel
theorem dX5_isReduced_97 : decode cX5_isReduced 97 = .ok (.aload_n 0, 1) := by decide +kernel
theorem dX5_isReduced_98 : decode cX5_isReduced 98 = .ok (.getfield 28, 3) := by decide +kernel
theorem dX5_isReduced_101 : decode cX5_isReduced 101 = .ok (.iload_n 2, 1) := by decide +kernel
theorem dX5_isReduced_102 : decode cX5_isReduced 102 = .ok (.iload 5, 2) := by decide +kernel
theorem dX5_isReduced_104 : decode cX5_isReduced 104 = .ok (.imul, 1) := by decide +kernel
theorem dX5_isReduced_105 : decode cX5_isReduced 105 = .ok (.iload 6, 2) := by decide +kernel
theorem dX5_isReduced_107 : decode cX5_isReduced 107 = .ok (.iadd, 1) := by decide +kernel
theorem dX5_isReduced_108 : decode cX5_isReduced 108 = .ok (.aload_n 0, 1) := by decide +kernel
theorem dX5_isReduced_109 : decode cX5_isReduced 109 = .ok (.getfield 28, 3) := by decide +kernel
theorem dX5_isReduced_112 : decode cX5_isReduced 112 = .ok (.iload_n 2, 1) := by decide +kernel
theorem dX5_isReduced_113 : decode cX5_isReduced 113 = .ok (.iload 4, 2) := by decide +kernel
theorem dX5_isReduced_115 : decode cX5_isReduced 115 = .ok (.imul, 1) := by decide +kernel
theorem dX5_isReduced_116 : decode cX5_isReduced 116 = .ok (.iload 6, 2) := by decide +kernel
theorem dX5_isReduced_118 : decode cX5_isReduced 118 = .ok (.iadd, 1) := by decide +kernel
theorem dX5_isReduced_119 : decode cX5_isReduced 119 = .ok (.aaload, 1) := by decide +kernel
theorem dX5_isReduced_120 : decode cX5_isReduced 120 = .ok (.aastore, 1) := by decide +kernel
theorem dX5_isReduced_121 : decode cX5_isReduced 121 = .ok (.aload_n 0, 1) := by decide +kernel
theorem dX5_isReduced_122 : decode cX5_isReduced 122 = .ok (.getfield 28, 3) := by decide +kernel
theorem dX5_isReduced_125 : decode cX5_isReduced 125 = .ok (.iload_n 2, 1) := by decide +kernel
theorem dX5_isReduced_126 : decode cX5_isReduced 126 = .ok (.iload 4, 2) := by decide +kernel
theorem dX5_isReduced_128 : decode cX5_isReduced 128 = .ok (.imul, 1) := by decide +kernel
theorem dX5_isReduced_129 : decode cX5_isReduced 129 = .ok (.iload 6, 2) := by decide +kernel
theorem dX5_isReduced_131 : decode cX5_isReduced 131 = .ok (.iadd, 1) := by decide +kernel
theorem dX5_isReduced_132 : decode cX5_isReduced 132 = .ok (.aload 7, 2) := by decide +kernel
theorem dX5_isReduced_134 : decode cX5_isReduced 134 = .ok (.aastore, 1) := by decide +kernel
theorem dX5_isReduced_135 : decode cX5_isReduced 135 = .ok (.iinc 6 1, 3) := by decide +kernel
theorem dX5_isReduced_138 : decode cX5_isReduced 138 = .ok (.goto (-68), 3) := by decide +kernel
theorem dX5_isReduced_141 : decode cX5_isReduced 141 = .ok (.iconst 0, 1) := by decide +kernel
theorem dX5_isReduced_142 : decode cX5_isReduced 142 = .ok (.istore 6, 2) := by decide +kernel
theorem dX5_isReduced_144 : decode cX5_isReduced 144 = .ok (.iload 6, 2) := by decide +kernel
theorem dX5_isReduced_146 : decode cX5_isReduced 146 = .ok (.iload_n 1, 1) := by decide +kernel
theorem dX5_isReduced_147 : decode cX5_isReduced 147 = .ok (.if_icmp .ge 26, 3) := by decide +kernel
theorem dX5_isReduced_150 : decode cX5_isReduced 150 = .ok (.iload 6, 2) := by decide +kernel
theorem dX5_isReduced_152 : decode cX5_isReduced 152 = .ok (.iload 4, 2) := by decide +kernel
theorem dX5_isReduced_154 : decode cX5_isReduced 154 = .ok (.if_icmp .eq 13, 3) := by decide +kernel
theorem dX5_isReduced_157 : decode cX5_isReduced 157 = .ok (.aload_n 0, 1) := by decide +kernel
theorem dX5_isReduced_158 : decode cX5_isReduced 158 = .ok (.iload 6, 2) := by decide +kernel
theorem dX5_isReduced_160 : decode cX5_isReduced 160 = .ok (.iload 4, 2) := by decide +kernel
theorem dX5_isReduced_162 : decode cX5_isReduced 162 = .ok (.iload_n 2, 1) := by decide +kernel
theorem dX5_isReduced_163 : decode cX5_isReduced 163 = .ok (.aload_n 3, 1) := by decide +kernel
theorem dX5_isReduced_164 : decode cX5_isReduced 164 = .ok (.invokevirtual 62, 3) := by decide +kernel
theorem dX5_isReduced_167 : decode cX5_isReduced 167 = .ok (.iinc 6 1, 3) := by decide +kernel
theorem dX5_isReduced_170 : decode cX5_isReduced 170 = .ok (.goto (-26), 3) := by decide +kernel
theorem dX5_isReduced_173 : decode cX5_isReduced 173 = .ok (.aload_n 3, 1) := by decide +kernel
theorem dX5_isReduced_174 : decode cX5_isReduced 174 = .ok (.aload_n 0, 1) := by decide +kernel
theorem dX5_isReduced_175 : decode cX5_isReduced 175 = .ok (.getfield 28, 3) := by decide +kernel
theorem dX5_isReduced_178 : decode cX5_isReduced 178 = .ok (.iload_n 2, 1) := by decide +kernel
theorem dX5_isReduced_179 : decode cX5_isReduced 179 = .ok (.iload 4, 2) := by decide +kernel
theorem dX5_isReduced_181 : decode cX5_isReduced 181 = .ok (.imul, 1) := by decide +kernel
theorem dX5_isReduced_182 : decode cX5_isReduced 182 = .ok (.iload 4, 2) := by decide +kernel
theorem dX5_isReduced_184 : decode cX5_isReduced 184 = .ok (.iadd, 1) := by decide +kernel
theorem dX5_isReduced_185 : decode cX5_isReduced 185 = .ok (.aaload, 1) := by decide +kernel
theorem dX5_isReduced_186 : decode cX5_isReduced 186 = .ok (.invokevirtual 66, 3) := by decide +kernel
theorem dX5_isReduced_189 : decode cX5_isReduced 189 = .ok (.iinc 4 1, 3) := by decide +kernel
theorem dX5_isReduced_192 : decode cX5_isReduced 192 = .ok (.goto (-173), 3) := by decide +kernel
theorem dX5_isReduced_195 : decode cX5_isReduced 195 = .ok (.iconst 1, 1) := by decide +kernel
theorem dX5_isReduced_196 : decode cX5_isReduced 196 = .ok (.ireturn, 1) := by decide +kernel
set_option maxRecDepth 20000 in
theorem ggX5_eliminate_X4_set_ : GoodIn wsX5_eliminate wsX4_set_ := goodIn_r _ [7, 8, 9, 10, 63, 64, 65, 66] (by decide +kernel) (by decide +kernel)
set_option maxRecDepth 20000 in
theorem gX5_eliminate_X4_set_ : GoodIn wsX5_eliminate (wsV RX5 66 RX4 yX4_set_ wsX4_set_) := goodIn_app (goodIn_of _ (by decide +kernel)) ggX5_eliminate_X4_set_
set_option maxRecDepth 20000 in
theorem ggX5_eliminate_X4_product : GoodIn wsX5_eliminate wsX4_product := goodIn_r _ [14, 10, 9, 15, 8, 16, 17, 18, 19, 20, 21, 22, 6, 23, 63, 64, 65, 66] (by decide +kernel) (by decide +kernel)
set_option maxRecDepth 20000 in
theorem gX5_eliminate_X4_product : GoodIn wsX5_eliminate (wsV RX5 69 RX4 yX4_product wsX4_product) := goodIn_app (goodIn_of _ (by decide +kernel)) ggX5_eliminate_X4_product
set_option maxRecDepth 20000 in
theorem ggX5_eliminate_X4_take : GoodIn wsX5_eliminate wsX4_take := goodIn_r _ [27, 8, 9, 28, 29, 30, 6, 31, 32, 33, 18, 34, 10, 35, 20, 21, 22, 23, 36, 37, 38, 39, 40, 41, 42, 43, 63, 64, 65, 66] (by decide +kernel) (by decide +kernel)
set_option maxRecDepth 20000 in
theorem gX5_eliminate_X4_take : GoodIn wsX5_eliminate (wsV RX5 73 RX4 yX4_take wsX4_take) := goodIn_app (goodIn_of _ (by decide +kernel)) ggX5_eliminate_X4_take
set_option maxRecDepth 20000 in
theorem ggX5_eliminate_X4_quotient : GoodIn wsX5_eliminate wsX4_quotient := goodIn_r _ [47, 10, 9, 8, 48, 49, 50, 6, 51, 52, 53, 54, 55, 35, 36, 37, 38, 39, 40, 41, 42, 43, 20, 21, 22, 23, 63, 64, 65, 66] (by decide +kernel) (by decide +kernel)
set_option maxRecDepth 20000 in
theorem gX5_eliminate_X4_quotient : GoodIn wsX5_eliminate (wsV RX5 76 RX4 yX4_quotient wsX4_quotient) := goodIn_app (goodIn_of _ (by decide +kernel)) ggX5_eliminate_X4_quotient
theorem dX5_eliminate_0 : decode cX5_eliminate 0 = .ok (.aload_n 0, 1) := by decide +kernel
theorem dX5_eliminate_1 : decode cX5_eliminate 1 = .ok (.getfield 32, 3) := by decide +kernel
theorem dX5_eliminate_4 : decode cX5_eliminate 4 = .ok (.iconst 1, 1) := by decide +kernel
theorem dX5_eliminate_5 : decode cX5_eliminate 5 = .ok (.aaload, 1) := by decide +kernel
theorem dX5_eliminate_6 : decode cX5_eliminate 6 = .ok (.astore 5, 2) := by decide +kernel
theorem dX5_eliminate_8 : decode cX5_eliminate 8 = .ok (.aload 5, 2) := by decide +kernel
theorem dX5_eliminate_10 : decode cX5_eliminate 10 = .ok (.aload_n 0, 1) := by decide +kernel
theorem dX5_eliminate_11 : decode cX5_eliminate 11 = .ok (.getfield 28, 3) := by decide +kernel
theorem dX5_eliminate_14 : decode cX5_eliminate 14 = .ok (.iload_n 3, 1) := by decide +kernel
theorem dX5_eliminate_15 : decode cX5_eliminate 15 = .ok (.iload_n 1, 1) := by decide +kernel
theorem dX5_eliminate_16 : decode cX5_eliminate 16 = .ok (.imul, 1) := by decide +kernel
theorem dX5_eliminate_17 : decode cX5_eliminate 17 = .ok (.iload_n 2, 1) := by decide +kernel
theorem dX5_eliminate_18 : decode cX5_eliminate 18 = .ok (.iadd, 1) := by decide +kernel
theorem dX5_eliminate_19 : decode cX5_eliminate 19 = .ok (.aaload, 1) := by decide +kernel
theorem dX5_eliminate_20 : decode cX5_eliminate 20 = .ok (.invokevirtual 66, 3) := by decide +kernel
theorem dX5_eliminate_23 : decode cX5_eliminate 23 = .ok (.iconst 0, 1) := by decide +kernel
theorem dX5_eliminate_24 : decode cX5_eliminate 24 = .ok (.istore 6, 2) := by decide +kernel
theorem dX5_eliminate_26 : decode cX5_eliminate 26 = .ok (.iload 6, 2) := by decide +kernel
theorem dX5_eliminate_28 : decode cX5_eliminate 28 = .ok (.iload_n 3, 1) := by decide +kernel
theorem dX5_eliminate_29 : decode cX5_eliminate 29 = .ok (.if_icmp .ge 119, 3) := by decide +kernel
theorem dX5_eliminate_32 : decode cX5_eliminate 32 = .ok (.aload_n 0, 1) := by decide +kernel
theorem dX5_eliminate_33 : decode cX5_eliminate 33 = .ok (.getfield 32, 3) := by decide +kernel
theorem dX5_eliminate_36 : decode cX5_eliminate 36 = .ok (.iconst 2, 1) := by decide +kernel
theorem dX5_eliminate_37 : decode cX5_eliminate 37 = .ok (.aaload, 1) := by decide +kernel
theorem dX5_eliminate_38 : decode cX5_eliminate 38 = .ok (.aload_n 0, 1) := by decide +kernel
theorem dX5_eliminate_39 : decode cX5_eliminate 39 = .ok (.getfield 28, 3) := by decide +kernel
theorem dX5_eliminate_42 : decode cX5_eliminate 42 = .ok (.iload_n 3, 1) := by decide +kernel
theorem dX5_eliminate_43 : decode cX5_eliminate 43 = .ok (.iload_n 2, 1) := by decide +kernel
theorem dX5_eliminate_44 : decode cX5_eliminate 44 = .ok (.imul, 1) := by decide +kernel
theorem dX5_eliminate_45 : decode cX5_eliminate 45 = .ok (.iload_n 2, 1) := by decide +kernel
theorem dX5_eliminate_46 : decode cX5_eliminate 46 = .ok (.iadd, 1) := by decide +kernel
theorem dX5_eliminate_47 : decode cX5_eliminate 47 = .ok (.aaload, 1) := by decide +kernel
theorem dX5_eliminate_48 : decode cX5_eliminate 48 = .ok (.aload_n 0, 1) := by decide +kernel
theorem dX5_eliminate_49 : decode cX5_eliminate 49 = .ok (.getfield 28, 3) := by decide +kernel
theorem dX5_eliminate_52 : decode cX5_eliminate 52 = .ok (.iload_n 3, 1) := by decide +kernel
theorem dX5_eliminate_53 : decode cX5_eliminate 53 = .ok (.iload_n 1, 1) := by decide +kernel
theorem dX5_eliminate_54 : decode cX5_eliminate 54 = .ok (.imul, 1) := by decide +kernel
theorem dX5_eliminate_55 : decode cX5_eliminate 55 = .ok (.iload 6, 2) := by decide +kernel
theorem dX5_eliminate_57 : decode cX5_eliminate 57 = .ok (.iadd, 1) := by decide +kernel
theorem dX5_eliminate_58 : decode cX5_eliminate 58 = .ok (.aaload, 1) := by decide +kernel
theorem dX5_eliminate_59 : decode cX5_eliminate 59 = .ok (.invokevirtual 69, 3) := by decide +kernel
theorem dX5_eliminate_62 : decode cX5_eliminate 62 = .ok (.aload_n 0, 1) := by decide +kernel
theorem dX5_eliminate_63 : decode cX5_eliminate 63 = .ok (.getfield 32, 3) := by decide +kernel
theorem dX5_eliminate_66 : decode cX5_eliminate 66 = .ok (.iconst 3, 1) := by decide +kernel
theorem dX5_eliminate_67 : decode cX5_eliminate 67 = .ok (.aaload, 1) := by decide +kernel
theorem dX5_eliminate_68 : decode cX5_eliminate 68 = .ok (.aload 5, 2) := by decide +kernel
theorem dX5_eliminate_70 : decode cX5_eliminate 70 = .ok (.aload_n 0, 1) := by decide +kernel
theorem dX5_eliminate_71 : decode cX5_eliminate 71 = .ok (.getfield 28, 3) := by decide +kernel
theorem dX5_eliminate_74 : decode cX5_eliminate 74 = .ok (.iload_n 3, 1) := by decide +kernel
theorem dX5_eliminate_75 : decode cX5_eliminate 75 = .ok (.iload_n 2, 1) := by decide +kernel
theorem dX5_eliminate_76 : decode cX5_eliminate 76 = .ok (.imul, 1) := by decide +kernel
theorem dX5_eliminate_77 : decode cX5_eliminate 77 = .ok (.iload 6, 2) := by decide +kernel
theorem dX5_eliminate_79 : decode cX5_eliminate 79 = .ok (.iadd, 1) := by decide +kernel
theorem dX5_eliminate_80 : decode cX5_eliminate 80 = .ok (.aaload, 1) := by decide +kernel
theorem dX5_eliminate_81 : decode cX5_eliminate 81 = .ok (.invokevirtual 69, 3) := by decide +kernel
theorem dX5_eliminate_84 : decode cX5_eliminate 84 = .ok (.aload_n 0, 1) := by decide +kernel
theorem dX5_eliminate_85 : decode cX5_eliminate 85 = .ok (.getfield 32, 3) := by decide +kernel
theorem dX5_eliminate_88 : decode cX5_eliminate 88 = .ok (.iconst 2, 1) := by decide +kernel
theorem dX5_eliminate_89 : decode cX5_eliminate 89 = .ok (.aaload, 1) := by decide +kernel
theorem dX5_eliminate_90 : decode cX5_eliminate 90 = .ok (.aload_n 0, 1) := by decide +kernel
theorem dX5_eliminate_91 : decode cX5_eliminate 91 = .ok (.getfield 32, 3) := by decide +kernel
theorem dX5_eliminate_94 : decode cX5_eliminate 94 = .ok (.iconst 3, 1) := by decide +kernel
theorem dX5_eliminate_95 : decode cX5_eliminate 95 = .ok (.aaload, 1) := by decide +kernel
theorem dX5_eliminate_96 : decode cX5_eliminate 96 = .ok (.invokevirtual 73, 3) := by decide +kernel
theorem dX5_eliminate_99 : decode cX5_eliminate 99 = .ok (.aload_n 0, 1) := by decide +kernel
theorem dX5_eliminate_100 : decode cX5_eliminate 100 = .ok (.getfield 32, 3) := by decide +kernel
theorem dX5_eliminate_103 : decode cX5_eliminate 103 = .ok (.iconst 4, 1) := by decide +kernel
theorem dX5_eliminate_104 : decode cX5_eliminate 104 = .ok (.aaload, 1) := by decide +kernel
theorem dX5_eliminate_105 : decode cX5_eliminate 105 = .ok (.aload_n 0, 1) := by decide +kernel
theorem dX5_eliminate_106 : decode cX5_eliminate 106 = .ok (.getfield 32, 3) := by decide +kernel
theorem dX5_eliminate_109 : decode cX5_eliminate 109 = .ok (.iconst 2, 1) := by decide +kernel
theorem dX5_eliminate_110 : decode cX5_eliminate 110 = .ok (.aaload, 1) := by decide +kernel
theorem dX5_eliminate_111 : decode cX5_eliminate 111 = .ok (.aload 4, 2) := by decide +kernel
theorem dX5_eliminate_113 : decode cX5_eliminate 113 = .ok (.aload_n 0, 1) := by decide +kernel
theorem dX5_eliminate_114 : decode cX5_eliminate 114 = .ok (.getfield 32, 3) := by decide +kernel
theorem dX5_eliminate_117 : decode cX5_eliminate 117 = .ok (.iconst 5, 1) := by decide +kernel
theorem dX5_eliminate_118 : decode cX5_eliminate 118 = .ok (.aaload, 1) := by decide +kernel
theorem dX5_eliminate_119 : decode cX5_eliminate 119 = .ok (.invokevirtual 76, 3) := by decide +kernel
theorem dX5_eliminate_122 : decode cX5_eliminate 122 = .ok (.aload_n 0, 1) := by decide +kernel
theorem dX5_eliminate_123 : decode cX5_eliminate 123 = .ok (.getfield 28, 3) := by decide +kernel
theorem dX5_eliminate_126 : decode cX5_eliminate 126 = .ok (.iload_n 3, 1) := by decide +kernel
theorem dX5_eliminate_127 : decode cX5_eliminate 127 = .ok (.iload_n 1, 1) := by decide +kernel
theorem dX5_eliminate_128 : decode cX5_eliminate 128 = .ok (.imul, 1) := by decide +kernel
theorem dX5_eliminate_129 : decode cX5_eliminate 129 = .ok (.iload 6, 2) := by decide +kernel
theorem dX5_eliminate_131 : decode cX5_eliminate 131 = .ok (.iadd, 1) := by decide +kernel
theorem dX5_eliminate_132 : decode cX5_eliminate 132 = .ok (.aaload, 1) := by decide +kernel
theorem dX5_eliminate_133 : decode cX5_eliminate 133 = .ok (.aload_n 0, 1) := by decide +kernel
theorem dX5_eliminate_134 : decode cX5_eliminate 134 = .ok (.getfield 32, 3) := by decide +kernel
theorem dX5_eliminate_137 : decode cX5_eliminate 137 = .ok (.iconst 4, 1) := by decide +kernel
theorem dX5_eliminate_138 : decode cX5_eliminate 138 = .ok (.aaload, 1) := by decide +kernel
theorem dX5_eliminate_139 : decode cX5_eliminate 139 = .ok (.invokevirtual 66, 3) := by decide +kernel
theorem dX5_eliminate_142 : decode cX5_eliminate 142 = .ok (.iinc 6 1, 3) := by decide +kernel
theorem dX5_eliminate_145 : decode cX5_eliminate 145 = .ok (.goto (-119), 3) := by decide +kernel
theorem dX5_eliminate_148 : decode cX5_eliminate 148 = .ok (.return_, 1) := by decide +kernel
set_option maxRecDepth 20000 in
theorem ggX5_fraction_X4_set_ : GoodIn wsX5_fraction wsX4_set_ := goodIn_r _ [10, 11, 12, 13, 56, 57, 58, 59] (by decide +kernel) (by decide +kernel)
set_option maxRecDepth 20000 in
theorem gX5_fraction_X4_set_ : GoodIn wsX5_fraction (wsV RX5 66 RX4 yX4_set_ wsX4_set_) := goodIn_app (goodIn_of _ (by decide +kernel)) ggX5_fraction_X4_set_
set_option maxRecDepth 20000 in
theorem ggX5_fraction_X4_isZero : GoodIn wsX5_fraction wsX4_isZero := goodIn_r _ [17, 12, 56, 57, 58, 59] (by decide +kernel) (by decide +kernel)
set_option maxRecDepth 20000 in
theorem gX5_fraction_X4_isZero : GoodIn wsX5_fraction (wsV RX5 58 RX4 yX4_isZero wsX4_isZero) := goodIn_app (goodIn_of _ (by decide +kernel)) ggX5_fraction_X4_isZero
set_option maxRecDepth 20000 in
theorem ggX5_fraction_X4_quotient : GoodIn wsX5_fraction wsX4_quotient := goodIn_r _ [21, 13, 12, 11, 22, 23, 24, 9, 25, 26, 27, 28, 29, 30, 31, 32, 33, 34, 35, 36, 37, 38, 39, 40, 41, 42, 56, 57, 58, 59] (by decide +kernel) (by decide +kernel)
set_option maxRecDepth 20000 in
theorem gX5_fraction_X4_quotient : GoodIn wsX5_fraction (wsV RX5 76 RX4 yX4_quotient wsX4_quotient) := goodIn_app (goodIn_of _ (by decide +kernel)) ggX5_fraction_X4_quotient
set_option maxRecDepth 20000 in
theorem ggX5_fraction_X4_isLong : GoodIn wsX5_fraction wsX4_isLong := goodIn_r _ [46, 12, 13, 11, 47, 48, 56, 57, 58, 59] (by decide +kernel) (by decide +kernel)
set_option maxRecDepth 20000 in
theorem gX5_fraction_X4_isLong : GoodIn wsX5_fraction (wsV RX5 83 RX4 yX4_isLong wsX4_isLong) := goodIn_app (goodIn_of _ (by decide +kernel)) ggX5_fraction_X4_isLong
theorem dX5_fraction_0 : decode cX5_fraction 0 = .ok (.aload_n 0, 1) := by decide +kernel
theorem dX5_fraction_1 : decode cX5_fraction 1 = .ok (.getfield 32, 3) := by decide +kernel
theorem dX5_fraction_4 : decode cX5_fraction 4 = .ok (.iconst 1, 1) := by decide +kernel
theorem dX5_fraction_5 : decode cX5_fraction 5 = .ok (.aaload, 1) := by decide +kernel
theorem dX5_fraction_6 : decode cX5_fraction 6 = .ok (.astore 4, 2) := by decide +kernel
theorem dX5_fraction_8 : decode cX5_fraction 8 = .ok (.aload_n 0, 1) := by decide +kernel
theorem dX5_fraction_9 : decode cX5_fraction 9 = .ok (.getfield 32, 3) := by decide +kernel
theorem dX5_fraction_12 : decode cX5_fraction 12 = .ok (.iconst 2, 1) := by decide +kernel
theorem dX5_fraction_13 : decode cX5_fraction 13 = .ok (.aaload, 1) := by decide +kernel
theorem dX5_fraction_14 : decode cX5_fraction 14 = .ok (.astore 5, 2) := by decide +kernel
theorem dX5_fraction_16 : decode cX5_fraction 16 = .ok (.aload 4, 2) := by decide +kernel
theorem dX5_fraction_18 : decode cX5_fraction 18 = .ok (.aload_n 1, 1) := by decide +kernel
theorem dX5_fraction_19 : decode cX5_fraction 19 = .ok (.invokevirtual 66, 3) := by decide +kernel
theorem dX5_fraction_22 : decode cX5_fraction 22 = .ok (.aload 5, 2) := by decide +kernel
theorem dX5_fraction_24 : decode cX5_fraction 24 = .ok (.aload_n 2, 1) := by decide +kernel
theorem dX5_fraction_25 : decode cX5_fraction 25 = .ok (.invokevirtual 66, 3) := by decide +kernel
theorem dX5_fraction_28 : decode cX5_fraction 28 = .ok (.aload 5, 2) := by decide +kernel
theorem dX5_fraction_30 : decode cX5_fraction 30 = .ok (.invokevirtual 58, 3) := by decide +kernel
theorem dX5_fraction_33 : decode cX5_fraction 33 = .ok (.ifCond .ne 43, 3) := by decide +kernel
theorem dX5_fraction_36 : decode cX5_fraction 36 = .ok (.aload_n 0, 1) := by decide +kernel
theorem dX5_fraction_37 : decode cX5_fraction 37 = .ok (.getfield 32, 3) := by decide +kernel
theorem dX5_fraction_40 : decode cX5_fraction 40 = .ok (.iconst 3, 1) := by decide +kernel
theorem dX5_fraction_41 : decode cX5_fraction 41 = .ok (.aaload, 1) := by decide +kernel
theorem dX5_fraction_42 : decode cX5_fraction 42 = .ok (.aload 4, 2) := by decide +kernel
theorem dX5_fraction_44 : decode cX5_fraction 44 = .ok (.aload 5, 2) := by decide +kernel
theorem dX5_fraction_46 : decode cX5_fraction 46 = .ok (.aload_n 0, 1) := by decide +kernel
theorem dX5_fraction_47 : decode cX5_fraction 47 = .ok (.getfield 32, 3) := by decide +kernel
theorem dX5_fraction_50 : decode cX5_fraction 50 = .ok (.iconst 4, 1) := by decide +kernel
theorem dX5_fraction_51 : decode cX5_fraction 51 = .ok (.aaload, 1) := by decide +kernel
theorem dX5_fraction_52 : decode cX5_fraction 52 = .ok (.invokevirtual 76, 3) := by decide +kernel
theorem dX5_fraction_55 : decode cX5_fraction 55 = .ok (.aload 4, 2) := by decide +kernel
theorem dX5_fraction_57 : decode cX5_fraction 57 = .ok (.aload 5, 2) := by decide +kernel
theorem dX5_fraction_59 : decode cX5_fraction 59 = .ok (.invokevirtual 66, 3) := by decide +kernel
theorem dX5_fraction_62 : decode cX5_fraction 62 = .ok (.aload 5, 2) := by decide +kernel
theorem dX5_fraction_64 : decode cX5_fraction 64 = .ok (.aload_n 0, 1) := by decide +kernel
theorem dX5_fraction_65 : decode cX5_fraction 65 = .ok (.getfield 32, 3) := by decide +kernel
theorem dX5_fraction_68 : decode cX5_fraction 68 = .ok (.iconst 4, 1) := by decide +kernel
theorem dX5_fraction_69 : decode cX5_fraction 69 = .ok (.aaload, 1) := by decide +kernel
theorem dX5_fraction_70 : decode cX5_fraction 70 = .ok (.invokevirtual 66, 3) := by decide +kernel
theorem dX5_fraction_73 : decode cX5_fraction 73 = .ok (.goto (-45), 3) := by decide +kernel
theorem dX5_fraction_76 : decode cX5_fraction 76 = .ok (.aload_n 0, 1) := by decide +kernel
theorem dX5_fraction_77 : decode cX5_fraction 77 = .ok (.getfield 32, 3) := by decide +kernel
theorem dX5_fraction_80 : decode cX5_fraction 80 = .ok (.iconst 3, 1) := by decide +kernel
theorem dX5_fraction_81 : decode cX5_fraction 81 = .ok (.aaload, 1) := by decide +kernel
theorem dX5_fraction_82 : decode cX5_fraction 82 = .ok (.aload_n 1, 1) := by decide +kernel
theorem dX5_fraction_83 : decode cX5_fraction 83 = .ok (.aload 4, 2) := by decide +kernel
theorem dX5_fraction_85 : decode cX5_fraction 85 = .ok (.aload_n 0, 1) := by decide +kernel
theorem dX5_fraction_86 : decode cX5_fraction 86 = .ok (.getfield 32, 3) := by decide +kernel
theorem dX5_fraction_89 : decode cX5_fraction 89 = .ok (.iconst 5, 1) := by decide +kernel
theorem dX5_fraction_90 : decode cX5_fraction 90 = .ok (.aaload, 1) := by decide +kernel
theorem dX5_fraction_91 : decode cX5_fraction 91 = .ok (.invokevirtual 76, 3) := by decide +kernel
theorem dX5_fraction_94 : decode cX5_fraction 94 = .ok (.aload_n 0, 1) := by decide +kernel
theorem dX5_fraction_95 : decode cX5_fraction 95 = .ok (.getfield 32, 3) := by decide +kernel
theorem dX5_fraction_98 : decode cX5_fraction 98 = .ok (.bipush 6, 2) := by decide +kernel
theorem dX5_fraction_100 : decode cX5_fraction 100 = .ok (.aaload, 1) := by decide +kernel
theorem dX5_fraction_101 : decode cX5_fraction 101 = .ok (.aload_n 2, 1) := by decide +kernel
theorem dX5_fraction_102 : decode cX5_fraction 102 = .ok (.aload 4, 2) := by decide +kernel
theorem dX5_fraction_104 : decode cX5_fraction 104 = .ok (.aload_n 0, 1) := by decide +kernel
theorem dX5_fraction_105 : decode cX5_fraction 105 = .ok (.getfield 32, 3) := by decide +kernel
theorem dX5_fraction_108 : decode cX5_fraction 108 = .ok (.iconst 5, 1) := by decide +kernel
theorem dX5_fraction_109 : decode cX5_fraction 109 = .ok (.aaload, 1) := by decide +kernel
theorem dX5_fraction_110 : decode cX5_fraction 110 = .ok (.invokevirtual 76, 3) := by decide +kernel
theorem dX5_fraction_113 : decode cX5_fraction 113 = .ok (.aload_n 0, 1) := by decide +kernel
theorem dX5_fraction_114 : decode cX5_fraction 114 = .ok (.getfield 32, 3) := by decide +kernel
theorem dX5_fraction_117 : decode cX5_fraction 117 = .ok (.iconst 3, 1) := by decide +kernel
theorem dX5_fraction_118 : decode cX5_fraction 118 = .ok (.aaload, 1) := by decide +kernel
theorem dX5_fraction_119 : decode cX5_fraction 119 = .ok (.aload_n 0, 1) := by decide +kernel
theorem dX5_fraction_120 : decode cX5_fraction 120 = .ok (.getfield 32, 3) := by decide +kernel
theorem dX5_fraction_123 : decode cX5_fraction 123 = .ok (.iconst 3, 1) := by decide +kernel
theorem dX5_fraction_124 : decode cX5_fraction 124 = .ok (.aaload, 1) := by decide +kernel
theorem dX5_fraction_125 : decode cX5_fraction 125 = .ok (.invokevirtual 58, 3) := by decide +kernel
theorem dX5_fraction_128 : decode cX5_fraction 128 = .ok (.ifCond .ne 18, 3) := by decide +kernel
theorem dX5_fraction_131 : decode cX5_fraction 131 = .ok (.aload_n 1, 1) := by decide +kernel
theorem dX5_fraction_132 : decode cX5_fraction 132 = .ok (.getfield 80, 3) := by decide +kernel
theorem dX5_fraction_135 : decode cX5_fraction 135 = .ok (.aload_n 2, 1) := by decide +kernel
theorem dX5_fraction_136 : decode cX5_fraction 136 = .ok (.getfield 80, 3) := by decide +kernel
theorem dX5_fraction_139 : decode cX5_fraction 139 = .ok (.if_icmp .eq 7, 3) := by decide +kernel
theorem dX5_fraction_142 : decode cX5_fraction 142 = .ok (.iconst 1, 1) := by decide +kernel
theorem dX5_fraction_143 : decode cX5_fraction 143 = .ok (.goto 4, 3) := by decide +kernel
theorem dX5_fraction_146 : decode cX5_fraction 146 = .ok (.iconst 0, 1) := by decide +kernel
theorem dX5_fraction_147 : decode cX5_fraction 147 = .ok (.putfield 80, 3) := by decide +kernel
theorem dX5_fraction_150 : decode cX5_fraction 150 = .ok (.aload_n 0, 1) := by decide +kernel
theorem dX5_fraction_151 : decode cX5_fraction 151 = .ok (.getfield 32, 3) := by decide +kernel
theorem dX5_fraction_154 : decode cX5_fraction 154 = .ok (.bipush 6, 2) := by decide +kernel
theorem dX5_fraction_156 : decode cX5_fraction 156 = .ok (.aaload, 1) := by decide +kernel
theorem dX5_fraction_157 : decode cX5_fraction 157 = .ok (.iconst 0, 1) := by decide +kernel
theorem dX5_fraction_158 : decode cX5_fraction 158 = .ok (.putfield 80, 3) := by decide +kernel
theorem dX5_fraction_161 : decode cX5_fraction 161 = .ok (.aload_n 0, 1) := by decide +kernel
theorem dX5_fraction_162 : decode cX5_fraction 162 = .ok (.getfield 32, 3) := by decide +kernel
theorem dX5_fraction_165 : decode cX5_fraction 165 = .ok (.iconst 3, 1) := by decide +kernel
theorem dX5_fraction_166 : decode cX5_fraction 166 = .ok (.aaload, 1) := by decide +kernel
theorem dX5_fraction_167 : decode cX5_fraction 167 = .ok (.invokevirtual 83, 3) := by decide +kernel
theorem dX5_fraction_170 : decode cX5_fraction 170 = .ok (.ifCond .eq 16, 3) := by decide +kernel
theorem dX5_fraction_173 : decode cX5_fraction 173 = .ok (.aload_n 0, 1) := by decide +kernel
theorem dX5_fraction_174 : decode cX5_fraction 174 = .ok (.getfield 32, 3) := by decide +kernel
theorem dX5_fraction_177 : decode cX5_fraction 177 = .ok (.bipush 6, 2) := by decide +kernel
theorem dX5_fraction_179 : decode cX5_fraction 179 = .ok (.aaload, 1) := by decide +kernel
theorem dX5_fraction_180 : decode cX5_fraction 180 = .ok (.invokevirtual 83, 3) := by decide +kernel
theorem dX5_fraction_183 : decode cX5_fraction 183 = .ok (.ifCond .ne 5, 3) := by decide +kernel
theorem dX5_fraction_186 : decode cX5_fraction 186 = .ok (.iconst 0, 1) := by decide +kernel
theorem dX5_fraction_187 : decode cX5_fraction 187 = .ok (.ireturn, 1) := by decide +kernel
theorem dX5_fraction_188 : decode cX5_fraction 188 = .ok (.aload_n 0, 1) := by decide +kernel
theorem dX5_fraction_189 : decode cX5_fraction 189 = .ok (.getfield 17, 3) := by decide +kernel
theorem dX5_fraction_192 : decode cX5_fraction 192 = .ok (.iload_n 3, 1) := by decide +kernel
theorem dX5_fraction_193 : decode cX5_fraction 193 = .ok (.aload_n 0, 1) := by decide +kernel
theorem dX5_fraction_194 : decode cX5_fraction 194 = .ok (.getfield 32, 3) := by decide +kernel
theorem dX5_fraction_197 : decode cX5_fraction 197 = .ok (.iconst 3, 1) := by decide +kernel
theorem dX5_fraction_198 : decode cX5_fraction 198 = .ok (.aaload, 1) := by decide +kernel
theorem dX5_fraction_199 : decode cX5_fraction 199 = .ok (.getfield 86, 3) := by decide +kernel
theorem dX5_fraction_202 : decode cX5_fraction 202 = .ok (.lastore, 1) := by decide +kernel
theorem dX5_fraction_203 : decode cX5_fraction 203 = .ok (.aload_n 0, 1) := by decide +kernel
theorem dX5_fraction_204 : decode cX5_fraction 204 = .ok (.getfield 21, 3) := by decide +kernel
theorem dX5_fraction_207 : decode cX5_fraction 207 = .ok (.iload_n 3, 1) := by decide +kernel
theorem dX5_fraction_208 : decode cX5_fraction 208 = .ok (.aload_n 0, 1) := by decide +kernel
theorem dX5_fraction_209 : decode cX5_fraction 209 = .ok (.getfield 32, 3) := by decide +kernel
theorem dX5_fraction_212 : decode cX5_fraction 212 = .ok (.bipush 6, 2) := by decide +kernel
theorem dX5_fraction_214 : decode cX5_fraction 214 = .ok (.aaload, 1) := by decide +kernel
theorem dX5_fraction_215 : decode cX5_fraction 215 = .ok (.getfield 86, 3) := by decide +kernel
theorem dX5_fraction_218 : decode cX5_fraction 218 = .ok (.lastore, 1) := by decide +kernel
theorem dX5_fraction_219 : decode cX5_fraction 219 = .ok (.iconst 1, 1) := by decide +kernel
theorem dX5_fraction_220 : decode cX5_fraction 220 = .ok (.ireturn, 1) := by decide +kernel
end
section
theorem dJ13_bitCount_95d88_0 : decode cJ13_bitCount_95d88 0 = .ok (.lload_n 0, 1) := by decide +kernel
theorem dJ13_bitCount_95d88_1 : decode cJ13_bitCount_95d88 1 = .ok (.lload_n 0, 1) := by decide +kernel
theorem dJ13_bitCount_95d88_2 : decode cJ13_bitCount_95d88 2 = .ok (.iconst 1, 1) := by decide +kernel
theorem dJ13_bitCount_95d88_3 : decode cJ13_bitCount_95d88 3 = .ok (.lushr, 1) := by decide +kernel
theorem dJ13_bitCount_95d88_4 : decode cJ13_bitCount_95d88 4 = .ok (.ldc2_w 314, 3) := by decide +kernel
theorem dJ13_bitCount_95d88_7 : decode cJ13_bitCount_95d88 7 = .ok (.land, 1) := by decide +kernel
theorem dJ13_bitCount_95d88_8 : decode cJ13_bitCount_95d88 8 = .ok (.lsub, 1) := by decide +kernel
theorem dJ13_bitCount_95d88_9 : decode cJ13_bitCount_95d88 9 = .ok (.lstore_n 0, 1) := by decide +kernel
theorem dJ13_bitCount_95d88_10 : decode cJ13_bitCount_95d88 10 = .ok (.lload_n 0, 1) := by decide +kernel
theorem dJ13_bitCount_95d88_11 : decode cJ13_bitCount_95d88 11 = .ok (.ldc2_w 316, 3) := by decide +kernel
theorem dJ13_bitCount_95d88_14 : decode cJ13_bitCount_95d88 14 = .ok (.land, 1) := by decide +kernel
theorem dJ13_bitCount_95d88_15 : decode cJ13_bitCount_95d88 15 = .ok (.lload_n 0, 1) := by decide +kernel
theorem dJ13_bitCount_95d88_16 : decode cJ13_bitCount_95d88 16 = .ok (.iconst 2, 1) := by decide +kernel
theorem dJ13_bitCount_95d88_17 : decode cJ13_bitCount_95d88 17 = .ok (.lushr, 1) := by decide +kernel
theorem dJ13_bitCount_95d88_18 : decode cJ13_bitCount_95d88 18 = .ok (.ldc2_w 316, 3) := by decide +kernel
theorem dJ13_bitCount_95d88_21 : decode cJ13_bitCount_95d88 21 = .ok (.land, 1) := by decide +kernel
theorem dJ13_bitCount_95d88_22 : decode cJ13_bitCount_95d88 22 = .ok (.ladd, 1) := by decide +kernel
theorem dJ13_bitCount_95d88_23 : decode cJ13_bitCount_95d88 23 = .ok (.lstore_n 0, 1) := by decide +kernel
theorem dJ13_bitCount_95d88_24 : decode cJ13_bitCount_95d88 24 = .ok (.lload_n 0, 1) := by decide +kernel
theorem dJ13_bitCount_95d88_25 : decode cJ13_bitCount_95d88 25 = .ok (.lload_n 0, 1) := by decide +kernel
theorem dJ13_bitCount_95d88_26 : decode cJ13_bitCount_95d88 26 = .ok (.iconst 4, 1) := by decide +kernel
theorem dJ13_bitCount_95d88_27 : decode cJ13_bitCount_95d88 27 = .ok (.lushr, 1) := by decide +kernel
theorem dJ13_bitCount_95d88_28 : decode cJ13_bitCount_95d88 28 = .ok (.ladd, 1) := by decide +kernel
theorem dJ13_bitCount_95d88_29 : decode cJ13_bitCount_95d88 29 = .ok (.ldc2_w 318, 3) := by decide +kernel
theorem dJ13_bitCount_95d88_32 : decode cJ13_bitCount_95d88 32 = .ok (.land, 1) := by decide +kernel
theorem dJ13_bitCount_95d88_33 : decode cJ13_bitCount_95d88 33 = .ok (.lstore_n 0, 1) := by decide +kernel
theorem dJ13_bitCount_95d88_34 : decode cJ13_bitCount_95d88 34 = .ok (.lload_n 0, 1) := by decide +kernel
theorem dJ13_bitCount_95d88_35 : decode cJ13_bitCount_95d88 35 = .ok (.lload_n 0, 1) := by decide +kernel
theorem dJ13_bitCount_95d88_36 : decode cJ13_bitCount_95d88 36 = .ok (.bipush 8, 2) := by decide +kernel
theorem dJ13_bitCount_95d88_38 : decode cJ13_bitCount_95d88 38 = .ok (.lushr, 1) := by decide +kernel
theorem dJ13_bitCount_95d88_39 : decode cJ13_bitCount_95d88 39 = .ok (.ladd, 1) := by decide +kernel
theorem dJ13_bitCount_95d88_40 : decode cJ13_bitCount_95d88 40 = .ok (.lstore_n 0, 1) := by decide +kernel
theorem dJ13_bitCount_95d88_41 : decode cJ13_bitCount_95d88 41 = .ok (.lload_n 0, 1) := by decide +kernel
theorem dJ13_bitCount_95d88_42 : decode cJ13_bitCount_95d88 42 = .ok (.lload_n 0, 1) := by decide +kernel
theorem dJ13_bitCount_95d88_43 : decode cJ13_bitCount_95d88 43 = .ok (.bipush 16, 2) := by decide +kernel
theorem dJ13_bitCount_95d88_45 : decode cJ13_bitCount_95d88 45 = .ok (.lushr, 1) := by decide +kernel
theorem dJ13_bitCount_95d88_46 : decode cJ13_bitCount_95d88 46 = .ok (.ladd, 1) := by decide +kernel
theorem dJ13_bitCount_95d88_47 : decode cJ13_bitCount_95d88 47 = .ok (.lstore_n 0, 1) := by decide +kernel
theorem dJ13_bitCount_95d88_48 : decode cJ13_bitCount_95d88 48 = .ok (.lload_n 0, 1) := by decide +kernel
theorem dJ13_bitCount_95d88_49 : decode cJ13_bitCount_95d88 49 = .ok (.lload_n 0, 1) := by decide +kernel
theorem dJ13_bitCount_95d88_50 : decode cJ13_bitCount_95d88 50 = .ok (.bipush 32, 2) := by decide +kernel
theorem dJ13_bitCount_95d88_52 : decode cJ13_bitCount_95d88 52 = .ok (.lushr, 1) := by decide +kernel
theorem dJ13_bitCount_95d88_53 : decode cJ13_bitCount_95d88 53 = .ok (.ladd, 1) := by decide +kernel
theorem dJ13_bitCount_95d88_54 : decode cJ13_bitCount_95d88 54 = .ok (.lstore_n 0, 1) := by decide +kernel
theorem dJ13_bitCount_95d88_55 : decode cJ13_bitCount_95d88 55 = .ok (.lload_n 0, 1) := by decide +kernel
theorem dJ13_bitCount_95d88_56 : decode cJ13_bitCount_95d88 56 = .ok (.l2i, 1) := by decide +kernel
theorem dJ13_bitCount_95d88_57 : decode cJ13_bitCount_95d88 57 = .ok (.bipush 127, 2) := by decide +kernel
theorem dJ13_bitCount_95d88_59 : decode cJ13_bitCount_95d88 59 = .ok (.iand, 1) := by decide +kernel
theorem dJ13_bitCount_95d88_60 : decode cJ13_bitCount_95d88 60 = .ok (.ireturn, 1) := by decide +kernel
theorem dJ9_max_7cf53_0 : decode cJ9_max_7cf53 0 = .ok (.iload_n 0, 1) := by decide +kernel
theorem dJ9_max_7cf53_1 : decode cJ9_max_7cf53 1 = .ok (.iload_n 1, 1) := by decide +kernel
theorem dJ9_max_7cf53_2 : decode cJ9_max_7cf53 2 = .ok (.if_icmp .lt 7, 3) := by decide +kernel
theorem dJ9_max_7cf53_5 : decode cJ9_max_7cf53 5 = .ok (.iload_n 0, 1) := by decide +kernel
theorem dJ9_max_7cf53_6 : decode cJ9_max_7cf53 6 = .ok (.goto 4, 3) := by decide +kernel
theorem dJ9_max_7cf53_9 : decode cJ9_max_7cf53 9 = .ok (.iload_n 1, 1) := by decide +kernel
theorem dJ9_max_7cf53_10 : decode cJ9_max_7cf53 10 = .ok (.ireturn, 1) := by decide +kernel
theorem dJ9_min_7cf53_0 : decode cJ9_min_7cf53 0 = .ok (.iload_n 0, 1) := by decide +kernel
theorem dJ9_min_7cf53_1 : decode cJ9_min_7cf53 1 = .ok (.iload_n 1, 1) := by decide +kernel
theorem dJ9_min_7cf53_2 : decode cJ9_min_7cf53 2 = .ok (.if_icmp .gt 7, 3) := by decide +kernel
theorem dJ9_min_7cf53_5 : decode cJ9_min_7cf53 5 = .ok (.iload_n 0, 1) := by decide +kernel
theorem dJ9_min_7cf53_6 : decode cJ9_min_7cf53 6 = .ok (.goto 4, 3) := by decide +kernel
theorem dJ9_min_7cf53_9 : decode cJ9_min_7cf53 9 = .ok (.iload_n 1, 1) := by decide +kernel
theorem dJ9_min_7cf53_10 : decode cJ9_min_7cf53 10 = .ok (.ireturn, 1) := by decide +kernel
theorem dJ7_rangeCheck_23922_0 : decode cJ7_rangeCheck_23922 0 = .ok (.iload_n 1, 1) := by decide +kernel
theorem dJ7_rangeCheck_23922_1 : decode cJ7_rangeCheck_23922 1 = .ok (.iload_n 2, 1) := by decide +kernel
theorem dJ7_rangeCheck_23922_2 : decode cJ7_rangeCheck_23922 2 = .ok (.if_icmp .le 44, 3) := by decide +kernel
theorem dJ7_rangeCheck_23922_5 : decode cJ7_rangeCheck_23922 5 = .ok (.new 43, 3) := by decide +kernel
theorem dJ7_rangeCheck_23922_8 : decode cJ7_rangeCheck_23922 8 = .ok (.dup, 1) := by decide +kernel
theorem dJ7_rangeCheck_23922_9 : decode cJ7_rangeCheck_23922 9 = .ok (.new 45, 3) := by decide +kernel
theorem dJ7_rangeCheck_23922_12 : decode cJ7_rangeCheck_23922 12 = .ok (.dup, 1) := by decide +kernel
theorem dJ7_rangeCheck_23922_13 : decode cJ7_rangeCheck_23922 13 = .ok (.invokespecial 47, 3) := by decide +kernel
theorem dJ7_rangeCheck_23922_16 : decode cJ7_rangeCheck_23922 16 = .ok (.ldc 48, 2) := by decide +kernel
theorem dJ7_rangeCheck_23922_18 : decode cJ7_rangeCheck_23922 18 = .ok (.invokevirtual 50, 3) := by decide +kernel
theorem dJ7_rangeCheck_23922_21 : decode cJ7_rangeCheck_23922 21 = .ok (.iload_n 1, 1) := by decide +kernel
theorem dJ7_rangeCheck_23922_22 : decode cJ7_rangeCheck_23922 22 = .ok (.invokevirtual 54, 3) := by decide +kernel
theorem dJ7_rangeCheck_23922_25 : decode cJ7_rangeCheck_23922 25 = .ok (.ldc 57, 2) := by decide +kernel
theorem dJ7_rangeCheck_23922_27 : decode cJ7_rangeCheck_23922 27 = .ok (.invokevirtual 50, 3) := by decide +kernel
theorem dJ7_rangeCheck_23922_30 : decode cJ7_rangeCheck_23922 30 = .ok (.iload_n 2, 1) := by decide +kernel
theorem dJ7_rangeCheck_23922_31 : decode cJ7_rangeCheck_23922 31 = .ok (.invokevirtual 54, 3) := by decide +kernel
theorem dJ7_rangeCheck_23922_34 : decode cJ7_rangeCheck_23922 34 = .ok (.ldc 59, 2) := by decide +kernel
theorem dJ7_rangeCheck_23922_36 : decode cJ7_rangeCheck_23922 36 = .ok (.invokevirtual 50, 3) := by decide +kernel
theorem dJ7_rangeCheck_23922_39 : decode cJ7_rangeCheck_23922 39 = .ok (.invokevirtual 61, 3) := by decide +kernel
theorem dJ7_rangeCheck_23922_42 : decode cJ7_rangeCheck_23922 42 = .ok (.invokespecial 65, 3) := by decide +kernel
theorem dJ7_rangeCheck_23922_45 : decode cJ7_rangeCheck_23922 45 = .ok (.athrow, 1) := by decide +kernel
theorem dJ7_rangeCheck_23922_46 : decode cJ7_rangeCheck_23922 46 = .ok (.iload_n 1, 1) := by decide +kernel
theorem dJ7_rangeCheck_23922_47 : decode cJ7_rangeCheck_23922 47 = .ok (.ifCond .ge 12, 3) := by decide +kernel
theorem dJ7_rangeCheck_23922_50 : decode cJ7_rangeCheck_23922 50 = .ok (.new 68, 3) := by decide +kernel
theorem dJ7_rangeCheck_23922_53 : decode cJ7_rangeCheck_23922 53 = .ok (.dup, 1) := by decide +kernel
theorem dJ7_rangeCheck_23922_54 : decode cJ7_rangeCheck_23922 54 = .ok (.iload_n 1, 1) := by decide +kernel
theorem dJ7_rangeCheck_23922_55 : decode cJ7_rangeCheck_23922 55 = .ok (.invokespecial 70, 3) := by decide +kernel
theorem dJ7_rangeCheck_23922_58 : decode cJ7_rangeCheck_23922 58 = .ok (.athrow, 1) := by decide +kernel
theorem dJ7_rangeCheck_23922_59 : decode cJ7_rangeCheck_23922 59 = .ok (.iload_n 2, 1) := by decide +kernel
theorem dJ7_rangeCheck_23922_60 : decode cJ7_rangeCheck_23922 60 = .ok (.iload_n 0, 1) := by decide +kernel
theorem dJ7_rangeCheck_23922_61 : decode cJ7_rangeCheck_23922 61 = .ok (.if_icmp .le 12, 3) := by decide +kernel
theorem dJ7_rangeCheck_23922_64 : decode cJ7_rangeCheck_23922 64 = .ok (.new 68, 3) := by decide +kernel
theorem dJ7_rangeCheck_23922_67 : decode cJ7_rangeCheck_23922 67 = .ok (.dup, 1) := by decide +kernel
theorem dJ7_rangeCheck_23922_68 : decode cJ7_rangeCheck_23922 68 = .ok (.iload_n 2, 1) := by decide +kernel
theorem dJ7_rangeCheck_23922_69 : decode cJ7_rangeCheck_23922 69 = .ok (.invokespecial 70, 3) := by decide +kernel
theorem dJ7_rangeCheck_23922_72 : decode cJ7_rangeCheck_23922 72 = .ok (.athrow, 1) := by decide +kernel
theorem dJ7_rangeCheck_23922_73 : decode cJ7_rangeCheck_23922 73 = .ok (.return_, 1) := by decide +kernel
theorem dJ7_fill_d0a16_0 : decode cJ7_fill_d0a16 0 = .ok (.iconst 0, 1) := by decide +kernel
theorem dJ7_fill_d0a16_1 : decode cJ7_fill_d0a16 1 = .ok (.istore_n 3, 1) := by decide +kernel
theorem dJ7_fill_d0a16_2 : decode cJ7_fill_d0a16 2 = .ok (.aload_n 0, 1) := by decide +kernel
theorem dJ7_fill_d0a16_3 : decode cJ7_fill_d0a16 3 = .ok (.arraylength, 1) := by decide +kernel
theorem dJ7_fill_d0a16_4 : decode cJ7_fill_d0a16 4 = .ok (.istore 4, 2) := by decide +kernel
theorem dJ7_fill_d0a16_6 : decode cJ7_fill_d0a16 6 = .ok (.iload_n 3, 1) := by decide +kernel
theorem dJ7_fill_d0a16_7 : decode cJ7_fill_d0a16 7 = .ok (.iload 4, 2) := by decide +kernel
theorem dJ7_fill_d0a16_9 : decode cJ7_fill_d0a16 9 = .ok (.if_icmp .ge 13, 3) := by decide +kernel
theorem dJ7_fill_d0a16_12 : decode cJ7_fill_d0a16 12 = .ok (.aload_n 0, 1) := by decide +kernel
theorem dJ7_fill_d0a16_13 : decode cJ7_fill_d0a16 13 = .ok (.iload_n 3, 1) := by decide +kernel
theorem dJ7_fill_d0a16_14 : decode cJ7_fill_d0a16 14 = .ok (.lload_n 1, 1) := by decide +kernel
theorem dJ7_fill_d0a16_15 : decode cJ7_fill_d0a16 15 = .ok (.lastore, 1) := by decide +kernel
theorem dJ7_fill_d0a16_16 : decode cJ7_fill_d0a16 16 = .ok (.iinc 3 1, 3) := by decide +kernel
theorem dJ7_fill_d0a16_19 : decode cJ7_fill_d0a16 19 = .ok (.goto (-13), 3) := by decide +kernel
theorem dJ7_fill_d0a16_22 : decode cJ7_fill_d0a16 22 = .ok (.return_, 1) := by decide +kernel
set_option maxRecDepth 20000 in
theorem ggJ7_fill_bad5a_J7_rangeCheck_23922 : GoodIn wsJ7_fill_bad5a wsJ7_rangeCheck_23922 := goodIn_r _ [4] (by decide +kernel) (by decide +kernel)
set_option maxRecDepth 20000 in
theorem gJ7_fill_bad5a_J7_rangeCheck_23922 : GoodIn wsJ7_fill_bad5a (va_wsS RJ7 13 yJ7_rangeCheck_23922 wsJ7_rangeCheck_23922) := goodIn_app (goodIn_of _ (by decide +kernel)) ggJ7_fill_bad5a_J7_rangeCheck_23922
theorem dJ7_fill_bad5a_0 : decode cJ7_fill_bad5a 0 = .ok (.aload_n 0, 1) := by decide +kernel
theorem dJ7_fill_bad5a_1 : decode cJ7_fill_bad5a 1 = .ok (.arraylength, 1) := by decide +kernel
theorem dJ7_fill_bad5a_2 : decode cJ7_fill_bad5a 2 = .ok (.iload_n 1, 1) := by decide +kernel
theorem dJ7_fill_bad5a_3 : decode cJ7_fill_bad5a 3 = .ok (.iload_n 2, 1) := by decide +kernel
theorem dJ7_fill_bad5a_4 : decode cJ7_fill_bad5a 4 = .ok (.invokestatic 13, 3) := by decide +kernel
theorem dJ7_fill_bad5a_7 : decode cJ7_fill_bad5a 7 = .ok (.iload_n 1, 1) := by decide +kernel
theorem dJ7_fill_bad5a_8 : decode cJ7_fill_bad5a 8 = .ok (.istore 5, 2) := by decide +kernel
theorem dJ7_fill_bad5a_10 : decode cJ7_fill_bad5a 10 = .ok (.iload 5, 2) := by decide +kernel
theorem dJ7_fill_bad5a_12 : decode cJ7_fill_bad5a 12 = .ok (.iload_n 2, 1) := by decide +kernel
theorem dJ7_fill_bad5a_13 : decode cJ7_fill_bad5a 13 = .ok (.if_icmp .ge 14, 3) := by decide +kernel
theorem dJ7_fill_bad5a_16 : decode cJ7_fill_bad5a 16 = .ok (.aload_n 0, 1) := by decide +kernel
theorem dJ7_fill_bad5a_17 : decode cJ7_fill_bad5a 17 = .ok (.iload 5, 2) := by decide +kernel
theorem dJ7_fill_bad5a_19 : decode cJ7_fill_bad5a 19 = .ok (.lload_n 3, 1) := by decide +kernel
theorem dJ7_fill_bad5a_20 : decode cJ7_fill_bad5a 20 = .ok (.lastore, 1) := by decide +kernel
theorem dJ7_fill_bad5a_21 : decode cJ7_fill_bad5a 21 = .ok (.iinc 5 1, 3) := by decide +kernel
theorem dJ7_fill_bad5a_24 : decode cJ7_fill_bad5a 24 = .ok (.goto (-14), 3) := by decide +kernel
theorem dJ7_fill_bad5a_27 : decode cJ7_fill_bad5a 27 = .ok (.return_, 1) := by decide +kernel
theorem dJ7_fill_53178_0 : decode cJ7_fill_53178 0 = .ok (.iconst 0, 1) := by decide +kernel
theorem dJ7_fill_53178_1 : decode cJ7_fill_53178 1 = .ok (.istore_n 2, 1) := by decide +kernel
theorem dJ7_fill_53178_2 : decode cJ7_fill_53178 2 = .ok (.aload_n 0, 1) := by decide +kernel
theorem dJ7_fill_53178_3 : decode cJ7_fill_53178 3 = .ok (.arraylength, 1) := by decide +kernel
theorem dJ7_fill_53178_4 : decode cJ7_fill_53178 4 = .ok (.istore_n 3, 1) := by decide +kernel
theorem dJ7_fill_53178_5 : decode cJ7_fill_53178 5 = .ok (.iload_n 2, 1) := by decide +kernel
theorem dJ7_fill_53178_6 : decode cJ7_fill_53178 6 = .ok (.iload_n 3, 1) := by decide +kernel
theorem dJ7_fill_53178_7 : decode cJ7_fill_53178 7 = .ok (.if_icmp .ge 13, 3) := by decide +kernel
theorem dJ7_fill_53178_10 : decode cJ7_fill_53178 10 = .ok (.aload_n 0, 1) := by decide +kernel
theorem dJ7_fill_53178_11 : decode cJ7_fill_53178 11 = .ok (.iload_n 2, 1) := by decide +kernel
theorem dJ7_fill_53178_12 : decode cJ7_fill_53178 12 = .ok (.iload_n 1, 1) := by decide +kernel
theorem dJ7_fill_53178_13 : decode cJ7_fill_53178 13 = .ok (.iastore, 1) := by decide +kernel
theorem dJ7_fill_53178_14 : decode cJ7_fill_53178 14 = .ok (.iinc 2 1, 3) := by decide +kernel
theorem dJ7_fill_53178_17 : decode cJ7_fill_53178 17 = .ok (.goto (-12), 3) := by decide +kernel
theorem dJ7_fill_53178_20 : decode cJ7_fill_53178 20 = .ok (.return_, 1) := by decide +kernel
end
section
/-! THE POOL: all cells of a run lie in one list of addresses L, and f says what each holds. A frame's judgement 'px' speaks of L, f, the locals lv and the stack st alone. -/
abbrev px_E : Type := va_G × (Nat → ClassId)
def px_tys (E : px_E) : List (ClassId × FieldType) := [(E.2 0, .int), (E.2 1, .long), (E.2 2, .object "RowReductionModel$Great"), (E.2 3, .array .int), (E.2 4, .array .long)]
def px_JJ (E : px_E) (U : State) : Prop := ∃ kA : Class, U.vm.classes[E.2 4]? = some kA ∧ kA.kind = .array (E.2 1) (.array .long)
/-- the words that a call doesn't carry: links within a nest, classes of arrays of references -/
def px_N (U : State) : Prop := va_Nw (.fieldLinkNest RX3 73 "RowReduction$LowestTerms" "numerator" "J" "RowReduction") U ∧ va_Nw (.fieldLinkNest RX3 77 "RowReduction$LowestTerms" "denominator" "J" "RowReduction") U ∧ va_Nw (.methodLinkNest RX3 23 yX0_init "RowReduction") U ∧ va_Nw (.methodLinkNest RX3 30 yX2_init "RowReduction") U ∧ va_Nw (.methodLinkNest RX5 57 yX4_init "RowReductionModel") U
def px_O (U : State) : Prop := va_AO "RowReductionModel$Great" U ∧ (Cond.arrayOver (.array .int)).before #[] U = true ∧ (Cond.arrayOver (.array .long)).before #[] U = true
theorem px_O.moved {u U : State} (hvm : u.vm.Alike U.vm) (h : px_O u) : px_O U := ⟨va_AO.moved hvm h.1, Stand.arrayOver_alikeB hvm h.2.1, Stand.arrayOver_alikeB hvm h.2.2⟩
def px_K (E : px_E) (U : State) : Prop := va_K E.1 vwCl (px_tys E) U ∧ px_JJ E U ∧ px_O U ∧ px_N U
theorem px_JJ.moved {E : px_E} {u U : State} (hvm : u.vm.Alike U.vm) (h : px_JJ E u) : px_JJ E U := by
  obtain ⟨kA, h2, h3⟩ := h
  obtain ⟨k', hk', he⟩ := hvm.2.2 _ _ h2
  exact ⟨k', hk', by rw [he]; exact h3⟩
theorem px_K.warm {E : px_E} {u U : State} (hW : u.WarmedH U.vm) (h : px_K E u) : px_K E U := ⟨va_K.moved hW.alike h.1, px_JJ.moved hW.alike h.2.1, px_O.moved hW.alike h.2.2.1, va_Nw.warmF hW h.2.2.2.1, va_Nw.warmF hW h.2.2.2.2.1, va_Nw.warmM hW h.2.2.2.2.2.1, va_Nw.warmM hW h.2.2.2.2.2.2.1, va_Nw.warmM hW h.2.2.2.2.2.2.2⟩
theorem px_K.same {E : px_E} {u U : State} (hv : u.vm = U.vm) (h : px_K E u) : px_K E U := by
  have hvm : u.vm.Alike U.vm := by rw [hv]; exact Vm.Alike.refl U.vm
  exact ⟨va_K.moved hvm h.1, px_JJ.moved hvm h.2.1, px_O.moved hvm h.2.2.1, va_Nw.same rfl hv h.2.2.2.1, va_Nw.same rfl hv h.2.2.2.2.1, va_Nw.same rfl hv h.2.2.2.2.2.1, va_Nw.same rfl hv h.2.2.2.2.2.2.1, va_Nw.same rfl hv h.2.2.2.2.2.2.2⟩
def px_H (E : px_E) (A : Nat → Prop) (H0 : Heap) (L : List Nat) (f : Nat → va_E) (H : Heap) (locs : List Loc) : Prop := va_P E.1 vwCl (va_pl L f) H ∧ va_D A (va_pl L f) ∧ va_S A H0 H locs
/-- what holds all through a method: the machine, its bytes, its locals' number, its class, its words, its answer's type, the tables, the cells that it may write -/
def px_C (p : Program) (s : State) (m : MethodId) (args : Array Value) (meth : Method) (c : Code) (cc : ByteArray) (own : String) (ws : List Cond) (nL : Nat) (ret : Option FieldType) (E : px_E) (A : Nat → Prop) (H0 : Heap) : Prop :=
  p.tables.exec = Jvm.exec ∧ c.code = cc ∧ c.maxLocals = nL ∧ s.vm.findClass own = some m.cls ∧ (∀ w ∈ ws, w.before args s = true) ∧ meth.sig.returnType = ret ∧ meth.locks = false ∧ px_K E s ∧ (∀ q, H0.size ≤ q → A q)
def px (p : Program) (l : Launch) (e : Env) (R : Room) (s : State) (m : MethodId) (args : Array Value) (below : List Frame) (meth : Method) (c : Code) (nL : Nat) (E : px_E) (A : Nat → Prop) (H0 : Heap) (L : List Nat) (f : Nat → va_E) (n k : Nat) (Q : State → Prop) (pc : Nat) (lv : List (Nat × Value)) (st : List Value) : Prop :=
  ∀ (H : Heap) (locs : List Loc) (ls : Array Slot), px_H E A H0 L f H locs → lv_has ls nL lv → W p l e R s m args below meth c H locs n k Q (F0 m pc ls st)
/-- a cell's place in the pool -/
theorem px_pl {L : List Nat} {f : Nat → va_E} {a : Nat} (h : a ∈ L) : ∃ j : Nat, (va_pl L f)[j]? = some (a, f a) := by
  obtain ⟨j, hj⟩ := va_pl_get (X := []) (f := f) h
  exact ⟨j, hj⟩
theorem px_plset {A : Nat → Prop} {L : List Nat} {f : Nat → va_E} {a j : Nat} {e : va_E} (hD : va_D A (va_pl L f)) (h : a ∈ L) (hk : (va_pl L f)[j]? = some (a, f a)) : (va_pl L f).set j (a, e) = va_pl L (va_up f a e) := va_pl_set (X := []) hD h hk
theorem px_uu (f : Nat → va_E) (a : Nat) (x y : va_E) : va_up (va_up f a x) a y = va_up f a y := by
  funext j
  by_cases h : j = a <;> simp [va_up, h]
theorem px_us {f : Nat → va_E} {a : Nat} {x : va_E} (h : f a = x) : va_up f a x = f := by
  funext j
  by_cases q : j = a
  · subst q; simp [va_up, h]
  · simp [va_up, q]
theorem px_uc (f : Nat → va_E) {a b : Nat} (x y : va_E) (h : a ≠ b) : va_up (va_up f a x) b y = va_up (va_up f b y) a x := by
  funext j
  by_cases q : j = a
  · subst q
    rw [va_up_ne _ _ h, va_up_self, va_up_self]
  · by_cases q2 : j = b
    · subst q2
      rw [va_up_self, va_up_ne _ _ q, va_up_self]
    · rw [va_up_ne _ _ q2, va_up_ne _ _ q, va_up_ne _ _ q, va_up_ne _ _ q2]
section PX
variable {p : Program} {l : Launch} {e : Env} {R : Room} {s : State} {m : MethodId} {args : Array Value} {below : List Frame} {meth : Method} {c : Code} {cc : ByteArray} {own : String} {ws : List Cond} {nL : Nat} {ret : Option FieldType} {E : px_E} {A : Nat → Prop} {H0 : Heap} {L : List Nat} {f : Nat → va_E} {n k : Nat} {Q : State → Prop} {pc : Nat} {lv : List (Nat × Value)} {st : List Value}
theorem px_iconst (hC : px_C p s m args meth c cc own ws nL ret E A H0) {a : Int} {v : Int32} (hv : Int32.ofInt a = v) (hdg : decode cc pc = .ok (.iconst a, 1)) (kk : px p l e R s m args below meth c nL E A H0 L f n k Q (pc + 1) (lv) (.int v :: st)) : px p l e R s m args below meth c nL E A H0 L f n k Q (pc) (lv) (st) := fun H locs ls hH hl => lv_iconst hC.1 hC.2.1 hdg hv (kk H locs ls hH hl)
theorem px_bipush (hC : px_C p s m args meth c cc own ws nL ret E A H0) {a : Int} {v : Int32} (hv : (Int8.ofInt a).toInt32 = v) (hdg : decode cc pc = .ok (.bipush a, 2)) (kk : px p l e R s m args below meth c nL E A H0 L f n k Q (pc + 2) (lv) (.int v :: st)) : px p l e R s m args below meth c nL E A H0 L f n k Q (pc) (lv) (st) := fun H locs ls hH hl => lv_bipush hC.1 hC.2.1 hdg hv (kk H locs ls hH hl)
theorem px_sipush (hC : px_C p s m args meth c cc own ws nL ret E A H0) {a : Int} {v : Int32} (hv : (Int16.ofInt a).toInt32 = v) (hdg : decode cc pc = .ok (.sipush a, 3)) (kk : px p l e R s m args below meth c nL E A H0 L f n k Q (pc + 3) (lv) (.int v :: st)) : px p l e R s m args below meth c nL E A H0 L f n k Q (pc) (lv) (st) := fun H locs ls hH hl => lv_sipush hC.1 hC.2.1 hdg hv (kk H locs ls hH hl)
theorem px_lconst (hC : px_C p s m args meth c cc own ws nL ret E A H0) {a : Fin 2} {v : Int64} (hv : Int64.ofNat (a : Nat) = v) (hdg : decode cc pc = .ok (.lconst a, 1)) (kk : px p l e R s m args below meth c nL E A H0 L f n k Q (pc + 1) (lv) (.long v :: st)) : px p l e R s m args below meth c nL E A H0 L f n k Q (pc) (lv) (st) := fun H locs ls hH hl => lv_lconst hC.1 hC.2.1 hdg hv (kk H locs ls hH hl)
theorem px_ldc (hC : px_C p s m args meth c cc own ws nL ret E A H0) {v : Int32} {index : Nat} (hdg : decode cc pc = .ok (.ldc index, 2)) (hw : Cond.constant own index v ∈ ws) (kk : px p l e R s m args below meth c nL E A H0 L f n k Q (pc + 2) (lv) (.int v :: st)) : px p l e R s m args below meth c nL E A H0 L f n k Q (pc) (lv) (st) := fun H locs ls hH hl => lv_ldc hC.1 hC.2.1 hC.2.2.2.1 (hC.2.2.2.2.1 _ hw) hdg (kk H locs ls hH hl)
theorem px_ldc2 (hC : px_C p s m args meth c cc own ws nL ret E A H0) {v : Int64} {index : Nat} (hdg : decode cc pc = .ok (.ldc2_w index, 3)) (hw : Cond.constantLong own index v ∈ ws) (kk : px p l e R s m args below meth c nL E A H0 L f n k Q (pc + 3) (lv) (.long v :: st)) : px p l e R s m args below meth c nL E A H0 L f n k Q (pc) (lv) (st) := fun H locs ls hH hl => lv_ldc2 hC.1 hC.2.1 hC.2.2.2.1 (hC.2.2.2.2.1 _ hw) hdg (kk H locs ls hH hl)
theorem px_iload_n (hC : px_C p s m args meth c cc own ws nL ret E A H0) {a : Fin 4} {x : Int32} (j : Nat) (hv : lv[j]? = some ((a : Nat), .int x)) (hdg : decode cc pc = .ok (.iload_n a, 1)) (kk : px p l e R s m args below meth c nL E A H0 L f n k Q (pc + 1) (lv) (.int x :: st)) : px p l e R s m args below meth c nL E A H0 L f n k Q (pc) (lv) (st) := fun H locs ls hH hl => lv_iload_n hC.1 hC.2.1 hdg rfl (lv_at hl j hv) (kk H locs ls hH hl)
theorem px_iload (hC : px_C p s m args meth c cc own ws nL ret E A H0) {a : Nat} {x : Int32} (j : Nat) (hv : lv[j]? = some (a, .int x)) (hdg : decode cc pc = .ok (.iload a, 2)) (kk : px p l e R s m args below meth c nL E A H0 L f n k Q (pc + 2) (lv) (.int x :: st)) : px p l e R s m args below meth c nL E A H0 L f n k Q (pc) (lv) (st) := fun H locs ls hH hl => lv_iload hC.1 hC.2.1 hdg (lv_at hl j hv) (kk H locs ls hH hl)
theorem px_lload_n (hC : px_C p s m args meth c cc own ws nL ret E A H0) {a : Fin 4} {x : Int64} (j : Nat) (hv : lv[j]? = some ((a : Nat), .long x)) (hdg : decode cc pc = .ok (.lload_n a, 1)) (kk : px p l e R s m args below meth c nL E A H0 L f n k Q (pc + 1) (lv) (.long x :: st)) : px p l e R s m args below meth c nL E A H0 L f n k Q (pc) (lv) (st) := fun H locs ls hH hl => lv_lload_n hC.1 hC.2.1 hdg rfl (lv_at hl j hv) (kk H locs ls hH hl)
theorem px_lload (hC : px_C p s m args meth c cc own ws nL ret E A H0) {a : Nat} {x : Int64} (j : Nat) (hv : lv[j]? = some (a, .long x)) (hdg : decode cc pc = .ok (.lload a, 2)) (kk : px p l e R s m args below meth c nL E A H0 L f n k Q (pc + 2) (lv) (.long x :: st)) : px p l e R s m args below meth c nL E A H0 L f n k Q (pc) (lv) (st) := fun H locs ls hH hl => lv_lload hC.1 hC.2.1 hdg (lv_at hl j hv) (kk H locs ls hH hl)
theorem px_aload_n (hC : px_C p s m args meth c cc own ws nL ret E A H0) {a : Fin 4} {x : Nat} (j : Nat) (hv : lv[j]? = some ((a : Nat), .ref x)) (hdg : decode cc pc = .ok (.aload_n a, 1)) (kk : px p l e R s m args below meth c nL E A H0 L f n k Q (pc + 1) (lv) (.ref x :: st)) : px p l e R s m args below meth c nL E A H0 L f n k Q (pc) (lv) (st) := fun H locs ls hH hl => lv_aload_n hC.1 hC.2.1 hdg rfl (lv_at hl j hv) (kk H locs ls hH hl)
theorem px_aload (hC : px_C p s m args meth c cc own ws nL ret E A H0) {a : Nat} {x : Nat} (j : Nat) (hv : lv[j]? = some (a, .ref x)) (hdg : decode cc pc = .ok (.aload a, 2)) (kk : px p l e R s m args below meth c nL E A H0 L f n k Q (pc + 2) (lv) (.ref x :: st)) : px p l e R s m args below meth c nL E A H0 L f n k Q (pc) (lv) (st) := fun H locs ls hH hl => lv_aload hC.1 hC.2.1 hdg (lv_at hl j hv) (kk H locs ls hH hl)
theorem px_istore_n (hC : px_C p s m args meth c cc own ws nL ret E A H0) {a : Fin 4} {x : Int32} {lv' : List (Nat × Value)} (ks : List Nat) (hdg : decode cc pc = .ok (.istore_n a, 1)) (hn : (a : Nat) < nL) (hl' : lv_pick (((a : Nat), Value.int x) :: lv.filter (fun q => !(q.1 == (a : Nat)) && !(q.1 + 1 == (a : Nat) && q.2.category == 2))) ks = lv') (kk : px p l e R s m args below meth c nL E A H0 L f n k Q (pc + 1) (lv') (st)) : px p l e R s m args below meth c nL E A H0 L f n k Q (pc) (lv) (.int x :: st) := fun H locs ls hH hl => lv_istore_n hC.1 hC.2.1 hdg rfl hl hn rfl (fun ls2 hl2 => kk H locs ls2 hH (lv_sub hl2 ks hl'))
theorem px_istore (hC : px_C p s m args meth c cc own ws nL ret E A H0) {a : Nat} {x : Int32} {lv' : List (Nat × Value)} (ks : List Nat) (hdg : decode cc pc = .ok (.istore a, 2)) (hn : a < nL) (hl' : lv_pick ((a, Value.int x) :: lv.filter (fun q => !(q.1 == a) && !(q.1 + 1 == a && q.2.category == 2))) ks = lv') (kk : px p l e R s m args below meth c nL E A H0 L f n k Q (pc + 2) (lv') (st)) : px p l e R s m args below meth c nL E A H0 L f n k Q (pc) (lv) (.int x :: st) := fun H locs ls hH hl => lv_istore hC.1 hC.2.1 hdg hl hn rfl (fun ls2 hl2 => kk H locs ls2 hH (lv_sub hl2 ks hl'))
theorem px_lstore_n (hC : px_C p s m args meth c cc own ws nL ret E A H0) {a : Fin 4} {x : Int64} {lv' : List (Nat × Value)} (ks : List Nat) (hdg : decode cc pc = .ok (.lstore_n a, 1)) (hn : (a : Nat) + 1 < nL) (hl' : lv_pick (((a : Nat), Value.long x) :: lv.filter (fun q => !(q.1 == (a : Nat)) && (!(q.1 == (a : Nat) + 1) && !(q.1 + 1 == (a : Nat) && q.2.category == 2)))) ks = lv') (kk : px p l e R s m args below meth c nL E A H0 L f n k Q (pc + 1) (lv') (st)) : px p l e R s m args below meth c nL E A H0 L f n k Q (pc) (lv) (.long x :: st) := fun H locs ls hH hl => lv_lstore_n hC.1 hC.2.1 hdg rfl hl hn rfl (fun ls2 hl2 => kk H locs ls2 hH (lv_sub hl2 ks hl'))
theorem px_lstore (hC : px_C p s m args meth c cc own ws nL ret E A H0) {a : Nat} {x : Int64} {lv' : List (Nat × Value)} (ks : List Nat) (hdg : decode cc pc = .ok (.lstore a, 2)) (hn : a + 1 < nL) (hl' : lv_pick ((a, Value.long x) :: lv.filter (fun q => !(q.1 == a) && (!(q.1 == a + 1) && !(q.1 + 1 == a && q.2.category == 2)))) ks = lv') (kk : px p l e R s m args below meth c nL E A H0 L f n k Q (pc + 2) (lv') (st)) : px p l e R s m args below meth c nL E A H0 L f n k Q (pc) (lv) (.long x :: st) := fun H locs ls hH hl => lv_lstore hC.1 hC.2.1 hdg hl hn rfl (fun ls2 hl2 => kk H locs ls2 hH (lv_sub hl2 ks hl'))
theorem px_astore_n (hC : px_C p s m args meth c cc own ws nL ret E A H0) {a : Fin 4} {x : Nat} {lv' : List (Nat × Value)} (ks : List Nat) (hdg : decode cc pc = .ok (.astore_n a, 1)) (hn : (a : Nat) < nL) (hl' : lv_pick (((a : Nat), Value.ref x) :: lv.filter (fun q => !(q.1 == (a : Nat)) && !(q.1 + 1 == (a : Nat) && q.2.category == 2))) ks = lv') (kk : px p l e R s m args below meth c nL E A H0 L f n k Q (pc + 1) (lv') (st)) : px p l e R s m args below meth c nL E A H0 L f n k Q (pc) (lv) (.ref x :: st) := fun H locs ls hH hl => lv_astore_n hC.1 hC.2.1 hdg rfl hl hn rfl (fun ls2 hl2 => kk H locs ls2 hH (lv_sub hl2 ks hl'))
theorem px_astore (hC : px_C p s m args meth c cc own ws nL ret E A H0) {a : Nat} {x : Nat} {lv' : List (Nat × Value)} (ks : List Nat) (hdg : decode cc pc = .ok (.astore a, 2)) (hn : a < nL) (hl' : lv_pick ((a, Value.ref x) :: lv.filter (fun q => !(q.1 == a) && !(q.1 + 1 == a && q.2.category == 2))) ks = lv') (kk : px p l e R s m args below meth c nL E A H0 L f n k Q (pc + 2) (lv') (st)) : px p l e R s m args below meth c nL E A H0 L f n k Q (pc) (lv) (.ref x :: st) := fun H locs ls hH hl => lv_astore hC.1 hC.2.1 hdg hl hn rfl (fun ls2 hl2 => kk H locs ls2 hH (lv_sub hl2 ks hl'))
theorem px_iinc (hC : px_C p s m args meth c cc own ws nL ret E A H0) {a : Nat} {b : Int} {x v : Int32} {lv' : List (Nat × Value)} (j : Nat) (ks : List Nat) (hdg : decode cc pc = .ok (.iinc a b, 3)) (hk : lv[j]? = some (a, .int x)) (hv : x + Int32.ofInt b = v) (hn : a < nL) (hl' : lv_pick ((a, Value.int v) :: lv.filter (fun q => !(q.1 == a) && !(q.1 + 1 == a && q.2.category == 2))) ks = lv') (kk : px p l e R s m args below meth c nL E A H0 L f n k Q (pc + 3) (lv') (st)) : px p l e R s m args below meth c nL E A H0 L f n k Q (pc) (lv) (st) := fun H locs ls hH hl => lv_iinc hC.1 hC.2.1 hdg hl hk hv hn rfl (fun ls2 hl2 => kk H locs ls2 hH (lv_sub hl2 ks hl'))
theorem px_iadd (hC : px_C p s m args meth c cc own ws nL ret E A H0) {x y : Int32} (hdg : decode cc pc = .ok (.iadd, 1)) (kk : px p l e R s m args below meth c nL E A H0 L f n k Q (pc + 1) (lv) (.int (x + y) :: st)) : px p l e R s m args below meth c nL E A H0 L f n k Q (pc) (lv) (.int y :: .int x :: st) := fun H locs ls hH hl => lv_iadd hC.1 hC.2.1 hdg (kk H locs ls hH hl)
theorem px_isub (hC : px_C p s m args meth c cc own ws nL ret E A H0) {x y : Int32} (hdg : decode cc pc = .ok (.isub, 1)) (kk : px p l e R s m args below meth c nL E A H0 L f n k Q (pc + 1) (lv) (.int (x - y) :: st)) : px p l e R s m args below meth c nL E A H0 L f n k Q (pc) (lv) (.int y :: .int x :: st) := fun H locs ls hH hl => lv_isub hC.1 hC.2.1 hdg (kk H locs ls hH hl)
theorem px_imul (hC : px_C p s m args meth c cc own ws nL ret E A H0) {x y : Int32} (hdg : decode cc pc = .ok (.imul, 1)) (kk : px p l e R s m args below meth c nL E A H0 L f n k Q (pc + 1) (lv) (.int (x * y) :: st)) : px p l e R s m args below meth c nL E A H0 L f n k Q (pc) (lv) (.int y :: .int x :: st) := fun H locs ls hH hl => lv_imul hC.1 hC.2.1 hdg (kk H locs ls hH hl)
theorem px_iand (hC : px_C p s m args meth c cc own ws nL ret E A H0) {x y : Int32} (hdg : decode cc pc = .ok (.iand, 1)) (kk : px p l e R s m args below meth c nL E A H0 L f n k Q (pc + 1) (lv) (.int (x &&& y) :: st)) : px p l e R s m args below meth c nL E A H0 L f n k Q (pc) (lv) (.int y :: .int x :: st) := fun H locs ls hH hl => lv_iand hC.1 hC.2.1 hdg (kk H locs ls hH hl)
theorem px_ior (hC : px_C p s m args meth c cc own ws nL ret E A H0) {x y : Int32} (hdg : decode cc pc = .ok (.ior, 1)) (kk : px p l e R s m args below meth c nL E A H0 L f n k Q (pc + 1) (lv) (.int (x ||| y) :: st)) : px p l e R s m args below meth c nL E A H0 L f n k Q (pc) (lv) (.int y :: .int x :: st) := fun H locs ls hH hl => lv_ior hC.1 hC.2.1 hdg (kk H locs ls hH hl)
theorem px_ixor (hC : px_C p s m args meth c cc own ws nL ret E A H0) {x y : Int32} (hdg : decode cc pc = .ok (.ixor, 1)) (kk : px p l e R s m args below meth c nL E A H0 L f n k Q (pc + 1) (lv) (.int (x ^^^ y) :: st)) : px p l e R s m args below meth c nL E A H0 L f n k Q (pc) (lv) (.int y :: .int x :: st) := fun H locs ls hH hl => lv_ixor hC.1 hC.2.1 hdg (kk H locs ls hH hl)
theorem px_ladd (hC : px_C p s m args meth c cc own ws nL ret E A H0) {x y : Int64} (hdg : decode cc pc = .ok (.ladd, 1)) (kk : px p l e R s m args below meth c nL E A H0 L f n k Q (pc + 1) (lv) (.long (x + y) :: st)) : px p l e R s m args below meth c nL E A H0 L f n k Q (pc) (lv) (.long y :: .long x :: st) := fun H locs ls hH hl => lv_ladd hC.1 hC.2.1 hdg (kk H locs ls hH hl)
theorem px_lsub (hC : px_C p s m args meth c cc own ws nL ret E A H0) {x y : Int64} (hdg : decode cc pc = .ok (.lsub, 1)) (kk : px p l e R s m args below meth c nL E A H0 L f n k Q (pc + 1) (lv) (.long (x - y) :: st)) : px p l e R s m args below meth c nL E A H0 L f n k Q (pc) (lv) (.long y :: .long x :: st) := fun H locs ls hH hl => lv_lsub hC.1 hC.2.1 hdg (kk H locs ls hH hl)
theorem px_lmul (hC : px_C p s m args meth c cc own ws nL ret E A H0) {x y : Int64} (hdg : decode cc pc = .ok (.lmul, 1)) (kk : px p l e R s m args below meth c nL E A H0 L f n k Q (pc + 1) (lv) (.long (x * y) :: st)) : px p l e R s m args below meth c nL E A H0 L f n k Q (pc) (lv) (.long y :: .long x :: st) := fun H locs ls hH hl => lv_lmul hC.1 hC.2.1 hdg (kk H locs ls hH hl)
theorem px_land (hC : px_C p s m args meth c cc own ws nL ret E A H0) {x y : Int64} (hdg : decode cc pc = .ok (.land, 1)) (kk : px p l e R s m args below meth c nL E A H0 L f n k Q (pc + 1) (lv) (.long (x &&& y) :: st)) : px p l e R s m args below meth c nL E A H0 L f n k Q (pc) (lv) (.long y :: .long x :: st) := fun H locs ls hH hl => lv_land hC.1 hC.2.1 hdg (kk H locs ls hH hl)
theorem px_lor (hC : px_C p s m args meth c cc own ws nL ret E A H0) {x y : Int64} (hdg : decode cc pc = .ok (.lor, 1)) (kk : px p l e R s m args below meth c nL E A H0 L f n k Q (pc + 1) (lv) (.long (x ||| y) :: st)) : px p l e R s m args below meth c nL E A H0 L f n k Q (pc) (lv) (.long y :: .long x :: st) := fun H locs ls hH hl => lv_lor hC.1 hC.2.1 hdg (kk H locs ls hH hl)
theorem px_lxor (hC : px_C p s m args meth c cc own ws nL ret E A H0) {x y : Int64} (hdg : decode cc pc = .ok (.lxor, 1)) (kk : px p l e R s m args below meth c nL E A H0 L f n k Q (pc + 1) (lv) (.long (x ^^^ y) :: st)) : px p l e R s m args below meth c nL E A H0 L f n k Q (pc) (lv) (.long y :: .long x :: st) := fun H locs ls hH hl => lv_lxor hC.1 hC.2.1 hdg (kk H locs ls hH hl)
theorem px_idiv (hC : px_C p s m args meth c cc own ws nL ret E A H0) {x y : Int32} (hne : ¬ y = 0) (hdg : decode cc pc = .ok (.idiv, 1)) (kk : px p l e R s m args below meth c nL E A H0 L f n k Q (pc + 1) (lv) (.int (x / y) :: st)) : px p l e R s m args below meth c nL E A H0 L f n k Q (pc) (lv) (.int y :: .int x :: st) := fun H locs ls hH hl => lv_idiv hC.1 hC.2.1 hdg hne (kk H locs ls hH hl)
theorem px_irem (hC : px_C p s m args meth c cc own ws nL ret E A H0) {x y : Int32} (hne : ¬ y = 0) (hdg : decode cc pc = .ok (.irem, 1)) (kk : px p l e R s m args below meth c nL E A H0 L f n k Q (pc + 1) (lv) (.int (x - x / y * y) :: st)) : px p l e R s m args below meth c nL E A H0 L f n k Q (pc) (lv) (.int y :: .int x :: st) := fun H locs ls hH hl => lv_irem hC.1 hC.2.1 hdg hne (kk H locs ls hH hl)
theorem px_ldiv (hC : px_C p s m args meth c cc own ws nL ret E A H0) {x y : Int64} (hne : ¬ y = 0) (hdg : decode cc pc = .ok (.ldiv, 1)) (kk : px p l e R s m args below meth c nL E A H0 L f n k Q (pc + 1) (lv) (.long (x / y) :: st)) : px p l e R s m args below meth c nL E A H0 L f n k Q (pc) (lv) (.long y :: .long x :: st) := fun H locs ls hH hl => lv_ldiv hC.1 hC.2.1 hdg hne (kk H locs ls hH hl)
theorem px_lrem (hC : px_C p s m args meth c cc own ws nL ret E A H0) {x y : Int64} (hne : ¬ y = 0) (hdg : decode cc pc = .ok (.lrem, 1)) (kk : px p l e R s m args below meth c nL E A H0 L f n k Q (pc + 1) (lv) (.long (x - x / y * y) :: st)) : px p l e R s m args below meth c nL E A H0 L f n k Q (pc) (lv) (.long y :: .long x :: st) := fun H locs ls hH hl => lv_lrem hC.1 hC.2.1 hdg hne (kk H locs ls hH hl)
theorem px_lneg (hC : px_C p s m args meth c cc own ws nL ret E A H0) {x : Int64} (hdg : decode cc pc = .ok (.lneg, 1)) (kk : px p l e R s m args below meth c nL E A H0 L f n k Q (pc + 1) (lv) (.long (-x) :: st)) : px p l e R s m args below meth c nL E A H0 L f n k Q (pc) (lv) (.long x :: st) := fun H locs ls hH hl => lv_lneg hC.1 hC.2.1 hdg (kk H locs ls hH hl)
theorem px_ishl (hC : px_C p s m args meth c cc own ws nL ret E A H0) {x y : Int32} (hdg : decode cc pc = .ok (.ishl, 1)) (kk : px p l e R s m args below meth c nL E A H0 L f n k Q (pc + 1) (lv) (.int (x <<< (y &&& 31)) :: st)) : px p l e R s m args below meth c nL E A H0 L f n k Q (pc) (lv) (.int y :: .int x :: st) := fun H locs ls hH hl => lv_ishl hC.1 hC.2.1 hdg (kk H locs ls hH hl)
theorem px_ishr (hC : px_C p s m args meth c cc own ws nL ret E A H0) {x y : Int32} (hdg : decode cc pc = .ok (.ishr, 1)) (kk : px p l e R s m args below meth c nL E A H0 L f n k Q (pc + 1) (lv) (.int (x >>> (y &&& 31)) :: st)) : px p l e R s m args below meth c nL E A H0 L f n k Q (pc) (lv) (.int y :: .int x :: st) := fun H locs ls hH hl => lv_ishr hC.1 hC.2.1 hdg (kk H locs ls hH hl)
theorem px_iushr (hC : px_C p s m args meth c cc own ws nL ret E A H0) {x y : Int32} (hdg : decode cc pc = .ok (.iushr, 1)) (kk : px p l e R s m args below meth c nL E A H0 L f n k Q (pc + 1) (lv) (.int (x.toUInt32 >>> (y.toUInt32 &&& Int32.toUInt32 31)).toInt32 :: st)) : px p l e R s m args below meth c nL E A H0 L f n k Q (pc) (lv) (.int y :: .int x :: st) := fun H locs ls hH hl => lv_iushr hC.1 hC.2.1 hdg rfl (kk H locs ls hH hl)
theorem px_lushr (hC : px_C p s m args meth c cc own ws nL ret E A H0) {x : Int64} {y : Int32} (hdg : decode cc pc = .ok (.lushr, 1)) (kk : px p l e R s m args below meth c nL E A H0 L f n k Q (pc + 1) (lv) (.long (x.toUInt64 >>> (y.toInt64.toUInt64 &&& Int64.toUInt64 63)).toInt64 :: st)) : px p l e R s m args below meth c nL E A H0 L f n k Q (pc) (lv) (.int y :: .long x :: st) := fun H locs ls hH hl => lv_lushr hC.1 hC.2.1 hdg rfl (kk H locs ls hH hl)
theorem px_lshl (hC : px_C p s m args meth c cc own ws nL ret E A H0) {x : Int64} {y : Int32} (hdg : decode cc pc = .ok (.lshl, 1)) (kk : px p l e R s m args below meth c nL E A H0 L f n k Q (pc + 1) (lv) (.long (x <<< (y.toInt64 &&& 63)) :: st)) : px p l e R s m args below meth c nL E A H0 L f n k Q (pc) (lv) (.int y :: .long x :: st) := fun H locs ls hH hl => lv_lshl hC.1 hC.2.1 hdg rfl (kk H locs ls hH hl)
theorem px_lshr (hC : px_C p s m args meth c cc own ws nL ret E A H0) {x : Int64} {y : Int32} (hdg : decode cc pc = .ok (.lshr, 1)) (kk : px p l e R s m args below meth c nL E A H0 L f n k Q (pc + 1) (lv) (.long (x >>> (y.toInt64 &&& 63)) :: st)) : px p l e R s m args below meth c nL E A H0 L f n k Q (pc) (lv) (.int y :: .long x :: st) := fun H locs ls hH hl => lv_lshr hC.1 hC.2.1 hdg rfl (kk H locs ls hH hl)
theorem px_i2l (hC : px_C p s m args meth c cc own ws nL ret E A H0) {x : Int32} (hdg : decode cc pc = .ok (.i2l, 1)) (kk : px p l e R s m args below meth c nL E A H0 L f n k Q (pc + 1) (lv) (.long x.toInt64 :: st)) : px p l e R s m args below meth c nL E A H0 L f n k Q (pc) (lv) (.int x :: st) := fun H locs ls hH hl => lv_i2l hC.1 hC.2.1 hdg rfl (kk H locs ls hH hl)
theorem px_l2i (hC : px_C p s m args meth c cc own ws nL ret E A H0) {x : Int64} (hdg : decode cc pc = .ok (.l2i, 1)) (kk : px p l e R s m args below meth c nL E A H0 L f n k Q (pc + 1) (lv) (.int x.toInt32 :: st)) : px p l e R s m args below meth c nL E A H0 L f n k Q (pc) (lv) (.long x :: st) := fun H locs ls hH hl => lv_l2i hC.1 hC.2.1 hdg rfl (kk H locs ls hH hl)
theorem px_lcmp (hC : px_C p s m args meth c cc own ws nL ret E A H0) {x y : Int64} (hdg : decode cc pc = .ok (.lcmp, 1)) (kk : px p l e R s m args below meth c nL E A H0 L f n k Q (pc + 1) (lv) (.int (lg_cmp x y) :: st)) : px p l e R s m args below meth c nL E A H0 L f n k Q (pc) (lv) (.long y :: .long x :: st) := fun H locs ls hH hl => W.lcmp hC.1 hC.2.1 hdg (kk H locs ls hH hl)
theorem px_dup (hC : px_C p s m args meth c cc own ws nL ret E A H0) {va : Value} (hva : va.category = 1) (hdg : decode cc pc = .ok (.dup, 1)) (kk : px p l e R s m args below meth c nL E A H0 L f n k Q (pc + 1) (lv) (va :: va :: st)) : px p l e R s m args below meth c nL E A H0 L f n k Q (pc) (lv) (va :: st) := fun H locs ls hH hl => lv_dup hC.1 hC.2.1 hdg hva (kk H locs ls hH hl)
theorem px_dup2 (hC : px_C p s m args meth c cc own ws nL ret E A H0) {va vb : Value} (hva : va.category = 1) (hvb : vb.category = 1) (hdg : decode cc pc = .ok (.dup2, 1)) (kk : px p l e R s m args below meth c nL E A H0 L f n k Q (pc + 1) (lv) (va :: vb :: va :: vb :: st)) : px p l e R s m args below meth c nL E A H0 L f n k Q (pc) (lv) (va :: vb :: st) := fun H locs ls hH hl => lv_dup2_11 hC.1 hC.2.1 hdg hva hvb (kk H locs ls hH hl)
theorem px_if_eq (hC : px_C p s m args meth c cc own ws nL ret E A H0) {x : Int32} {off : Int} (tgt : Nat) (hdg : decode cc pc = .ok (.ifCond .eq off, 3)) (ht : (pc : Int) + off = (tgt : Int)) (kt : x = 0 → px p l e R s m args below meth c nL E A H0 L f n k Q (tgt) (lv) (st)) (kf : ¬ x = 0 → px p l e R s m args below meth c nL E A H0 L f n k Q (pc + 3) (lv) (st)) : px p l e R s m args below meth c nL E A H0 L f n k Q (pc) (lv) (.int x :: st) := fun H locs ls hH hl => lv_if_eq hC.1 hC.2.1 hdg ht (fun h => kt h H locs ls hH hl) (fun h => kf h H locs ls hH hl)
theorem px_icmp_eq (hC : px_C p s m args meth c cc own ws nL ret E A H0) {x y : Int32} {off : Int} (tgt : Nat) (hdg : decode cc pc = .ok (.if_icmp .eq off, 3)) (ht : (pc : Int) + off = (tgt : Int)) (kt : x = y → px p l e R s m args below meth c nL E A H0 L f n k Q (tgt) (lv) (st)) (kf : ¬ x = y → px p l e R s m args below meth c nL E A H0 L f n k Q (pc + 3) (lv) (st)) : px p l e R s m args below meth c nL E A H0 L f n k Q (pc) (lv) (.int y :: .int x :: st) := fun H locs ls hH hl => lv_icmp_eq hC.1 hC.2.1 hdg ht (fun h => kt h H locs ls hH hl) (fun h => kf h H locs ls hH hl)
theorem px_if_ne (hC : px_C p s m args meth c cc own ws nL ret E A H0) {x : Int32} {off : Int} (tgt : Nat) (hdg : decode cc pc = .ok (.ifCond .ne off, 3)) (ht : (pc : Int) + off = (tgt : Int)) (kt : ¬ x = 0 → px p l e R s m args below meth c nL E A H0 L f n k Q (tgt) (lv) (st)) (kf : x = 0 → px p l e R s m args below meth c nL E A H0 L f n k Q (pc + 3) (lv) (st)) : px p l e R s m args below meth c nL E A H0 L f n k Q (pc) (lv) (.int x :: st) := fun H locs ls hH hl => lv_if_ne hC.1 hC.2.1 hdg ht (fun h => kt h H locs ls hH hl) (fun h => kf h H locs ls hH hl)
theorem px_icmp_ne (hC : px_C p s m args meth c cc own ws nL ret E A H0) {x y : Int32} {off : Int} (tgt : Nat) (hdg : decode cc pc = .ok (.if_icmp .ne off, 3)) (ht : (pc : Int) + off = (tgt : Int)) (kt : ¬ x = y → px p l e R s m args below meth c nL E A H0 L f n k Q (tgt) (lv) (st)) (kf : x = y → px p l e R s m args below meth c nL E A H0 L f n k Q (pc + 3) (lv) (st)) : px p l e R s m args below meth c nL E A H0 L f n k Q (pc) (lv) (.int y :: .int x :: st) := fun H locs ls hH hl => lv_icmp_ne hC.1 hC.2.1 hdg ht (fun h => kt h H locs ls hH hl) (fun h => kf h H locs ls hH hl)
theorem px_if_lt (hC : px_C p s m args meth c cc own ws nL ret E A H0) {x : Int32} {off : Int} (tgt : Nat) (hdg : decode cc pc = .ok (.ifCond .lt off, 3)) (ht : (pc : Int) + off = (tgt : Int)) (kt : x < 0 → px p l e R s m args below meth c nL E A H0 L f n k Q (tgt) (lv) (st)) (kf : ¬ x < 0 → px p l e R s m args below meth c nL E A H0 L f n k Q (pc + 3) (lv) (st)) : px p l e R s m args below meth c nL E A H0 L f n k Q (pc) (lv) (.int x :: st) := fun H locs ls hH hl => lv_if_lt hC.1 hC.2.1 hdg ht (fun h => kt h H locs ls hH hl) (fun h => kf h H locs ls hH hl)
theorem px_icmp_lt (hC : px_C p s m args meth c cc own ws nL ret E A H0) {x y : Int32} {off : Int} (tgt : Nat) (hdg : decode cc pc = .ok (.if_icmp .lt off, 3)) (ht : (pc : Int) + off = (tgt : Int)) (kt : x < y → px p l e R s m args below meth c nL E A H0 L f n k Q (tgt) (lv) (st)) (kf : ¬ x < y → px p l e R s m args below meth c nL E A H0 L f n k Q (pc + 3) (lv) (st)) : px p l e R s m args below meth c nL E A H0 L f n k Q (pc) (lv) (.int y :: .int x :: st) := fun H locs ls hH hl => lv_icmp_lt hC.1 hC.2.1 hdg ht (fun h => kt h H locs ls hH hl) (fun h => kf h H locs ls hH hl)
theorem px_if_ge (hC : px_C p s m args meth c cc own ws nL ret E A H0) {x : Int32} {off : Int} (tgt : Nat) (hdg : decode cc pc = .ok (.ifCond .ge off, 3)) (ht : (pc : Int) + off = (tgt : Int)) (kt : 0 ≤ x → px p l e R s m args below meth c nL E A H0 L f n k Q (tgt) (lv) (st)) (kf : ¬ 0 ≤ x → px p l e R s m args below meth c nL E A H0 L f n k Q (pc + 3) (lv) (st)) : px p l e R s m args below meth c nL E A H0 L f n k Q (pc) (lv) (.int x :: st) := fun H locs ls hH hl => lv_if_ge hC.1 hC.2.1 hdg ht (fun h => kt h H locs ls hH hl) (fun h => kf h H locs ls hH hl)
theorem px_icmp_ge (hC : px_C p s m args meth c cc own ws nL ret E A H0) {x y : Int32} {off : Int} (tgt : Nat) (hdg : decode cc pc = .ok (.if_icmp .ge off, 3)) (ht : (pc : Int) + off = (tgt : Int)) (kt : y ≤ x → px p l e R s m args below meth c nL E A H0 L f n k Q (tgt) (lv) (st)) (kf : ¬ y ≤ x → px p l e R s m args below meth c nL E A H0 L f n k Q (pc + 3) (lv) (st)) : px p l e R s m args below meth c nL E A H0 L f n k Q (pc) (lv) (.int y :: .int x :: st) := fun H locs ls hH hl => lv_icmp_ge hC.1 hC.2.1 hdg ht (fun h => kt h H locs ls hH hl) (fun h => kf h H locs ls hH hl)
theorem px_if_gt (hC : px_C p s m args meth c cc own ws nL ret E A H0) {x : Int32} {off : Int} (tgt : Nat) (hdg : decode cc pc = .ok (.ifCond .gt off, 3)) (ht : (pc : Int) + off = (tgt : Int)) (kt : 0 < x → px p l e R s m args below meth c nL E A H0 L f n k Q (tgt) (lv) (st)) (kf : ¬ 0 < x → px p l e R s m args below meth c nL E A H0 L f n k Q (pc + 3) (lv) (st)) : px p l e R s m args below meth c nL E A H0 L f n k Q (pc) (lv) (.int x :: st) := fun H locs ls hH hl => lv_if_gt hC.1 hC.2.1 hdg ht (fun h => kt h H locs ls hH hl) (fun h => kf h H locs ls hH hl)
theorem px_icmp_gt (hC : px_C p s m args meth c cc own ws nL ret E A H0) {x y : Int32} {off : Int} (tgt : Nat) (hdg : decode cc pc = .ok (.if_icmp .gt off, 3)) (ht : (pc : Int) + off = (tgt : Int)) (kt : y < x → px p l e R s m args below meth c nL E A H0 L f n k Q (tgt) (lv) (st)) (kf : ¬ y < x → px p l e R s m args below meth c nL E A H0 L f n k Q (pc + 3) (lv) (st)) : px p l e R s m args below meth c nL E A H0 L f n k Q (pc) (lv) (.int y :: .int x :: st) := fun H locs ls hH hl => lv_icmp_gt hC.1 hC.2.1 hdg ht (fun h => kt h H locs ls hH hl) (fun h => kf h H locs ls hH hl)
theorem px_if_le (hC : px_C p s m args meth c cc own ws nL ret E A H0) {x : Int32} {off : Int} (tgt : Nat) (hdg : decode cc pc = .ok (.ifCond .le off, 3)) (ht : (pc : Int) + off = (tgt : Int)) (kt : x ≤ 0 → px p l e R s m args below meth c nL E A H0 L f n k Q (tgt) (lv) (st)) (kf : ¬ x ≤ 0 → px p l e R s m args below meth c nL E A H0 L f n k Q (pc + 3) (lv) (st)) : px p l e R s m args below meth c nL E A H0 L f n k Q (pc) (lv) (.int x :: st) := fun H locs ls hH hl => lv_if_le hC.1 hC.2.1 hdg ht (fun h => kt h H locs ls hH hl) (fun h => kf h H locs ls hH hl)
theorem px_icmp_le (hC : px_C p s m args meth c cc own ws nL ret E A H0) {x y : Int32} {off : Int} (tgt : Nat) (hdg : decode cc pc = .ok (.if_icmp .le off, 3)) (ht : (pc : Int) + off = (tgt : Int)) (kt : x ≤ y → px p l e R s m args below meth c nL E A H0 L f n k Q (tgt) (lv) (st)) (kf : ¬ x ≤ y → px p l e R s m args below meth c nL E A H0 L f n k Q (pc + 3) (lv) (st)) : px p l e R s m args below meth c nL E A H0 L f n k Q (pc) (lv) (.int y :: .int x :: st) := fun H locs ls hH hl => lv_icmp_le hC.1 hC.2.1 hdg ht (fun h => kt h H locs ls hH hl) (fun h => kf h H locs ls hH hl)
theorem px_goto (hC : px_C p s m args meth c cc own ws nL ret E A H0) {off : Int} (tgt : Nat) (hdg : decode cc pc = .ok (.goto off, 3)) (ht : (pc : Int) + off = (tgt : Int)) (kk : px p l e R s m args below meth c nL E A H0 L f n k Q (tgt) (lv) (st)) : px p l e R s m args below meth c nL E A H0 L f n k Q (pc) (lv) (st) := fun H locs ls hH hl => lv_goto hC.1 hC.2.1 hdg ht (kk H locs ls hH hl)
theorem px_ni {x : Int32} (kk : ∀ y : Int32, y = x → px p l e R s m args below meth c nL E A H0 L f n k Q (pc) (lv) (.int y :: st)) : px p l e R s m args below meth c nL E A H0 L f n k Q (pc) (lv) (.int x :: st) := kk x rfl
theorem px_nl {x : Int64} (kk : ∀ y : Int64, y = x → px p l e R s m args below meth c nL E A H0 L f n k Q (pc) (lv) (.long y :: st)) : px p l e R s m args below meth c nL E A H0 L f n k Q (pc) (lv) (.long x :: st) := kk x rfl
theorem px_ei {x y : Int32} (h : x = y) (kk : px p l e R s m args below meth c nL E A H0 L f n k Q (pc) (lv) (.int y :: st)) : px p l e R s m args below meth c nL E A H0 L f n k Q (pc) (lv) (.int x :: st) := h ▸ kk
theorem px_el {x y : Int64} (h : x = y) (kk : px p l e R s m args below meth c nL E A H0 L f n k Q (pc) (lv) (.long y :: st)) : px p l e R s m args below meth c nL E A H0 L f n k Q (pc) (lv) (.long x :: st) := h ▸ kk
theorem px_ea {x y : Value} (h : x = y) (kk : px p l e R s m args below meth c nL E A H0 L f n k Q (pc) (lv) (y :: st)) : px p l e R s m args below meth c nL E A H0 L f n k Q (pc) (lv) (x :: st) := h ▸ kk
theorem px_ef {g : Nat → va_E} (h : f = g) (kk : px p l e R s m args below meth c nL E A H0 L g n k Q (pc) (lv) (st)) : px p l e R s m args below meth c nL E A H0 L f n k Q (pc) (lv) (st) := h ▸ kk
theorem px_nf (kk : ∀ g : Nat → va_E, g = f → px p l e R s m args below meth c nL E A H0 L g n k Q (pc) (lv) (st)) : px p l e R s m args below meth c nL E A H0 L f n k Q (pc) (lv) (st) := kk f rfl
theorem px_ev {pc2 : Nat} {lv2 : List (Nat × Value)} {st2 : List Value} (h1 : pc = pc2) (h2 : lv = lv2) (h3 : st = st2) (kk : px p l e R s m args below meth c nL E A H0 L f n k Q (pc2) (lv2) (st2)) : px p l e R s m args below meth c nL E A H0 L f n k Q (pc) (lv) (st) := by subst h1; subst h2; subst h3; exact kk
theorem px_lv {lv2 : List (Nat × Value)} (ks : List Nat) (h : lv_pick lv ks = lv2) (kk : px p l e R s m args below meth c nL E A H0 L f n k Q (pc) (lv2) (st)) : px p l e R s m args below meth c nL E A H0 L f n k Q (pc) (lv) (st) := fun H locs ls hH hl => kk H locs ls hH (lv_sub hl ks h)
theorem px_wide {n2 k2 : Nat} (h1 : n ≤ n2) (h2 : k ≤ k2) (kk : px p l e R s m args below meth c nL E A H0 L f n2 k2 Q (pc) (lv) (st)) : px p l e R s m args below meth c nL E A H0 L f n k Q (pc) (lv) (st) := fun H locs ls hH hl => W.widen h1 h2 (kk H locs ls hH hl)
end PX
end
section
theorem px_asg (vm : Vm) (x : ClassId) : vm.assignable x x = true := by
  unfold Vm.assignable
  rw [show (256 : Nat) = 255 + 1 from rfl, Vm.assignableAux]
  simp only [beq_self_eq_true, Bool.true_or]
def px_at (L : List Nat) (f : Nat → va_E) (a : Nat) (e : va_E) : Prop := a ∈ L ∧ f a = e
theorem px_at.up {L : List Nat} {f : Nat → va_E} {a b : Nat} {x y : va_E} (h : px_at L f a x) (hn : a ≠ b) : px_at L (va_up f b y) a x := ⟨h.1, by rw [va_up_ne _ _ hn]; exact h.2⟩
theorem px_at.self {L : List Nat} {f : Nat → va_E} {a : Nat} {x y : va_E} (h : px_at L f a x) : px_at L (va_up f a y) a y := ⟨h.1, va_up_self _ _ _⟩
theorem px_at.ne {L : List Nat} {f : Nat → va_E} {a b : Nat} {x y : va_E} (h : px_at L f a x) (h2 : px_at L f b y) (hn : x ≠ y) : a ≠ b := fun q => hn (by rw [← h.2, ← h2.2, q])
/-- what a cell is, in short: an int row, a long row, a row of references, of nn places -/
abbrev aI (E : px_E) (nn : Nat) (r : Nat → Int32) : va_E := .inl (E.2 0, nn, .inl r)
abbrev aJ (E : px_E) (nn : Nat) (r : Nat → Int64) : va_E := .inl (E.2 1, nn, .inr (.inl r))
abbrev aG (E : px_E) (nn : Nat) (r : Nat → Option Nat) : va_E := .inl (E.2 2, nn, .inr (.inr (.inr (.inr r))))
abbrev aII (E : px_E) (nn : Nat) (r : Nat → Option Nat) : va_E := .inl (E.2 3, nn, .inr (.inr (.inr (.inr r))))
abbrev aJJ (E : px_E) (nn : Nat) (r : Nat → Option Nat) : va_E := .inl (E.2 4, nn, .inr (.inr (.inr (.inr r))))
def px_Q (E : px_E) (post : Option Value → List Nat → (Nat → va_E) → Prop) (A : Nat → Prop) : Array Value → State → Outcome → State → Prop := fun _ st oc t => (∃ (v : Option Value) (L' : List Nat) (f' : Nat → va_E), oc = .returned v ∧ post v L' f' ∧ va_P E.1 vwCl (va_pl L' f') t.heap ∧ px_K E t ∧ va_D A (va_pl L' f')) ∧ va_F A st t
def px_Pc (E : px_E) (L : List Nat) (f : Nat → va_E) (av : List Value) (sz : Nat) : Array Value → State → Prop := va_Pc av (fun U => U.heap.size = sz ∧ va_P E.1 vwCl (va_pl L f) U.heap ∧ px_K E U ∧ va_D (fun _ => True) (va_pl L f))
/-- a method's contract over the pool -/
def px_M (l : Launch) (y : MethodName) (ws : List Cond) (rm : Room) (E : px_E) (L : List Nat) (f : Nat → va_E) (av : List Value) (post : Option Value → List Nat → (Nat → va_E) → Prop) : Prop := ∀ sz : Nat, Met l y ws rm (px_Pc E L f av sz) (px_Q E post (va_A (va_pl L f) sz)) rm.cells rm.slots (va_A (va_pl L f) sz)
/-- the ends of methods that make nothing -/
def px_v (L : List Nat) (P : (Nat → va_E) → Prop) : Option Value → List Nat → (Nat → va_E) → Prop := fun v L' f' => v = none ∧ L' = L ∧ P f'
def px_i (L : List Nat) (P : Int32 → (Nat → va_E) → Prop) : Option Value → List Nat → (Nat → va_E) → Prop := fun v L' f' => ∃ x : Int32, v = some (.int x) ∧ L' = L ∧ P x f'
def px_l (L : List Nat) (P : Int64 → (Nat → va_E) → Prop) : Option Value → List Nat → (Nat → va_E) → Prop := fun v L' f' => ∃ x : Int64, v = some (.long x) ∧ L' = L ∧ P x f'
def px_r (L : List Nat) (P : Nat → (Nat → va_E) → Prop) : Option Value → List Nat → (Nat → va_E) → Prop := fun v L' f' => ∃ x : Nat, v = some (.ref x) ∧ L' = L ∧ P x f'
abbrev px_rm (fr lo : Nat) : Room := { frames := fr, cells := 0, slots := 0, locals := lo }
theorem px_M.of {l : Launch} {y : MethodName} {ws ws' : List Cond} {rm : Room} {E : px_E} {L : List Nat} {f : Nat → va_E} {av : List Value} {post : Option Value → List Nat → (Nat → va_E) → Prop} {cc : ByteArray} {maxL : Nat} {ret : Option FieldType} {lv : List (Nat × Value)} (hy : plainName y.cls = true) (hw : ws = Cond.code y cc maxL ret :: ws') (hn : (lg_sl av).length ≤ maxL) (hlv : lv_args 0 av = lv)
    (body : ∀ (p : Program) (e : Env) (s : State) (m : MethodId) (below : List Frame) (meth : Method) (c : Code) (A : Nat → Prop), px_C p s m av.toArray meth c cc y.cls ws maxL ret E A s.heap → meth.name = y.name → px p l e rm s m av.toArray below meth c maxL E A s.heap L f 0 0 (MQ below (px_Q E post A) av.toArray s rm.cells rm.slots A) 0 lv []) : px_M l y ws rm E L f av post := by
  intro sz
  refine Met.ofW (cc := cc) (maxL := maxL) (ret := ret) hy hw ?_
  intro p e s m args below meth c s₁ B hml hv
  obtain ⟨rfl, hsz, hP, hK, hD0⟩ := hv
  subst hsz
  have hts := atoms_spec (ws := ws) B.pre
  have hown : s.vm.findClass y.cls = some m.cls := findClass_of_methodNamed B.named
  have hnm : meth.name = y.name := (name_of_methodNamed B.named B.method).1
  rw [lg_entry_eq]
  exact body p e s m below meth c _ ⟨B.exec, B.bytes, hml, hown, hts, B.returns, B.notSynchronized, hK, fun q h => Or.inr h⟩ hnm s.heap [] _ ⟨hP, hD0.self, va_S.rf⟩ (hlv ▸ lv_entry av hn)
section PXM
variable {p : Program} {l : Launch} {e : Env} {R : Room} {s : State} {m : MethodId} {args : Array Value} {below : List Frame} {meth : Method} {c : Code} {cc : ByteArray} {own : String} {ws : List Cond} {nL : Nat} {ret : Option FieldType} {E : px_E} {A : Nat → Prop} {H0 : Heap} {L : List Nat} {f : Nat → va_E} {n k : Nat} {Q : State → Prop} {pc : Nat} {lv : List (Nat × Value)} {st : List Value}
theorem px_iret {post : Option Value → List Nat → (Nat → va_E) → Prop} (hC : px_C p s m args meth c cc own ws nL ret E A s.heap) {v : Int32} (hr : ret = some .int) (hp : post (some (.int v)) L f) (hdg : decode cc pc = .ok (.ireturn, 1)) : px p l e R s m args below meth c nL E A s.heap L (f) (n) (k) (MQ below (px_Q E post A) args s n k A) (pc) (lv) ([.int v]) := fun H locs ls hH hl => W.iret hC.1 hC.2.1 (hC.2.2.2.2.2.1.trans hr) (fun t ht hW => ⟨⟨_, L, f, rfl, hp, by rw [ht]; exact hH.1, px_K.warm hW hC.2.2.2.2.2.2.2.1, hH.2.1⟩, hH.2.2.F ht⟩) hH.2.2.2.2 hdg hC.2.2.2.2.2.2.1
theorem px_zret {post : Option Value → List Nat → (Nat → va_E) → Prop} (hC : px_C p s m args meth c cc own ws nL ret E A s.heap) {v : Int32} (hr : ret = some .boolean) (hn : narrow .boolean (.int v) = .int v) (hp : post (some (.int v)) L f) (hdg : decode cc pc = .ok (.ireturn, 1)) : px p l e R s m args below meth c nL E A s.heap L (f) (n) (k) (MQ below (px_Q E post A) args s n k A) (pc) (lv) ([.int v]) := fun H locs ls hH hl => W.zret hC.1 hC.2.1 (hC.2.2.2.2.2.1.trans hr) hn (fun t ht hW => ⟨⟨_, L, f, rfl, hp, by rw [ht]; exact hH.1, px_K.warm hW hC.2.2.2.2.2.2.2.1, hH.2.1⟩, hH.2.2.F ht⟩) hH.2.2.2.2 hdg hC.2.2.2.2.2.2.1
theorem px_lret {post : Option Value → List Nat → (Nat → va_E) → Prop} (hC : px_C p s m args meth c cc own ws nL ret E A s.heap) {v : Int64} (hr : ret = some .long) (hp : post (some (.long v)) L f) (hdg : decode cc pc = .ok (.lreturn, 1)) : px p l e R s m args below meth c nL E A s.heap L (f) (n) (k) (MQ below (px_Q E post A) args s n k A) (pc) (lv) ([.long v]) := fun H locs ls hH hl => W.lret hC.1 hC.2.1 (hC.2.2.2.2.2.1.trans hr) (fun t ht hW => ⟨⟨_, L, f, rfl, hp, by rw [ht]; exact hH.1, px_K.warm hW hC.2.2.2.2.2.2.2.1, hH.2.1⟩, hH.2.2.F ht⟩) hH.2.2.2.2 hdg hC.2.2.2.2.2.2.1
theorem px_vret {post : Option Value → List Nat → (Nat → va_E) → Prop} (hC : px_C p s m args meth c cc own ws nL ret E A s.heap) (hr : ret = none) (hp : post none L f) (hdg : decode cc pc = .ok (.return_, 1)) : px p l e R s m args below meth c nL E A s.heap L (f) (n) (k) (MQ below (px_Q E post A) args s n k A) (pc) (lv) ([]) := fun H locs ls hH hl => W.vret hC.1 hC.2.1 (hC.2.2.2.2.2.1.trans hr) (fun t ht hW => ⟨⟨_, L, f, rfl, hp, by rw [ht]; exact hH.1, px_K.warm hW hC.2.2.2.2.2.2.2.1, hH.2.1⟩, hH.2.2.F ht⟩) hH.2.2.2.2 hdg hC.2.2.2.2.2.2.1
theorem px_aret {post : Option Value → List Nat → (Nat → va_E) → Prop} (hC : px_C p s m args meth c cc own ws nL ret E A s.heap) {v : Nat} {rt : FieldType} (hr : ret = some rt) (hrt : (∃ n, rt = .object n) ∨ ∃ t, rt = .array t) (hp : post (some (.ref v)) L f) (hdg : decode cc pc = .ok (.areturn, 1)) : px p l e R s m args below meth c nL E A s.heap L (f) (n) (k) (MQ below (px_Q E post A) args s n k A) (pc) (lv) ([.ref v]) := fun H locs ls hH hl => W.aret hC.1 hC.2.1 (hC.2.2.2.2.2.1.trans hr) hrt (Or.inr ⟨v, rfl⟩) (fun t ht hW => ⟨⟨_, L, f, rfl, hp, by rw [ht]; exact hH.1, px_K.warm hW hC.2.2.2.2.2.2.2.1, hH.2.1⟩, hH.2.2.F ht⟩) hH.2.2.2.2 hdg hC.2.2.2.2.2.2.1
theorem px_get (hC : px_C p s m args meth c cc own ws nL ret E A H0) {a ci : Nat} {fs : List Value} {C : String} {T : u_T} {N index : Nat} {v : Value} (hf : px_at L f a (.inr (ci, fs))) (hc : vwCl[ci]? = some (C, T, N)) (hin : ∀ w ∈ u_ws C T N, w ∈ ws) (i : Nat) (hi : i < N) (hw : Cond.fieldLink own index (T i).1 (T i).2.1 (T i).2.2.1 ∈ ws) (hv : fs[i]? = some v) (hdg : decode cc pc = .ok (.getfield index, 3)) (kk : px p l e R s m args below meth c nL E A H0 L (f) (n) (k) (Q) (pc + 3) (lv) (v :: st)) : px p l e R s m args below meth c nL E A H0 L (f) (n) (k) (Q) (pc) (lv) (.ref a :: st) := by
  intro H locs ls hH hl
  obtain ⟨hP, hD, hS⟩ := id hH
  obtain ⟨j, hj⟩ := px_pl (f := f) hf.1
  have hj0 := hj
  rw [hf.2] at hj0
  exact va_get hC.1 hC.2.1 hC.2.2.2.2.1 hin hC.2.2.2.1 hC.2.2.2.2.2.2.2.1.1 hP j hj0 hc i hi (hC.2.2.2.2.1 _ hw) (fun _ h => h) hv hdg (kk H locs ls hH hl)
theorem px_getN (hC : px_C p s m args meth c cc own ws nL ret E A H0) {a ci : Nat} {fs : List Value} {C : String} {T : u_T} {N index : Nat} {v : Value} (hf : px_at L f a (.inr (ci, fs))) (hc : vwCl[ci]? = some (C, T, N)) (hin : ∀ w ∈ u_ws C T N, w ∈ ws) (i : Nat) (hi : i < N) {host : String} (hw : (Cond.fieldLinkNest own index (T i).1 (T i).2.1 (T i).2.2.1 host).before args s = true) (hv : fs[i]? = some v) (hdg : decode cc pc = .ok (.getfield index, 3)) (kk : px p l e R s m args below meth c nL E A H0 L (f) (n) (k) (Q) (pc + 3) (lv) (v :: st)) : px p l e R s m args below meth c nL E A H0 L (f) (n) (k) (Q) (pc) (lv) (.ref a :: st) := by
  intro H locs ls hH hl
  obtain ⟨hP, hD, hS⟩ := id hH
  obtain ⟨j, hj⟩ := px_pl (f := f) hf.1
  have hj0 := hj
  rw [hf.2] at hj0
  exact va_getN hC.1 hC.2.1 hC.2.2.2.2.1 hin hC.2.2.2.1 hC.2.2.2.2.2.2.2.1.1 hP j hj0 hc i hi hw (fun _ h => h) hv hdg (kk H locs ls hH hl)
theorem px_put (hC : px_C p s m args meth c cc own ws nL ret E A H0) {a ci : Nat} {fs : List Value} {C : String} {T : u_T} {N index : Nat} {v : Value} (hf : px_at L f a (.inr (ci, fs))) (hc : vwCl[ci]? = some (C, T, N)) (hin : ∀ w ∈ u_ws C T N, w ∈ ws) (i : Nat) (hi : i < N) (ty0 : Nat → FieldType) (hty : ∀ k, k < N → parseFieldDescriptor (T k).2.2.1 = some (ty0 k)) (hnm : ∀ a, a < N → ∀ b, b < N → a ≠ b → (T a).2.1 ≠ (T b).2.1) (hw : Cond.fieldLink own index (T i).1 (T i).2.1 (T i).2.2.1 ∈ ws) (hfin : (T i).2.2.2 = false) (hn : narrow (ty0 i) v = v) (hfit : fits (ty0 i) v = true) (hl0 : i < fs.length) {fs' : List Value} (hfs : fs.set i v = fs') (hdg : decode cc pc = .ok (.putfield index, 3)) (kk : px p l e R s m args below meth c nL E A H0 L (va_up f a (.inr (ci, fs'))) (n) (k) (Q) (pc + 3) (lv) (st)) : px p l e R s m args below meth c nL E A H0 L (f) (n) (k) (Q) (pc) (lv) (v :: .ref a :: st) := by
  intro H locs ls hH hl
  obtain ⟨hP, hD, hS⟩ := id hH
  obtain ⟨j, hj⟩ := px_pl (f := f) hf.1
  have hj0 := hj
  rw [hf.2] at hj0
  subst hfs
  exact va_put hC.1 hC.2.1 hC.2.2.2.2.1 hin ty0 hty hnm hC.2.2.2.1 hC.2.2.2.2.2.2.2.1.1 hP hD hS j hj0 hc i hi (hC.2.2.2.2.1 _ hw) (fun _ h => h) hfin (hty i hi) hn hfit hl0 hdg (fun H1 locs1 q1 q2 q3 => kk H1 locs1 ls ⟨by rw [px_plset hD hf.1 hj] at q1; exact q1, by rw [px_plset hD hf.1 hj] at q2; exact q2, q3⟩ hl)
theorem px_putF (hC : px_C p s m args meth c cc own ws nL ret E A H0) {a ci : Nat} {fs : List Value} {C : String} {T : u_T} {N index : Nat} {v : Value} (hf : px_at L f a (.inr (ci, fs))) (hc : vwCl[ci]? = some (C, T, N)) (hin : ∀ w ∈ u_ws C T N, w ∈ ws) (i : Nat) (hi : i < N) (ty0 : Nat → FieldType) (hty : ∀ k, k < N → parseFieldDescriptor (T k).2.2.1 = some (ty0 k)) (hnm : ∀ a, a < N → ∀ b, b < N → a ≠ b → (T a).2.1 ≠ (T b).2.1) (hw : Cond.fieldLink own index (T i).1 (T i).2.1 (T i).2.2.1 ∈ ws) (hfin : (T i).2.2.2 = true) (hin2 : meth.name = "<init>") (hdecl : (T i).1 = own) (hn : narrow (ty0 i) v = v) (hfit : fits (ty0 i) v = true) (hl0 : i < fs.length) {fs' : List Value} (hfs : fs.set i v = fs') (hdg : decode cc pc = .ok (.putfield index, 3)) (kk : px p l e R s m args below meth c nL E A H0 L (va_up f a (.inr (ci, fs'))) (n) (k) (Q) (pc + 3) (lv) (st)) : px p l e R s m args below meth c nL E A H0 L (f) (n) (k) (Q) (pc) (lv) (v :: .ref a :: st) := by
  intro H locs ls hH hl
  obtain ⟨hP, hD, hS⟩ := id hH
  obtain ⟨j, hj⟩ := px_pl (f := f) hf.1
  have hj0 := hj
  rw [hf.2] at hj0
  subst hfs
  exact va_putF hC.1 hC.2.1 hC.2.2.2.2.1 hin ty0 hty hnm hC.2.2.2.1 hC.2.2.2.2.2.2.2.1.1 hP hD hS j hj0 hc i hi (hC.2.2.2.2.1 _ hw) (fun _ h => h) hfin hin2 hdecl (hty i hi) hn hfit hl0 hdg (fun H1 locs1 q1 q2 q3 => kk H1 locs1 ls ⟨by rw [px_plset hD hf.1 hj] at q1; exact q1, by rw [px_plset hD hf.1 hj] at q2; exact q2, q3⟩ hl)
theorem px_putN (hC : px_C p s m args meth c cc own ws nL ret E A H0) {a ci : Nat} {fs : List Value} {C : String} {T : u_T} {N index : Nat} {v : Value} (hf : px_at L f a (.inr (ci, fs))) (hc : vwCl[ci]? = some (C, T, N)) (hin : ∀ w ∈ u_ws C T N, w ∈ ws) (i : Nat) (hi : i < N) (ty0 : Nat → FieldType) (hty : ∀ k, k < N → parseFieldDescriptor (T k).2.2.1 = some (ty0 k)) (hnm : ∀ a, a < N → ∀ b, b < N → a ≠ b → (T a).2.1 ≠ (T b).2.1) {host : String} (hw : (Cond.fieldLinkNest own index (T i).1 (T i).2.1 (T i).2.2.1 host).before args s = true) (hfin : (T i).2.2.2 = false) (hn : narrow (ty0 i) v = v) (hfit : fits (ty0 i) v = true) (hl0 : i < fs.length) {fs' : List Value} (hfs : fs.set i v = fs') (hdg : decode cc pc = .ok (.putfield index, 3)) (kk : px p l e R s m args below meth c nL E A H0 L (va_up f a (.inr (ci, fs'))) (n) (k) (Q) (pc + 3) (lv) (st)) : px p l e R s m args below meth c nL E A H0 L (f) (n) (k) (Q) (pc) (lv) (v :: .ref a :: st) := by
  intro H locs ls hH hl
  obtain ⟨hP, hD, hS⟩ := id hH
  obtain ⟨j, hj⟩ := px_pl (f := f) hf.1
  have hj0 := hj
  rw [hf.2] at hj0
  subst hfs
  exact va_putN hC.1 hC.2.1 hC.2.2.2.2.1 hin ty0 hty hnm hC.2.2.2.1 hC.2.2.2.2.2.2.2.1.1 hP hD hS j hj0 hc i hi hw (fun _ h => h) hfin (hty i hi) hn hfit hl0 hdg (fun H1 locs1 q1 q2 q3 => kk H1 locs1 ls ⟨by rw [px_plset hD hf.1 hj] at q1; exact q1, by rw [px_plset hD hf.1 hj] at q2; exact q2, q3⟩ hl)
theorem px_iald (hC : px_C p s m args meth c cc own ws nL ret E A H0) {a nn i : Nat} {r : Nat → Int32} (hf : px_at L f a (aI E nn r)) (hi : i < nn) (h31 : nn < 2 ^ 31) (hdg : decode cc pc = .ok (.iaload, 1)) (kk : px p l e R s m args below meth c nL E A H0 L (f) (n) (k) (Q) (pc + 1) (lv) (.int (r i) :: st)) : px p l e R s m args below meth c nL E A H0 L (f) (n) (k) (Q) (pc) (lv) (.int (nI i) :: .ref a :: st) := by
  intro H locs ls hH hl
  obtain ⟨hP, hD, hS⟩ := id hH
  obtain ⟨j, hj⟩ := px_pl (f := f) hf.1
  have hj0 := hj
  rw [hf.2] at hj0
  refine va_iald hC.1 hC.2.1 hC.2.2.2.2.2.2.2.1.1 hP j 0 hj0 rfl (vp_in_nI hi h31) hdg ?_
  rw [nI_clamp (by omega)]
  exact kk H locs ls hH hl
theorem px_iast (hC : px_C p s m args meth c cc own ws nL ret E A H0) {a nn i : Nat} {x : Int32} {r : Nat → Int32} (hf : px_at L f a (aI E nn r)) (hi : i < nn) (h31 : nn < 2 ^ 31) (hdg : decode cc pc = .ok (.iastore, 1)) (kk : px p l e R s m args below meth c nL E A H0 L (va_up f a (aI E nn (upd r i x))) (n) (k) (Q) (pc + 1) (lv) (st)) : px p l e R s m args below meth c nL E A H0 L (f) (n) (k) (Q) (pc) (lv) (.int x :: .int (nI i) :: .ref a :: st) := by
  intro H locs ls hH hl
  obtain ⟨hP, hD, hS⟩ := id hH
  obtain ⟨j, hj⟩ := px_pl (f := f) hf.1
  have hj0 := hj
  rw [hf.2] at hj0
  refine va_iast hC.1 hC.2.1 hC.2.2.2.2.2.2.2.1.1 hP hD hS j 0 hj0 rfl (vp_in_nI hi h31) hdg (fun H1 locs1 q1 q2 q3 => ?_)
  rw [nI_clamp (by omega), px_plset hD hf.1 hj] at q1 q2
  exact kk H1 locs1 ls ⟨q1, q2, q3⟩ hl
theorem px_lald (hC : px_C p s m args meth c cc own ws nL ret E A H0) {a nn i : Nat} {r : Nat → Int64} (hf : px_at L f a (aJ E nn r)) (hi : i < nn) (h31 : nn < 2 ^ 31) (hdg : decode cc pc = .ok (.laload, 1)) (kk : px p l e R s m args below meth c nL E A H0 L (f) (n) (k) (Q) (pc + 1) (lv) (.long (r i) :: st)) : px p l e R s m args below meth c nL E A H0 L (f) (n) (k) (Q) (pc) (lv) (.int (nI i) :: .ref a :: st) := by
  intro H locs ls hH hl
  obtain ⟨hP, hD, hS⟩ := id hH
  obtain ⟨j, hj⟩ := px_pl (f := f) hf.1
  have hj0 := hj
  rw [hf.2] at hj0
  refine va_lald hC.1 hC.2.1 hC.2.2.2.2.2.2.2.1.1 hP j 1 hj0 rfl (vp_in_nI hi h31) hdg ?_
  rw [nI_clamp (by omega)]
  exact kk H locs ls hH hl
theorem px_last (hC : px_C p s m args meth c cc own ws nL ret E A H0) {a nn i : Nat} {x : Int64} {r : Nat → Int64} (hf : px_at L f a (aJ E nn r)) (hi : i < nn) (h31 : nn < 2 ^ 31) (hdg : decode cc pc = .ok (.lastore, 1)) (kk : px p l e R s m args below meth c nL E A H0 L (va_up f a (aJ E nn (vp_updL r i x))) (n) (k) (Q) (pc + 1) (lv) (st)) : px p l e R s m args below meth c nL E A H0 L (f) (n) (k) (Q) (pc) (lv) (.long x :: .int (nI i) :: .ref a :: st) := by
  intro H locs ls hH hl
  obtain ⟨hP, hD, hS⟩ := id hH
  obtain ⟨j, hj⟩ := px_pl (f := f) hf.1
  have hj0 := hj
  rw [hf.2] at hj0
  refine va_last hC.1 hC.2.1 hC.2.2.2.2.2.2.2.1.1 hP hD hS j 1 hj0 rfl (vp_in_nI hi h31) hdg (fun H1 locs1 q1 q2 q3 => ?_)
  rw [nI_clamp (by omega), px_plset hD hf.1 hj] at q1 q2
  exact kk H1 locs1 ls ⟨q1, q2, q3⟩ hl
theorem px_alen (hC : px_C p s m args meth c cc own ws nL ret E A H0) {a t0 : Nat} {cA : ClassId} {x : vp_A} {ty : FieldType} (hf : px_at L f a (.inl (cA, x))) (ht : (px_tys E)[t0]? = some (cA, ty)) (hdg : decode cc pc = .ok (.arraylength, 1)) (kk : px p l e R s m args below meth c nL E A H0 L (f) (n) (k) (Q) (pc + 1) (lv) (.int (nI x.1) :: st)) : px p l e R s m args below meth c nL E A H0 L (f) (n) (k) (Q) (pc) (lv) (.ref a :: st) := by
  intro H locs ls hH hl
  obtain ⟨hP, hD, hS⟩ := id hH
  obtain ⟨j, hj⟩ := px_pl (f := f) hf.1
  have hj0 := hj
  rw [hf.2] at hj0
  exact va_alen hC.1 hC.2.1 hC.2.2.2.2.2.2.2.1.1 hP j t0 hj0 ht rfl hdg (kk H locs ls hH hl)
theorem px_aald (hC : px_C p s m args meth c cc own ws nL ret E A H0) {a nn i b t0 : Nat} {cA : ClassId} {ty : FieldType} {r : Nat → Option Nat} (hf : px_at L f a (.inl (cA, nn, .inr (.inr (.inr (.inr r)))))) (ht : (px_tys E)[t0]? = some (cA, ty)) (href : ty.isReference = true) (hi : i < nn) (h31 : nn < 2 ^ 31) (hr : r i = some b) (hdg : decode cc pc = .ok (.aaload, 1)) (kk : px p l e R s m args below meth c nL E A H0 L (f) (n) (k) (Q) (pc + 1) (lv) (.ref b :: st)) : px p l e R s m args below meth c nL E A H0 L (f) (n) (k) (Q) (pc) (lv) (.int (nI i) :: .ref a :: st) := by
  intro H locs ls hH hl
  obtain ⟨hP, hD, hS⟩ := id hH
  obtain ⟨j, hj⟩ := px_pl (f := f) hf.1
  have hj0 := hj
  rw [hf.2] at hj0
  have hcl : (nI i).toNatClampNeg = i := nI_clamp (by omega)
  refine W.aald (v := .ref b) (ty := ty) hC.1 hC.2.1 (hP j _ hj0) ((hC.2.2.2.2.2.2.2.1.1.2 t0 _ ht).1 nn (fun j => va_rf (r j))) href (fun q => by cases q) (by show ¬ (nI i < 0 ∨ (arrV _ _ _).slots.size ≤ _); rw [arrV_size]; exact vp_in_nI hi h31) (by show (arrV _ _ _).slots[_]? = _; rw [arrV_read _ _ (by rw [hcl]; exact hi), hcl, hr]; rfl) rfl rfl hdg (kk H locs ls hH hl)
theorem px_aastG (hC : px_C p s m args meth c cc own ws nL ret E A H0) {a nn i b : Nat} {fs : List Value} {r : Nat → Option Nat} (hf : px_at L f a (aG E nn r)) (hb : px_at L f b (.inr (3, fs))) (hi : i < nn) (h31 : nn < 2 ^ 31) (hdg : decode cc pc = .ok (.aastore, 1)) (kk : px p l e R s m args below meth c nL E A H0 L (va_up f a (aG E nn (va_up r i (some b)))) (n) (k) (Q) (pc + 1) (lv) (st)) : px p l e R s m args below meth c nL E A H0 L (f) (n) (k) (Q) (pc) (lv) (.ref b :: .int (nI i) :: .ref a :: st) := by
  intro H locs ls hH hl
  obtain ⟨hP, hD, hS⟩ := id hH
  obtain ⟨j, hj⟩ := px_pl (f := f) hf.1
  have hj0 := hj
  rw [hf.2] at hj0
  obtain ⟨j2, hj2⟩ := px_pl (f := f) hb.1
  rw [hb.2] at hj2
  refine va_astq (r := (RX4, TX4, 4)) hC.1 hC.2.1 hC.2.2.2.2.2.2.2.1.1 hP hD hS j 2 j2 3 hj0 rfl hj2 rfl (vp_in_nI hi h31) hdg (fun H1 locs1 q1 q2 q3 => ?_)
  rw [nI_clamp (by omega), px_plset hD hf.1 hj] at q1 q2
  exact kk H1 locs1 ls ⟨q1, q2, q3⟩ hl
theorem px_aastJ (hC : px_C p s m args meth c cc own ws nL ret E A H0) {a nn i b mm : Nat} {r : Nat → Option Nat} {z : Nat → Int64} (hf : px_at L f a (aJJ E nn r)) (hb : px_at L f b (aJ E mm z)) (hi : i < nn) (h31 : nn < 2 ^ 31) (hdg : decode cc pc = .ok (.aastore, 1)) (kk : px p l e R s m args below meth c nL E A H0 L (va_up f a (aJJ E nn (va_up r i (some b)))) (n) (k) (Q) (pc + 1) (lv) (st)) : px p l e R s m args below meth c nL E A H0 L (f) (n) (k) (Q) (pc) (lv) (.ref b :: .int (nI i) :: .ref a :: st) := by
  intro H locs ls hH hl
  obtain ⟨hP, hD, hS⟩ := id hH
  obtain ⟨j, hj⟩ := px_pl (f := f) hf.1
  have hj0 := hj
  rw [hf.2] at hj0
  obtain ⟨j2, hj2⟩ := px_pl (f := f) hb.1
  rw [hb.2] at hj2
  have hcl : (nI i).toNatClampNeg = i := nI_clamp (by omega)
  obtain ⟨kA, k1, k2⟩ := hC.2.2.2.2.2.2.2.1.2.1
  obtain ⟨-, kC, hkC, -⟩ := (hC.2.2.2.2.2.2.2.1.1.2 1 _ rfl).1 0 (fun _ => .null)
  refine W.aast (comp := E.2 1) hC.1 hC.2.1 (hP j _ hj0) (fun q h => by cases h) (fun h => by cases h) k1 k2 rfl hkC ⟨fun q => vp_in_nI hi h31 (Or.inl q), by show _ < (arrV _ _ _).slots.size; rw [arrV_size, hcl]; exact hi⟩ (hP j2 _ hj2) (fun q h => by cases h) hkC (px_asg _ (E.2 1)) rfl rfl hdg fun H1 e1 z1 oq => ?_
  have e2 : va_at E.1 vwCl (a, aJJ E nn (va_up r i (some b))) H1 := by
    show H1[a]? = some (arrV (E.2 4) nn (fun j => va_rf (va_up r i (some b) j)))
    rw [hcl] at e1
    have e3 : H1[a]? = some ((arrV (E.2 4) nn (fun j => va_rf (r j))).setSlot i (.ref b)) := e1
    rw [e3, arrV_store]
    congr 2
    funext q
    by_cases hq : q = i
    · subst hq
      simp [updV, va_up, va_rf]
    · simp [updV, va_up, hq]
  have q1 := hP.set hD hj0 e2 oq
  have q2 := hD.set (e := aJJ E nn (va_up r i (some b))) hj0
  rw [px_plset hD hf.1 hj] at q1 q2
  exact kk H1 _ ls ⟨q1, q2, hS.put z1 oq (hD.2 j _ hj0)⟩ hl

theorem px_ran (hC : px_C p s m args meth c cc own ws nL ret E A H0) {rm : Room} {post : Option Value → List Nat → (Nat → va_E) → Prop} {st0 : List Value} {aa : Array Value} (kk : ∀ (v : Option Value) (L' : List Nat) (f' : Nat → va_E), post v L' f' → px p l e R s m args below meth c nL E A H0 L' (f') (n + rm.cells) (k + rm.slots) (Q) (pc + 3) (lv) (v.toList ++ st)) (hrun : ∀ (H : Heap) (locs : List Loc) (ls : Array Slot), px_H E A H0 L f H locs → lv_has ls nL lv → va_Run p l e R s m args below meth c H locs n k rm.cells rm.slots (F0 m pc ls st0) st (px_Q E post (va_A (va_pl L f) H.size) aa) (va_A (va_pl L f) H.size)) : px p l e R s m args below meth c nL E A H0 L (f) (n) (k) (Q) (pc) (lv) (st0) := by
  intro H locs ls hH hl
  obtain ⟨hP, hD, hS⟩ := id hH
  have hF : ∀ q, va_A (va_pl L f) H.size q → A q := by
    intro q h
    rcases h with ⟨j, e, h⟩ | h
    · exact hD.2 j _ h
    · exact hC.2.2.2.2.2.2.2.2 q (Nat.le_trans hS.1 h)
  intro T hT X
  obtain ⟨v, st₀, t, T', L0, h0, X', hL, e1, e2, ⟨⟨v', L', f', hv, hp, hP1, hK1, hD1⟩, hz, hk⟩, stp⟩ := hrun H locs ls hH hl T hT X
  cases hv
  rw [h0] at hz hk
  obtain ⟨t2, a1, b1⟩ := kk v L' f' hp T'.heap (locs ++ L0) ls ⟨by rw [e1]; exact hP1, hD1.weaken (fun _ _ _ h => hF _ h), Nat.le_trans hS.1 (by rw [e1]; exact hz), fun q h1 h2 => by rw [e1, hk q (Nat.lt_of_lt_of_le h1 hS.1) (fun z => h2 (hF q z))]; exact hS.2.1 q h1 h2, fun q hq => by
      rcases List.mem_append.mp hq with h | h
      · exact hS.2.2 q h
      · exact hF _ (hL q h)⟩ hl T' rfl X'
  exact ⟨t2, stp t2 a1, b1⟩
theorem px_callS (hC : px_C p s m args meth c cc own ws nL ret E A H0) {y : MethodName} {wsy ws' : List Cond} {rm : Room} {bytes : ByteArray} {maxL index nn : Nat} {rt : Option FieldType} {av : List Value} {post : Option Value → List Nat → (Nat → va_E) → Prop} {st0 : List Value} (hM : px_M l y wsy rm E L f av post) (hg : GoodIn ws (va_wsS own index y wsy)) (hw : wsy = Cond.code y bytes maxL rt :: ws') (hd : y.cls ≠ "java/lang/invoke/MethodHandle" ∧ y.cls ≠ "java/lang/invoke/VarHandle" ∧ (parseMethodDescriptor y.desc).map (fun d => d.parameters.length) = some nn) (hR : rm.frames + 1 ≤ R.frames ∧ 8 + (maxL + 11) + rm.locals ≤ R.locals) (hst : (st.map fun v => v.category).sum ≤ 8) (hcs : n + rm.cells ≤ R.cells ∧ k + rm.slots ≤ R.slots) (hn : av.length = nn) (hst0 : st0 = av.reverse ++ st) (hdg : decode cc pc = .ok (.invokestatic index, 3)) (kk : ∀ (v : Option Value) (L' : List Nat) (f' : Nat → va_E), post v L' f' → px p l e R s m args below meth c nL E A H0 L' (f') (n + rm.cells) (k + rm.slots) (Q) (pc + 3) (lv) (v.toList ++ st)) : px p l e R s m args below meth c nL E A H0 L (f) (n) (k) (Q) (pc) (lv) (st0) := px_ran hC kk (fun H locs ls hH hl => va_runS (As := av) (rest := st) ⟨hC.1, hC.2.1, hC.2.2.1, hC.2.2.2.1, hC.2.2.2.2.1⟩ (hM H.size) (va_cwS nn hC.2.2.2.2.1 hg hw rfl rfl hd hR) ⟨fun a U g mk q => by obtain ⟨q0, q1, qP, qK, qD⟩ := q; exact ⟨q0, q1, qP, px_K.same (u := U) (U := U.calling g mk a) rfl qK, qD⟩, fun U hU hW => ⟨rfl, by rw [hU], by rw [hU]; exact hH.1, px_K.warm hW hC.2.2.2.2.2.2.2.1, hH.2.1.weaken (fun _ _ _ _ => trivial)⟩⟩ rfl hn hl.1 hst0 (lv_room hst) hdg hcs)
theorem px_callV (hC : px_C p s m args meth c cc own ws nL ret E A H0) {y : MethodName} {wsy ws' : List Cond} {rm : Room} {bytes : ByteArray} {maxL index nn : Nat} {rt : Option FieldType} {av : List Value} {post : Option Value → List Nat → (Nat → va_E) → Prop} {st0 : List Value} {b ci : Nat} {fs : List Value} {C : String} {T : u_T} {N : Nat} (hM : px_M l y wsy rm E L f (.ref b :: av) post) (hf : px_at L f b (.inr (ci, fs))) (hc : vwCl[ci]? = some (C, T, N)) (hg : GoodIn ws (wsV own index C y wsy)) (hw : wsy = Cond.code y bytes maxL rt :: ws') (hd : y.cls = C ∧ y.cls ≠ "java/lang/invoke/MethodHandle" ∧ y.cls ≠ "java/lang/invoke/VarHandle" ∧ (parseMethodDescriptor y.desc).map (fun d => d.parameters.length) = some nn) (hR : rm.frames + 1 ≤ R.frames ∧ 8 + (maxL + 11) + rm.locals ≤ R.locals) (hst : (st.map fun v => v.category).sum ≤ 8) (hcs : n + rm.cells ≤ R.cells ∧ k + rm.slots ≤ R.slots) (hn : av.length = nn) (hst0 : st0 = av.reverse ++ .ref b :: st) (hdg : decode cc pc = .ok (.invokevirtual index, 3)) (kk : ∀ (v : Option Value) (L' : List Nat) (f' : Nat → va_E), post v L' f' → px p l e R s m args below meth c nL E A H0 L' (f') (n + rm.cells) (k + rm.slots) (Q) (pc + 3) (lv) (v.toList ++ st)) : px p l e R s m args below meth c nL E A H0 L (f) (n) (k) (Q) (pc) (lv) (st0) := px_ran hC kk (fun H locs ls hH hl => va_runV (As := av) (rest := st) ⟨hC.1, hC.2.1, hC.2.2.1, hC.2.2.2.1, hC.2.2.2.2.1⟩ (hM H.size) (cwV nn hC.2.2.2.2.1 hg hw rfl rfl hd hR) ⟨fun a U g mk q => by obtain ⟨q0, q1, qP, qK, qD⟩ := q; exact ⟨q0, q1, qP, px_K.same (u := U) (U := U.calling g mk a) rfl qK, qD⟩, (by obtain ⟨j, hj⟩ := px_pl (f := f) hf.1; rw [hf.2] at hj; exact va_recv hC.2.2.2.2.2.2.2.1.1 hH.1 hc hj), fun U hU hW => ⟨rfl, by rw [hU], by rw [hU]; exact hH.1, px_K.warm hW hC.2.2.2.2.2.2.2.1, hH.2.1.weaken (fun _ _ _ _ => trivial)⟩⟩ rfl hn hl.1 hst0 (lv_room hst) hdg hcs)
theorem px_callI (hC : px_C p s m args meth c cc own ws nL ret E A H0) {y : MethodName} {wsy ws' : List Cond} {rm : Room} {bytes : ByteArray} {maxL index nn : Nat} {av : List Value} {post : Option Value → List Nat → (Nat → va_E) → Prop} {st0 : List Value} {b : Nat} (hM : px_M l y wsy rm E L f (.ref b :: av) post) (hg : GoodIn ws wsy) (hw : wsy = Cond.code y bytes maxL none :: ws') (hini : Cond.initialized y.cls ∈ ws) (hlk : Cond.methodLink own index y ∈ ws) (hinm : Cond.instanceMethod y ∈ ws) (hy1 : y.name = "<init>") (hd : y.cls ≠ "java/lang/invoke/MethodHandle" ∧ y.cls ≠ "java/lang/invoke/VarHandle" ∧ (parseMethodDescriptor y.desc).map (fun d => d.parameters.length) = some nn) (hR : rm.frames + 1 ≤ R.frames ∧ 8 + (maxL + 11) + rm.locals ≤ R.locals) (hst : (st.map fun v => v.category).sum ≤ 8) (hcs : n + rm.cells ≤ R.cells ∧ k + rm.slots ≤ R.slots) (hn : av.length = nn) (hst0 : st0 = av.reverse ++ .ref b :: st) (hdg : decode cc pc = .ok (.invokespecial index, 3)) (kk : ∀ (v : Option Value) (L' : List Nat) (f' : Nat → va_E), post v L' f' → px p l e R s m args below meth c nL E A H0 L' (f') (n + rm.cells) (k + rm.slots) (Q) (pc + 3) (lv) (v.toList ++ st)) : px p l e R s m args below meth c nL E A H0 L (f) (n) (k) (Q) (pc) (lv) (st0) := px_ran hC kk (fun H locs ls hH hl => va_runI (As := av) (rest := st) ⟨hC.1, hC.2.1, hC.2.2.1, hC.2.2.2.1, hC.2.2.2.2.1⟩ (hM H.size) (cwI nn hC.2.2.2.2.1 hg hw rfl rfl (hC.2.2.2.2.1 _ hini) (hC.2.2.2.2.1 _ hlk) (hC.2.2.2.2.1 _ hinm) hy1 hd hR) ⟨fun a U g mk q => by obtain ⟨q0, q1, qP, qK, qD⟩ := q; exact ⟨q0, q1, qP, px_K.same (u := U) (U := U.calling g mk a) rfl qK, qD⟩, fun U hU hW => ⟨rfl, by rw [hU], by rw [hU]; exact hH.1, px_K.warm hW hC.2.2.2.2.2.2.2.1, hH.2.1.weaken (fun _ _ _ _ => trivial)⟩⟩ rfl hn hl.1 hst0 (lv_room hst) hdg hcs)
theorem px_callIN (hC : px_C p s m args meth c cc own ws nL ret E A H0) {y : MethodName} {wsy ws' : List Cond} {rm : Room} {bytes : ByteArray} {maxL index nn : Nat} {av : List Value} {post : Option Value → List Nat → (Nat → va_E) → Prop} {st0 : List Value} {b : Nat} {host : String} (hM : px_M l y wsy rm E L f (.ref b :: av) post) (hg : GoodIn ws wsy) (hw : wsy = Cond.code y bytes maxL none :: ws') (hlk : va_Nw (.methodLinkNest own index y host) s) (hini : Cond.initialized y.cls ∈ ws) (hinm : Cond.instanceMethod y ∈ ws) (hy1 : y.name = "<init>") (hd : y.cls ≠ "java/lang/invoke/MethodHandle" ∧ y.cls ≠ "java/lang/invoke/VarHandle" ∧ (parseMethodDescriptor y.desc).map (fun d => d.parameters.length) = some nn) (hR : rm.frames + 1 ≤ R.frames ∧ 8 + (maxL + 11) + rm.locals ≤ R.locals) (hst : (st.map fun v => v.category).sum ≤ 8) (hcs : n + rm.cells ≤ R.cells ∧ k + rm.slots ≤ R.slots) (hn : av.length = nn) (hst0 : st0 = av.reverse ++ .ref b :: st) (hdg : decode cc pc = .ok (.invokespecial index, 3)) (kk : ∀ (v : Option Value) (L' : List Nat) (f' : Nat → va_E), post v L' f' → px p l e R s m args below meth c nL E A H0 L' (f') (n + rm.cells) (k + rm.slots) (Q) (pc + 3) (lv) (v.toList ++ st)) : px p l e R s m args below meth c nL E A H0 L (f) (n) (k) (Q) (pc) (lv) (st0) := px_ran hC kk (fun H locs ls hH hl => va_runIN (As := av) (rest := st) ⟨hC.1, hC.2.1, hC.2.2.1, hC.2.2.2.1, hC.2.2.2.2.1⟩ (hM H.size) ⟨va_cnB nn hC.2.2.2.2.1 hg hw rfl rfl hlk (hC.2.2.2.2.1 _ hini) hd hR, hy1, hC.2.2.2.2.1 _ hinm⟩ ⟨fun a U g mk q => by obtain ⟨q0, q1, qP, qK, qD⟩ := q; exact ⟨q0, q1, qP, px_K.same (u := U) (U := U.calling g mk a) rfl qK, qD⟩, fun U hU hW => ⟨rfl, by rw [hU], by rw [hU]; exact hH.1, px_K.warm hW hC.2.2.2.2.2.2.2.1, hH.2.1.weaken (fun _ _ _ _ => trivial)⟩⟩ rfl hn hl.1 hst0 (lv_room hst) hdg hcs)
theorem px_callSv (hC : px_C p s m args meth c cc own ws nL ret E A H0) {y : MethodName} {wsy ws' : List Cond} {fr lo : Nat} {bytes : ByteArray} {maxL index nn : Nat} {rt : Option FieldType} {av : List Value} {P : (Nat → va_E) → Prop} {st0 : List Value} (hM : px_M l y wsy (px_rm fr lo) E L f av (px_v L P)) (hg : GoodIn ws (va_wsS own index y wsy)) (hw : wsy = Cond.code y bytes maxL rt :: ws') (hd : y.cls ≠ "java/lang/invoke/MethodHandle" ∧ y.cls ≠ "java/lang/invoke/VarHandle" ∧ (parseMethodDescriptor y.desc).map (fun d => d.parameters.length) = some nn) (hR : fr + 1 ≤ R.frames ∧ 8 + (maxL + 11) + lo ≤ R.locals) (hst : (st.map fun v => v.category).sum ≤ 8) (hcs : n ≤ R.cells ∧ k ≤ R.slots) (hn : av.length = nn) (hst0 : st0 = av.reverse ++ st) (hdg : decode cc pc = .ok (.invokestatic index, 3)) (kk : ∀ f' : Nat → va_E, P f' → px p l e R s m args below meth c nL E A H0 L (f') (n) (k) (Q) (pc + 3) (lv) (st)) : px p l e R s m args below meth c nL E A H0 L (f) (n) (k) (Q) (pc) (lv) (st0) := px_callS hC hM hg hw hd hR hst hcs hn hst0 hdg (fun v L' f' h => by obtain ⟨rfl, rfl, h⟩ := h; exact kk f' h)
theorem px_callVv (hC : px_C p s m args meth c cc own ws nL ret E A H0) {y : MethodName} {wsy ws' : List Cond} {fr lo : Nat} {bytes : ByteArray} {maxL index nn : Nat} {rt : Option FieldType} {av : List Value} {P : (Nat → va_E) → Prop} {st0 : List Value} {b ci : Nat} {fs : List Value} {C : String} {T : u_T} {N : Nat} (hM : px_M l y wsy (px_rm fr lo) E L f (.ref b :: av) (px_v L P)) (hf : px_at L f b (.inr (ci, fs))) (hc : vwCl[ci]? = some (C, T, N)) (hg : GoodIn ws (wsV own index C y wsy)) (hw : wsy = Cond.code y bytes maxL rt :: ws') (hd : y.cls = C ∧ y.cls ≠ "java/lang/invoke/MethodHandle" ∧ y.cls ≠ "java/lang/invoke/VarHandle" ∧ (parseMethodDescriptor y.desc).map (fun d => d.parameters.length) = some nn) (hR : fr + 1 ≤ R.frames ∧ 8 + (maxL + 11) + lo ≤ R.locals) (hst : (st.map fun v => v.category).sum ≤ 8) (hcs : n ≤ R.cells ∧ k ≤ R.slots) (hn : av.length = nn) (hst0 : st0 = av.reverse ++ .ref b :: st) (hdg : decode cc pc = .ok (.invokevirtual index, 3)) (kk : ∀ f' : Nat → va_E, P f' → px p l e R s m args below meth c nL E A H0 L (f') (n) (k) (Q) (pc + 3) (lv) (st)) : px p l e R s m args below meth c nL E A H0 L (f) (n) (k) (Q) (pc) (lv) (st0) := px_callV hC hM hf hc hg hw hd hR hst hcs hn hst0 hdg (fun v L' f' h => by obtain ⟨rfl, rfl, h⟩ := h; exact kk f' h)
theorem px_callSi (hC : px_C p s m args meth c cc own ws nL ret E A H0) {y : MethodName} {wsy ws' : List Cond} {fr lo : Nat} {bytes : ByteArray} {maxL index nn : Nat} {rt : Option FieldType} {av : List Value} {P : Int32 → (Nat → va_E) → Prop} {st0 : List Value} (hM : px_M l y wsy (px_rm fr lo) E L f av (px_i L P)) (hg : GoodIn ws (va_wsS own index y wsy)) (hw : wsy = Cond.code y bytes maxL rt :: ws') (hd : y.cls ≠ "java/lang/invoke/MethodHandle" ∧ y.cls ≠ "java/lang/invoke/VarHandle" ∧ (parseMethodDescriptor y.desc).map (fun d => d.parameters.length) = some nn) (hR : fr + 1 ≤ R.frames ∧ 8 + (maxL + 11) + lo ≤ R.locals) (hst : (st.map fun v => v.category).sum ≤ 8) (hcs : n ≤ R.cells ∧ k ≤ R.slots) (hn : av.length = nn) (hst0 : st0 = av.reverse ++ st) (hdg : decode cc pc = .ok (.invokestatic index, 3)) (kk : ∀ (x : Int32) (f' : Nat → va_E), P x f' → px p l e R s m args below meth c nL E A H0 L (f') (n) (k) (Q) (pc + 3) (lv) (.int x :: st)) : px p l e R s m args below meth c nL E A H0 L (f) (n) (k) (Q) (pc) (lv) (st0) := px_callS hC hM hg hw hd hR hst hcs hn hst0 hdg (fun v L' f' h => by obtain ⟨x, rfl, rfl, h⟩ := h; exact kk x f' h)
theorem px_callVi (hC : px_C p s m args meth c cc own ws nL ret E A H0) {y : MethodName} {wsy ws' : List Cond} {fr lo : Nat} {bytes : ByteArray} {maxL index nn : Nat} {rt : Option FieldType} {av : List Value} {P : Int32 → (Nat → va_E) → Prop} {st0 : List Value} {b ci : Nat} {fs : List Value} {C : String} {T : u_T} {N : Nat} (hM : px_M l y wsy (px_rm fr lo) E L f (.ref b :: av) (px_i L P)) (hf : px_at L f b (.inr (ci, fs))) (hc : vwCl[ci]? = some (C, T, N)) (hg : GoodIn ws (wsV own index C y wsy)) (hw : wsy = Cond.code y bytes maxL rt :: ws') (hd : y.cls = C ∧ y.cls ≠ "java/lang/invoke/MethodHandle" ∧ y.cls ≠ "java/lang/invoke/VarHandle" ∧ (parseMethodDescriptor y.desc).map (fun d => d.parameters.length) = some nn) (hR : fr + 1 ≤ R.frames ∧ 8 + (maxL + 11) + lo ≤ R.locals) (hst : (st.map fun v => v.category).sum ≤ 8) (hcs : n ≤ R.cells ∧ k ≤ R.slots) (hn : av.length = nn) (hst0 : st0 = av.reverse ++ .ref b :: st) (hdg : decode cc pc = .ok (.invokevirtual index, 3)) (kk : ∀ (x : Int32) (f' : Nat → va_E), P x f' → px p l e R s m args below meth c nL E A H0 L (f') (n) (k) (Q) (pc + 3) (lv) (.int x :: st)) : px p l e R s m args below meth c nL E A H0 L (f) (n) (k) (Q) (pc) (lv) (st0) := px_callV hC hM hf hc hg hw hd hR hst hcs hn hst0 hdg (fun v L' f' h => by obtain ⟨x, rfl, rfl, h⟩ := h; exact kk x f' h)
theorem px_callSl (hC : px_C p s m args meth c cc own ws nL ret E A H0) {y : MethodName} {wsy ws' : List Cond} {fr lo : Nat} {bytes : ByteArray} {maxL index nn : Nat} {rt : Option FieldType} {av : List Value} {P : Int64 → (Nat → va_E) → Prop} {st0 : List Value} (hM : px_M l y wsy (px_rm fr lo) E L f av (px_l L P)) (hg : GoodIn ws (va_wsS own index y wsy)) (hw : wsy = Cond.code y bytes maxL rt :: ws') (hd : y.cls ≠ "java/lang/invoke/MethodHandle" ∧ y.cls ≠ "java/lang/invoke/VarHandle" ∧ (parseMethodDescriptor y.desc).map (fun d => d.parameters.length) = some nn) (hR : fr + 1 ≤ R.frames ∧ 8 + (maxL + 11) + lo ≤ R.locals) (hst : (st.map fun v => v.category).sum ≤ 8) (hcs : n ≤ R.cells ∧ k ≤ R.slots) (hn : av.length = nn) (hst0 : st0 = av.reverse ++ st) (hdg : decode cc pc = .ok (.invokestatic index, 3)) (kk : ∀ (x : Int64) (f' : Nat → va_E), P x f' → px p l e R s m args below meth c nL E A H0 L (f') (n) (k) (Q) (pc + 3) (lv) (.long x :: st)) : px p l e R s m args below meth c nL E A H0 L (f) (n) (k) (Q) (pc) (lv) (st0) := px_callS hC hM hg hw hd hR hst hcs hn hst0 hdg (fun v L' f' h => by obtain ⟨x, rfl, rfl, h⟩ := h; exact kk x f' h)
theorem px_callVl (hC : px_C p s m args meth c cc own ws nL ret E A H0) {y : MethodName} {wsy ws' : List Cond} {fr lo : Nat} {bytes : ByteArray} {maxL index nn : Nat} {rt : Option FieldType} {av : List Value} {P : Int64 → (Nat → va_E) → Prop} {st0 : List Value} {b ci : Nat} {fs : List Value} {C : String} {T : u_T} {N : Nat} (hM : px_M l y wsy (px_rm fr lo) E L f (.ref b :: av) (px_l L P)) (hf : px_at L f b (.inr (ci, fs))) (hc : vwCl[ci]? = some (C, T, N)) (hg : GoodIn ws (wsV own index C y wsy)) (hw : wsy = Cond.code y bytes maxL rt :: ws') (hd : y.cls = C ∧ y.cls ≠ "java/lang/invoke/MethodHandle" ∧ y.cls ≠ "java/lang/invoke/VarHandle" ∧ (parseMethodDescriptor y.desc).map (fun d => d.parameters.length) = some nn) (hR : fr + 1 ≤ R.frames ∧ 8 + (maxL + 11) + lo ≤ R.locals) (hst : (st.map fun v => v.category).sum ≤ 8) (hcs : n ≤ R.cells ∧ k ≤ R.slots) (hn : av.length = nn) (hst0 : st0 = av.reverse ++ .ref b :: st) (hdg : decode cc pc = .ok (.invokevirtual index, 3)) (kk : ∀ (x : Int64) (f' : Nat → va_E), P x f' → px p l e R s m args below meth c nL E A H0 L (f') (n) (k) (Q) (pc + 3) (lv) (.long x :: st)) : px p l e R s m args below meth c nL E A H0 L (f) (n) (k) (Q) (pc) (lv) (st0) := px_callV hC hM hf hc hg hw hd hR hst hcs hn hst0 hdg (fun v L' f' h => by obtain ⟨x, rfl, rfl, h⟩ := h; exact kk x f' h)
theorem px_callSr (hC : px_C p s m args meth c cc own ws nL ret E A H0) {y : MethodName} {wsy ws' : List Cond} {fr lo : Nat} {bytes : ByteArray} {maxL index nn : Nat} {rt : Option FieldType} {av : List Value} {P : Nat → (Nat → va_E) → Prop} {st0 : List Value} (hM : px_M l y wsy (px_rm fr lo) E L f av (px_r L P)) (hg : GoodIn ws (va_wsS own index y wsy)) (hw : wsy = Cond.code y bytes maxL rt :: ws') (hd : y.cls ≠ "java/lang/invoke/MethodHandle" ∧ y.cls ≠ "java/lang/invoke/VarHandle" ∧ (parseMethodDescriptor y.desc).map (fun d => d.parameters.length) = some nn) (hR : fr + 1 ≤ R.frames ∧ 8 + (maxL + 11) + lo ≤ R.locals) (hst : (st.map fun v => v.category).sum ≤ 8) (hcs : n ≤ R.cells ∧ k ≤ R.slots) (hn : av.length = nn) (hst0 : st0 = av.reverse ++ st) (hdg : decode cc pc = .ok (.invokestatic index, 3)) (kk : ∀ (x : Nat) (f' : Nat → va_E), P x f' → px p l e R s m args below meth c nL E A H0 L (f') (n) (k) (Q) (pc + 3) (lv) (.ref x :: st)) : px p l e R s m args below meth c nL E A H0 L (f) (n) (k) (Q) (pc) (lv) (st0) := px_callS hC hM hg hw hd hR hst hcs hn hst0 hdg (fun v L' f' h => by obtain ⟨x, rfl, rfl, h⟩ := h; exact kk x f' h)
theorem px_callVr (hC : px_C p s m args meth c cc own ws nL ret E A H0) {y : MethodName} {wsy ws' : List Cond} {fr lo : Nat} {bytes : ByteArray} {maxL index nn : Nat} {rt : Option FieldType} {av : List Value} {P : Nat → (Nat → va_E) → Prop} {st0 : List Value} {b ci : Nat} {fs : List Value} {C : String} {T : u_T} {N : Nat} (hM : px_M l y wsy (px_rm fr lo) E L f (.ref b :: av) (px_r L P)) (hf : px_at L f b (.inr (ci, fs))) (hc : vwCl[ci]? = some (C, T, N)) (hg : GoodIn ws (wsV own index C y wsy)) (hw : wsy = Cond.code y bytes maxL rt :: ws') (hd : y.cls = C ∧ y.cls ≠ "java/lang/invoke/MethodHandle" ∧ y.cls ≠ "java/lang/invoke/VarHandle" ∧ (parseMethodDescriptor y.desc).map (fun d => d.parameters.length) = some nn) (hR : fr + 1 ≤ R.frames ∧ 8 + (maxL + 11) + lo ≤ R.locals) (hst : (st.map fun v => v.category).sum ≤ 8) (hcs : n ≤ R.cells ∧ k ≤ R.slots) (hn : av.length = nn) (hst0 : st0 = av.reverse ++ .ref b :: st) (hdg : decode cc pc = .ok (.invokevirtual index, 3)) (kk : ∀ (x : Nat) (f' : Nat → va_E), P x f' → px p l e R s m args below meth c nL E A H0 L (f') (n) (k) (Q) (pc + 3) (lv) (.ref x :: st)) : px p l e R s m args below meth c nL E A H0 L (f) (n) (k) (Q) (pc) (lv) (st0) := px_callV hC hM hf hc hg hw hd hR hst hcs hn hst0 hdg (fun v L' f' h => by obtain ⟨x, rfl, rfl, h⟩ := h; exact kk x f' h)
theorem px_mmin (hC : px_C p s m args meth c cc own ws nL ret E A H0) {index : Nat} {x y : Int32} (h1 : Cond.methodLink own index Lib.Math.min.name ∈ ws) (h2 : Cond.static Lib.Math.min.name ∈ ws) (h3 : Cond.initialized "java/lang/Math" ∈ ws) (h4 : Cond.code Lib.Math.min.name Lib.Math.min.code 2 (some .int) ∈ ws) (hfr : 1 ≤ R.frames) (hlo : (st.map fun v => v.category).sum + 13 ≤ R.locals) (hcs : n ≤ R.cells ∧ k ≤ R.slots) (hdg : decode cc pc = .ok (.invokestatic index, 3)) (kk : px p l e R s m args below meth c nL E A H0 L (f) (n) (k) (Q) (pc + 3) (lv) (.int (if y < x then y else x) :: st)) : px p l e R s m args below meth c nL E A H0 L (f) (n) (k) (Q) (pc) (lv) (.int y :: .int x :: st) := fun H locs ls hH hl => va_mmin hC.1 hC.2.1 (hC.2.2.1.trans hl.1.symm) hC.2.2.2.1 (hC.2.2.2.2.1 _ h1) (hC.2.2.2.2.1 _ h2) (hC.2.2.2.2.1 _ h3) (hC.2.2.2.2.1 _ h4) hfr hlo hcs.1 hcs.2 hdg (kk H locs ls hH hl)
theorem px_mmax (hC : px_C p s m args meth c cc own ws nL ret E A H0) {index : Nat} {x y : Int32} (h1 : Cond.methodLink own index Lib.Math.max.name ∈ ws) (h2 : Cond.static Lib.Math.max.name ∈ ws) (h3 : Cond.initialized "java/lang/Math" ∈ ws) (h4 : Cond.code Lib.Math.max.name Lib.Math.max.code 2 (some .int) ∈ ws) (hfr : 1 ≤ R.frames) (hlo : (st.map fun v => v.category).sum + 13 ≤ R.locals) (hcs : n ≤ R.cells ∧ k ≤ R.slots) (hdg : decode cc pc = .ok (.invokestatic index, 3)) (kk : px p l e R s m args below meth c nL E A H0 L (f) (n) (k) (Q) (pc + 3) (lv) (.int (if x < y then y else x) :: st)) : px p l e R s m args below meth c nL E A H0 L (f) (n) (k) (Q) (pc) (lv) (.int y :: .int x :: st) := fun H locs ls hH hl => va_mmax hC.1 hC.2.1 (hC.2.2.1.trans hl.1.symm) hC.2.2.2.1 (hC.2.2.2.2.1 _ h1) (hC.2.2.2.2.1 _ h2) (hC.2.2.2.2.1 _ h3) (hC.2.2.2.2.1 _ h4) hfr hlo hcs.1 hcs.2 hdg (kk H locs ls hH hl)
theorem px_copyl (hC : px_C p s m args meth c cc own ws nL ret E A H0) {index a0 a n0 n1 sp dp nn : Nat} {g1 g2 : Nat → Int64} (hf0 : px_at L f a0 (aJ E n0 g1)) (hf : px_at L f a (aJ E n1 g2)) (h1 : Cond.methodLink own index arraycopyName ∈ ws) (h2 : Cond.native arraycopyName ∈ ws) (h3 : Cond.static arraycopyName ∈ ws) (h4 : Cond.initialized "java/lang/System" ∈ ws) (hs : sp + nn ≤ n0) (hd : dp + nn ≤ n1) (h31 : n0 < 2 ^ 31) (h32 : n1 < 2 ^ 31) (hfr : 1 ≤ R.frames) (hlo : (st.map fun v => v.category).sum + (nativeFrameWords "java/lang/System" "arraycopy" 5 + 11) ≤ R.locals) (hdg : decode cc pc = .ok (.invokestatic index, 3)) (kk : px p l e R s m args below meth c nL E A H0 L (va_up f a (aJ E n1 (va_cpy g1 g2 sp dp nn))) (n) (k) (Q) (pc + 3) (lv) (st)) : px p l e R s m args below meth c nL E A H0 L (f) (n) (k) (Q) (pc) (lv) (.int (nI nn) :: .int (nI dp) :: .ref a :: .int (nI sp) :: .ref a0 :: st) := by
  intro H locs ls hH hl
  obtain ⟨hP, hD, hS⟩ := id hH
  obtain ⟨j, hj⟩ := px_pl (f := f) hf.1
  have hj0 := hj
  rw [hf.2] at hj0
  obtain ⟨j2, hj2⟩ := px_pl (f := f) hf0.1
  rw [hf0.2] at hj2
  have c1 : (nI nn).toNatClampNeg = nn := nI_clamp (by omega)
  have c2 : (nI dp).toNatClampNeg = dp := nI_clamp (by omega)
  have c3 : (nI sp).toNatClampNeg = sp := nI_clamp (by omega)
  refine va_copyl (ty := .long) hC.1 hC.2.1 (hC.2.2.1.trans hl.1.symm) hC.2.2.2.1 (hC.2.2.2.2.1 _ h1) (hC.2.2.2.2.1 _ h2) (hC.2.2.2.2.1 _ h3) (hC.2.2.2.2.1 _ h4) hC.2.2.2.2.2.2.2.1.1 hP hD hS j2 j 1 1 hj2 hj0 rfl rfl rfl (nI_pos (by omega)) (nI_pos (by omega)) (nI_pos (by omega)) (by rw [c1, c3]; exact hs) (by rw [c1, c2]; exact hd) (fun i _ => rfl) hfr hlo hdg (fun H1 locs1 q1 q2 q3 => ?_)
  rw [c1, c2, c3, px_plset hD hf.1 hj] at q1 q2
  exact kk H1 locs1 ls ⟨q1, q2, q3⟩ hl
end PXM
end
section
/-! ===== lN n to 2^64: shifts, and, or, masks, one bit ===== -/
theorem wb_tb (n : Nat) : (lN n).toBitVec = BitVec.ofNat 64 n := rfl
theorem wb_inj {a b : Int64} (h : a.toBitVec = b.toBitVec) : a = b := Int64.toBitVec_inj.mp h
theorem wb_tn {n : Nat} (h : n < 2 ^ 64) : (lN n).toBitVec.toNat = n := by rw [wb_tb, BitVec.toNat_ofNat, Nat.mod_eq_of_lt h]
theorem wb_of (x : Int64) : ∃ n, n < 2 ^ 64 ∧ x = lN n := ⟨x.toBitVec.toNat, x.toBitVec.isLt, wb_inj (by rw [wb_tb]; simp)⟩
theorem wb_of32 (x : Int32) : ∃ n, n < 2 ^ 32 ∧ x = nI n := ⟨x.toBitVec.toNat, x.toBitVec.isLt, Int32.toBitVec_inj.mp (by show _ = BitVec.ofNat 32 _; simp)⟩
theorem wb_c : ∀ k, k < 64 → ((nI k).toInt64 &&& 63) = lN k := by decide +kernel
theorem wb_cu : ∀ k, k < 64 → ((nI k).toInt64.toUInt64 &&& Int64.toUInt64 63) = UInt64.ofNat k := by decide +kernel
theorem wb_sm : ∀ k, k < 64 → (BitVec.ofNat 64 k).smod 64 = BitVec.ofNat 64 k := by decide +kernel
theorem wb_pw {a b : Nat} (h : a ≤ b) : 2 ^ b = 2 ^ a * 2 ^ (b - a) := by rw [← Nat.pow_add]; congr 1; omega
theorem wb_lt2 {a b : Nat} (h : a < b) : 2 ^ a < 2 ^ b := Nat.pow_lt_pow_right (by decide) h
theorem wb_mod (n : Nat) : lN n = lN (n % 2 ^ 64) := wb_inj (by rw [wb_tb, wb_tb]; apply BitVec.eq_of_toNat_eq; rw [BitVec.toNat_ofNat, BitVec.toNat_ofNat, Nat.mod_mod])
theorem wb_shr {n k : Nat} (hn : n < 2 ^ 64) (hk : k < 64) : ((lN n).toUInt64 >>> ((nI k).toInt64.toUInt64 &&& Int64.toUInt64 63)).toInt64 = lN (n / 2 ^ k) := by
  rw [wb_cu k hk]
  apply wb_inj
  apply BitVec.eq_of_toNat_eq
  show ((lN n).toUInt64 >>> UInt64.ofNat k).toNat = (BitVec.ofNat 64 _).toNat
  have h1 : (UInt64.ofNat k).toNat = k := by
    show (BitVec.ofNat 64 k).toNat = k
    rw [BitVec.toNat_ofNat, Nat.mod_eq_of_lt (by omega)]
  have h2 : (lN n).toUInt64.toNat = n := wb_tn hn
  rw [UInt64.toNat_shiftRight, h1, h2, Nat.mod_eq_of_lt hk, Nat.shiftRight_eq_div_pow, BitVec.toNat_ofNat, Nat.mod_eq_of_lt (Nat.lt_of_le_of_lt (Nat.div_le_self _ _) hn)]
theorem wb_shl (n : Nat) {k : Nat} (hk : k < 64) : lN n <<< ((nI k).toInt64 &&& 63) = lN (n * 2 ^ k) := by
  rw [wb_c k hk]
  apply wb_inj
  rw [Int64.toBitVec_shiftLeft, wb_tb, wb_tb, wb_tb, wb_sm k hk]
  apply BitVec.eq_of_toNat_eq
  rw [BitVec.shiftLeft_eq', BitVec.toNat_shiftLeft, BitVec.toNat_ofNat, BitVec.toNat_ofNat, BitVec.toNat_ofNat, Nat.mod_eq_of_lt (show k < 2 ^ 64 by omega), Nat.shiftLeft_eq, Nat.mul_mod, Nat.mod_mod, ← Nat.mul_mod]
theorem wb_and {a b : Nat} (ha : a < 2 ^ 64) (hb : b < 2 ^ 64) : lN a &&& lN b = lN (a &&& b) := by
  apply wb_inj
  rw [Int64.toBitVec_and, wb_tb, wb_tb, wb_tb]
  apply BitVec.eq_of_toNat_eq
  rw [BitVec.toNat_and, BitVec.toNat_ofNat, BitVec.toNat_ofNat, BitVec.toNat_ofNat, Nat.mod_eq_of_lt ha, Nat.mod_eq_of_lt hb, Nat.mod_eq_of_lt (Nat.and_lt_two_pow _ hb)]
theorem wb_or {a b : Nat} (ha : a < 2 ^ 64) (hb : b < 2 ^ 64) : lN a ||| lN b = lN (a ||| b) := by
  apply wb_inj
  rw [Int64.toBitVec_or, wb_tb, wb_tb, wb_tb]
  apply BitVec.eq_of_toNat_eq
  rw [BitVec.toNat_or, BitVec.toNat_ofNat, BitVec.toNat_ofNat, BitVec.toNat_ofNat, Nat.mod_eq_of_lt ha, Nat.mod_eq_of_lt hb, Nat.mod_eq_of_lt (Nat.or_lt_two_pow ha hb)]
theorem wb_mask {n k : Nat} (hn : n < 2 ^ 64) (hk : k < 64) : lN n &&& lN (2 ^ k - 1) = lN (n % 2 ^ k) := by
  rw [wb_and hn (by have := wb_lt2 hk; omega), Nat.and_two_pow_sub_one_eq_mod]
theorem wb_a1 {n : Nat} (hn : n < 2 ^ 64) : lN n &&& 1 = lN (n % 2) := wb_mask (k := 1) hn (by decide)
theorem wb_bit {n k : Nat} (hn : n < 2 ^ 64) (hk : k < 64) : ((lN n).toUInt64 >>> ((nI k).toInt64.toUInt64 &&& Int64.toUInt64 63)).toInt64 &&& 1 = lN (n / 2 ^ k % 2) := by
  rw [wb_shr hn hk, wb_a1 (Nat.lt_of_le_of_lt (Nat.div_le_self _ _) hn)]
theorem wb_xor {q k : Nat} (hk : k < 63) (h : 2 ^ k ≤ q) (h2 : q < 2 ^ (k + 1)) : lN q ^^^ lN (2 ^ k) = lN (q - 2 ^ k) := by
  obtain ⟨r, rfl⟩ : ∃ r, q = 2 ^ k + r := ⟨q - 2 ^ k, by omega⟩
  have hr : r < 2 ^ k := by rw [Nat.pow_succ] at h2; omega
  have hx : (2 ^ k + r) ^^^ 2 ^ k = r := by
    apply Nat.eq_of_testBit_eq
    intro i
    rw [Nat.testBit_xor, Nat.testBit_two_pow]
    rcases Nat.lt_trichotomy i k with h | h | h
    · rw [Nat.testBit_two_pow_add_gt h]
      simp [show ¬ k = i by omega]
    · subst h
      rw [Nat.testBit_two_pow_add_eq]
      simp
    · have a1 : 2 ^ (k + 1) ≤ 2 ^ i := Nat.pow_le_pow_right (by decide) h
      rw [Nat.testBit_lt_two_pow (show 2 ^ k + r < 2 ^ i by omega), Nat.testBit_lt_two_pow (show r < 2 ^ i by omega)]
      simp [show ¬ k = i by omega]
  have b1 := wb_lt2 (show k + 1 < 64 by omega)
  have b2 := wb_lt2 (show k < 64 by omega)
  apply wb_inj
  rw [Int64.toBitVec_xor, wb_tb, wb_tb, wb_tb]
  apply BitVec.eq_of_toNat_eq
  rw [BitVec.toNat_xor, BitVec.toNat_ofNat, BitVec.toNat_ofNat, BitVec.toNat_ofNat, Nat.mod_eq_of_lt (by omega : 2 ^ k + r < 2 ^ 64), Nat.mod_eq_of_lt b2, hx, Nat.add_sub_cancel_left, Nat.mod_eq_of_lt (by omega)]
/-! ===== lN: masks, 'or' of parts that don't overlap is a sum ===== -/
theorem u_tn {n : Nat} (h : n < 2 ^ 64) : (UInt64.ofNat n).toNat = n := Nat.mod_eq_of_lt h
theorem g_and {a b c : Nat} (ha : a < 2 ^ 64) (hb : b < 2 ^ 64) (hc : a &&& b = c) : lN a &&& lN b = lN c := by
  subst hc
  have h : UInt64.ofNat a &&& UInt64.ofNat b = UInt64.ofNat (a &&& b) := UInt64.toNat_inj.mp (by rw [UInt64.toNat_and, u_tn ha, u_tn hb, u_tn (Nat.and_lt_two_pow a hb)])
  have h2 := congrArg UInt64.toInt64 h
  exact h2
theorem g_and1 {a : Nat} (ha : a < 2 ^ 64) : lN a &&& 1 = lN (a % 2) := g_and (b := 1) ha (by decide) (Nat.and_two_pow_sub_one_eq_mod a 1)
theorem g_mask {a s p : Nat} (hp : 2 ^ s = p) (hs : s < 64) (ha : a < 2 ^ 64) : lN a &&& lN (p - 1) = lN (a % p) := by
  subst hp
  have := Nat.pow_lt_pow_right (show 1 < 2 by decide) hs
  exact g_and ha (by omega) (Nat.and_two_pow_sub_one_eq_mod a s)
theorem g_or {k p a b : Nat} (hp : 2 ^ k = p) (ha : a < p) (h : b * p + a < 2 ^ 64) : lN (b * p) ||| lN a = lN (b * p + a) := by
  subst hp
  have h1 : b * 2 ^ k ||| a = b * 2 ^ k + a := by rw [← Nat.shiftLeft_eq, Nat.shiftLeft_add_eq_or_of_lt ha]
  have h3 : UInt64.ofNat (b * 2 ^ k) ||| UInt64.ofNat a = UInt64.ofNat (b * 2 ^ k + a) := UInt64.toNat_inj.mp (by rw [UInt64.toNat_or, u_tn (by omega), u_tn (by omega), u_tn h, h1])
  have h2 := congrArg UInt64.toInt64 h3
  exact h2
theorem g_or' {k p a b : Nat} (hp : 2 ^ k = p) (ha : a < p) (h : a + b * p < 2 ^ 64) : lN a ||| lN (b * p) = lN (a + b * p) := by
  rw [Int64.or_comm, g_or hp ha (by omega), Nat.add_comm]
theorem g_ushr {a k p : Nat} {y : UInt64} (hy : y = UInt64.ofNat k) (hk : k < 64) (hp : 2 ^ k = p) (ha : a < 2 ^ 64) : ((lN a).toUInt64 >>> y).toInt64 = lN (a / p) := by
  subst hy hp
  have h : UInt64.ofNat a >>> UInt64.ofNat k = UInt64.ofNat (a / 2 ^ k) := UInt64.toNat_inj.mp (by rw [UInt64.toNat_shiftRight, u_tn ha, u_tn (by omega), u_tn (Nat.lt_of_le_of_lt (Nat.div_le_self _ _) ha), Nat.mod_eq_of_lt hk, Nat.shiftRight_eq_div_pow])
  have h2 := congrArg UInt64.toInt64 h
  exact h2
theorem g_shl {a k p : Nat} {y : Int64} (hy : y.toBitVec.smod 64 = BitVec.ofNat 64 k) (hk : k < 64) (hp : 2 ^ k = p) (ha : a < 2 ^ 64) : lN a <<< y = lN (a * p) := by
  subst hp
  apply Int64.toBitVec_inj.mp
  rw [Int64.toBitVec_shiftLeft, hy]
  apply BitVec.eq_of_toNat_eq
  have hb : (lN a).toBitVec.toNat = a := Nat.mod_eq_of_lt ha
  have hk' : (BitVec.ofNat 64 k).toNat = k := Nat.mod_eq_of_lt (by omega)
  have h : ((lN a).toBitVec <<< BitVec.ofNat 64 k).toNat = (a * 2 ^ k) % 2 ^ 64 := by simp only [BitVec.shiftLeft_eq', BitVec.toNat_shiftLeft, hb, hk', Nat.shiftLeft_eq]
  exact h
/-! ===== numbers as rows of digits ===== -/
def vl (B : Nat) (x : Nat → Nat) : Nat → Nat
  | 0 => 0
  | n + 1 => vl B x n + x n * B ^ n
def un (x : Nat → Nat) (j z : Nat) : Nat → Nat := fun i => if i = j then z else x i
theorem un_s (x : Nat → Nat) (j z : Nat) : un x j z j = z := by simp [un]
theorem un_n (x : Nat → Nat) {i j : Nat} (z : Nat) (h : i ≠ j) : un x j z i = x i := by simp [un, h]
def lw (x : Nat → Nat) : Nat → Int64 := fun i => lN (x i)
def iw (x : Nat → Nat) : Nat → Int32 := fun i => nI (x i)
theorem lw_up (x : Nat → Nat) (j z : Nat) : vp_updL (lw x) j (lN z) = lw (un x j z) := by
  funext i
  by_cases h : i = j <;> simp [vp_updL, lw, un, h]
theorem iw_up (x : Nat → Nat) (j z : Nat) : upd (iw x) j (nI z) = iw (un x j z) := by
  funext i
  by_cases h : i = j <;> simp [upd, iw, un, h]
theorem vl_c {B : Nat} {x y : Nat → Nat} {n : Nat} (h : ∀ i, i < n → x i = y i) : vl B x n = vl B y n := by
  induction n with
  | zero => rfl
  | succ n ih =>
    show vl B x n + x n * B ^ n = vl B y n + y n * B ^ n
    rw [ih (fun i hi => h i (by omega)), h n (by omega)]
theorem vl_lt {B : Nat} {x : Nat → Nat} {n : Nat} (h : ∀ i, i < n → x i < B) : vl B x n < B ^ n := by
  induction n with
  | zero => exact Nat.one_pos
  | succ n ih =>
    have h1 := ih (fun i hi => h i (by omega))
    have h2 := h n (by omega)
    have h3 : (x n + 1) * B ^ n ≤ B * B ^ n := Nat.mul_le_mul_right _ h2
    show vl B x n + x n * B ^ n < B ^ (n + 1)
    rw [Nat.pow_succ, Nat.mul_comm (B ^ n) B]
    rw [Nat.add_mul, Nat.one_mul] at h3
    omega
theorem vl_u {B : Nat} {x : Nat → Nat} {n j z : Nat} (h : j < n) : vl B (un x j z) n + x j * B ^ j = vl B x n + z * B ^ j := by
  induction n with
  | zero => omega
  | succ n ih =>
    show vl B (un x j z) n + un x j z n * B ^ n + x j * B ^ j = vl B x n + x n * B ^ n + z * B ^ j
    by_cases hj : j = n
    · subst hj
      rw [un_s, vl_c (x := un x j z) (y := x) (fun i hi => un_n x z (by omega))]
      omega
    · have h1 := ih (by omega)
      rw [un_n x z (Ne.symm hj)]
      omega
theorem vl_ug {B : Nat} {x : Nat → Nat} {n j z : Nat} (h : n ≤ j) : vl B (un x j z) n = vl B x n := vl_c (fun i hi => un_n x z (by omega))
theorem vl_a (B : Nat) (x : Nat → Nat) (m n : Nat) : vl B x (m + n) = vl B x m + B ^ m * vl B (fun i => x (m + i)) n := by
  induction n with
  | zero => simp [vl]
  | succ n ih =>
    show vl B x (m + n) + x (m + n) * B ^ (m + n) = vl B x m + B ^ m * (vl B (fun i => x (m + i)) n + x (m + n) * B ^ n)
    rw [ih, Nat.mul_add, Nat.pow_add]
    have : B ^ m * (x (m + n) * B ^ n) = x (m + n) * (B ^ m * B ^ n) := by rw [Nat.mul_left_comm]
    omega
theorem vl_0 {B : Nat} (n : Nat) : vl B (fun _ => 0) n = 0 := by
  induction n with
  | zero => rfl
  | succ n ih => show vl B (fun _ => 0) n + 0 * B ^ n = 0; rw [ih]; omega
theorem vl_z {B : Nat} (hB : 0 < B) {x : Nat → Nat} {n : Nat} (h : vl B x n = 0) : ∀ i, i < n → x i = 0 := by
  induction n with
  | zero => intro i hi; omega
  | succ n ih =>
    intro i hi
    have h1 : vl B x n + x n * B ^ n = 0 := h
    have h2 : 0 < B ^ n := Nat.pow_pos hB
    by_cases hin : i = n
    · subst hin
      have h3 : x i * B ^ i = 0 := by omega
      rcases Nat.mul_eq_zero.mp h3 with q | q
      · exact q
      · omega
    · exact ih (by omega) i (by omega)
theorem vl_ge {B : Nat} {x : Nat → Nat} {n i : Nat} (h : i < n) : x i * B ^ i ≤ vl B x n := by
  induction n with
  | zero => omega
  | succ n ih =>
    show x i * B ^ i ≤ vl B x n + x n * B ^ n
    by_cases hin : i = n
    · subst hin; omega
    · have := ih (by omega); omega
/-- which of two numbers is larger, by the highest place where they differ -/
theorem vl_cmp {B : Nat} {x y : Nat → Nat} {n i : Nat} (hx : ∀ j, j < n → x j < B) (hy : ∀ j, j < n → y j < B) (hi : i < n) (he : ∀ j, i < j → j < n → x j = y j) (h : x i < y i) : vl B x n < vl B y n := by
  have hs : ∀ m, i + 1 + m ≤ n → vl B x (i + 1 + m) < vl B y (i + 1 + m) := by
    intro m
    induction m with
    | zero =>
      intro hm
      have h1 := vl_lt (B := B) (x := x) (n := i) (fun j hj => hx j (by omega))
      have h3 : (x i + 1) * B ^ i ≤ y i * B ^ i := Nat.mul_le_mul_right _ h
      show vl B x i + x i * B ^ i < vl B y i + y i * B ^ i
      rw [Nat.add_mul, Nat.one_mul] at h3
      omega
    | succ m ih =>
      intro hm
      have h1 := ih (by omega)
      show vl B x (i + 1 + m) + x (i + 1 + m) * B ^ (i + 1 + m) < vl B y (i + 1 + m) + y (i + 1 + m) * B ^ (i + 1 + m)
      rw [he (i + 1 + m) (by omega) (by omega)]
      omega
  have := hs (n - (i + 1)) (by omega)
  rw [show i + 1 + (n - (i + 1)) = n by omega] at this
  exact this
/-! ===== longs ===== -/
theorem lz_inj {a b : Nat} (ha : a < 2 ^ 64) (hb : b < 2 ^ 64) : lN a = lN b ↔ a = b := by
  constructor
  · intro h
    have h1 := congrArg (fun z : Int64 => z.toBitVec.toNat) h
    rw [wb_tn ha, wb_tn hb] at h1
    exact h1
  · intro h; rw [h]
theorem lz_sub {a b : Nat} (h : b ≤ a + 2 ^ 64) : lN a - lN b = lN (a + 2 ^ 64 - b) := by
  have h1 : lN (a + 2 ^ 64 - b) + lN b = lN a := by
    rw [lN_add, Nat.sub_add_cancel h, wb_mod, Nat.add_mod_right, ← wb_mod]
  rw [← h1, Int64.add_sub_cancel]
theorem lz_c0 {a b : Nat} (ha : a < 2 ^ 63) (hb : b < 2 ^ 63) : lg_cmp (lN a) (lN b) = 0 ↔ a = b := by
  unfold lg_cmp
  by_cases h1 : lN a > lN b
  · have := (pk_lLT hb ha).mp h1
    simp [h1]; omega
  · have h2 : ¬ b < a := fun q => h1 ((pk_lLT hb ha).mpr q)
    by_cases h3 : lN a = lN b
    · have := (pk_lEQ ha hb).mp h3
      simp [h1, h3, this]
    · have : a ≠ b := fun q => h3 ((pk_lEQ ha hb).mpr q)
      simp [h1, h3, this]
theorem lz_cge {a b : Nat} (ha : a < 2 ^ 63) (hb : b < 2 ^ 63) : 0 ≤ lg_cmp (lN a) (lN b) ↔ b ≤ a := by
  rw [lg_cmp_ge, pk_lLE hb ha]
end
section
/-! ===== rows that agree in their places are one row ===== -/
section PXR
variable {p : Program} {l : Launch} {e : Env} {R : Room} {s : State} {m : MethodId} {args : Array Value} {below : List Frame} {meth : Method} {c : Code} {cc : ByteArray} {own : String} {ws : List Cond} {nL : Nat} {ret : Option FieldType} {E : px_E} {A : Nat → Prop} {H0 : Heap} {L : List Nat} {f : Nat → va_E} {n k : Nat} {Q : State → Prop} {pc : Nat} {lv : List (Nat × Value)} {st : List Value}
theorem px_cg {g : Nat → va_E} (h : ∀ b ∈ L, ∀ H : Heap, va_at E.1 vwCl (b, f b) H → va_at E.1 vwCl (b, g b) H) (kk : px p l e R s m args below meth c nL E A H0 L g n k Q pc lv st) : px p l e R s m args below meth c nL E A H0 L f n k Q pc lv st := by
  intro H locs ls hH hl
  have key : ∀ (j : Nat) (q : Nat × va_E), (va_pl L g)[j]? = some q → ∃ b ∈ L, q = (b, g b) ∧ (va_pl L f)[j]? = some (b, f b) := by
    intro j q hq
    simp only [va_pl, List.getElem?_map] at hq ⊢
    cases hb : L[j]? with
    | none => rw [hb] at hq; cases hq
    | some b =>
      rw [hb] at hq
      exact ⟨b, List.mem_of_getElem? hb, (Option.some.inj hq).symm, rfl⟩
  refine kk H locs ls ⟨fun j q hq => ?_, ⟨fun i j x y hx hy hxy => ?_, fun j q hq => ?_⟩, hH.2.2⟩ hl
  · obtain ⟨b, hb, rfl, h2⟩ := key j q hq
    exact h b hb H (hH.1 j _ h2)
  · obtain ⟨b, hb, rfl, h2⟩ := key i x hx
    obtain ⟨b', hb', rfl, h2'⟩ := key j y hy
    exact hH.2.1.1 i j _ _ h2 h2' hxy
  · obtain ⟨b, hb, rfl, h2⟩ := key j q hq
    exact hH.2.1.2 j (b, f b) h2
theorem arrV_cg {cA : ClassId} {nn : Nat} {z z' : Nat → Value} (h : ∀ i, i < nn → z i = z' i) : arrV cA nn z = arrV cA nn z' := by
  unfold arrV
  congr 1
  apply Array.ext
  · simp
  · intro i h1 h2
    have : i < nn := by simpa using h1
    simp [h i this]
theorem px_rowJ {a nn : Nat} {r r' : Nat → Int64} (h : ∀ i, i < nn → r i = r' i) (kk : px p l e R s m args below meth c nL E A H0 L (va_up f a (aJ E nn r')) n k Q pc lv st) : px p l e R s m args below meth c nL E A H0 L (va_up f a (aJ E nn r)) n k Q pc lv st := by
  refine px_cg (fun b _ H hb => ?_) kk
  by_cases q : b = a
  · subst q
    rw [va_up_self] at hb ⊢
    have h1 : H[b]? = some (arrV (E.2 1) nn (fun j => .long (r j))) := hb
    show H[b]? = some (arrV (E.2 1) nn (fun j => .long (r' j)))
    rw [h1, arrV_cg (fun i hi => by rw [h i hi])]
  · rw [va_up_ne _ _ q] at hb ⊢
    exact hb
theorem px_rowI {a nn : Nat} {r r' : Nat → Int32} (h : ∀ i, i < nn → r i = r' i) (kk : px p l e R s m args below meth c nL E A H0 L (va_up f a (aI E nn r')) n k Q pc lv st) : px p l e R s m args below meth c nL E A H0 L (va_up f a (aI E nn r)) n k Q pc lv st := by
  refine px_cg (fun b _ H hb => ?_) kk
  by_cases q : b = a
  · subst q
    rw [va_up_self] at hb ⊢
    have h1 : H[b]? = some (arrV (E.2 0) nn (fun j => .int (r j))) := hb
    show H[b]? = some (arrV (E.2 0) nn (fun j => .int (r' j)))
    rw [h1, arrV_cg (fun i hi => by rw [h i hi])]
  · rw [va_up_ne _ _ q] at hb ⊢
    exact hb
end PXR

/-- Arrays.fill(long[], long) -/
theorem c_fillJ (l : Launch) (E : px_E) (L : List Nat) (f : Nat → va_E) (a nn : Nat) (r : Nat → Int64) (v : Int64) (hf : px_at L f a (aJ E nn r)) (hn : nn < 2 ^ 31) : px_M l yJ7_fill_d0a16 wsJ7_fill_d0a16 (px_rm 0 0) E L f [.ref a, .long v] (px_v L (fun f' => f' = va_up f a (aJ E nn (fun _ => v)))) := by
  refine px_M.of (cc := cJ7_fill_d0a16) (maxL := 5) (ret := none) (lv := [(0, .ref a), (1, .long v)]) (by decide) rfl (Nat.le_of_ble_eq_true rfl) rfl ?_
  intro p e s m below meth c A hC hnm
  obtain ⟨Q, hQ⟩ : ∃ Q, Q = MQ below (px_Q E (px_v L (fun f' => f' = va_up f a (aJ E nn (fun _ => v)))) A) [.ref a, .long v].toArray s (px_rm 0 0).cells (px_rm 0 0).slots A := ⟨_, rfl⟩
  rw [← hQ]
  have loop : ∀ (d i : Nat), i + d = nn → px p l e (px_rm 0 0) s m [.ref a, .long v].toArray below meth c 5 E A s.heap L (va_up f a (aJ E nn (fun j => if j < i then v else r j))) 0 0 Q 6 [(0, .ref a), (1, .long v), (3, .int (nI i)), (4, .int (nI nn))] [] := by
    intro d
    induction d with
    | zero =>
      intro i hi
      refine px_iload_n hC 2 rfl dJ7_fill_d0a16_6 ?_
      refine px_iload hC 3 rfl dJ7_fill_d0a16_7 ?_
      refine px_icmp_ge hC 22 dJ7_fill_d0a16_9 (by decide) (fun _ => ?_) (fun q9 => (q9 (nI_le (by omega) (by omega))).elim)
      refine px_rowJ (r' := fun _ => v) (fun j hj => if_pos (by omega)) ?_
      subst hQ
      exact px_vret hC rfl (⟨rfl, rfl, rfl⟩) dJ7_fill_d0a16_22
    | succ d ih =>
      intro i hi
      refine px_iload_n hC 2 rfl dJ7_fill_d0a16_6 ?_
      refine px_iload hC 3 rfl dJ7_fill_d0a16_7 ?_
      refine px_icmp_ge hC 22 dJ7_fill_d0a16_9 (by decide) (fun q9 => ((nI_ge (by omega) hn) q9).elim) (fun _ => ?_)
      refine px_aload_n hC 0 rfl dJ7_fill_d0a16_12 ?_
      refine px_iload_n hC 2 rfl dJ7_fill_d0a16_13 ?_
      refine px_lload_n hC 1 rfl dJ7_fill_d0a16_14 ?_
      refine px_last hC (hf.self) (by omega) (by first | decide | assumption | omega) dJ7_fill_d0a16_15 ?_
      refine px_iinc (v := nI (i + 1)) (lv' := [(0, .ref a), (1, .long v), (3, .int (nI (i + 1))), (4, .int (nI nn))]) hC 2 [1, 2, 0, 3] dJ7_fill_d0a16_16 rfl (nI_1 i) (by decide) rfl ?_
      refine px_goto hC 6 dJ7_fill_d0a16_19 (by decide) ?_
      rw [px_uu, show vp_updL (fun j => if j < i then v else r j) i v = (fun j => if j < i + 1 then v else r j) from by
        funext j
        by_cases q : j = i
        · simp [vp_updL, q]
        · by_cases q2 : j < i
          · simp [vp_updL, q, q2, show j < i + 1 by omega]
          · simp [vp_updL, q, q2, show ¬ j < i + 1 by omega]]
      exact ih (i + 1) (by omega)
  refine px_iconst (v := nI 0) hC (by decide) dJ7_fill_d0a16_0 ?_
  refine px_istore_n (lv' := [(0, .ref a), (1, .long v), (3, .int (nI 0))]) hC [1, 2, 0] dJ7_fill_d0a16_1 (by decide) rfl ?_
  refine px_aload_n hC 0 rfl dJ7_fill_d0a16_2 ?_
  refine px_alen (t0 := 1) hC hf rfl dJ7_fill_d0a16_3 ?_
  refine px_istore (lv' := [(0, .ref a), (1, .long v), (3, .int (nI 0)), (4, .int (nI nn))]) hC [1, 2, 3, 0] dJ7_fill_d0a16_4 (by decide) rfl ?_
  have h0 := loop nn 0 (by omega)
  rw [show (fun j => if j < 0 then v else r j) = r from by funext j; simp, px_us hf.2] at h0
  exact h0
/-- Arrays.fill(int[], int) -/
theorem c_fillI (l : Launch) (E : px_E) (L : List Nat) (f : Nat → va_E) (a nn : Nat) (r : Nat → Int32) (v : Int32) (hf : px_at L f a (aI E nn r)) (hn : nn < 2 ^ 31) : px_M l yJ7_fill_53178 wsJ7_fill_53178 (px_rm 0 0) E L f [.ref a, .int v] (px_v L (fun f' => f' = va_up f a (aI E nn (fun _ => v)))) := by
  refine px_M.of (cc := cJ7_fill_53178) (maxL := 4) (ret := none) (lv := [(0, .ref a), (1, .int v)]) (by decide) rfl (Nat.le_of_ble_eq_true rfl) rfl ?_
  intro p e s m below meth c A hC hnm
  obtain ⟨Q, hQ⟩ : ∃ Q, Q = MQ below (px_Q E (px_v L (fun f' => f' = va_up f a (aI E nn (fun _ => v)))) A) [.ref a, .int v].toArray s (px_rm 0 0).cells (px_rm 0 0).slots A := ⟨_, rfl⟩
  rw [← hQ]
  have loop : ∀ (d i : Nat), i + d = nn → px p l e (px_rm 0 0) s m [.ref a, .int v].toArray below meth c 4 E A s.heap L (va_up f a (aI E nn (fun j => if j < i then v else r j))) 0 0 Q 5 [(0, .ref a), (1, .int v), (2, .int (nI i)), (3, .int (nI nn))] [] := by
    intro d
    induction d with
    | zero =>
      intro i hi
      refine px_iload_n hC 2 rfl dJ7_fill_53178_5 ?_
      refine px_iload_n hC 3 rfl dJ7_fill_53178_6 ?_
      refine px_icmp_ge hC 20 dJ7_fill_53178_7 (by decide) (fun _ => ?_) (fun q9 => (q9 (nI_le (by omega) (by omega))).elim)
      refine px_rowI (r' := fun _ => v) (fun j hj => if_pos (by omega)) ?_
      subst hQ
      exact px_vret hC rfl (⟨rfl, rfl, rfl⟩) dJ7_fill_53178_20
    | succ d ih =>
      intro i hi
      refine px_iload_n hC 2 rfl dJ7_fill_53178_5 ?_
      refine px_iload_n hC 3 rfl dJ7_fill_53178_6 ?_
      refine px_icmp_ge hC 20 dJ7_fill_53178_7 (by decide) (fun q9 => ((nI_ge (by omega) hn) q9).elim) (fun _ => ?_)
      refine px_aload_n hC 0 rfl dJ7_fill_53178_10 ?_
      refine px_iload_n hC 2 rfl dJ7_fill_53178_11 ?_
      refine px_iload_n hC 1 rfl dJ7_fill_53178_12 ?_
      refine px_iast hC (hf.self) (by omega) (by first | decide | assumption | omega) dJ7_fill_53178_13 ?_
      refine px_iinc (v := nI (i + 1)) (lv' := [(0, .ref a), (1, .int v), (2, .int (nI (i + 1))), (3, .int (nI nn))]) hC 2 [1, 2, 0, 3] dJ7_fill_53178_14 rfl (nI_1 i) (by decide) rfl ?_
      refine px_goto hC 5 dJ7_fill_53178_17 (by decide) ?_
      rw [px_uu, show upd (fun j => if j < i then v else r j) i v = (fun j => if j < i + 1 then v else r j) from by
        funext j
        by_cases q : j = i
        · simp [upd, q]
        · by_cases q2 : j < i
          · simp [upd, q, q2, show j < i + 1 by omega]
          · simp [upd, q, q2, show ¬ j < i + 1 by omega]]
      exact ih (i + 1) (by omega)
  refine px_iconst (v := nI 0) hC (by decide) dJ7_fill_53178_0 ?_
  refine px_istore_n (lv' := [(0, .ref a), (1, .int v), (2, .int (nI 0))]) hC [1, 2, 0] dJ7_fill_53178_1 (by decide) rfl ?_
  refine px_aload_n hC 0 rfl dJ7_fill_53178_2 ?_
  refine px_alen (t0 := 0) hC hf rfl dJ7_fill_53178_3 ?_
  refine px_istore_n (lv' := [(0, .ref a), (1, .int v), (2, .int (nI 0)), (3, .int (nI nn))]) hC [1, 2, 3, 0] dJ7_fill_53178_4 (by decide) rfl ?_
  have h0 := loop nn 0 (by omega)
  rw [show (fun j => if j < 0 then v else r j) = r from by funext j; simp, px_us hf.2] at h0
  exact h0
/-- Arrays.rangeCheck, where nothing is wrong -/
theorem c_range (l : Launch) (E : px_E) (L : List Nat) (f : Nat → va_E) (nn a b : Nat) (h1 : a ≤ b) (h2 : b ≤ nn) (hn : nn < 2 ^ 31) : px_M l yJ7_rangeCheck_23922 wsJ7_rangeCheck_23922 (px_rm 0 0) E L f [.int (nI nn), .int (nI a), .int (nI b)] (px_v L (fun f' => f' = f)) := by
  refine px_M.of (cc := cJ7_rangeCheck_23922) (maxL := 3) (ret := none) (lv := [(0, .int (nI nn)), (1, .int (nI a)), (2, .int (nI b))]) (by decide) rfl (Nat.le_of_ble_eq_true rfl) rfl ?_
  intro p e s m below meth c A hC hnm
  obtain ⟨Q, hQ⟩ : ∃ Q, Q = MQ below (px_Q E (px_v L (fun f' => f' = f)) A) [.int (nI nn), .int (nI a), .int (nI b)].toArray s (px_rm 0 0).cells (px_rm 0 0).slots A := ⟨_, rfl⟩
  rw [← hQ]
  refine px_iload_n hC 1 rfl dJ7_rangeCheck_23922_0 ?_
  refine px_iload_n hC 2 rfl dJ7_rangeCheck_23922_1 ?_
  refine px_icmp_le hC 46 dJ7_rangeCheck_23922_2 (by decide) (fun _ => ?_) (fun q9 => (q9 (nI_le h1 (by omega))).elim)
  refine px_iload_n hC 1 rfl dJ7_rangeCheck_23922_46 ?_
  refine px_if_ge hC 59 dJ7_rangeCheck_23922_47 (by decide) (fun _ => ?_) (fun q9 => (q9 (nI_pos' (by omega))).elim)
  refine px_iload_n hC 2 rfl dJ7_rangeCheck_23922_59 ?_
  refine px_iload_n hC 0 rfl dJ7_rangeCheck_23922_60 ?_
  refine px_icmp_le hC 73 dJ7_rangeCheck_23922_61 (by decide) (fun _ => ?_) (fun q9 => (q9 (nI_le h2 hn)).elim)
  subst hQ
  exact px_vret hC rfl (⟨rfl, rfl, rfl⟩) dJ7_rangeCheck_23922_73
/-- Arrays.fill(long[], from, to, long) -/
theorem c_fillR (l : Launch) (E : px_E) (L : List Nat) (f : Nat → va_E) (a nn lo hi : Nat) (r : Nat → Int64) (v : Int64) (hf : px_at L f a (aJ E nn r)) (h1 : lo ≤ hi) (h2 : hi ≤ nn) (hn : nn < 2 ^ 31) : px_M l yJ7_fill_bad5a wsJ7_fill_bad5a (px_rm 1 22) E L f [.ref a, .int (nI lo), .int (nI hi), .long v] (px_v L (fun f' => f' = va_up f a (aJ E nn (fun j => if lo ≤ j ∧ j < hi then v else r j)))) := by
  refine px_M.of (cc := cJ7_fill_bad5a) (maxL := 6) (ret := none) (lv := [(0, .ref a), (1, .int (nI lo)), (2, .int (nI hi)), (3, .long v)]) (by decide) rfl (Nat.le_of_ble_eq_true rfl) rfl ?_
  intro p e s m below meth c A hC hnm
  obtain ⟨Q, hQ⟩ : ∃ Q, Q = MQ below (px_Q E (px_v L (fun f' => f' = va_up f a (aJ E nn (fun j => if lo ≤ j ∧ j < hi then v else r j)))) A) [.ref a, .int (nI lo), .int (nI hi), .long v].toArray s (px_rm 1 22).cells (px_rm 1 22).slots A := ⟨_, rfl⟩
  rw [← hQ]
  have loop : ∀ (d i : Nat), i + d = hi → lo ≤ i → px p l e (px_rm 1 22) s m [.ref a, .int (nI lo), .int (nI hi), .long v].toArray below meth c 6 E A s.heap L (va_up f a (aJ E nn (fun j => if lo ≤ j ∧ j < i then v else r j))) 0 0 Q 10 [(0, .ref a), (1, .int (nI lo)), (2, .int (nI hi)), (3, .long v), (5, .int (nI i))] [] := by
    intro d
    induction d with
    | zero =>
      intro i hi0 hlo
      refine px_iload hC 4 rfl dJ7_fill_bad5a_10 ?_
      refine px_iload_n hC 2 rfl dJ7_fill_bad5a_12 ?_
      refine px_icmp_ge hC 27 dJ7_fill_bad5a_13 (by decide) (fun _ => ?_) (fun q9 => (q9 (nI_le (by omega) (by omega))).elim)
      rw [show i = hi by omega]
      subst hQ
      exact px_vret hC rfl (⟨rfl, rfl, rfl⟩) dJ7_fill_bad5a_27
    | succ d ih =>
      intro i hi0 hlo
      refine px_iload hC 4 rfl dJ7_fill_bad5a_10 ?_
      refine px_iload_n hC 2 rfl dJ7_fill_bad5a_12 ?_
      refine px_icmp_ge hC 27 dJ7_fill_bad5a_13 (by decide) (fun q9 => ((nI_ge (by omega) (by omega)) q9).elim) (fun _ => ?_)
      refine px_aload_n hC 0 rfl dJ7_fill_bad5a_16 ?_
      refine px_iload hC 4 rfl dJ7_fill_bad5a_17 ?_
      refine px_lload_n hC 3 rfl dJ7_fill_bad5a_19 ?_
      refine px_last hC (hf.self) (by omega) (by first | decide | assumption | omega) dJ7_fill_bad5a_20 ?_
      refine px_iinc (v := nI (i + 1)) (lv' := [(0, .ref a), (1, .int (nI lo)), (2, .int (nI hi)), (3, .long v), (5, .int (nI (i + 1)))]) hC 4 [1, 2, 3, 4, 0] dJ7_fill_bad5a_21 rfl (nI_1 i) (by decide) rfl ?_
      refine px_goto hC 10 dJ7_fill_bad5a_24 (by decide) ?_
      rw [px_uu, show vp_updL (fun j => if lo ≤ j ∧ j < i then v else r j) i v = (fun j => if lo ≤ j ∧ j < i + 1 then v else r j) from by
        funext j
        by_cases q : j = i
        · simp [vp_updL, q, hlo]
        · by_cases q2 : j < i
          · simp [vp_updL, q, q2, show j < i + 1 by omega]
          · simp [vp_updL, q, q2, show ¬ j < i + 1 by omega]]
      exact ih (i + 1) (by omega) (by omega)
  refine px_aload_n hC 0 rfl dJ7_fill_bad5a_0 ?_
  refine px_alen (t0 := 1) hC hf rfl dJ7_fill_bad5a_1 ?_
  refine px_iload_n hC 1 rfl dJ7_fill_bad5a_2 ?_
  refine px_iload_n hC 2 rfl dJ7_fill_bad5a_3 ?_
  refine px_callSv (st := []) (nn := 3) hC (c_range l E L f nn lo hi h1 h2 hn) gJ7_fill_bad5a_J7_rangeCheck_23922 rfl (by decide +kernel) (by decide) (Nat.le_of_ble_eq_true rfl) (by decide) rfl rfl dJ7_fill_bad5a_4 (fun f1 hf1 => ?_)
  subst hf1
  refine px_iload_n hC 1 rfl dJ7_fill_bad5a_7 ?_
  refine px_istore (lv' := [(0, .ref a), (1, .int (nI lo)), (2, .int (nI hi)), (3, .long v), (5, .int (nI lo))]) hC [1, 2, 3, 4, 0] dJ7_fill_bad5a_8 (by decide) rfl ?_
  have h0 := loop (hi - lo) lo (by omega) (by omega)
  rw [show (fun j => if lo ≤ j ∧ j < lo then v else r j) = r from by funext j; rw [if_neg (by omega)], px_us hf.2] at h0
  exact h0
end
section
/-! ===== limbs: pure rows ===== -/
def dg (x : Nat → Nat) : Prop := ∀ i, i < 21 → x i < 4294967296
theorem dg_un {x : Nat → Nat} {j z : Nat} (h : dg x) (hz : z < 4294967296) : dg (un x j z) := by
  intro i hi
  by_cases q : i = j
  · subst q; rw [un_s]; exact hz
  · rw [un_n _ _ q]; exact h i hi
theorem ss_part {fac nv br : Nat} (h1 : fac < 4294967296) (h2 : nv < 4294967296) (h3 : br < 4294967296) : fac * nv + br < 2 ^ 64 := by
  have : fac * nv ≤ 4294967295 * 4294967295 := Nat.mul_le_mul (by omega) (by omega)
  omega
theorem ss_key {P yv : Nat} (h : P ≤ 4294967295 * 4294967295 + 4294967295) (h4 : yv < 4294967296) : (yv + 18446744073709551616 - P % 4294967296) % 18446744073709551616 % 4294967296 + P = yv + (P / 2 ^ 32 + (yv + 18446744073709551616 - P % 4294967296) % 18446744073709551616 / 2 ^ 63) * 4294967296 ∧ P / 2 ^ 32 + (yv + 18446744073709551616 - P % 4294967296) % 18446744073709551616 / 2 ^ 63 < 4294967296 := by
  omega
theorem ss_inv {B fac s i br z br' nv yv V T N : Nat} (hs : s ≤ i) (h0 : V + fac * B ^ s * N = T + br * B ^ i) (hz : z + (fac * nv + br) = yv + br' * B) : (V + z * B ^ i) + fac * B ^ s * (N + nv * B ^ (i - s)) = (T + yv * B ^ i) + br' * B ^ (i + 1) := by
  have e1 : B ^ s * B ^ (i - s) = B ^ i := by rw [← Nat.pow_add]; congr 1; omega
  have e2 : fac * B ^ s * (N + nv * B ^ (i - s)) = fac * B ^ s * N + fac * nv * B ^ i := by rw [← e1]; grind
  have e3 : br' * B ^ (i + 1) = (br' * B) * B ^ i := by rw [Nat.pow_succ]; grind
  have e4 : (z + (fac * nv + br)) * B ^ i = (yv + br' * B) * B ^ i := by rw [hz]
  rw [e2, e3]
  grind

theorem c_limbAt (l : Launch) (E : px_E) (L : List Nat) (f : Nat → va_E) (a i w : Nat) (x : Nat → Nat) (hf : px_at L f a (aJ E 21 (lw x))) (hw : w ≤ 21) (hi : i < 2 ^ 31) : px_M l yX1_limbAt wsX1_limbAt (px_rm 0 0) E L f [.ref a, .int (nI i), .int (nI w)] (px_l L (fun z f' => f' = f ∧ z = lN (if i < w then x i else 0))) := by
  refine px_M.of (cc := cX1_limbAt) (maxL := 3) (ret := (some .long)) (lv := [(0, .ref a), (1, .int (nI i)), (2, .int (nI w))]) (by decide) rfl (Nat.le_of_ble_eq_true rfl) rfl ?_
  intro p e s m below meth c A hC hnm
  obtain ⟨Q, hQ⟩ : ∃ Q, Q = MQ below (px_Q E (px_l L (fun z f' => f' = f ∧ z = lN (if i < w then x i else 0))) A) [.ref a, .int (nI i), .int (nI w)].toArray s (px_rm 0 0).cells (px_rm 0 0).slots A := ⟨_, rfl⟩
  rw [← hQ]
  refine px_iload_n hC 1 rfl dX1_limbAt_0 ?_
  refine px_iload_n hC 2 rfl dX1_limbAt_1 ?_
  by_cases h : i < w
  · refine px_icmp_ge hC 11 dX1_limbAt_2 (by decide) (fun q9 => ((nI_ge h (by omega)) q9).elim) (fun _ => ?_)
    refine px_aload_n hC 0 rfl dX1_limbAt_5 ?_
    refine px_iload_n hC 1 rfl dX1_limbAt_6 ?_
    refine px_lald hC hf (by omega) (by first | decide | assumption | omega) dX1_limbAt_7 ?_
    refine px_goto hC 12 dX1_limbAt_8 (by decide) ?_
    subst hQ
    exact px_lret hC rfl (⟨_, rfl, rfl, rfl, by rw [if_pos h]; rfl⟩) dX1_limbAt_12
  · refine px_icmp_ge hC 11 dX1_limbAt_2 (by decide) (fun _ => ?_) (fun q9 => (q9 (nI_le (by omega) (by omega))).elim)
    refine px_lconst (v := lN 0) hC (by decide) dX1_limbAt_11 ?_
    subst hQ
    exact px_lret hC rfl (⟨_, rfl, rfl, rfl, by rw [if_neg h]⟩) dX1_limbAt_12
theorem c_isZero (l : Launch) (E : px_E) (L : List Nat) (f : Nat → va_E) (a : Nat) (x : Nat → Nat) (hf : px_at L f a (aJ E 21 (lw x))) (hx : dg x) : px_M l yX1_isZero wsX1_isZero (px_rm 0 0) E L f [.ref a] (px_i L (fun z f' => f' = f ∧ ((z = nI 1 ∧ vl 4294967296 x 21 = 0) ∨ (z = nI 0 ∧ vl 4294967296 x 21 ≠ 0)))) := by
  refine px_M.of (cc := cX1_isZero) (maxL := 2) (ret := (some .boolean)) (lv := [(0, .ref a)]) (by decide) rfl (Nat.le_of_ble_eq_true rfl) rfl ?_
  intro p e s m below meth c A hC hnm
  obtain ⟨Q, hQ⟩ : ∃ Q, Q = MQ below (px_Q E (px_i L (fun z f' => f' = f ∧ ((z = nI 1 ∧ vl 4294967296 x 21 = 0) ∨ (z = nI 0 ∧ vl 4294967296 x 21 ≠ 0)))) A) [.ref a].toArray s (px_rm 0 0).cells (px_rm 0 0).slots A := ⟨_, rfl⟩
  rw [← hQ]
  have loop : ∀ (d i : Nat), i + d = 21 → vl 4294967296 x i = 0 → px p l e (px_rm 0 0) s m [.ref a].toArray below meth c 2 E A s.heap L (f) 0 0 Q 2 [(0, .ref a), (1, .int (nI i))] [] := by
    intro d
    induction d with
    | zero =>
      intro i hi h0
      refine px_iload_n hC 1 rfl dX1_isZero_2 ?_
      refine px_bipush (v := nI 21) hC (by decide) dX1_isZero_3 ?_
      refine px_icmp_ge hC 24 dX1_isZero_5 (by decide) (fun _ => ?_) (fun q9 => (q9 (nI_le (by omega) (by omega))).elim)
      refine px_iconst (v := nI 1) hC (by decide) dX1_isZero_24 ?_
      subst hQ
      exact px_zret hC rfl (by decide) (⟨_, rfl, rfl, rfl, Or.inl ⟨rfl, by rw [show 21 = i by omega]; exact h0⟩⟩) dX1_isZero_25
    | succ d ih =>
      intro i hi h0
      refine px_iload_n hC 1 rfl dX1_isZero_2 ?_
      refine px_bipush (v := nI 21) hC (by decide) dX1_isZero_3 ?_
      refine px_icmp_ge hC 24 dX1_isZero_5 (by decide) (fun q9 => ((nI_ge (by omega) (by omega)) q9).elim) (fun _ => ?_)
      refine px_aload_n hC 0 rfl dX1_isZero_8 ?_
      refine px_iload_n hC 1 rfl dX1_isZero_9 ?_
      refine px_lald hC hf (by omega) (by first | decide | assumption | omega) dX1_isZero_10 ?_
      refine px_lconst (v := lN 0) hC (by decide) dX1_isZero_11 ?_
      refine px_lcmp hC dX1_isZero_12 ?_
      by_cases h : x i = 0
      · refine px_if_eq hC 18 dX1_isZero_13 (by decide) (fun _ => ?_) (fun q9 => (q9 ((lz_c0 (by have := hx i (by omega); omega) (by omega)).mpr h)).elim)
        refine px_iinc (v := nI (i + 1)) (lv' := [(0, .ref a), (1, .int (nI (i + 1)))]) hC 1 [1, 0] dX1_isZero_18 rfl (nI_1 i) (by decide) rfl ?_
        refine px_goto hC 2 dX1_isZero_21 (by decide) ?_
        exact ih (i + 1) (by omega) (by show vl 4294967296 x i + x i * 4294967296 ^ i = 0; rw [h0, h]; omega)
      · refine px_if_eq hC 18 dX1_isZero_13 (by decide) (fun q9 => ((fun q => h ((lz_c0 (by have := hx i (by omega); omega) (by omega)).mp q)) q9).elim) (fun _ => ?_)
        refine px_iconst (v := nI 0) hC (by decide) dX1_isZero_16 ?_
        subst hQ
        exact px_zret hC rfl (by decide) (⟨_, rfl, rfl, rfl, Or.inr ⟨rfl, fun q => h (vl_z (by decide) q i (by omega))⟩⟩) dX1_isZero_17
  refine px_iconst (v := nI 0) hC (by decide) dX1_isZero_0 ?_
  refine px_istore_n (lv' := [(0, .ref a), (1, .int (nI 0))]) hC [1, 0] dX1_isZero_1 (by decide) rfl ?_
  exact loop 21 0 (by omega) rfl
theorem c_isNegAt (l : Launch) (E : px_E) (L : List Nat) (f : Nat → va_E) (a w : Nat) (x : Nat → Nat) (hf : px_at L f a (aJ E 21 (lw x))) (hx : dg x) (h1 : 1 ≤ w) (h2 : w ≤ 21) : px_M l yX1_isNegativeAt wsX1_isNegativeAt (px_rm 0 0) E L f [.ref a, .int (nI w)] (px_i L (fun z f' => f' = f ∧ ((z = nI 1 ∧ 2147483648 ≤ x (w - 1)) ∨ (z = nI 0 ∧ x (w - 1) < 2147483648)))) := by
  refine px_M.of (cc := cX1_isNegativeAt) (maxL := 2) (ret := (some .boolean)) (lv := [(0, .ref a), (1, .int (nI w))]) (by decide) rfl (Nat.le_of_ble_eq_true rfl) rfl ?_
  intro p e s m below meth c A hC hnm
  obtain ⟨Q, hQ⟩ : ∃ Q, Q = MQ below (px_Q E (px_i L (fun z f' => f' = f ∧ ((z = nI 1 ∧ 2147483648 ≤ x (w - 1)) ∨ (z = nI 0 ∧ x (w - 1) < 2147483648)))) A) [.ref a, .int (nI w)].toArray s (px_rm 0 0).cells (px_rm 0 0).slots A := ⟨_, rfl⟩
  rw [← hQ]
  have hb := hx (w - 1) (by omega)
  refine px_aload_n hC 0 rfl dX1_isNegativeAt_0 ?_
  refine px_iload_n hC 1 rfl dX1_isNegativeAt_1 ?_
  refine px_iconst (v := nI 1) hC (by decide) dX1_isNegativeAt_2 ?_
  refine px_isub hC dX1_isNegativeAt_3 ?_
  refine px_ei (y := nI (w - 1)) (pk_sub h1) ?_
  refine px_lald hC hf (by omega) (by first | decide | assumption | omega) dX1_isNegativeAt_4 ?_
  refine px_bipush (v := nI 31) hC (by decide) dX1_isNegativeAt_5 ?_
  refine px_lushr hC dX1_isNegativeAt_7 ?_
  refine px_el (y := lN (x (w - 1) / 2 ^ 31)) (wb_shr (n := x (w - 1)) (by omega) (by decide)) ?_
  refine px_lconst (v := lN 0) hC (by decide) dX1_isNegativeAt_8 ?_
  refine px_lcmp hC dX1_isNegativeAt_9 ?_
  by_cases h : x (w - 1) < 2147483648
  · refine px_if_eq hC 17 dX1_isNegativeAt_10 (by decide) (fun _ => ?_) (fun q9 => (q9 ((lz_c0 (by omega) (by omega)).mpr (by omega))).elim)
    refine px_iconst (v := nI 0) hC (by decide) dX1_isNegativeAt_17 ?_
    subst hQ
    exact px_zret hC rfl (by decide) (⟨_, rfl, rfl, rfl, Or.inr ⟨rfl, h⟩⟩) dX1_isNegativeAt_18
  · refine px_if_eq hC 17 dX1_isNegativeAt_10 (by decide) (fun q9 => ((fun q => h (by have := (lz_c0 (by omega) (by omega)).mp q; omega)) q9).elim) (fun _ => ?_)
    refine px_iconst (v := nI 1) hC (by decide) dX1_isNegativeAt_13 ?_
    refine px_goto hC 18 dX1_isNegativeAt_14 (by decide) ?_
    subst hQ
    exact px_zret hC rfl (by decide) (⟨_, rfl, rfl, rfl, Or.inl ⟨rfl, by omega⟩⟩) dX1_isNegativeAt_18
theorem c_isNeg (l : Launch) (E : px_E) (L : List Nat) (f : Nat → va_E) (a : Nat) (x : Nat → Nat) (hf : px_at L f a (aJ E 21 (lw x))) (hx : dg x) : px_M l yX1_isNegative wsX1_isNegative (px_rm 1 21) E L f [.ref a] (px_i L (fun z f' => f' = f ∧ ((z = nI 1 ∧ 2147483648 ≤ x 20) ∨ (z = nI 0 ∧ x 20 < 2147483648)))) := by
  refine px_M.of (cc := cX1_isNegative) (maxL := 1) (ret := (some .boolean)) (lv := [(0, .ref a)]) (by decide) rfl (Nat.le_of_ble_eq_true rfl) rfl ?_
  intro p e s m below meth c A hC hnm
  obtain ⟨Q, hQ⟩ : ∃ Q, Q = MQ below (px_Q E (px_i L (fun z f' => f' = f ∧ ((z = nI 1 ∧ 2147483648 ≤ x 20) ∨ (z = nI 0 ∧ x 20 < 2147483648)))) A) [.ref a].toArray s (px_rm 1 21).cells (px_rm 1 21).slots A := ⟨_, rfl⟩
  rw [← hQ]
  refine px_aload_n hC 0 rfl dX1_isNegative_0 ?_
  refine px_bipush (v := nI 21) hC (by decide) dX1_isNegative_1 ?_
  refine px_callSi (st := []) (nn := 2) hC (c_isNegAt l E L f a 21 x hf hx (by decide) (by decide)) gX1_isNegative_X1_isNegativeAt rfl (by decide +kernel) (by decide) (Nat.le_of_ble_eq_true rfl) (by decide) rfl rfl dX1_isNegative_3 (fun z f1 h => ?_)
  obtain ⟨rfl, h⟩ := h
  rcases h with ⟨rfl, h⟩ | ⟨rfl, h⟩
  · subst hQ
    exact px_zret hC rfl (by decide) (⟨_, rfl, rfl, rfl, Or.inl ⟨rfl, h⟩⟩) dX1_isNegative_6
  · subst hQ
    exact px_zret hC rfl (by decide) (⟨_, rfl, rfl, rfl, Or.inr ⟨rfl, h⟩⟩) dX1_isNegative_6
theorem c_copy (l : Launch) (E : px_E) (L : List Nat) (f : Nat → va_E) (a b : Nat) (x : Nat → Nat) (r : Nat → Int64) (hf : px_at L f a (aJ E 21 (lw x))) (hg : px_at L f b (aJ E 21 r)) : px_M l yX1_copy wsX1_copy (px_rm 1 30) E L f [.ref a, .ref b] (px_v L (fun f' => f' = va_up f b (aJ E 21 (lw x)))) := by
  refine px_M.of (cc := cX1_copy) (maxL := 2) (ret := none) (lv := [(0, .ref a), (1, .ref b)]) (by decide) rfl (Nat.le_of_ble_eq_true rfl) rfl ?_
  intro p e s m below meth c A hC hnm
  obtain ⟨Q, hQ⟩ : ∃ Q, Q = MQ below (px_Q E (px_v L (fun f' => f' = va_up f b (aJ E 21 (lw x)))) A) [.ref a, .ref b].toArray s (px_rm 1 30).cells (px_rm 1 30).slots A := ⟨_, rfl⟩
  rw [← hQ]
  refine px_aload_n hC 0 rfl dX1_copy_0 ?_
  refine px_iconst (v := nI 0) hC (by decide) dX1_copy_1 ?_
  refine px_aload_n hC 1 rfl dX1_copy_2 ?_
  refine px_iconst (v := nI 0) hC (by decide) dX1_copy_3 ?_
  refine px_bipush (v := nI 21) hC (by decide) dX1_copy_4 ?_
  refine px_copyl hC hf hg (by decide +kernel) (by decide +kernel) (by decide +kernel) (by decide +kernel) (by decide) (by decide) (by decide) (by decide) (by decide) (by decide +kernel) dX1_copy_6 ?_
  refine px_rowJ (r' := lw x) (fun i hi => by rw [pk_cpy_in (by omega) (by omega)]; congr 1; omega) ?_
  subst hQ
  exact px_vret hC rfl (⟨rfl, rfl, rfl⟩) dX1_copy_9
theorem c_subS (l : Launch) (E : px_E) (L : List Nat) (f : Nat → va_E) (t b st fac w : Nat) (tx nx : Nat → Nat) (hf : px_at L f t (aJ E 21 (lw tx))) (hg : px_at L f b (aJ E 21 (lw nx))) (hne : b ≠ t) (h1 : st ≤ w) (h2 : w ≤ 21) (hfac : fac < 4294967296) (ht : dg tx) (hn : dg nx) : px_M l yX1_subtractScaled wsX1_subtractScaled (px_rm 0 0) E L f [.ref t, .int (nI st), .long (lN fac), .ref b, .int (nI w)] (px_v L (fun f' => ∃ y, dg y ∧ (∀ i, i < st ∨ w ≤ i → y i = tx i) ∧ (∃ k, vl 4294967296 y w + fac * 4294967296 ^ st * vl 4294967296 nx (w - st) = vl 4294967296 tx w + k * 4294967296 ^ w) ∧ f' = va_up f t (aJ E 21 (lw y)))) := by
  refine px_M.of (cc := cX1_subtractScaled) (maxL := 13) (ret := none) (lv := [(0, .ref t), (1, .int (nI st)), (2, .long (lN fac)), (4, .ref b), (5, .int (nI w))]) (by decide) rfl (Nat.le_of_ble_eq_true rfl) rfl ?_
  intro p e s m below meth c A hC hnm
  obtain ⟨Q, hQ⟩ : ∃ Q, Q = MQ below (px_Q E (px_v L (fun f' => ∃ y, dg y ∧ (∀ i, i < st ∨ w ≤ i → y i = tx i) ∧ (∃ k, vl 4294967296 y w + fac * 4294967296 ^ st * vl 4294967296 nx (w - st) = vl 4294967296 tx w + k * 4294967296 ^ w) ∧ f' = va_up f t (aJ E 21 (lw y)))) A) [.ref t, .int (nI st), .long (lN fac), .ref b, .int (nI w)].toArray s (px_rm 0 0).cells (px_rm 0 0).slots A := ⟨_, rfl⟩
  rw [← hQ]
  have loop : ∀ (d i br : Nat) (y : Nat → Nat), i + d = w → st ≤ i → br < 4294967296 → dg y → (∀ j, j < st ∨ i ≤ j → y j = tx j) → vl 4294967296 y i + fac * 4294967296 ^ st * vl 4294967296 nx (i - st) = vl 4294967296 tx i + br * 4294967296 ^ i → px p l e (px_rm 0 0) s m [.ref t, .int (nI st), .long (lN fac), .ref b, .int (nI w)].toArray below meth c 13 E A s.heap L (va_up f t (aJ E 21 (lw y))) 0 0 Q 6 [(0, .ref t), (1, .int (nI st)), (2, .long (lN fac)), (4, .ref b), (5, .int (nI w)), (6, .long (lN br)), (8, .int (nI i))] [] := by
    intro d
    induction d with
    | zero =>
      intro i br y hi hst hbr hy hk hv
      refine px_iload hC 6 rfl dX1_subtractScaled_6 ?_
      refine px_iload hC 4 rfl dX1_subtractScaled_8 ?_
      refine px_icmp_ge hC 69 dX1_subtractScaled_10 (by decide) (fun _ => ?_) (fun q9 => (q9 (nI_le (by omega) (by omega))).elim)
      have e : i = w := by omega
      subst e
      subst hQ
      exact px_vret hC rfl (⟨rfl, rfl, y, hy, hk, ⟨br, hv⟩, rfl⟩) dX1_subtractScaled_69
    | succ d ih =>
      intro i br y hi hst hbr hy hk hv
      have hyi := hy i (by omega)
      have hni := hn (i - st) (by omega)
      have hp := ss_part hfac hni hbr
      have hpm : fac * nx (i - st) ≤ 4294967295 * 4294967295 := Nat.mul_le_mul (by omega) (by omega)
      have hkey := ss_key (P := fac * nx (i - st) + br) (yv := y i) (by omega) hyi
      refine px_iload hC 6 rfl dX1_subtractScaled_6 ?_
      refine px_iload hC 4 rfl dX1_subtractScaled_8 ?_
      refine px_icmp_ge hC 69 dX1_subtractScaled_10 (by decide) (fun q9 => ((nI_ge (by omega) (by omega)) q9).elim) (fun _ => ?_)
      refine px_lload_n hC 2 rfl dX1_subtractScaled_13 ?_
      refine px_aload hC 3 rfl dX1_subtractScaled_14 ?_
      refine px_iload hC 6 rfl dX1_subtractScaled_16 ?_
      refine px_iload_n hC 1 rfl dX1_subtractScaled_18 ?_
      refine px_isub hC dX1_subtractScaled_19 ?_
      refine px_ei (y := nI (i - st)) (pk_sub hst) ?_
      refine px_lald hC (hg.up hne) (by omega) (by first | decide | assumption | omega) dX1_subtractScaled_20 ?_
      refine px_lmul hC dX1_subtractScaled_21 ?_
      refine px_lload hC 5 rfl dX1_subtractScaled_22 ?_
      refine px_ladd hC dX1_subtractScaled_24 ?_
      refine px_el (y := lN (fac * nx (i - st) + br)) (by show lN fac * lN (nx (i - st)) + lN br = _; rw [lN_mul, lN_add]) ?_
      generalize hP : fac * nx (i - st) + br = P at hp hkey ⊢
      refine px_lstore (lv' := [(0, .ref t), (1, .int (nI st)), (2, .long (lN fac)), (4, .ref b), (5, .int (nI w)), (6, .long (lN br)), (8, .int (nI i)), (9, .long (lN (P)))]) hC [1, 2, 3, 4, 5, 6, 7, 0] dX1_subtractScaled_25 (by decide) rfl ?_
      refine px_aload_n hC 0 rfl dX1_subtractScaled_27 ?_
      refine px_iload hC 6 rfl dX1_subtractScaled_28 ?_
      refine px_lald hC hf.self (by omega) (by first | decide | assumption | omega) dX1_subtractScaled_30 ?_
      refine px_lload hC 7 rfl dX1_subtractScaled_31 ?_
      refine px_ldc2 (v := 4294967295) hC dX1_subtractScaled_33 (by decide +kernel) ?_
      refine px_el (y := lN 4294967295) (by decide) ?_
      refine px_land hC dX1_subtractScaled_36 ?_
      refine px_el (y := lN (P % 4294967296)) (wb_mask (k := 32) hp (by decide)) ?_
      refine px_lsub hC dX1_subtractScaled_37 ?_
      refine px_el (y := lN ((y i + 18446744073709551616 - P % 4294967296) % 18446744073709551616)) (by show lN (y i) - lN (P % 4294967296) = _; rw [lz_sub (by omega), wb_mod]) ?_
      generalize hR : (y i + 18446744073709551616 - P % 4294967296) % 18446744073709551616 = rst at hkey ⊢
      have hrst : rst < 2 ^ 64 := by omega
      refine px_lstore (lv' := [(0, .ref t), (1, .int (nI st)), (2, .long (lN fac)), (4, .ref b), (5, .int (nI w)), (6, .long (lN br)), (8, .int (nI i)), (9, .long (lN (P))), (11, .long (lN (rst)))]) hC [1, 2, 3, 4, 5, 6, 7, 8, 0] dX1_subtractScaled_38 (by decide) rfl ?_
      refine px_aload_n hC 0 rfl dX1_subtractScaled_40 ?_
      refine px_iload hC 6 rfl dX1_subtractScaled_41 ?_
      refine px_lload hC 8 rfl dX1_subtractScaled_43 ?_
      refine px_ldc2 (v := 4294967295) hC dX1_subtractScaled_45 (by decide +kernel) ?_
      refine px_el (y := lN 4294967295) (by decide) ?_
      refine px_land hC dX1_subtractScaled_48 ?_
      refine px_el (y := lN (rst % 4294967296)) (wb_mask (k := 32) hrst (by decide)) ?_
      refine px_last hC hf.self (by omega) (by first | decide | assumption | omega) dX1_subtractScaled_49 ?_
      rw [px_uu, lw_up]
      refine px_lload hC 7 rfl dX1_subtractScaled_50 ?_
      refine px_bipush (v := nI 32) hC (by decide) dX1_subtractScaled_52 ?_
      refine px_lushr hC dX1_subtractScaled_54 ?_
      refine px_el (y := lN (P / 2 ^ 32)) (wb_shr hp (by decide)) ?_
      refine px_lload hC 8 rfl dX1_subtractScaled_55 ?_
      refine px_bipush (v := nI 63) hC (by decide) dX1_subtractScaled_57 ?_
      refine px_lushr hC dX1_subtractScaled_59 ?_
      refine px_el (y := lN (rst / 2 ^ 63)) (wb_shr hrst (by decide)) ?_
      refine px_ladd hC dX1_subtractScaled_60 ?_
      refine px_el (y := lN (P / 2 ^ 32 + rst / 2 ^ 63)) (lN_add _ _) ?_
      refine px_lstore (lv' := [(0, .ref t), (1, .int (nI st)), (2, .long (lN fac)), (4, .ref b), (5, .int (nI w)), (6, .long (lN (P / 2 ^ 32 + rst / 2 ^ 63))), (8, .int (nI i)), (9, .long (lN (P))), (11, .long (lN (rst)))]) hC [1, 2, 3, 4, 5, 0, 6, 7, 8] dX1_subtractScaled_61 (by decide) rfl ?_
      refine px_iinc (v := nI (i + 1)) (lv' := [(0, .ref t), (1, .int (nI st)), (2, .long (lN fac)), (4, .ref b), (5, .int (nI w)), (6, .long (lN (P / 2 ^ 32 + rst / 2 ^ 63))), (8, .int (nI (i + 1))), (9, .long (lN (P))), (11, .long (lN (rst)))]) hC 6 [1, 2, 3, 4, 5, 6, 0, 7, 8] dX1_subtractScaled_63 rfl (nI_1 i) (by decide) rfl ?_
      refine px_goto hC 6 dX1_subtractScaled_66 (by decide) ?_
      refine px_lv (lv2 := [(0, .ref t), (1, .int (nI st)), (2, .long (lN fac)), (4, .ref b), (5, .int (nI w)), (6, .long (lN (P / 2 ^ 32 + rst / 2 ^ 63))), (8, .int (nI (i + 1)))]) [0, 1, 2, 3, 4, 5, 6] rfl ?_
      have hz : rst % 4294967296 < 4294967296 := Nat.mod_lt _ (by decide)
      refine ih (i + 1) _ (un y i (rst % 4294967296)) (by omega) (by omega) hkey.2 (dg_un hy hz) (fun j hj => ?_) ?_
      · rw [un_n _ _ (by omega)]
        exact hk j (by omega)
      · show vl 4294967296 (un y i (rst % 4294967296)) i + un y i (rst % 4294967296) i * 4294967296 ^ i + fac * 4294967296 ^ st * vl 4294967296 nx (i + 1 - st) = vl 4294967296 tx i + tx i * 4294967296 ^ i + _
        rw [vl_ug (Nat.le_refl i), un_s, show i + 1 - st = (i - st) + 1 by omega, ← hk i (Or.inr (Nat.le_refl i))]
        exact ss_inv hst hv (by rw [hP]; exact hkey.1)
  refine px_lconst (v := lN 0) hC (by decide) dX1_subtractScaled_0 ?_
  refine px_lstore (lv' := [(0, .ref t), (1, .int (nI st)), (2, .long (lN fac)), (4, .ref b), (5, .int (nI w)), (6, .long (lN 0))]) hC [1, 2, 3, 4, 5, 0] dX1_subtractScaled_1 (by decide) rfl ?_
  refine px_iload_n hC 1 rfl dX1_subtractScaled_3 ?_
  refine px_istore (lv' := [(0, .ref t), (1, .int (nI st)), (2, .long (lN fac)), (4, .ref b), (5, .int (nI w)), (6, .long (lN 0)), (8, .int (nI st))]) hC [1, 2, 3, 4, 5, 6, 0] dX1_subtractScaled_4 (by decide) rfl ?_
  have h0 := loop (w - st) st 0 tx (by omega) (Nat.le_refl st) (by decide) ht (fun j _ => rfl) (by rw [Nat.sub_self]; simp [vl])
  rw [px_us hf.2] at h0
  exact h0
end
section

/-! ===== digits, shifts, odd parts ===== -/
theorem vl_dig (B Y n : Nat) : vl B (fun i => Y / B ^ i % B) n = Y % B ^ n := by
  induction n with
  | zero => simp [vl, Nat.mod_one]
  | succ n ih =>
    show vl B (fun i => Y / B ^ i % B) n + Y / B ^ n % B * B ^ n = Y % B ^ (n + 1)
    rw [ih, Nat.mod_pow_succ, Nat.mul_comm (B ^ n)]
theorem vl_div {B : Nat} {x : Nat → Nat} {w j : Nat} (h : ∀ i, i < w → x i < B) (hj : j ≤ w) : vl B x w / B ^ j = vl B (fun i => x (j + i)) (w - j) := by
  have hB : 0 < B ^ j := by
    rcases Nat.eq_zero_or_pos B with q | q
    · rcases Nat.eq_zero_or_pos j with q2 | q2
      · subst q2; simp
      · have := h 0 (by omega); omega
    · exact Nat.pow_pos q
  have h1 : vl B x w = vl B x j + B ^ j * vl B (fun i => x (j + i)) (w - j) := by
    rw [← vl_a, show j + (w - j) = w by omega]
  have h2 := vl_lt (B := B) (x := x) (n := j) (fun i hi => h i (by omega))
  rw [h1, Nat.add_mul_div_left _ _ hB, Nat.div_eq_of_lt h2, Nat.zero_add]
theorem vl_s1 (B : Nat) (x : Nat → Nat) (n : Nat) : vl B x (n + 1) = x 0 + B * vl B (fun i => x (1 + i)) n := by
  rw [show n + 1 = 1 + n by omega, vl_a]
  simp [vl]
theorem vl_digit {B : Nat} {x : Nat → Nat} {w j : Nat} (h : ∀ i, i < w → x i < B) : vl B x w / B ^ j % B = if j < w then x j else 0 := by
  by_cases hj : j < w
  · rw [if_pos hj, vl_div h (by omega), show w - j = (w - j - 1) + 1 by omega, vl_s1, Nat.add_mul_mod_self_left]
    exact Nat.mod_eq_of_lt (h j hj)
  · rw [if_neg hj]
    have h1 := vl_lt h
    rcases Nat.eq_zero_or_pos B with q | q
    · subst q
      cases w with
      | zero => simp [vl]
      | succ w => have := h 0 (by omega); omega
    · have h2 : B ^ w ≤ B ^ j := Nat.pow_le_pow_right q (by omega)
      rw [Nat.div_eq_of_lt (by omega), Nat.zero_mod]
theorem sh_dig {Z lo hi part : Nat} (h : part < 32) (h1 : Z % 4294967296 = lo) (h2 : Z / 4294967296 % 4294967296 = hi) : Z / 2 ^ part % 4294967296 = (hi * 4294967296 + lo) / 2 ^ part % 4294967296 := by
  have e : 2 ^ part * 2 ^ (32 - part) = 4294967296 := by rw [← Nat.pow_add, show part + (32 - part) = 32 by omega]
  have hp : 0 < 2 ^ part := Nat.pow_pos (by decide)
  generalize 2 ^ part = M at e hp ⊢
  generalize 2 ^ (32 - part) = K at e
  have hz : Z = (hi * 4294967296 + lo) + M * (4294967296 * (K * (Z / 4294967296 / 4294967296))) := by
    have a1 : Z = 4294967296 * (Z / 4294967296) + Z % 4294967296 := (Nat.div_add_mod Z 4294967296).symm
    have a2 : Z / 4294967296 = 4294967296 * (Z / 4294967296 / 4294967296) + Z / 4294967296 % 4294967296 := (Nat.div_add_mod (Z / 4294967296) 4294967296).symm
    have a3 : M * (4294967296 * (K * (Z / 4294967296 / 4294967296))) = (M * K) * (4294967296 * (Z / 4294967296 / 4294967296)) := by
      rw [Nat.mul_assoc M K, Nat.mul_left_comm K]
    rw [a3, e]
    omega
  rw [show Z / M = ((hi * 4294967296 + lo) + M * (4294967296 * (K * (Z / 4294967296 / 4294967296)))) / M from by rw [← hz], Nat.add_mul_div_left _ _ hp, Nat.add_mul_mod_self_left]
/-- the digits of a number shifted right -/
theorem sh_row {x y : Nat → Nat} {w q part bits : Nat} (hx : ∀ i, i < w → x i < 4294967296) (hp : part < 32) (hb : bits = q * 32 + part) (hy : ∀ i, i < w → y i = ((if i + q + 1 < w then x (i + q + 1) else 0) * 4294967296 + (if i + q < w then x (i + q) else 0)) / 2 ^ part % 4294967296) : vl 4294967296 y w = vl 4294967296 x w / 2 ^ bits := by
  have h1 : vl 4294967296 y w = vl 4294967296 (fun i => (vl 4294967296 x w / 2 ^ bits) / 4294967296 ^ i % 4294967296) w := by
    apply vl_c
    intro i hi
    rw [hy i hi]
    have e1 : vl 4294967296 x w / 2 ^ bits / 4294967296 ^ i = vl 4294967296 x w / 4294967296 ^ (i + q) / 2 ^ part := by
      rw [Nat.div_div_eq_div_mul, Nat.div_div_eq_div_mul, hb]
      congr 1
      rw [Nat.pow_add, Nat.pow_add, show q * 32 = 32 * q by omega, Nat.pow_mul, show (2 : Nat) ^ 32 = 4294967296 from rfl]
      rw [Nat.mul_assoc, Nat.mul_comm (2 ^ part), ← Nat.mul_assoc, Nat.mul_comm (4294967296 ^ q)]
    rw [e1]
    symm
    apply sh_dig hp
    · rw [vl_digit hx]
    · rw [Nat.div_div_eq_div_mul, ← Nat.pow_succ, vl_digit hx]
  have h2 := vl_lt hx
  rw [h1, vl_dig]
  exact Nat.mod_eq_of_lt (Nat.lt_of_le_of_lt (Nat.div_le_self _ _) h2)
theorem od_of (n : Nat) (h : n ≠ 0) : ∃ t o, n = 2 ^ t * (2 * o + 1) := by
  induction n using Nat.strongRecOn with
  | _ n ih =>
    by_cases q : n % 2 = 1
    · exact ⟨0, n / 2, by rw [Nat.pow_zero]; omega⟩
    · obtain ⟨t, o, e⟩ := ih (n / 2) (by omega) (by omega)
      refine ⟨t + 1, o, ?_⟩
      rw [Nat.pow_succ, Nat.mul_comm (2 ^ t) 2, Nat.mul_assoc, ← e]
      omega
theorem od_lt {n t o b : Nat} (h : n = 2 ^ t * (2 * o + 1)) (hb : n < 2 ^ b) : t < b := by
  have h1 : 2 ^ t * 1 ≤ n := by rw [h]; exact Nat.mul_le_mul_left _ (by omega)
  exact (Nat.pow_lt_pow_iff_right (by decide : 1 < 2)).mp (by omega)
theorem tz_bits {n t o : Nat} (h : n = 2 ^ t * (2 * o + 1)) (hn : n < 2 ^ 32) : (lN n ^^^ (-1)) &&& (lN n - lN 1) = lN (2 ^ t - 1) := by
  have ht : t < 32 := od_lt h hn
  have hp : 0 < 2 ^ t := Nat.pow_pos (by decide)
  have hn0 : 0 < n := by rw [h]; exact Nat.mul_pos hp (by omega)
  have e1 : n = 2 ^ (t + 1) * o + 2 ^ t := by rw [h, Nat.pow_succ]; grind
  have e2 : n - 1 = 2 ^ (t + 1) * o + (2 ^ t - 1) := by omega
  have l1 : 2 ^ t < 2 ^ (t + 1) := by rw [Nat.pow_succ]; omega
  rw [lN_sub (by omega : 1 ≤ n)]
  apply wb_inj
  rw [Int64.toBitVec_and, Int64.toBitVec_xor, wb_tb, wb_tb, wb_tb]
  apply BitVec.eq_of_getLsbD_eq
  intro i hi
  rw [BitVec.getLsbD_and, BitVec.getLsbD_xor, BitVec.getLsbD_ofNat, BitVec.getLsbD_ofNat, BitVec.getLsbD_ofNat, show ((-1 : Int64)).toBitVec = BitVec.allOnes 64 from by decide, BitVec.getLsbD_allOnes, e2, Nat.testBit_two_pow_sub_one]
  rw [Nat.testBit_two_pow_mul_add o (by omega : 2 ^ t - 1 < 2 ^ (t + 1)) i]
  have e3 : n.testBit i = if i < t + 1 then (2 ^ t).testBit i else o.testBit (i - (t + 1)) := by
    rw [show n.testBit i = (2 ^ (t + 1) * o + 2 ^ t).testBit i from by rw [← e1], Nat.testBit_two_pow_mul_add o l1 i]
  rw [e3, Nat.testBit_two_pow_sub_one, Nat.testBit_two_pow]
  simp only [hi, decide_true, Bool.true_and, Bool.xor_true]
  by_cases q : i < t
  · simp [q, show i < t + 1 by omega, show ¬ t = i by omega]
  · by_cases q2 : i = t
    · subst q2; simp
    · simp [show ¬ i < t + 1 by omega, q]
theorem tz_val {x : Nat → Nat} {i t o : Nat} (h0 : vl 4294967296 x i = 0) (hi : i < 21) (h : x i = 2 ^ t * (2 * o + 1)) (hn : x i < 4294967296) : i * 32 + t < 672 ∧ ∃ o', vl 4294967296 x 21 = 2 ^ (i * 32 + t) * (2 * o' + 1) := by
  have ht : t < 32 := od_lt h hn
  refine ⟨by omega, o + 2 ^ (31 - t) * vl 4294967296 (fun j => x (i + (1 + j))) (20 - i), ?_⟩
  have e1 : vl 4294967296 x 21 = vl 4294967296 x i + 4294967296 ^ i * vl 4294967296 (fun j => x (i + j)) (21 - i) := by rw [← vl_a, show i + (21 - i) = 21 by omega]
  rw [e1, h0, show 21 - i = (20 - i) + 1 by omega, vl_s1, Nat.pow_add, show i * 32 = 32 * i by omega, Nat.pow_mul, show (2 : Nat) ^ 32 = 4294967296 from rfl]
  have e2 : x (i + 0) = 2 ^ t * (2 * o + 1) := h
  have e3 : 2 ^ t * (2 * 2 ^ (31 - t)) = 4294967296 := by rw [Nat.mul_comm 2, ← Nat.pow_succ, ← Nat.pow_add, show t + (31 - t).succ = 32 by omega]
  rw [e2]
  generalize vl 4294967296 (fun j => x (i + (1 + j))) (20 - i) = V
  have e4 : 2 ^ t * (2 * (o + 2 ^ (31 - t) * V) + 1) = 2 ^ t * (2 * o + 1) + 2 ^ t * (2 * 2 ^ (31 - t)) * V := by grind
  rw [Nat.mul_assoc, e4, e3]
  omega
/-- the inverse of an odd number, a turn more -/
theorem iv_step {o i M : Int} {i' : Int} (h : ∃ k, o * i = 1 + k * M) (hi : ∃ k, i' = i * (2 - o * i) + k * (M * M)) : ∃ k, o * i' = 1 + k * (M * M) := by
  obtain ⟨a, ha⟩ := h
  obtain ⟨b, hb⟩ := hi
  refine ⟨o * b - a * a, ?_⟩
  have : o * i' = (o * i) * (2 - o * i) + o * b * (M * M) := by rw [hb]; grind
  rw [this, ha]
  grind
theorem iv_low {o i : Int} {M N : Int} (h : ∃ k, i = o + k * (M * N)) : ∃ k, i = o + k * M := by
  obtain ⟨k, hk⟩ := h
  exact ⟨k * N, by rw [hk]; grind⟩
theorem iv_8 {o : Nat} (h : o % 2 = 1) : ∃ k : Int, (o : Int) * o = 1 + k * 8 := by
  have h1 : ∃ a, o = 2 * a + 1 := ⟨o / 2, by omega⟩
  obtain ⟨a, rfl⟩ := h1
  have h2 : ∃ b : Int, (a : Int) * (a + 1) = 2 * b := by
    rcases Nat.mod_two_eq_zero_or_one a with q | q
    · exact ⟨(a / 2 : Nat) * (a + 1), by have : (a : Int) = 2 * (a / 2 : Nat) := by omega
                                         grind⟩
    · exact ⟨a * ((a + 1) / 2 : Nat), by have : (a : Int) + 1 = 2 * ((a + 1) / 2 : Nat) := by omega
                                         grind⟩
  obtain ⟨b, hb⟩ := h2
  exact ⟨b, by push_cast; grind⟩
theorem vl_sp (B : Nat) (x : Nat → Nat) {n i : Nat} (h : i < n) : vl B x n = vl B x i + B ^ i * (x i + B * vl B (fun j => x (i + (1 + j))) (n - i - 1)) := by
  rw [show n = i + ((n - i - 1) + 1) by omega, vl_a, vl_s1]
  rw [show i + (n - i - 1 + 1) - i - 1 = n - i - 1 by omega]
  rfl
/-- the limb that a digit of the quotient clears -/
theorem dv_zero {B : Nat} {y y' d : Nat → Nat} {w i g k e : Nat} (hi : i < w) (hB : 0 < B) (hk : ∀ j, j < i → y' j = y j) (hy : y' i < B) (hs : vl B y' w + g * B ^ i * vl B d (w - i) = vl B y w + k * B ^ w) (hg : g * d 0 = y i + B * e) : y' i = 0 := by
  have hp : 0 < B ^ i := Nat.pow_pos hB
  rw [vl_sp B y' hi, vl_sp B y hi, vl_c hk, show w - i = (w - i - 1) + 1 by omega, vl_s1, show B ^ w = B ^ i * (B * B ^ (w - i - 1)) from by rw [← Nat.pow_succ', ← Nat.pow_add]; congr 1; omega] at hs
  generalize vl B y i = V at hs
  generalize vl B (fun j => y' (i + (1 + j))) (w - i - 1 + 1 - 1) = u' at hs
  generalize vl B (fun j => y (i + (1 + j))) (w - i - 1 + 1 - 1) = u at hs
  generalize vl B (fun j => d (1 + j)) (w - i - 1) = v at hs
  generalize B ^ (w - i - 1) = T at hs
  have h1 : B ^ i * (y' i + B * (u' + e + g * v)) = B ^ i * (B * (u + k * T)) := by
    have h2 : B ^ i * (y' i + B * u') + g * B ^ i * (d 0 + B * v) = B ^ i * (y i + B * u) + k * (B ^ i * (B * T)) := by omega
    have h3 : g * B ^ i * (d 0 + B * v) = B ^ i * (g * d 0) + B ^ i * (B * (g * v)) := by grind
    rw [h3, hg] at h2
    grind
  have h4 := Nat.eq_of_mul_eq_mul_left hp h1
  have h5 : (y' i + B * (u' + e + g * v)) % B = 0 := by rw [h4, Nat.mul_mod_right]
  rw [Nat.add_mul_mod_self_left, Nat.mod_eq_of_lt hy] at h5
  exact h5
theorem dv_step {X V D Dl Yw Y' Bw g dgt r b k : Int} (h0 : X = V * D + (Yw - V) + k * Bw) (hs : Y' + g * Dl = Yw + b * Bw) (hD : g * D = g * Dl + dgt * r * Bw) : X = (V + g) * D + ((Y' + g) - (V + g)) + (k - dgt * r - b) * Bw := by
  grind
end
section
theorem bc_all : ∀ t, t < 33 → nI t = nI t := fun _ _ => rfl

theorem c_bitC (l : Launch) (E : px_E) (L : List Nat) (f : Nat → va_E) (t : Nat) (ht : t < 33) : px_M l yJ13_bitCount_95d88 wsJ13_bitCount_95d88 (px_rm 0 0) E L f [.long (lN (2 ^ t - 1))] (px_i L (fun z f' => f' = f ∧ z = nI t)) := by
  refine px_M.of (cc := cJ13_bitCount_95d88) (maxL := 2) (ret := (some .int)) (lv := [(0, .long (lN (2 ^ t - 1)))]) (by decide) rfl (Nat.le_of_ble_eq_true rfl) rfl ?_
  intro p e s m below meth c A hC hnm
  obtain ⟨Q, hQ⟩ : ∃ Q, Q = MQ below (px_Q E (px_i L (fun z f' => f' = f ∧ z = nI t)) A) [.long (lN (2 ^ t - 1))].toArray s (px_rm 0 0).cells (px_rm 0 0).slots A := ⟨_, rfl⟩
  rw [← hQ]
  refine px_lload_n hC 0 rfl dJ13_bitCount_95d88_0 ?_
  refine px_lload_n hC 0 rfl dJ13_bitCount_95d88_1 ?_
  refine px_iconst (v := nI 1) hC (by decide) dJ13_bitCount_95d88_2 ?_
  refine px_lushr hC dJ13_bitCount_95d88_3 ?_
  refine px_ldc2 (v := 6148914691236517205) hC dJ13_bitCount_95d88_4 (by decide +kernel) ?_
  refine px_el (y := lN 6148914691236517205) (by decide) ?_
  refine px_land hC dJ13_bitCount_95d88_7 ?_
  refine px_lsub hC dJ13_bitCount_95d88_8 ?_
  refine px_lstore_n (lv' := [(0, .long ((lN (2 ^ t - 1)) - (((lN (2 ^ t - 1)).toUInt64 >>> ((nI 1).toInt64.toUInt64 &&& Int64.toUInt64 63)).toInt64 &&& lN 6148914691236517205)))]) hC [0] dJ13_bitCount_95d88_9 (by decide) rfl ?_
  refine px_lload_n hC 0 rfl dJ13_bitCount_95d88_10 ?_
  refine px_ldc2 (v := 3689348814741910323) hC dJ13_bitCount_95d88_11 (by decide +kernel) ?_
  refine px_el (y := lN 3689348814741910323) (by decide) ?_
  refine px_land hC dJ13_bitCount_95d88_14 ?_
  refine px_lload_n hC 0 rfl dJ13_bitCount_95d88_15 ?_
  refine px_iconst (v := nI 2) hC (by decide) dJ13_bitCount_95d88_16 ?_
  refine px_lushr hC dJ13_bitCount_95d88_17 ?_
  refine px_ldc2 (v := 3689348814741910323) hC dJ13_bitCount_95d88_18 (by decide +kernel) ?_
  refine px_el (y := lN 3689348814741910323) (by decide) ?_
  refine px_land hC dJ13_bitCount_95d88_21 ?_
  refine px_ladd hC dJ13_bitCount_95d88_22 ?_
  refine px_lstore_n (lv' := [(0, .long ((((lN (2 ^ t - 1)) - (((lN (2 ^ t - 1)).toUInt64 >>> ((nI 1).toInt64.toUInt64 &&& Int64.toUInt64 63)).toInt64 &&& lN 6148914691236517205)) &&& lN 3689348814741910323) + ((((lN (2 ^ t - 1)) - (((lN (2 ^ t - 1)).toUInt64 >>> ((nI 1).toInt64.toUInt64 &&& Int64.toUInt64 63)).toInt64 &&& lN 6148914691236517205)).toUInt64 >>> ((nI 2).toInt64.toUInt64 &&& Int64.toUInt64 63)).toInt64 &&& lN 3689348814741910323)))]) hC [0] dJ13_bitCount_95d88_23 (by decide) rfl ?_
  refine px_lload_n hC 0 rfl dJ13_bitCount_95d88_24 ?_
  refine px_lload_n hC 0 rfl dJ13_bitCount_95d88_25 ?_
  refine px_iconst (v := nI 4) hC (by decide) dJ13_bitCount_95d88_26 ?_
  refine px_lushr hC dJ13_bitCount_95d88_27 ?_
  refine px_ladd hC dJ13_bitCount_95d88_28 ?_
  refine px_ldc2 (v := 1085102592571150095) hC dJ13_bitCount_95d88_29 (by decide +kernel) ?_
  refine px_el (y := lN 1085102592571150095) (by decide) ?_
  refine px_land hC dJ13_bitCount_95d88_32 ?_
  refine px_lstore_n (lv' := [(0, .long ((((((lN (2 ^ t - 1)) - (((lN (2 ^ t - 1)).toUInt64 >>> ((nI 1).toInt64.toUInt64 &&& Int64.toUInt64 63)).toInt64 &&& lN 6148914691236517205)) &&& lN 3689348814741910323) + ((((lN (2 ^ t - 1)) - (((lN (2 ^ t - 1)).toUInt64 >>> ((nI 1).toInt64.toUInt64 &&& Int64.toUInt64 63)).toInt64 &&& lN 6148914691236517205)).toUInt64 >>> ((nI 2).toInt64.toUInt64 &&& Int64.toUInt64 63)).toInt64 &&& lN 3689348814741910323)) + (((((lN (2 ^ t - 1)) - (((lN (2 ^ t - 1)).toUInt64 >>> ((nI 1).toInt64.toUInt64 &&& Int64.toUInt64 63)).toInt64 &&& lN 6148914691236517205)) &&& lN 3689348814741910323) + ((((lN (2 ^ t - 1)) - (((lN (2 ^ t - 1)).toUInt64 >>> ((nI 1).toInt64.toUInt64 &&& Int64.toUInt64 63)).toInt64 &&& lN 6148914691236517205)).toUInt64 >>> ((nI 2).toInt64.toUInt64 &&& Int64.toUInt64 63)).toInt64 &&& lN 3689348814741910323)).toUInt64 >>> ((nI 4).toInt64.toUInt64 &&& Int64.toUInt64 63)).toInt64) &&& lN 1085102592571150095))]) hC [0] dJ13_bitCount_95d88_33 (by decide) rfl ?_
  refine px_lload_n hC 0 rfl dJ13_bitCount_95d88_34 ?_
  refine px_lload_n hC 0 rfl dJ13_bitCount_95d88_35 ?_
  refine px_bipush (v := nI 8) hC (by decide) dJ13_bitCount_95d88_36 ?_
  refine px_lushr hC dJ13_bitCount_95d88_38 ?_
  refine px_ladd hC dJ13_bitCount_95d88_39 ?_
  refine px_lstore_n (lv' := [(0, .long (((((((lN (2 ^ t - 1)) - (((lN (2 ^ t - 1)).toUInt64 >>> ((nI 1).toInt64.toUInt64 &&& Int64.toUInt64 63)).toInt64 &&& lN 6148914691236517205)) &&& lN 3689348814741910323) + ((((lN (2 ^ t - 1)) - (((lN (2 ^ t - 1)).toUInt64 >>> ((nI 1).toInt64.toUInt64 &&& Int64.toUInt64 63)).toInt64 &&& lN 6148914691236517205)).toUInt64 >>> ((nI 2).toInt64.toUInt64 &&& Int64.toUInt64 63)).toInt64 &&& lN 3689348814741910323)) + (((((lN (2 ^ t - 1)) - (((lN (2 ^ t - 1)).toUInt64 >>> ((nI 1).toInt64.toUInt64 &&& Int64.toUInt64 63)).toInt64 &&& lN 6148914691236517205)) &&& lN 3689348814741910323) + ((((lN (2 ^ t - 1)) - (((lN (2 ^ t - 1)).toUInt64 >>> ((nI 1).toInt64.toUInt64 &&& Int64.toUInt64 63)).toInt64 &&& lN 6148914691236517205)).toUInt64 >>> ((nI 2).toInt64.toUInt64 &&& Int64.toUInt64 63)).toInt64 &&& lN 3689348814741910323)).toUInt64 >>> ((nI 4).toInt64.toUInt64 &&& Int64.toUInt64 63)).toInt64) &&& lN 1085102592571150095) + (((((((lN (2 ^ t - 1)) - (((lN (2 ^ t - 1)).toUInt64 >>> ((nI 1).toInt64.toUInt64 &&& Int64.toUInt64 63)).toInt64 &&& lN 6148914691236517205)) &&& lN 3689348814741910323) + ((((lN (2 ^ t - 1)) - (((lN (2 ^ t - 1)).toUInt64 >>> ((nI 1).toInt64.toUInt64 &&& Int64.toUInt64 63)).toInt64 &&& lN 6148914691236517205)).toUInt64 >>> ((nI 2).toInt64.toUInt64 &&& Int64.toUInt64 63)).toInt64 &&& lN 3689348814741910323)) + (((((lN (2 ^ t - 1)) - (((lN (2 ^ t - 1)).toUInt64 >>> ((nI 1).toInt64.toUInt64 &&& Int64.toUInt64 63)).toInt64 &&& lN 6148914691236517205)) &&& lN 3689348814741910323) + ((((lN (2 ^ t - 1)) - (((lN (2 ^ t - 1)).toUInt64 >>> ((nI 1).toInt64.toUInt64 &&& Int64.toUInt64 63)).toInt64 &&& lN 6148914691236517205)).toUInt64 >>> ((nI 2).toInt64.toUInt64 &&& Int64.toUInt64 63)).toInt64 &&& lN 3689348814741910323)).toUInt64 >>> ((nI 4).toInt64.toUInt64 &&& Int64.toUInt64 63)).toInt64) &&& lN 1085102592571150095).toUInt64 >>> ((nI 8).toInt64.toUInt64 &&& Int64.toUInt64 63)).toInt64))]) hC [0] dJ13_bitCount_95d88_40 (by decide) rfl ?_
  refine px_lload_n hC 0 rfl dJ13_bitCount_95d88_41 ?_
  refine px_lload_n hC 0 rfl dJ13_bitCount_95d88_42 ?_
  refine px_bipush (v := nI 16) hC (by decide) dJ13_bitCount_95d88_43 ?_
  refine px_lushr hC dJ13_bitCount_95d88_45 ?_
  refine px_ladd hC dJ13_bitCount_95d88_46 ?_
  refine px_lstore_n (lv' := [(0, .long ((((((((lN (2 ^ t - 1)) - (((lN (2 ^ t - 1)).toUInt64 >>> ((nI 1).toInt64.toUInt64 &&& Int64.toUInt64 63)).toInt64 &&& lN 6148914691236517205)) &&& lN 3689348814741910323) + ((((lN (2 ^ t - 1)) - (((lN (2 ^ t - 1)).toUInt64 >>> ((nI 1).toInt64.toUInt64 &&& Int64.toUInt64 63)).toInt64 &&& lN 6148914691236517205)).toUInt64 >>> ((nI 2).toInt64.toUInt64 &&& Int64.toUInt64 63)).toInt64 &&& lN 3689348814741910323)) + (((((lN (2 ^ t - 1)) - (((lN (2 ^ t - 1)).toUInt64 >>> ((nI 1).toInt64.toUInt64 &&& Int64.toUInt64 63)).toInt64 &&& lN 6148914691236517205)) &&& lN 3689348814741910323) + ((((lN (2 ^ t - 1)) - (((lN (2 ^ t - 1)).toUInt64 >>> ((nI 1).toInt64.toUInt64 &&& Int64.toUInt64 63)).toInt64 &&& lN 6148914691236517205)).toUInt64 >>> ((nI 2).toInt64.toUInt64 &&& Int64.toUInt64 63)).toInt64 &&& lN 3689348814741910323)).toUInt64 >>> ((nI 4).toInt64.toUInt64 &&& Int64.toUInt64 63)).toInt64) &&& lN 1085102592571150095) + (((((((lN (2 ^ t - 1)) - (((lN (2 ^ t - 1)).toUInt64 >>> ((nI 1).toInt64.toUInt64 &&& Int64.toUInt64 63)).toInt64 &&& lN 6148914691236517205)) &&& lN 3689348814741910323) + ((((lN (2 ^ t - 1)) - (((lN (2 ^ t - 1)).toUInt64 >>> ((nI 1).toInt64.toUInt64 &&& Int64.toUInt64 63)).toInt64 &&& lN 6148914691236517205)).toUInt64 >>> ((nI 2).toInt64.toUInt64 &&& Int64.toUInt64 63)).toInt64 &&& lN 3689348814741910323)) + (((((lN (2 ^ t - 1)) - (((lN (2 ^ t - 1)).toUInt64 >>> ((nI 1).toInt64.toUInt64 &&& Int64.toUInt64 63)).toInt64 &&& lN 6148914691236517205)) &&& lN 3689348814741910323) + ((((lN (2 ^ t - 1)) - (((lN (2 ^ t - 1)).toUInt64 >>> ((nI 1).toInt64.toUInt64 &&& Int64.toUInt64 63)).toInt64 &&& lN 6148914691236517205)).toUInt64 >>> ((nI 2).toInt64.toUInt64 &&& Int64.toUInt64 63)).toInt64 &&& lN 3689348814741910323)).toUInt64 >>> ((nI 4).toInt64.toUInt64 &&& Int64.toUInt64 63)).toInt64) &&& lN 1085102592571150095).toUInt64 >>> ((nI 8).toInt64.toUInt64 &&& Int64.toUInt64 63)).toInt64) + ((((((((lN (2 ^ t - 1)) - (((lN (2 ^ t - 1)).toUInt64 >>> ((nI 1).toInt64.toUInt64 &&& Int64.toUInt64 63)).toInt64 &&& lN 6148914691236517205)) &&& lN 3689348814741910323) + ((((lN (2 ^ t - 1)) - (((lN (2 ^ t - 1)).toUInt64 >>> ((nI 1).toInt64.toUInt64 &&& Int64.toUInt64 63)).toInt64 &&& lN 6148914691236517205)).toUInt64 >>> ((nI 2).toInt64.toUInt64 &&& Int64.toUInt64 63)).toInt64 &&& lN 3689348814741910323)) + (((((lN (2 ^ t - 1)) - (((lN (2 ^ t - 1)).toUInt64 >>> ((nI 1).toInt64.toUInt64 &&& Int64.toUInt64 63)).toInt64 &&& lN 6148914691236517205)) &&& lN 3689348814741910323) + ((((lN (2 ^ t - 1)) - (((lN (2 ^ t - 1)).toUInt64 >>> ((nI 1).toInt64.toUInt64 &&& Int64.toUInt64 63)).toInt64 &&& lN 6148914691236517205)).toUInt64 >>> ((nI 2).toInt64.toUInt64 &&& Int64.toUInt64 63)).toInt64 &&& lN 3689348814741910323)).toUInt64 >>> ((nI 4).toInt64.toUInt64 &&& Int64.toUInt64 63)).toInt64) &&& lN 1085102592571150095) + (((((((lN (2 ^ t - 1)) - (((lN (2 ^ t - 1)).toUInt64 >>> ((nI 1).toInt64.toUInt64 &&& Int64.toUInt64 63)).toInt64 &&& lN 6148914691236517205)) &&& lN 3689348814741910323) + ((((lN (2 ^ t - 1)) - (((lN (2 ^ t - 1)).toUInt64 >>> ((nI 1).toInt64.toUInt64 &&& Int64.toUInt64 63)).toInt64 &&& lN 6148914691236517205)).toUInt64 >>> ((nI 2).toInt64.toUInt64 &&& Int64.toUInt64 63)).toInt64 &&& lN 3689348814741910323)) + (((((lN (2 ^ t - 1)) - (((lN (2 ^ t - 1)).toUInt64 >>> ((nI 1).toInt64.toUInt64 &&& Int64.toUInt64 63)).toInt64 &&& lN 6148914691236517205)) &&& lN 3689348814741910323) + ((((lN (2 ^ t - 1)) - (((lN (2 ^ t - 1)).toUInt64 >>> ((nI 1).toInt64.toUInt64 &&& Int64.toUInt64 63)).toInt64 &&& lN 6148914691236517205)).toUInt64 >>> ((nI 2).toInt64.toUInt64 &&& Int64.toUInt64 63)).toInt64 &&& lN 3689348814741910323)).toUInt64 >>> ((nI 4).toInt64.toUInt64 &&& Int64.toUInt64 63)).toInt64) &&& lN 1085102592571150095).toUInt64 >>> ((nI 8).toInt64.toUInt64 &&& Int64.toUInt64 63)).toInt64).toUInt64 >>> ((nI 16).toInt64.toUInt64 &&& Int64.toUInt64 63)).toInt64))]) hC [0] dJ13_bitCount_95d88_47 (by decide) rfl ?_
  refine px_lload_n hC 0 rfl dJ13_bitCount_95d88_48 ?_
  refine px_lload_n hC 0 rfl dJ13_bitCount_95d88_49 ?_
  refine px_bipush (v := nI 32) hC (by decide) dJ13_bitCount_95d88_50 ?_
  refine px_lushr hC dJ13_bitCount_95d88_52 ?_
  refine px_ladd hC dJ13_bitCount_95d88_53 ?_
  refine px_lstore_n (lv' := [(0, .long (((((((((lN (2 ^ t - 1)) - (((lN (2 ^ t - 1)).toUInt64 >>> ((nI 1).toInt64.toUInt64 &&& Int64.toUInt64 63)).toInt64 &&& lN 6148914691236517205)) &&& lN 3689348814741910323) + ((((lN (2 ^ t - 1)) - (((lN (2 ^ t - 1)).toUInt64 >>> ((nI 1).toInt64.toUInt64 &&& Int64.toUInt64 63)).toInt64 &&& lN 6148914691236517205)).toUInt64 >>> ((nI 2).toInt64.toUInt64 &&& Int64.toUInt64 63)).toInt64 &&& lN 3689348814741910323)) + (((((lN (2 ^ t - 1)) - (((lN (2 ^ t - 1)).toUInt64 >>> ((nI 1).toInt64.toUInt64 &&& Int64.toUInt64 63)).toInt64 &&& lN 6148914691236517205)) &&& lN 3689348814741910323) + ((((lN (2 ^ t - 1)) - (((lN (2 ^ t - 1)).toUInt64 >>> ((nI 1).toInt64.toUInt64 &&& Int64.toUInt64 63)).toInt64 &&& lN 6148914691236517205)).toUInt64 >>> ((nI 2).toInt64.toUInt64 &&& Int64.toUInt64 63)).toInt64 &&& lN 3689348814741910323)).toUInt64 >>> ((nI 4).toInt64.toUInt64 &&& Int64.toUInt64 63)).toInt64) &&& lN 1085102592571150095) + (((((((lN (2 ^ t - 1)) - (((lN (2 ^ t - 1)).toUInt64 >>> ((nI 1).toInt64.toUInt64 &&& Int64.toUInt64 63)).toInt64 &&& lN 6148914691236517205)) &&& lN 3689348814741910323) + ((((lN (2 ^ t - 1)) - (((lN (2 ^ t - 1)).toUInt64 >>> ((nI 1).toInt64.toUInt64 &&& Int64.toUInt64 63)).toInt64 &&& lN 6148914691236517205)).toUInt64 >>> ((nI 2).toInt64.toUInt64 &&& Int64.toUInt64 63)).toInt64 &&& lN 3689348814741910323)) + (((((lN (2 ^ t - 1)) - (((lN (2 ^ t - 1)).toUInt64 >>> ((nI 1).toInt64.toUInt64 &&& Int64.toUInt64 63)).toInt64 &&& lN 6148914691236517205)) &&& lN 3689348814741910323) + ((((lN (2 ^ t - 1)) - (((lN (2 ^ t - 1)).toUInt64 >>> ((nI 1).toInt64.toUInt64 &&& Int64.toUInt64 63)).toInt64 &&& lN 6148914691236517205)).toUInt64 >>> ((nI 2).toInt64.toUInt64 &&& Int64.toUInt64 63)).toInt64 &&& lN 3689348814741910323)).toUInt64 >>> ((nI 4).toInt64.toUInt64 &&& Int64.toUInt64 63)).toInt64) &&& lN 1085102592571150095).toUInt64 >>> ((nI 8).toInt64.toUInt64 &&& Int64.toUInt64 63)).toInt64) + ((((((((lN (2 ^ t - 1)) - (((lN (2 ^ t - 1)).toUInt64 >>> ((nI 1).toInt64.toUInt64 &&& Int64.toUInt64 63)).toInt64 &&& lN 6148914691236517205)) &&& lN 3689348814741910323) + ((((lN (2 ^ t - 1)) - (((lN (2 ^ t - 1)).toUInt64 >>> ((nI 1).toInt64.toUInt64 &&& Int64.toUInt64 63)).toInt64 &&& lN 6148914691236517205)).toUInt64 >>> ((nI 2).toInt64.toUInt64 &&& Int64.toUInt64 63)).toInt64 &&& lN 3689348814741910323)) + (((((lN (2 ^ t - 1)) - (((lN (2 ^ t - 1)).toUInt64 >>> ((nI 1).toInt64.toUInt64 &&& Int64.toUInt64 63)).toInt64 &&& lN 6148914691236517205)) &&& lN 3689348814741910323) + ((((lN (2 ^ t - 1)) - (((lN (2 ^ t - 1)).toUInt64 >>> ((nI 1).toInt64.toUInt64 &&& Int64.toUInt64 63)).toInt64 &&& lN 6148914691236517205)).toUInt64 >>> ((nI 2).toInt64.toUInt64 &&& Int64.toUInt64 63)).toInt64 &&& lN 3689348814741910323)).toUInt64 >>> ((nI 4).toInt64.toUInt64 &&& Int64.toUInt64 63)).toInt64) &&& lN 1085102592571150095) + (((((((lN (2 ^ t - 1)) - (((lN (2 ^ t - 1)).toUInt64 >>> ((nI 1).toInt64.toUInt64 &&& Int64.toUInt64 63)).toInt64 &&& lN 6148914691236517205)) &&& lN 3689348814741910323) + ((((lN (2 ^ t - 1)) - (((lN (2 ^ t - 1)).toUInt64 >>> ((nI 1).toInt64.toUInt64 &&& Int64.toUInt64 63)).toInt64 &&& lN 6148914691236517205)).toUInt64 >>> ((nI 2).toInt64.toUInt64 &&& Int64.toUInt64 63)).toInt64 &&& lN 3689348814741910323)) + (((((lN (2 ^ t - 1)) - (((lN (2 ^ t - 1)).toUInt64 >>> ((nI 1).toInt64.toUInt64 &&& Int64.toUInt64 63)).toInt64 &&& lN 6148914691236517205)) &&& lN 3689348814741910323) + ((((lN (2 ^ t - 1)) - (((lN (2 ^ t - 1)).toUInt64 >>> ((nI 1).toInt64.toUInt64 &&& Int64.toUInt64 63)).toInt64 &&& lN 6148914691236517205)).toUInt64 >>> ((nI 2).toInt64.toUInt64 &&& Int64.toUInt64 63)).toInt64 &&& lN 3689348814741910323)).toUInt64 >>> ((nI 4).toInt64.toUInt64 &&& Int64.toUInt64 63)).toInt64) &&& lN 1085102592571150095).toUInt64 >>> ((nI 8).toInt64.toUInt64 &&& Int64.toUInt64 63)).toInt64).toUInt64 >>> ((nI 16).toInt64.toUInt64 &&& Int64.toUInt64 63)).toInt64) + (((((((((lN (2 ^ t - 1)) - (((lN (2 ^ t - 1)).toUInt64 >>> ((nI 1).toInt64.toUInt64 &&& Int64.toUInt64 63)).toInt64 &&& lN 6148914691236517205)) &&& lN 3689348814741910323) + ((((lN (2 ^ t - 1)) - (((lN (2 ^ t - 1)).toUInt64 >>> ((nI 1).toInt64.toUInt64 &&& Int64.toUInt64 63)).toInt64 &&& lN 6148914691236517205)).toUInt64 >>> ((nI 2).toInt64.toUInt64 &&& Int64.toUInt64 63)).toInt64 &&& lN 3689348814741910323)) + (((((lN (2 ^ t - 1)) - (((lN (2 ^ t - 1)).toUInt64 >>> ((nI 1).toInt64.toUInt64 &&& Int64.toUInt64 63)).toInt64 &&& lN 6148914691236517205)) &&& lN 3689348814741910323) + ((((lN (2 ^ t - 1)) - (((lN (2 ^ t - 1)).toUInt64 >>> ((nI 1).toInt64.toUInt64 &&& Int64.toUInt64 63)).toInt64 &&& lN 6148914691236517205)).toUInt64 >>> ((nI 2).toInt64.toUInt64 &&& Int64.toUInt64 63)).toInt64 &&& lN 3689348814741910323)).toUInt64 >>> ((nI 4).toInt64.toUInt64 &&& Int64.toUInt64 63)).toInt64) &&& lN 1085102592571150095) + (((((((lN (2 ^ t - 1)) - (((lN (2 ^ t - 1)).toUInt64 >>> ((nI 1).toInt64.toUInt64 &&& Int64.toUInt64 63)).toInt64 &&& lN 6148914691236517205)) &&& lN 3689348814741910323) + ((((lN (2 ^ t - 1)) - (((lN (2 ^ t - 1)).toUInt64 >>> ((nI 1).toInt64.toUInt64 &&& Int64.toUInt64 63)).toInt64 &&& lN 6148914691236517205)).toUInt64 >>> ((nI 2).toInt64.toUInt64 &&& Int64.toUInt64 63)).toInt64 &&& lN 3689348814741910323)) + (((((lN (2 ^ t - 1)) - (((lN (2 ^ t - 1)).toUInt64 >>> ((nI 1).toInt64.toUInt64 &&& Int64.toUInt64 63)).toInt64 &&& lN 6148914691236517205)) &&& lN 3689348814741910323) + ((((lN (2 ^ t - 1)) - (((lN (2 ^ t - 1)).toUInt64 >>> ((nI 1).toInt64.toUInt64 &&& Int64.toUInt64 63)).toInt64 &&& lN 6148914691236517205)).toUInt64 >>> ((nI 2).toInt64.toUInt64 &&& Int64.toUInt64 63)).toInt64 &&& lN 3689348814741910323)).toUInt64 >>> ((nI 4).toInt64.toUInt64 &&& Int64.toUInt64 63)).toInt64) &&& lN 1085102592571150095).toUInt64 >>> ((nI 8).toInt64.toUInt64 &&& Int64.toUInt64 63)).toInt64) + ((((((((lN (2 ^ t - 1)) - (((lN (2 ^ t - 1)).toUInt64 >>> ((nI 1).toInt64.toUInt64 &&& Int64.toUInt64 63)).toInt64 &&& lN 6148914691236517205)) &&& lN 3689348814741910323) + ((((lN (2 ^ t - 1)) - (((lN (2 ^ t - 1)).toUInt64 >>> ((nI 1).toInt64.toUInt64 &&& Int64.toUInt64 63)).toInt64 &&& lN 6148914691236517205)).toUInt64 >>> ((nI 2).toInt64.toUInt64 &&& Int64.toUInt64 63)).toInt64 &&& lN 3689348814741910323)) + (((((lN (2 ^ t - 1)) - (((lN (2 ^ t - 1)).toUInt64 >>> ((nI 1).toInt64.toUInt64 &&& Int64.toUInt64 63)).toInt64 &&& lN 6148914691236517205)) &&& lN 3689348814741910323) + ((((lN (2 ^ t - 1)) - (((lN (2 ^ t - 1)).toUInt64 >>> ((nI 1).toInt64.toUInt64 &&& Int64.toUInt64 63)).toInt64 &&& lN 6148914691236517205)).toUInt64 >>> ((nI 2).toInt64.toUInt64 &&& Int64.toUInt64 63)).toInt64 &&& lN 3689348814741910323)).toUInt64 >>> ((nI 4).toInt64.toUInt64 &&& Int64.toUInt64 63)).toInt64) &&& lN 1085102592571150095) + (((((((lN (2 ^ t - 1)) - (((lN (2 ^ t - 1)).toUInt64 >>> ((nI 1).toInt64.toUInt64 &&& Int64.toUInt64 63)).toInt64 &&& lN 6148914691236517205)) &&& lN 3689348814741910323) + ((((lN (2 ^ t - 1)) - (((lN (2 ^ t - 1)).toUInt64 >>> ((nI 1).toInt64.toUInt64 &&& Int64.toUInt64 63)).toInt64 &&& lN 6148914691236517205)).toUInt64 >>> ((nI 2).toInt64.toUInt64 &&& Int64.toUInt64 63)).toInt64 &&& lN 3689348814741910323)) + (((((lN (2 ^ t - 1)) - (((lN (2 ^ t - 1)).toUInt64 >>> ((nI 1).toInt64.toUInt64 &&& Int64.toUInt64 63)).toInt64 &&& lN 6148914691236517205)) &&& lN 3689348814741910323) + ((((lN (2 ^ t - 1)) - (((lN (2 ^ t - 1)).toUInt64 >>> ((nI 1).toInt64.toUInt64 &&& Int64.toUInt64 63)).toInt64 &&& lN 6148914691236517205)).toUInt64 >>> ((nI 2).toInt64.toUInt64 &&& Int64.toUInt64 63)).toInt64 &&& lN 3689348814741910323)).toUInt64 >>> ((nI 4).toInt64.toUInt64 &&& Int64.toUInt64 63)).toInt64) &&& lN 1085102592571150095).toUInt64 >>> ((nI 8).toInt64.toUInt64 &&& Int64.toUInt64 63)).toInt64).toUInt64 >>> ((nI 16).toInt64.toUInt64 &&& Int64.toUInt64 63)).toInt64).toUInt64 >>> ((nI 32).toInt64.toUInt64 &&& Int64.toUInt64 63)).toInt64))]) hC [0] dJ13_bitCount_95d88_54 (by decide) rfl ?_
  refine px_lload_n hC 0 rfl dJ13_bitCount_95d88_55 ?_
  refine px_l2i hC dJ13_bitCount_95d88_56 ?_
  refine px_bipush (v := nI 127) hC (by decide) dJ13_bitCount_95d88_57 ?_
  refine px_iand hC dJ13_bitCount_95d88_59 ?_
  subst hQ
  exact px_iret hC rfl (⟨_, rfl, rfl, rfl, by clear hC; revert t; decide +kernel⟩) dJ13_bitCount_95d88_60
theorem c_trailZ (l : Launch) (E : px_E) (L : List Nat) (f : Nat → va_E) (a : Nat) (x : Nat → Nat) (hf : px_at L f a (aJ E 21 (lw x))) (hx : dg x) : px_M l yX1_trailingZeros wsX1_trailingZeros (px_rm 1 21) E L f [.ref a] (px_i L (fun z f' => f' = f ∧ ∃ t, z = nI t ∧ ((vl 4294967296 x 21 = 0 ∧ t = 672) ∨ (t < 672 ∧ ∃ o, vl 4294967296 x 21 = 2 ^ t * (2 * o + 1))))) := by
  refine px_M.of (cc := cX1_trailingZeros) (maxL := 2) (ret := (some .int)) (lv := [(0, .ref a)]) (by decide) rfl (Nat.le_of_ble_eq_true rfl) rfl ?_
  intro p e s m below meth c A hC hnm
  obtain ⟨Q, hQ⟩ : ∃ Q, Q = MQ below (px_Q E (px_i L (fun z f' => f' = f ∧ ∃ t, z = nI t ∧ ((vl 4294967296 x 21 = 0 ∧ t = 672) ∨ (t < 672 ∧ ∃ o, vl 4294967296 x 21 = 2 ^ t * (2 * o + 1))))) A) [.ref a].toArray s (px_rm 1 21).cells (px_rm 1 21).slots A := ⟨_, rfl⟩
  rw [← hQ]
  have loop : ∀ (d i : Nat), i + d = 21 → vl 4294967296 x i = 0 → px p l e (px_rm 1 21) s m [.ref a].toArray below meth c 2 E A s.heap L (f) 0 0 Q 2 [(0, .ref a), (1, .int (nI i))] [] := by
    intro d
    induction d with
    | zero =>
      intro i hi h0
      refine px_iload_n hC 1 rfl dX1_trailingZeros_2 ?_
      refine px_bipush (v := nI 21) hC (by decide) dX1_trailingZeros_3 ?_
      refine px_icmp_ge hC 44 dX1_trailingZeros_5 (by decide) (fun _ => ?_) (fun q9 => (q9 (nI_le (by omega) (by omega))).elim)
      refine px_sipush (v := nI 672) hC (by decide) dX1_trailingZeros_44 ?_
      subst hQ
      exact px_iret hC rfl (⟨_, rfl, rfl, rfl, 672, rfl, Or.inl ⟨by rw [show 21 = i by omega]; exact h0, rfl⟩⟩) dX1_trailingZeros_47
    | succ d ih =>
      intro i hi h0
      have hb := hx i (by omega)
      refine px_iload_n hC 1 rfl dX1_trailingZeros_2 ?_
      refine px_bipush (v := nI 21) hC (by decide) dX1_trailingZeros_3 ?_
      refine px_icmp_ge hC 44 dX1_trailingZeros_5 (by decide) (fun q9 => ((nI_ge (by omega) (by omega)) q9).elim) (fun _ => ?_)
      refine px_aload_n hC 0 rfl dX1_trailingZeros_8 ?_
      refine px_iload_n hC 1 rfl dX1_trailingZeros_9 ?_
      refine px_lald hC hf (by omega) (by first | decide | assumption | omega) dX1_trailingZeros_10 ?_
      refine px_lconst (v := lN 0) hC (by decide) dX1_trailingZeros_11 ?_
      refine px_lcmp hC dX1_trailingZeros_12 ?_
      by_cases h : x i = 0
      · refine px_if_eq hC 38 dX1_trailingZeros_13 (by decide) (fun _ => ?_) (fun q9 => (q9 ((lz_c0 (by omega) (by omega)).mpr h)).elim)
        refine px_iinc (v := nI (i + 1)) (lv' := [(0, .ref a), (1, .int (nI (i + 1)))]) hC 1 [1, 0] dX1_trailingZeros_38 rfl (nI_1 i) (by decide) rfl ?_
        refine px_goto hC 2 dX1_trailingZeros_41 (by decide) ?_
        exact ih (i + 1) (by omega) (by show vl 4294967296 x i + x i * 4294967296 ^ i = 0; rw [h0, h]; omega)
      · obtain ⟨t, o, ho⟩ := od_of _ h
        have ht : t < 32 := od_lt ho hb
        refine px_if_eq hC 38 dX1_trailingZeros_13 (by decide) (fun q9 => ((fun q => h ((lz_c0 (by omega) (by omega)).mp q)) q9).elim) (fun _ => ?_)
        refine px_iload_n hC 1 rfl dX1_trailingZeros_16 ?_
        refine px_bipush (v := nI 32) hC (by decide) dX1_trailingZeros_17 ?_
        refine px_imul hC dX1_trailingZeros_19 ?_
        refine px_aload_n hC 0 rfl dX1_trailingZeros_20 ?_
        refine px_iload_n hC 1 rfl dX1_trailingZeros_21 ?_
        refine px_lald hC hf (by omega) (by first | decide | assumption | omega) dX1_trailingZeros_22 ?_
        refine px_ldc2 (v := (-1)) hC dX1_trailingZeros_23 (by decide +kernel) ?_
        refine px_lxor hC dX1_trailingZeros_26 ?_
        refine px_aload_n hC 0 rfl dX1_trailingZeros_27 ?_
        refine px_iload_n hC 1 rfl dX1_trailingZeros_28 ?_
        refine px_lald hC hf (by omega) (by first | decide | assumption | omega) dX1_trailingZeros_29 ?_
        refine px_lconst (v := lN 1) hC (by decide) dX1_trailingZeros_30 ?_
        refine px_lsub hC dX1_trailingZeros_31 ?_
        refine px_land hC dX1_trailingZeros_32 ?_
        refine px_el (y := lN (2 ^ t - 1)) (tz_bits ho hb) ?_
        refine px_callSi (st := [.int ((nI i) * nI 32)]) (nn := 1) hC (c_bitC l E L f t (by omega)) gX1_trailingZeros_J13_bitCount_95d88 rfl (by decide +kernel) (by decide) (Nat.le_of_ble_eq_true rfl) (by decide) rfl rfl dX1_trailingZeros_33 (fun z f1 hz => ?_)
        obtain ⟨rfl, rfl⟩ := hz
        refine px_iadd hC dX1_trailingZeros_36 ?_
        refine px_ei (y := nI (i * 32 + t)) (by rw [pk_mul, nI_add]) ?_
        subst hQ
        exact px_iret hC rfl (⟨_, rfl, rfl, rfl, _, rfl, Or.inr (tz_val h0 (by omega) ho hb)⟩) dX1_trailingZeros_37
  refine px_iconst (v := nI 0) hC (by decide) dX1_trailingZeros_0 ?_
  refine px_istore_n (lv' := [(0, .ref a), (1, .int (nI 0))]) hC [1, 0] dX1_trailingZeros_1 (by decide) rfl ?_
  exact loop 21 0 (by omega) rfl
theorem c_shr (l : Launch) (E : px_E) (L : List Nat) (f : Nat → va_E) (a bits w : Nat) (x : Nat → Nat) (hf : px_at L f a (aJ E 21 (lw x))) (hx : dg x) (hw : w ≤ 21) (hb : bits < 2 ^ 30) : px_M l yX1_shiftRight wsX1_shiftRight (px_rm 1 22) E L f [.ref a, .int (nI bits), .int (nI w)] (px_v L (fun f' => ∃ y, dg y ∧ (∀ i, w ≤ i → y i = x i) ∧ vl 4294967296 y w = vl 4294967296 x w / 2 ^ bits ∧ f' = va_up f a (aJ E 21 (lw y)))) := by
  refine px_M.of (cc := cX1_shiftRight) (maxL := 10) (ret := none) (lv := [(0, .ref a), (1, .int (nI bits)), (2, .int (nI w))]) (by decide) rfl (Nat.le_of_ble_eq_true rfl) rfl ?_
  intro p e s m below meth c A hC hnm
  obtain ⟨Q, hQ⟩ : ∃ Q, Q = MQ below (px_Q E (px_v L (fun f' => ∃ y, dg y ∧ (∀ i, w ≤ i → y i = x i) ∧ vl 4294967296 y w = vl 4294967296 x w / 2 ^ bits ∧ f' = va_up f a (aJ E 21 (lw y)))) A) [.ref a, .int (nI bits), .int (nI w)].toArray s (px_rm 1 22).cells (px_rm 1 22).slots A := ⟨_, rfl⟩
  rw [← hQ]
  have loop : ∀ (d i : Nat) (y : Nat → Nat), i + d = w → dg y → (∀ j, i ≤ j → y j = x j) → (∀ j, j < i → y j = ((if j + bits / 32 + 1 < w then x (j + bits / 32 + 1) else 0) * 4294967296 + (if j + bits / 32 < w then x (j + bits / 32) else 0)) / 2 ^ (bits % 32) % 4294967296) → px p l e (px_rm 1 22) s m [.ref a, .int (nI bits), .int (nI w)].toArray below meth c 10 E A s.heap L (va_up f a (aJ E 21 (lw y))) 0 0 Q 19 [(0, .ref a), (1, .int (nI bits)), (2, .int (nI w)), (3, .int (nI (bits / 32))), (4, .int (nI (bits % 32))), (5, .int (nI i))] [] := by
    intro d
    induction d with
    | zero =>
      intro i y hi hy hk hs
      refine px_iload hC 5 rfl dX1_shiftRight_19 ?_
      refine px_iload_n hC 2 rfl dX1_shiftRight_21 ?_
      refine px_icmp_ge hC 74 dX1_shiftRight_22 (by decide) (fun _ => ?_) (fun q9 => (q9 (nI_le (by omega) (by omega))).elim)
      subst hQ
      exact px_vret hC rfl (⟨rfl, rfl, y, hy, fun j hj => hk j (by omega), sh_row (q := bits / 32) (part := bits % 32) (fun j hj => hx j (by omega)) (by omega) (by omega) (fun j hj => hs j (by omega)), rfl⟩) dX1_shiftRight_74
    | succ d ih =>
      intro i y hi hy hk hs
      have hlo : (if i + bits / 32 < w then y (i + bits / 32) else 0) < 4294967296 := by
        by_cases q : i + bits / 32 < w
        · rw [if_pos q]; exact hy _ (by omega)
        · rw [if_neg q]; decide
      have hhi : (if i + bits / 32 + 1 < w then y (i + bits / 32 + 1) else 0) < 4294967296 := by
        by_cases q : i + bits / 32 + 1 < w
        · rw [if_pos q]; exact hy _ (by omega)
        · rw [if_neg q]; decide
      have elo : (if i + bits / 32 < w then y (i + bits / 32) else 0) = (if i + bits / 32 < w then x (i + bits / 32) else 0) := by rw [hk _ (by omega)]
      have ehi : (if i + bits / 32 + 1 < w then y (i + bits / 32 + 1) else 0) = (if i + bits / 32 + 1 < w then x (i + bits / 32 + 1) else 0) := by rw [hk _ (by omega)]
      refine px_iload hC 5 rfl dX1_shiftRight_19 ?_
      refine px_iload_n hC 2 rfl dX1_shiftRight_21 ?_
      refine px_icmp_ge hC 74 dX1_shiftRight_22 (by decide) (fun q9 => ((nI_ge (by omega) (by omega)) q9).elim) (fun _ => ?_)
      refine px_aload_n hC 0 rfl dX1_shiftRight_25 ?_
      refine px_iload hC 5 rfl dX1_shiftRight_26 ?_
      refine px_iload_n hC 3 rfl dX1_shiftRight_28 ?_
      refine px_iadd hC dX1_shiftRight_29 ?_
      refine px_ei (y := nI (i + bits / 32)) (nI_add _ _) ?_
      refine px_iload_n hC 2 rfl dX1_shiftRight_30 ?_
      refine px_callSl (st := []) (nn := 3) hC (c_limbAt l E L _ a (i + bits / 32) w y hf.self hw (by omega)) gX1_shiftRight_X1_limbAt rfl (by decide +kernel) (by decide) (Nat.le_of_ble_eq_true rfl) (by decide) rfl rfl dX1_shiftRight_31 (fun z1 f1 hz1 => ?_)
      obtain ⟨rfl, rfl⟩ := hz1
      refine px_lstore (lv' := [(0, .ref a), (1, .int (nI bits)), (2, .int (nI w)), (3, .int (nI (bits / 32))), (4, .int (nI (bits % 32))), (5, .int (nI i)), (6, .long (lN (if i + bits / 32 < w then y (i + bits / 32) else 0)))]) hC [1, 2, 3, 4, 5, 6, 0] dX1_shiftRight_34 (by decide) rfl ?_
      refine px_aload_n hC 0 rfl dX1_shiftRight_36 ?_
      refine px_iload hC 5 rfl dX1_shiftRight_37 ?_
      refine px_iload_n hC 3 rfl dX1_shiftRight_39 ?_
      refine px_iadd hC dX1_shiftRight_40 ?_
      refine px_ei (y := nI (i + bits / 32)) (nI_add _ _) ?_
      refine px_iconst (v := nI 1) hC (by decide) dX1_shiftRight_41 ?_
      refine px_iadd hC dX1_shiftRight_42 ?_
      refine px_ei (y := nI (i + bits / 32 + 1)) (nI_add _ _) ?_
      refine px_iload_n hC 2 rfl dX1_shiftRight_43 ?_
      refine px_callSl (st := []) (nn := 3) hC (c_limbAt l E L _ a (i + bits / 32 + 1) w y hf.self hw (by omega)) gX1_shiftRight_X1_limbAt rfl (by decide +kernel) (by decide) (Nat.le_of_ble_eq_true rfl) (by decide) rfl rfl dX1_shiftRight_44 (fun z2 f2 hz2 => ?_)
      obtain ⟨rfl, rfl⟩ := hz2
      generalize (if i + bits / 32 < w then y (i + bits / 32) else 0) = lo at hlo elo ⊢
      generalize (if i + bits / 32 + 1 < w then y (i + bits / 32 + 1) else 0) = hi1 at hhi ehi ⊢
      refine px_lstore (lv' := [(0, .ref a), (1, .int (nI bits)), (2, .int (nI w)), (3, .int (nI (bits / 32))), (4, .int (nI (bits % 32))), (5, .int (nI i)), (6, .long (lN lo)), (8, .long (lN hi1))]) hC [1, 2, 3, 4, 5, 6, 7, 0] dX1_shiftRight_47 (by decide) rfl ?_
      refine px_aload_n hC 0 rfl dX1_shiftRight_49 ?_
      refine px_iload hC 5 rfl dX1_shiftRight_50 ?_
      refine px_lload hC 7 rfl dX1_shiftRight_52 ?_
      refine px_bipush (v := nI 32) hC (by decide) dX1_shiftRight_54 ?_
      refine px_lshl hC dX1_shiftRight_56 ?_
      refine px_el (y := lN (hi1 * 2 ^ 32)) (wb_shl hi1 (by decide)) ?_
      refine px_lload hC 6 rfl dX1_shiftRight_57 ?_
      refine px_lor hC dX1_shiftRight_59 ?_
      refine px_el (y := lN (hi1 * 4294967296 + lo)) (g_or (k := 32) rfl hlo (by omega)) ?_
      refine px_iload hC 4 rfl dX1_shiftRight_60 ?_
      refine px_lushr hC dX1_shiftRight_62 ?_
      refine px_el (y := lN ((hi1 * 4294967296 + lo) / 2 ^ (bits % 32))) (wb_shr (by omega) (by omega)) ?_
      refine px_ldc2 (v := 4294967295) hC dX1_shiftRight_63 (by decide +kernel) ?_
      refine px_el (y := lN 4294967295) (by decide) ?_
      refine px_land hC dX1_shiftRight_66 ?_
      refine px_el (y := lN ((hi1 * 4294967296 + lo) / 2 ^ (bits % 32) % 4294967296)) (wb_mask (k := 32) (Nat.lt_of_le_of_lt (Nat.div_le_self _ _) (by omega)) (by decide)) ?_
      refine px_last hC hf.self (by omega) (by first | decide | assumption | omega) dX1_shiftRight_67 ?_
      rw [px_uu, lw_up]
      refine px_iinc (v := nI (i + 1)) (lv' := [(0, .ref a), (1, .int (nI bits)), (2, .int (nI w)), (3, .int (nI (bits / 32))), (4, .int (nI (bits % 32))), (5, .int (nI (i + 1))), (6, .long (lN lo)), (8, .long (lN hi1))]) hC 5 [1, 2, 3, 4, 5, 0, 6, 7] dX1_shiftRight_68 rfl (nI_1 i) (by decide) rfl ?_
      refine px_goto hC 19 dX1_shiftRight_71 (by decide) ?_
      refine px_lv (lv2 := [(0, .ref a), (1, .int (nI bits)), (2, .int (nI w)), (3, .int (nI (bits / 32))), (4, .int (nI (bits % 32))), (5, .int (nI (i + 1)))]) [0, 1, 2, 3, 4, 5] rfl ?_
      refine ih (i + 1) _ (by omega) (dg_un hy (Nat.mod_lt _ (by decide))) (fun j hj => ?_) (fun j hj => ?_)
      · rw [un_n _ _ (by omega)]; exact hk j (by omega)
      · by_cases q : j = i
        · subst q; rw [un_s, elo, ehi]
        · rw [un_n _ _ q]; exact hs j (by omega)
  refine px_iload_n hC 1 rfl dX1_shiftRight_0 ?_
  by_cases h : bits = 0
  · subst h
    refine px_if_gt hC 5 dX1_shiftRight_1 (by decide) (fun q9 => ((nI_nlt (Nat.le_refl 0) (by decide)) q9).elim) (fun _ => ?_)
    rw [show f = va_up f a (aJ E 21 (lw x)) from (px_us hf.2).symm] 
    subst hQ
    exact px_vret hC rfl (⟨rfl, rfl, x, hx, fun _ _ => rfl, by rw [Nat.pow_zero, Nat.div_one], rfl⟩) dX1_shiftRight_4
  · refine px_if_gt hC 5 dX1_shiftRight_1 (by decide) (fun _ => ?_) (fun q9 => (q9 (nI_lt (a := 0) (by omega) (by omega))).elim)
    refine px_iload_n hC 1 rfl dX1_shiftRight_5 ?_
    refine px_bipush (v := nI 32) hC (by decide) dX1_shiftRight_6 ?_
    refine px_idiv hC (by decide) dX1_shiftRight_8 ?_
    refine px_ei (y := nI (bits / 32)) (pk_div (by omega) (by decide) (by decide)) ?_
    refine px_istore_n (lv' := [(0, .ref a), (1, .int (nI bits)), (2, .int (nI w)), (3, .int (nI (bits / 32)))]) hC [1, 2, 3, 0] dX1_shiftRight_9 (by decide) rfl ?_
    refine px_iload_n hC 1 rfl dX1_shiftRight_10 ?_
    refine px_bipush (v := nI 32) hC (by decide) dX1_shiftRight_11 ?_
    refine px_irem hC (by decide) dX1_shiftRight_13 ?_
    refine px_ei (y := nI (bits % 32)) (pk_rem (by omega) (by decide) (by decide)) ?_
    refine px_istore (lv' := [(0, .ref a), (1, .int (nI bits)), (2, .int (nI w)), (3, .int (nI (bits / 32))), (4, .int (nI (bits % 32)))]) hC [1, 2, 3, 4, 0] dX1_shiftRight_14 (by decide) rfl ?_
    refine px_iconst (v := nI 0) hC (by decide) dX1_shiftRight_16 ?_
    refine px_istore (lv' := [(0, .ref a), (1, .int (nI bits)), (2, .int (nI w)), (3, .int (nI (bits / 32))), (4, .int (nI (bits % 32))), (5, .int (nI 0))]) hC [1, 2, 3, 4, 5, 0] dX1_shiftRight_17 (by decide) rfl ?_
    have h0 := loop w 0 x (by omega) hx (fun _ _ => rfl) (fun j hj => absurd hj (by omega))
    rw [px_us hf.2] at h0
    exact h0
theorem c_cmp (l : Launch) (E : px_E) (L : List Nat) (f : Nat → va_E) (a b w : Nat) (x y : Nat → Nat) (hf : px_at L f a (aJ E 21 (lw x))) (hg : px_at L f b (aJ E 21 (lw y))) (hx : dg x) (hy : dg y) (hw : w ≤ 21) : px_M l yX1_compare wsX1_compare (px_rm 0 0) E L f [.ref a, .ref b, .int (nI w)] (px_i L (fun z f' => f' = f ∧ ((z = nI 0 ∧ vl 4294967296 x w = vl 4294967296 y w) ∨ (z = nI 1 ∧ vl 4294967296 y w < vl 4294967296 x w) ∨ (z = (-1) ∧ vl 4294967296 x w < vl 4294967296 y w)))) := by
  refine px_M.of (cc := cX1_compare) (maxL := 4) (ret := (some .int)) (lv := [(0, .ref a), (1, .ref b), (2, .int (nI w))]) (by decide) rfl (Nat.le_of_ble_eq_true rfl) rfl ?_
  intro p e s m below meth c A hC hnm
  obtain ⟨Q, hQ⟩ : ∃ Q, Q = MQ below (px_Q E (px_i L (fun z f' => f' = f ∧ ((z = nI 0 ∧ vl 4294967296 x w = vl 4294967296 y w) ∨ (z = nI 1 ∧ vl 4294967296 y w < vl 4294967296 x w) ∨ (z = (-1) ∧ vl 4294967296 x w < vl 4294967296 y w)))) A) [.ref a, .ref b, .int (nI w)].toArray s (px_rm 0 0).cells (px_rm 0 0).slots A := ⟨_, rfl⟩
  rw [← hQ]
  have loop : ∀ (d : Nat), d ≤ w → (∀ j, d ≤ j → j < w → x j = y j) → px p l e (px_rm 0 0) s m [.ref a, .ref b, .int (nI w)].toArray below meth c 4 E A s.heap L (f) 0 0 Q 4 [(0, .ref a), (1, .ref b), (2, .int (nI w)), (3, .int (nI d - nI 1))] [] := by
    intro d
    induction d with
    | zero =>
      intro hd he
      refine px_iload_n hC 3 rfl dX1_compare_4 ?_
      refine px_if_lt hC 40 dX1_compare_5 (by decide) (fun _ => ?_) (fun q9 => (q9 (by decide)).elim)
      refine px_iconst (v := nI 0) hC (by decide) dX1_compare_40 ?_
      subst hQ
      exact px_iret hC rfl (⟨_, rfl, rfl, rfl, Or.inl ⟨rfl, vl_c (fun j hj => he j (by omega) hj)⟩⟩) dX1_compare_41
    | succ d ih =>
      intro hd he
      rw [show nI (d + 1) - nI 1 = nI d from nI_pred d]
      have hxd := hx d (by omega)
      have hyd := hy d (by omega)
      refine px_iload_n hC 3 rfl dX1_compare_4 ?_
      refine px_if_lt hC 40 dX1_compare_5 (by decide) (fun q9 => ((nI_pos (by omega)) q9).elim) (fun _ => ?_)
      refine px_aload_n hC 0 rfl dX1_compare_8 ?_
      refine px_iload_n hC 3 rfl dX1_compare_9 ?_
      refine px_lald hC hf (by omega) (by first | decide | assumption | omega) dX1_compare_10 ?_
      refine px_aload_n hC 1 rfl dX1_compare_11 ?_
      refine px_iload_n hC 3 rfl dX1_compare_12 ?_
      refine px_lald hC hg (by omega) (by first | decide | assumption | omega) dX1_compare_13 ?_
      refine px_lcmp hC dX1_compare_14 ?_
      by_cases h : x d = y d
      · refine px_if_eq hC 34 dX1_compare_15 (by decide) (fun _ => ?_) (fun q9 => (q9 ((lz_c0 (by omega) (by omega)).mpr h)).elim)
        refine px_iinc (v := (nI d - nI 1)) (lv' := [(0, .ref a), (1, .ref b), (2, .int (nI w)), (3, .int (nI d - nI 1))]) hC 3 [1, 2, 3, 0] dX1_compare_34 rfl (by rw [Int32.sub_eq_add_neg]; rfl) (by decide) rfl ?_
        refine px_goto hC 4 dX1_compare_37 (by decide) ?_
        exact ih (by omega) (fun j h1 h2 => by
          by_cases q : j = d
          · subst q; exact h
          · exact he j (by omega) h2)
      · refine px_if_eq hC 34 dX1_compare_15 (by decide) (fun q9 => ((fun q => h ((lz_c0 (by omega) (by omega)).mp q)) q9).elim) (fun _ => ?_)
        refine px_aload_n hC 0 rfl dX1_compare_18 ?_
        refine px_iload_n hC 3 rfl dX1_compare_19 ?_
        refine px_lald hC hf (by omega) (by first | decide | assumption | omega) dX1_compare_20 ?_
        refine px_aload_n hC 1 rfl dX1_compare_21 ?_
        refine px_iload_n hC 3 rfl dX1_compare_22 ?_
        refine px_lald hC hg (by omega) (by first | decide | assumption | omega) dX1_compare_23 ?_
        refine px_lcmp hC dX1_compare_24 ?_
        by_cases h2 : y d ≤ x d
        · refine px_if_ge hC 32 dX1_compare_25 (by decide) (fun _ => ?_) (fun q9 => (q9 ((lz_cge (by omega) (by omega)).mpr h2)).elim)
          refine px_iconst (v := nI 1) hC (by decide) dX1_compare_32 ?_
          subst hQ
          exact px_iret hC rfl (⟨_, rfl, rfl, rfl, Or.inr (Or.inl ⟨rfl, vl_cmp (fun j hj => hy j (by omega)) (fun j hj => hx j (by omega)) (by omega) (fun j h3 h4 => (he j h3 h4).symm) (by omega)⟩)⟩) dX1_compare_33
        · refine px_if_ge hC 32 dX1_compare_25 (by decide) (fun q9 => ((fun q => h2 ((lz_cge (by omega) (by omega)).mp q)) q9).elim) (fun _ => ?_)
          refine px_iconst (v := (-1)) hC (by decide) dX1_compare_28 ?_
          refine px_goto hC 33 dX1_compare_29 (by decide) ?_
          subst hQ
          exact px_iret hC rfl (⟨_, rfl, rfl, rfl, Or.inr (Or.inr ⟨rfl, vl_cmp (fun j hj => hx j (by omega)) (fun j hj => hy j (by omega)) (by omega) (fun j h3 h4 => he j h3 h4) (by omega)⟩)⟩) dX1_compare_33
  refine px_iload_n hC 2 rfl dX1_compare_0 ?_
  refine px_iconst (v := nI 1) hC (by decide) dX1_compare_1 ?_
  refine px_isub hC dX1_compare_2 ?_
  refine px_istore_n (lv' := [(0, .ref a), (1, .ref b), (2, .int (nI w)), (3, .int ((nI w) - nI 1))]) hC [1, 2, 3, 0] dX1_compare_3 (by decide) rfl ?_
  exact loop w (Nat.le_refl w) (fun j h1 h2 => absurd h1 (by omega))
end
section
def sx (v : Int32) : Nat → Nat := un (fun _ => if v < 0 then 4294967295 else 0) 0 v.toBitVec.toNat
theorem sx_l (v : Int32) : v.toInt64 &&& lN 4294967295 = lN v.toBitVec.toNat := by
  have h : v.toInt64.toBitVec = v.toBitVec.signExtend 64 := Int32.toBitVec_toInt64 v
  apply wb_inj
  rw [Int64.toBitVec_and, h, wb_tb, wb_tb]
  apply BitVec.eq_of_getLsbD_eq
  intro i hi
  rw [BitVec.getLsbD_and, BitVec.getLsbD_ofNat, BitVec.getLsbD_ofNat, BitVec.getLsbD_signExtend, show (4294967295 : Nat) = 2 ^ 32 - 1 from rfl, Nat.testBit_two_pow_sub_one]
  by_cases q : i < 32
  · simp [hi, q, BitVec.getLsbD]
  · simp [hi, q]
    exact Nat.testBit_lt_two_pow (Nat.lt_of_lt_of_le v.toBitVec.isLt (Nat.pow_le_pow_right (by decide) (by omega)))
def wx (x : Nat → Nat) (w : Nat) : Nat → Nat := fun i => if i < w then x i else if 2147483648 ≤ x (w - 1) then 4294967295 else 0
theorem iv_mul {o v M N W : Nat} (hW : 0 < W) (hM : M * M * N = W) (h : ∃ k : Int, (o : Int) * v = 1 + k * M) : ∃ k : Int, (o : Int) * ((v * (2 + W - o * v % W) % W : Nat) : Int) = 1 + k * ((M * M : Nat) : Int) := by
  have e : ∃ k : Int, ((v * (2 + W - o * v % W) % W : Nat) : Int) = v * (2 - o * v) + k * ((M : Int) * M) := by
    have hz : o * v % W < W := Nat.mod_lt _ hW
    have e1 : ((o * v % W : Nat) : Int) = o * v - W * ((o * v / W : Nat) : Int) := by
      have h2 : ((W * (o * v / W) + o * v % W : Nat) : Int) = ((o * v : Nat) : Int) := by rw [Nat.div_add_mod]
      rw [Int.natCast_add, Int.natCast_mul, Int.natCast_mul] at h2
      omega
    have e2 : ((2 + W - o * v % W : Nat) : Int) = 2 - o * v + W * (1 + ((o * v / W : Nat) : Int)) := by
      have h3 : ((2 + W - o * v % W : Nat) : Int) = 2 + W - ((o * v % W : Nat) : Int) := by omega
      rw [h3, e1]
      grind
    generalize 2 + W - o * v % W = T at e2 ⊢
    generalize ((o * v / W : Nat) : Int) = q1 at e2
    have h5 : ((W * (v * T / W) + v * T % W : Nat) : Int) = ((v * T : Nat) : Int) := by rw [Nat.div_add_mod]
    have hM2 : ((M : Int) * M) * N = W := by exact_mod_cast hM
    refine ⟨((N : Int) * (v * (1 + q1)) - N * ((v * T / W : Nat) : Int)), ?_⟩
    generalize v * T / W = q2 at h5 ⊢
    generalize v * T % W = r2 at h5 ⊢
    rw [Int.natCast_add, Int.natCast_mul, Int.natCast_mul, e2, ← hM2] at h5
    grind
  have := iv_step h e
  rw [Int.natCast_mul M M]
  exact this

theorem c_inv (l : Launch) (E : px_E) (L : List Nat) (f : Nat → va_E) (o : Nat) (ho : o % 2 = 1) (hb : o < 4294967296) : px_M l yX1_inverse wsX1_inverse (px_rm 0 0) E L f [.long (lN o)] (px_l L (fun z f' => f' = f ∧ ∃ u, z = lN u ∧ u < 4294967296 ∧ u * o % 4294967296 = 1)) := by
  refine px_M.of (cc := cX1_inverse) (maxL := 5) (ret := (some .long)) (lv := [(0, .long (lN o))]) (by decide) rfl (Nat.le_of_ble_eq_true rfl) rfl ?_
  intro p e s m below meth c A hC hnm
  obtain ⟨Q, hQ⟩ : ∃ Q, Q = MQ below (px_Q E (px_l L (fun z f' => f' = f ∧ ∃ u, z = lN u ∧ u < 4294967296 ∧ u * o % 4294967296 = 1)) A) [.long (lN o)].toArray s (px_rm 0 0).cells (px_rm 0 0).slots A := ⟨_, rfl⟩
  rw [← hQ]
  have loop : ∀ (d i v : Nat), i + d = 4 → v < 2 ^ 64 → (∃ k : Int, (o : Int) * v = 1 + k * ((2 ^ (3 * 2 ^ i) : Nat) : Int)) → px p l e (px_rm 0 0) s m [.long (lN o)].toArray below meth c 5 E A s.heap L (f) 0 0 Q 5 [(0, .long (lN o)), (2, .long (lN v)), (4, .int (nI i))] [] := by
    intro d
    induction d with
    | zero =>
      intro i v hi hv hk
      have e : i = 4 := by omega
      subst e
      refine px_iload hC 2 rfl dX1_inverse_5 ?_
      refine px_iconst (v := nI 4) hC (by decide) dX1_inverse_7 ?_
      refine px_icmp_ge hC 27 dX1_inverse_8 (by decide) (fun _ => ?_) (fun q9 => (q9 (nI_le (Nat.le_refl 4) (by decide))).elim)
      refine px_lload_n hC 1 rfl dX1_inverse_27 ?_
      refine px_ldc2 (v := 4294967295) hC dX1_inverse_28 (by decide +kernel) ?_
      refine px_el (y := lN 4294967295) (by decide) ?_
      refine px_land hC dX1_inverse_31 ?_
      refine px_el (y := lN (v % 4294967296)) (wb_mask (k := 32) hv (by decide)) ?_
      obtain ⟨k, hk⟩ := hk
      have e1 : o * v % 4294967296 = 1 := by
        have h2 : ((o * v : Nat) : Int) = 1 + k * 281474976710656 := by push_cast; exact hk
        omega
      subst hQ
      exact px_lret hC rfl (⟨_, rfl, rfl, rfl, v % 4294967296, rfl, Nat.mod_lt _ (by decide), by rw [Nat.mod_mul_mod, Nat.mul_comm]; exact e1⟩) dX1_inverse_32
    | succ d ih =>
      intro i v hi hv hk
      refine px_iload hC 2 rfl dX1_inverse_5 ?_
      refine px_iconst (v := nI 4) hC (by decide) dX1_inverse_7 ?_
      refine px_icmp_ge hC 27 dX1_inverse_8 (by decide) (fun q9 => ((nI_ge (by omega) (by decide)) q9).elim) (fun _ => ?_)
      refine px_lload_n hC 1 rfl dX1_inverse_11 ?_
      refine px_ldc2 (v := 2) hC dX1_inverse_12 (by decide +kernel) ?_
      refine px_el (y := lN 2) (by decide) ?_
      refine px_lload_n hC 0 rfl dX1_inverse_15 ?_
      refine px_lload_n hC 1 rfl dX1_inverse_16 ?_
      refine px_lmul hC dX1_inverse_17 ?_
      refine px_lsub hC dX1_inverse_18 ?_
      refine px_lmul hC dX1_inverse_19 ?_
      refine px_el (y := lN (v * (2 + 2 ^ 64 - o * v % 2 ^ 64) % 2 ^ 64)) (by rw [lN_mul, wb_mod (o * v), lz_sub (by have := Nat.mod_lt (o * v) (show 0 < 2 ^ 64 by decide); omega), lN_mul, wb_mod]) ?_
      refine px_lstore_n (lv' := [(0, .long (lN o)), (2, .long (lN (v * (2 + 2 ^ 64 - o * v % 2 ^ 64) % 2 ^ 64))), (4, .int (nI i))]) hC [1, 0, 2] dX1_inverse_20 (by decide) rfl ?_
      refine px_iinc (v := nI (i + 1)) (lv' := [(0, .long (lN o)), (2, .long (lN (v * (2 + 2 ^ 64 - o * v % 2 ^ 64) % 2 ^ 64))), (4, .int (nI (i + 1)))]) hC 2 [1, 2, 0] dX1_inverse_21 rfl (nI_1 i) (by decide) rfl ?_
      refine px_goto hC 5 dX1_inverse_24 (by decide) ?_
      refine ih (i + 1) _ (by omega) (Nat.mod_lt _ (by decide)) ?_
      have hM : 2 ^ (3 * 2 ^ i) * 2 ^ (3 * 2 ^ i) * 2 ^ (64 - 3 * 2 ^ (i + 1)) = 2 ^ 64 := by
        rcases (show i = 0 ∨ i = 1 ∨ i = 2 ∨ i = 3 by omega) with rfl | rfl | rfl | rfl <;> decide
      have h2 := iv_mul (by decide) hM hk
      rw [show 2 ^ (3 * 2 ^ (i + 1)) = 2 ^ (3 * 2 ^ i) * 2 ^ (3 * 2 ^ i) from by rw [← Nat.pow_add]; congr 1; rw [Nat.pow_succ]; omega]
      exact h2
  refine px_lload_n hC 0 rfl dX1_inverse_0 ?_
  refine px_lstore_n (lv' := [(0, .long (lN o)), (2, .long (lN o))]) hC [1, 0] dX1_inverse_1 (by decide) rfl ?_
  refine px_iconst (v := nI 0) hC (by decide) dX1_inverse_2 ?_
  refine px_istore (lv' := [(0, .long (lN o)), (2, .long (lN o)), (4, .int (nI 0))]) hC [1, 2, 0] dX1_inverse_3 (by decide) rfl ?_
  exact loop 4 0 o (by omega) (by omega) (iv_8 ho)
theorem sp_step {Y' Y Lv R li g Rl r T b k W : Nat} (h0 : Y + Lv * R = T + k * W) (hs : Y' + g * Rl = Y + b * W) (hR : g * R = g * Rl + li * r * W) : Y' + (Lv + g) * R = T + (k + b + li * r) * W := by
  have e : (Lv + g) * R = Lv * R + g * R := Nat.add_mul _ _ _
  have e2 : (k + b + li * r) * W = k * W + b * W + li * r * W := by rw [Nat.add_mul, Nat.add_mul]
  omega
theorem sp_R {B : Nat} (x : Nat → Nat) {w i g : Nat} (hi : i ≤ w) : g * B ^ i * vl B x w = g * B ^ i * vl B x (w - i) + g * vl B (fun j => x (w - i + j)) i * B ^ w := by
  have e1 : vl B x w = vl B x (w - i) + B ^ (w - i) * vl B (fun j => x (w - i + j)) i := by rw [← vl_a, show w - i + i = w by omega]
  have e2 : B ^ i * B ^ (w - i) = B ^ w := by rw [← Nat.pow_add]; congr 1; omega
  rw [e1, ← e2]
  grind
theorem c_subP (l : Launch) (E : px_E) (L : List Nat) (f : Nat → va_E) (t a b w : Nat) (tx ax bx : Nat → Nat) (hf : px_at L f t (aJ E 21 (lw tx))) (hg : px_at L f a (aJ E 21 (lw ax))) (hh : px_at L f b (aJ E 21 (lw bx))) (hn1 : a ≠ t) (hn2 : b ≠ t) (hw : w ≤ 21) (ht : dg tx) (ha : dg ax) (hb : dg bx) : px_M l yX1_subtractProduct wsX1_subtractProduct (px_rm 1 32) E L f [.ref t, .ref a, .ref b, .int (nI w)] (px_v L (fun f' => ∃ y, dg y ∧ (∃ k, vl 4294967296 y w + vl 4294967296 ax w * vl 4294967296 bx w = vl 4294967296 tx w + k * 4294967296 ^ w) ∧ f' = va_up f t (aJ E 21 (lw y)))) := by
  refine px_M.of (cc := cX1_subtractProduct) (maxL := 5) (ret := none) (lv := [(0, .ref t), (1, .ref a), (2, .ref b), (3, .int (nI w))]) (by decide) rfl (Nat.le_of_ble_eq_true rfl) rfl ?_
  intro p e s m below meth c A hC hnm
  obtain ⟨Q, hQ⟩ : ∃ Q, Q = MQ below (px_Q E (px_v L (fun f' => ∃ y, dg y ∧ (∃ k, vl 4294967296 y w + vl 4294967296 ax w * vl 4294967296 bx w = vl 4294967296 tx w + k * 4294967296 ^ w) ∧ f' = va_up f t (aJ E 21 (lw y)))) A) [.ref t, .ref a, .ref b, .int (nI w)].toArray s (px_rm 1 32).cells (px_rm 1 32).slots A := ⟨_, rfl⟩
  rw [← hQ]
  have loop : ∀ (d i : Nat) (y : Nat → Nat), i + d = w → dg y → (∃ k, vl 4294967296 y w + vl 4294967296 ax i * vl 4294967296 bx w = vl 4294967296 tx w + k * 4294967296 ^ w) → px p l e (px_rm 1 32) s m [.ref t, .ref a, .ref b, .int (nI w)].toArray below meth c 5 E A s.heap L (va_up f t (aJ E 21 (lw y))) 0 0 Q 3 [(0, .ref t), (1, .ref a), (2, .ref b), (3, .int (nI w)), (4, .int (nI i))] [] := by
    intro d
    induction d with
    | zero =>
      intro i y hi hy hk
      have e : i = w := by omega
      subst e
      refine px_iload hC 4 rfl dX1_subtractProduct_3 ?_
      refine px_iload_n hC 3 rfl dX1_subtractProduct_5 ?_
      refine px_icmp_ge hC 36 dX1_subtractProduct_6 (by decide) (fun _ => ?_) (fun q9 => (q9 (nI_le (Nat.le_refl i) (by omega))).elim)
      subst hQ
      exact px_vret hC rfl (⟨rfl, rfl, y, hy, hk, rfl⟩) dX1_subtractProduct_36
    | succ d ih =>
      intro i y hi hy hk
      have hai := ha i (by omega)
      refine px_iload hC 4 rfl dX1_subtractProduct_3 ?_
      refine px_iload_n hC 3 rfl dX1_subtractProduct_5 ?_
      refine px_icmp_ge hC 36 dX1_subtractProduct_6 (by decide) (fun q9 => ((nI_ge (by omega) (by omega)) q9).elim) (fun _ => ?_)
      refine px_aload_n hC 1 rfl dX1_subtractProduct_9 ?_
      refine px_iload hC 4 rfl dX1_subtractProduct_10 ?_
      refine px_lald hC (hg.up hn1) (by omega) (by first | decide | assumption | omega) dX1_subtractProduct_12 ?_
      refine px_lconst (v := lN 0) hC (by decide) dX1_subtractProduct_13 ?_
      refine px_lcmp hC dX1_subtractProduct_14 ?_
      by_cases h : ax i = 0
      · refine px_if_eq hC 30 dX1_subtractProduct_15 (by decide) (fun _ => ?_) (fun q9 => (q9 ((lz_c0 (by omega) (by omega)).mpr h)).elim)
        refine px_iinc (v := nI (i + 1)) (lv' := [(0, .ref t), (1, .ref a), (2, .ref b), (3, .int (nI w)), (4, .int (nI (i + 1)))]) hC 4 [1, 2, 3, 4, 0] dX1_subtractProduct_30 rfl (nI_1 i) (by decide) rfl ?_
        refine px_goto hC 3 dX1_subtractProduct_33 (by decide) ?_
        exact ih (i + 1) y (by omega) hy (by
          obtain ⟨k, hk⟩ := hk
          exact ⟨k, by show _ + (vl 4294967296 ax i + ax i * 4294967296 ^ i) * _ = _; rw [h, Nat.zero_mul, Nat.add_zero]; exact hk⟩)
      · refine px_if_eq hC 30 dX1_subtractProduct_15 (by decide) (fun q9 => ((fun q => h ((lz_c0 (by omega) (by omega)).mp q)) q9).elim) (fun _ => ?_)
        refine px_aload_n hC 0 rfl dX1_subtractProduct_18 ?_
        refine px_iload hC 4 rfl dX1_subtractProduct_19 ?_
        refine px_aload_n hC 1 rfl dX1_subtractProduct_21 ?_
        refine px_iload hC 4 rfl dX1_subtractProduct_22 ?_
        refine px_lald hC (hg.up hn1) (by omega) (by first | decide | assumption | omega) dX1_subtractProduct_24 ?_
        refine px_aload_n hC 2 rfl dX1_subtractProduct_25 ?_
        refine px_iload_n hC 3 rfl dX1_subtractProduct_26 ?_
        refine px_callSv (st := []) (nn := 5) hC (c_subS l E L _ t b i (ax i) w y bx hf.self (hh.up hn2) hn2 (by omega) hw hai hy hb) gX1_subtractProduct_X1_subtractScaled rfl (by decide +kernel) (by decide) (Nat.le_of_ble_eq_true rfl) (by decide) rfl rfl dX1_subtractProduct_27 (fun f1 h1 => ?_)
        obtain ⟨y1, hy1, hk1, ⟨k1, he1⟩, rfl⟩ := h1
        rw [px_uu]
        refine px_iinc (v := nI (i + 1)) (lv' := [(0, .ref t), (1, .ref a), (2, .ref b), (3, .int (nI w)), (4, .int (nI (i + 1)))]) hC 4 [1, 2, 3, 4, 0] dX1_subtractProduct_30 rfl (nI_1 i) (by decide) rfl ?_
        refine px_goto hC 3 dX1_subtractProduct_33 (by decide) ?_
        refine ih (i + 1) y1 (by omega) hy1 ?_
        obtain ⟨k, hk⟩ := hk
        exact ⟨_, sp_step hk he1 (sp_R bx (by omega))⟩
  refine px_iconst (v := nI 0) hC (by decide) dX1_subtractProduct_0 ?_
  refine px_istore (lv' := [(0, .ref t), (1, .ref a), (2, .ref b), (3, .int (nI w)), (4, .int (nI 0))]) hC [1, 2, 3, 4, 0] dX1_subtractProduct_1 (by decide) rfl ?_
  have h0 := loop w 0 tx (by omega) ht ⟨0, by simp [vl]⟩
  rw [px_us hf.2] at h0
  exact h0
theorem c_divE (l : Launch) (E : px_E) (L : List Nat) (f : Nat → va_E) (t b iv w : Nat) (tx bx : Nat → Nat) (hf : px_at L f t (aJ E 21 (lw tx))) (hg : px_at L f b (aJ E 21 (lw bx))) (hne : b ≠ t) (hw : w ≤ 21) (hiv : iv < 4294967296) (h1 : iv * bx 0 % 4294967296 = 1) (ht : dg tx) (hb : dg bx) : px_M l yX1_divideEvenly wsX1_divideEvenly (px_rm 1 32) E L f [.ref t, .ref b, .long (lN iv), .int (nI w)] (px_v L (fun f' => ∃ y, dg y ∧ (∀ i, w ≤ i → y i = tx i) ∧ (∃ k : Int, (vl 4294967296 tx w : Int) = vl 4294967296 y w * vl 4294967296 bx w + k * ((4294967296 ^ w : Nat) : Int)) ∧ f' = va_up f t (aJ E 21 (lw y)))) := by
  refine px_M.of (cc := cX1_divideEvenly) (maxL := 8) (ret := none) (lv := [(0, .ref t), (1, .ref b), (2, .long (lN iv)), (4, .int (nI w))]) (by decide) rfl (Nat.le_of_ble_eq_true rfl) rfl ?_
  intro p e s m below meth c A hC hnm
  obtain ⟨Q, hQ⟩ : ∃ Q, Q = MQ below (px_Q E (px_v L (fun f' => ∃ y, dg y ∧ (∀ i, w ≤ i → y i = tx i) ∧ (∃ k : Int, (vl 4294967296 tx w : Int) = vl 4294967296 y w * vl 4294967296 bx w + k * ((4294967296 ^ w : Nat) : Int)) ∧ f' = va_up f t (aJ E 21 (lw y)))) A) [.ref t, .ref b, .long (lN iv), .int (nI w)].toArray s (px_rm 1 32).cells (px_rm 1 32).slots A := ⟨_, rfl⟩
  rw [← hQ]
  have loop : ∀ (d i : Nat) (y : Nat → Nat), i + d = w → dg y → (∀ j, w ≤ j → y j = tx j) → (∃ k : Int, (vl 4294967296 tx w : Int) = vl 4294967296 y i * vl 4294967296 bx w + ((vl 4294967296 y w : Int) - vl 4294967296 y i) + k * ((4294967296 ^ w : Nat) : Int)) → px p l e (px_rm 1 32) s m [.ref t, .ref b, .long (lN iv), .int (nI w)].toArray below meth c 8 E A s.heap L (va_up f t (aJ E 21 (lw y))) 0 0 Q 3 [(0, .ref t), (1, .ref b), (2, .long (lN iv)), (4, .int (nI w)), (5, .int (nI i))] [] := by
    intro d
    induction d with
    | zero =>
      intro i y hi hy hj hk
      have e : i = w := by omega
      subst e
      refine px_iload hC 4 rfl dX1_divideEvenly_3 ?_
      refine px_iload hC 3 rfl dX1_divideEvenly_5 ?_
      refine px_icmp_ge hC 45 dX1_divideEvenly_7 (by decide) (fun _ => ?_) (fun q9 => (q9 (nI_le (Nat.le_refl i) (by omega))).elim)
      subst hQ
      exact px_vret hC rfl (⟨rfl, rfl, y, hy, hj, by obtain ⟨k, hk⟩ := hk; exact ⟨k, by rw [hk]; omega⟩, rfl⟩) dX1_divideEvenly_45
    | succ d ih =>
      intro i y hi hy hj hk
      have hyi := hy i (by omega)
      have hpm := ss_part hyi hiv (show 0 < 4294967296 by decide)
      refine px_iload hC 4 rfl dX1_divideEvenly_3 ?_
      refine px_iload hC 3 rfl dX1_divideEvenly_5 ?_
      refine px_icmp_ge hC 45 dX1_divideEvenly_7 (by decide) (fun q9 => ((nI_ge (by omega) (by omega)) q9).elim) (fun _ => ?_)
      refine px_aload_n hC 0 rfl dX1_divideEvenly_10 ?_
      refine px_iload hC 4 rfl dX1_divideEvenly_11 ?_
      refine px_lald hC hf.self (by omega) (by first | decide | assumption | omega) dX1_divideEvenly_13 ?_
      refine px_lload_n hC 2 rfl dX1_divideEvenly_14 ?_
      refine px_lmul hC dX1_divideEvenly_15 ?_
      refine px_ldc2 (v := 4294967295) hC dX1_divideEvenly_16 (by decide +kernel) ?_
      refine px_el (y := lN 4294967295) (by decide) ?_
      refine px_land hC dX1_divideEvenly_19 ?_
      refine px_el (y := lN (y i * iv % 4294967296)) (by show lN (y i) * lN iv &&& _ = _; rw [lN_mul]; exact wb_mask (k := 32) (by omega) (by decide)) ?_
      have hdl : y i * iv % 4294967296 < 4294967296 := Nat.mod_lt _ (by decide)
      have hdd : y i * iv % 4294967296 * bx 0 % 4294967296 = y i := by
        rw [Nat.mod_mul_mod, Nat.mul_assoc, Nat.mul_mod, h1, Nat.mul_one, Nat.mod_mod, Nat.mod_eq_of_lt hyi]
      generalize y i * iv % 4294967296 = dgt at hdl hdd ⊢
      refine px_lstore (lv' := [(0, .ref t), (1, .ref b), (2, .long (lN iv)), (4, .int (nI w)), (5, .int (nI i)), (6, .long (lN (dgt)))]) hC [1, 2, 3, 4, 5, 0] dX1_divideEvenly_20 (by decide) rfl ?_
      refine px_aload_n hC 0 rfl dX1_divideEvenly_22 ?_
      refine px_iload hC 4 rfl dX1_divideEvenly_23 ?_
      refine px_lload hC 5 rfl dX1_divideEvenly_25 ?_
      refine px_aload_n hC 1 rfl dX1_divideEvenly_27 ?_
      refine px_iload hC 3 rfl dX1_divideEvenly_28 ?_
      refine px_callSv (st := []) (nn := 5) hC (c_subS l E L _ t b i dgt w y bx hf.self (hg.up hne) hne (by omega) hw hdl hy hb) gX1_divideEvenly_X1_subtractScaled rfl (by decide +kernel) (by decide) (Nat.le_of_ble_eq_true rfl) (by decide) rfl rfl dX1_divideEvenly_30 (fun f1 h2 => ?_)
      obtain ⟨y1, hy1, hk1, ⟨k1, he1⟩, rfl⟩ := h2
      rw [px_uu]
      refine px_aload_n hC 0 rfl dX1_divideEvenly_33 ?_
      refine px_iload hC 4 rfl dX1_divideEvenly_34 ?_
      refine px_lload hC 5 rfl dX1_divideEvenly_36 ?_
      refine px_last hC hf.self (by omega) (by first | decide | assumption | omega) dX1_divideEvenly_38 ?_
      rw [px_uu, lw_up]
      refine px_iinc (v := nI (i + 1)) (lv' := [(0, .ref t), (1, .ref b), (2, .long (lN iv)), (4, .int (nI w)), (5, .int (nI (i + 1))), (6, .long (lN (dgt)))]) hC 4 [1, 2, 3, 4, 0, 5] dX1_divideEvenly_39 rfl (nI_1 i) (by decide) rfl ?_
      refine px_goto hC 3 dX1_divideEvenly_42 (by decide) ?_
      refine px_lv (lv2 := [(0, .ref t), (1, .ref b), (2, .long (lN iv)), (4, .int (nI w)), (5, .int (nI (i + 1)))]) [0, 1, 2, 3, 4] rfl ?_
      have hz : y1 i = 0 := dv_zero (g := dgt) (d := bx) (e := dgt * bx 0 / 4294967296) (by omega) (by decide) (fun j hj => hk1 j (Or.inl hj)) (hy1 i (by omega)) he1 (by rw [← hdd]; omega)
      have hu := vl_u (B := 4294967296) (x := y1) (n := w) (j := i) (z := dgt) (by omega)
      rw [hz, Nat.zero_mul, Nat.add_zero] at hu
      have hu2 : vl 4294967296 (un y1 i dgt) (i + 1) = vl 4294967296 y i + dgt * 4294967296 ^ i := by
        show vl 4294967296 (un y1 i dgt) i + un y1 i dgt i * 4294967296 ^ i = _
        rw [vl_ug (Nat.le_refl i), un_s, vl_c (fun j hj => hk1 j (Or.inl hj))]
      refine ih (i + 1) (un y1 i dgt) (by omega) (dg_un hy1 hdl) (fun j hj2 => ?_) ?_
      · rw [un_n _ _ (by omega), hk1 j (Or.inr hj2)]; exact hj j hj2
      · obtain ⟨k, hk⟩ := hk
        have hR := sp_R (B := 4294967296) bx (w := w) (i := i) (g := dgt) (by omega)
        rw [hu, hu2]
        have q1 : ((vl 4294967296 y1 w : Nat) : Int) + ((dgt * 4294967296 ^ i : Nat) : Int) * ((vl 4294967296 bx (w - i) : Nat) : Int) = ((vl 4294967296 y w : Nat) : Int) + (k1 : Int) * ((4294967296 ^ w : Nat) : Int) := by exact_mod_cast he1
        have q2 : ((dgt * 4294967296 ^ i : Nat) : Int) * ((vl 4294967296 bx w : Nat) : Int) = ((dgt * 4294967296 ^ i : Nat) : Int) * ((vl 4294967296 bx (w - i) : Nat) : Int) + (dgt : Int) * ((vl 4294967296 (fun j => bx (w - i + j)) i : Nat) : Int) * ((4294967296 ^ w : Nat) : Int) := by exact_mod_cast hR
        have q3 := dv_step hk q1 q2
        rw [← Int.natCast_add, ← Int.natCast_add] at q3
        exact ⟨_, q3⟩
  refine px_iconst (v := nI 0) hC (by decide) dX1_divideEvenly_0 ?_
  refine px_istore (lv' := [(0, .ref t), (1, .ref b), (2, .long (lN iv)), (4, .int (nI w)), (5, .int (nI 0))]) hC [1, 2, 3, 4, 0] dX1_divideEvenly_1 (by decide) rfl ?_
  have h0 := loop w 0 tx (by omega) ht (fun _ _ => rfl) ⟨0, by simp [vl]⟩
  rw [px_us hf.2] at h0
  exact h0
end
section
/-- the whole number that 21 limbs stand for -/
def sg (x : Nat → Nat) : Int := if 2147483648 ≤ x 20 then (vl 4294967296 x 21 : Int) - ((4294967296 ^ 21 : Nat) : Int) else vl 4294967296 x 21
theorem vl_neg {x y : Nat → Nat} {k : Nat} (hx : dg x) (hy : dg y) (h : vl 4294967296 y 21 + vl 4294967296 x 21 = k * 4294967296 ^ 21) (hn : 2147483648 ≤ x 20) : vl 4294967296 y 21 = (sg x).natAbs := by
  have h1 := vl_lt hx
  have h2 := vl_lt hy
  have h3 : 0 < vl 4294967296 x 21 := by
    have := vl_ge (B := 4294967296) (x := x) (n := 21) (i := 20) (by decide)
    have h4 : 0 < x 20 * 4294967296 ^ 20 := Nat.mul_pos (by omega) (Nat.pow_pos (by decide))
    omega
  have e : k = 1 := by
    rcases (show k = 0 ∨ k = 1 ∨ 2 ≤ k by omega) with q | q | q
    · subst q; rw [Nat.zero_mul] at h; omega
    · exact q
    · have : 2 * 4294967296 ^ 21 ≤ k * 4294967296 ^ 21 := Nat.mul_le_mul_right _ q
      omega
  subst e
  unfold sg
  rw [if_pos hn]
  omega
theorem vl_pos {x : Nat → Nat} (hn : ¬ 2147483648 ≤ x 20) : vl 4294967296 x 21 = (sg x).natAbs := by
  unfold sg
  rw [if_neg hn]
  omega
theorem vl_top {x : Nat → Nat} {w : Nat} (hw : w ≤ 21) (h : ∀ i, w ≤ i → i < 21 → x i = 0) : vl 4294967296 x 21 = vl 4294967296 x w := by
  have e : vl 4294967296 x (w + (21 - w)) = vl 4294967296 x w + 4294967296 ^ w * vl 4294967296 (fun i => x (w + i)) (21 - w) := vl_a _ _ _ _
  rw [show w + (21 - w) = 21 by omega, vl_c (x := fun i => x (w + i)) (y := fun _ => 0) (fun i hi => h (w + i) (by omega) (by omega)), vl_0] at e
  rw [e]
  omega

theorem c_setTo (l : Launch) (E : px_E) (L : List Nat) (f : Nat → va_E) (a : Nat) (r : Nat → Int64) (v : Int32) (hf : px_at L f a (aJ E 21 r)) : px_M l yX1_setTo wsX1_setTo (px_rm 1 24) E L f [.ref a, .int v] (px_v L (fun f' => f' = va_up f a (aJ E 21 (lw (sx v))))) := by
  refine px_M.of (cc := cX1_setTo) (maxL := 2) (ret := none) (lv := [(0, .ref a), (1, .int v)]) (by decide) rfl (Nat.le_of_ble_eq_true rfl) rfl ?_
  intro p e s m below meth c A hC hnm
  obtain ⟨Q, hQ⟩ : ∃ Q, Q = MQ below (px_Q E (px_v L (fun f' => f' = va_up f a (aJ E 21 (lw (sx v))))) A) [.ref a, .int v].toArray s (px_rm 1 24).cells (px_rm 1 24).slots A := ⟨_, rfl⟩
  rw [← hQ]
  refine px_aload_n hC 0 rfl dX1_setTo_0 ?_
  refine px_iload_n hC 1 rfl dX1_setTo_1 ?_
  by_cases h : 0 ≤ v
  · have hv : ¬ v < 0 := Int32.not_lt.mpr h
    refine px_if_ge hC 11 dX1_setTo_2 (by decide) (fun _ => ?_) (fun q9 => (q9 (h)).elim)
    refine px_lconst (v := lN 0) hC (by decide) dX1_setTo_11 ?_
    refine px_callSv (st := []) (nn := 2) hC (c_fillJ l E L f a 21 r (lN 0) hf (by decide)) gX1_setTo_J7_fill_d0a16 rfl (by decide +kernel) (by decide) (Nat.le_of_ble_eq_true rfl) (by decide) rfl rfl dX1_setTo_12 (fun f1 h1 => ?_)
    subst h1
    refine px_aload_n hC 0 rfl dX1_setTo_15 ?_
    refine px_iconst (v := nI 0) hC (by decide) dX1_setTo_16 ?_
    refine px_iload_n hC 1 rfl dX1_setTo_17 ?_
    refine px_i2l hC dX1_setTo_18 ?_
    refine px_ldc2 (v := 4294967295) hC dX1_setTo_19 (by decide +kernel) ?_
    refine px_el (y := lN 4294967295) (by decide) ?_
    refine px_land hC dX1_setTo_22 ?_
    refine px_el (y := lN v.toBitVec.toNat) (sx_l v) ?_
    refine px_last hC hf.self (by decide) (by first | decide | assumption | omega) dX1_setTo_23 ?_
    rw [px_uu, show vp_updL (fun _ => lN 0) 0 (lN v.toBitVec.toNat) = lw (sx v) from by
      unfold sx; rw [if_neg hv]; exact lw_up (fun _ => 0) 0 _]
    subst hQ
    exact px_vret hC rfl (⟨rfl, rfl, rfl⟩) dX1_setTo_24
  · have hv : v < 0 := Int32.not_le.mp h
    refine px_if_ge hC 11 dX1_setTo_2 (by decide) (fun q9 => absurd q9 (h)) (fun _ => ?_)
    refine px_ldc2 (v := 4294967295) hC dX1_setTo_5 (by decide +kernel) ?_
    refine px_el (y := lN 4294967295) (by decide) ?_
    refine px_goto hC 12 dX1_setTo_8 (by decide) ?_
    refine px_callSv (st := []) (nn := 2) hC (c_fillJ l E L f a 21 r (lN 4294967295) hf (by decide)) gX1_setTo_J7_fill_d0a16 rfl (by decide +kernel) (by decide) (Nat.le_of_ble_eq_true rfl) (by decide) rfl rfl dX1_setTo_12 (fun f1 h1 => ?_)
    subst h1
    refine px_aload_n hC 0 rfl dX1_setTo_15 ?_
    refine px_iconst (v := nI 0) hC (by decide) dX1_setTo_16 ?_
    refine px_iload_n hC 1 rfl dX1_setTo_17 ?_
    refine px_i2l hC dX1_setTo_18 ?_
    refine px_ldc2 (v := 4294967295) hC dX1_setTo_19 (by decide +kernel) ?_
    refine px_el (y := lN 4294967295) (by decide) ?_
    refine px_land hC dX1_setTo_22 ?_
    refine px_el (y := lN v.toBitVec.toNat) (sx_l v) ?_
    refine px_last hC hf.self (by decide) (by first | decide | assumption | omega) dX1_setTo_23 ?_
    rw [px_uu, show vp_updL (fun _ => lN 4294967295) 0 (lN v.toBitVec.toNat) = lw (sx v) from by
      unfold sx; rw [if_pos hv]; exact lw_up (fun _ => 4294967295) 0 _]
    subst hQ
    exact px_vret hC rfl (⟨rfl, rfl, rfl⟩) dX1_setTo_24
theorem c_copyW (l : Launch) (E : px_E) (L : List Nat) (f : Nat → va_E) (a b w : Nat) (x : Nat → Nat) (r : Nat → Int64) (hf : px_at L f a (aJ E 21 (lw x))) (hg : px_at L f b (aJ E 21 r)) (hne : a ≠ b) (h1 : 1 ≤ w) (h2 : w ≤ 21) (hx : dg x) : px_M l yX1_copyWidened wsX1_copyWidened (px_rm 2 47) E L f [.ref a, .int (nI w), .ref b] (px_v L (fun f' => f' = va_up f b (aJ E 21 (lw (wx x w))))) := by
  refine px_M.of (cc := cX1_copyWidened) (maxL := 3) (ret := none) (lv := [(0, .ref a), (1, .int (nI w)), (2, .ref b)]) (by decide) rfl (Nat.le_of_ble_eq_true rfl) rfl ?_
  intro p e s m below meth c A hC hnm
  obtain ⟨Q, hQ⟩ : ∃ Q, Q = MQ below (px_Q E (px_v L (fun f' => f' = va_up f b (aJ E 21 (lw (wx x w))))) A) [.ref a, .int (nI w), .ref b].toArray s (px_rm 2 47).cells (px_rm 2 47).slots A := ⟨_, rfl⟩
  rw [← hQ]
  refine px_aload_n hC 0 rfl dX1_copyWidened_0 ?_
  refine px_iconst (v := nI 0) hC (by decide) dX1_copyWidened_1 ?_
  refine px_aload_n hC 2 rfl dX1_copyWidened_2 ?_
  refine px_iconst (v := nI 0) hC (by decide) dX1_copyWidened_3 ?_
  refine px_iload_n hC 1 rfl dX1_copyWidened_4 ?_
  refine px_copyl hC hf hg (by decide +kernel) (by decide +kernel) (by decide +kernel) (by decide +kernel) (by omega) (by omega) (by decide) (by decide) (by decide) (by decide +kernel) dX1_copyWidened_5 ?_
  refine px_aload_n hC 2 rfl dX1_copyWidened_8 ?_
  refine px_iload_n hC 1 rfl dX1_copyWidened_9 ?_
  refine px_bipush (v := nI 21) hC (by decide) dX1_copyWidened_10 ?_
  refine px_aload_n hC 0 rfl dX1_copyWidened_12 ?_
  refine px_iload_n hC 1 rfl dX1_copyWidened_13 ?_
  refine px_callSi (st := [.int (nI 21), .int (nI w), .ref b]) (nn := 2) hC (c_isNegAt l E L _ a w x (hf.up hne) hx h1 h2) gX1_copyWidened_X1_isNegativeAt rfl (by decide +kernel) (by decide) (Nat.le_of_ble_eq_true rfl) (by decide) rfl rfl dX1_copyWidened_14 (fun z f1 hz => ?_)
  obtain ⟨rfl, hz⟩ := hz
  rcases hz with ⟨rfl, h⟩ | ⟨rfl, h⟩
  · refine px_if_eq hC 26 dX1_copyWidened_17 (by decide) (fun q9 => absurd q9 (by decide)) (fun _ => ?_)
    refine px_ldc2 (v := 4294967295) hC dX1_copyWidened_20 (by decide +kernel) ?_
    refine px_el (y := lN 4294967295) (by decide) ?_
    refine px_goto hC 27 dX1_copyWidened_23 (by decide) ?_
    refine px_callSv (st := []) (nn := 4) hC (c_fillR l E L _ b 21 w 21 _ (lN 4294967295) hg.self h2 (by decide) (by decide)) gX1_copyWidened_J7_fill_bad5a rfl (by decide +kernel) (by decide) (Nat.le_of_ble_eq_true rfl) (by decide) rfl rfl dX1_copyWidened_27 (fun f2 h3 => ?_)
    subst h3
    rw [px_uu]
    refine px_rowJ (r' := lw (wx x w)) (fun i hi => ?_) ?_
    · by_cases q : i < w
      · rw [if_neg (by omega), pk_cpy_in (by omega) (by omega)]
        show lw x (0 + (i - 0)) = lN (wx x w i)
        unfold wx
        rw [if_pos q, show 0 + (i - 0) = i by omega]
        rfl
      · rw [if_pos (by omega)]
        show _ = lN (wx x w i)
        unfold wx
        rw [if_neg q, if_pos h]
    subst hQ
    exact px_vret hC rfl (⟨rfl, rfl, rfl⟩) dX1_copyWidened_30
  · refine px_if_eq hC 26 dX1_copyWidened_17 (by decide) (fun _ => ?_) (fun q9 => (q9 (by decide)).elim)
    refine px_lconst (v := lN 0) hC (by decide) dX1_copyWidened_26 ?_
    refine px_callSv (st := []) (nn := 4) hC (c_fillR l E L _ b 21 w 21 _ (lN 0) hg.self h2 (by decide) (by decide)) gX1_copyWidened_J7_fill_bad5a rfl (by decide +kernel) (by decide) (Nat.le_of_ble_eq_true rfl) (by decide) rfl rfl dX1_copyWidened_27 (fun f2 h3 => ?_)
    subst h3
    rw [px_uu]
    refine px_rowJ (r' := lw (wx x w)) (fun i hi => ?_) ?_
    · by_cases q : i < w
      · rw [if_neg (by omega), pk_cpy_in (by omega) (by omega)]
        show lw x (0 + (i - 0)) = lN (wx x w i)
        unfold wx
        rw [if_pos q, show 0 + (i - 0) = i by omega]
        rfl
      · rw [if_pos (by omega)]
        show _ = lN (wx x w i)
        unfold wx
        rw [if_neg q, if_neg (by omega)]
    subst hQ
    exact px_vret hC rfl (⟨rfl, rfl, rfl⟩) dX1_copyWidened_30
theorem c_copyN (l : Launch) (E : px_E) (L : List Nat) (f : Nat → va_E) (a b : Nat) (x : Nat → Nat) (r : Nat → Int64) (hf : px_at L f a (aJ E 21 (lw x))) (hg : px_at L f b (aJ E 21 r)) (hne : a ≠ b) (hx : dg x) : px_M l yX1_copyNegated wsX1_copyNegated (px_rm 1 32) E L f [.ref a, .ref b] (px_v L (fun f' => ∃ y, dg y ∧ (∃ k, vl 4294967296 y 21 + vl 4294967296 x 21 = k * 4294967296 ^ 21) ∧ f' = va_up f b (aJ E 21 (lw y)))) := by
  refine px_M.of (cc := cX1_copyNegated) (maxL := 2) (ret := none) (lv := [(0, .ref a), (1, .ref b)]) (by decide) rfl (Nat.le_of_ble_eq_true rfl) rfl ?_
  intro p e s m below meth c A hC hnm
  obtain ⟨Q, hQ⟩ : ∃ Q, Q = MQ below (px_Q E (px_v L (fun f' => ∃ y, dg y ∧ (∃ k, vl 4294967296 y 21 + vl 4294967296 x 21 = k * 4294967296 ^ 21) ∧ f' = va_up f b (aJ E 21 (lw y)))) A) [.ref a, .ref b].toArray s (px_rm 1 32).cells (px_rm 1 32).slots A := ⟨_, rfl⟩
  rw [← hQ]
  refine px_aload_n hC 1 rfl dX1_copyNegated_0 ?_
  refine px_lconst (v := lN 0) hC (by decide) dX1_copyNegated_1 ?_
  refine px_callSv (st := []) (nn := 2) hC (c_fillJ l E L f b 21 r (lN 0) hg (by decide)) gX1_copyNegated_J7_fill_d0a16 rfl (by decide +kernel) (by decide) (Nat.le_of_ble_eq_true rfl) (by decide) rfl rfl dX1_copyNegated_2 (fun f1 h1 => ?_)
  subst h1
  refine px_aload_n hC 1 rfl dX1_copyNegated_5 ?_
  refine px_iconst (v := nI 0) hC (by decide) dX1_copyNegated_6 ?_
  refine px_lconst (v := lN 1) hC (by decide) dX1_copyNegated_7 ?_
  refine px_aload_n hC 0 rfl dX1_copyNegated_8 ?_
  refine px_bipush (v := nI 21) hC (by decide) dX1_copyNegated_9 ?_
  refine px_callSv (st := []) (nn := 5) hC (c_subS l E L _ b a 0 1 21 (fun _ => 0) x hg.self (hf.up hne) hne (by decide) (by decide) (by decide) (fun _ _ => by show 0 < 4294967296; decide) hx) gX1_copyNegated_X1_subtractScaled rfl (by decide +kernel) (by decide) (Nat.le_of_ble_eq_true rfl) (by decide) rfl rfl dX1_copyNegated_11 (fun f2 h2 => ?_)
  obtain ⟨y, hy, -, ⟨k, hk⟩, rfl⟩ := h2
  rw [px_uu]
  subst hQ
  exact px_vret hC rfl (⟨rfl, rfl, y, hy, ⟨k, by rw [vl_0, Nat.pow_zero, Nat.mul_one, Nat.one_mul, Nat.zero_add, Nat.sub_zero] at hk; exact hk⟩, rfl⟩) dX1_copyNegated_14
theorem c_copyM (l : Launch) (E : px_E) (L : List Nat) (f : Nat → va_E) (a b : Nat) (x : Nat → Nat) (r : Nat → Int64) (hf : px_at L f a (aJ E 21 (lw x))) (hg : px_at L f b (aJ E 21 r)) (hne : a ≠ b) (hx : dg x) : px_M l yX1_copyMagnitude wsX1_copyMagnitude (px_rm 2 53) E L f [.ref a, .ref b] (px_v L (fun f' => ∃ y, dg y ∧ vl 4294967296 y 21 = (sg x).natAbs ∧ f' = va_up f b (aJ E 21 (lw y)))) := by
  refine px_M.of (cc := cX1_copyMagnitude) (maxL := 2) (ret := none) (lv := [(0, .ref a), (1, .ref b)]) (by decide) rfl (Nat.le_of_ble_eq_true rfl) rfl ?_
  intro p e s m below meth c A hC hnm
  obtain ⟨Q, hQ⟩ : ∃ Q, Q = MQ below (px_Q E (px_v L (fun f' => ∃ y, dg y ∧ vl 4294967296 y 21 = (sg x).natAbs ∧ f' = va_up f b (aJ E 21 (lw y)))) A) [.ref a, .ref b].toArray s (px_rm 2 53).cells (px_rm 2 53).slots A := ⟨_, rfl⟩
  rw [← hQ]
  refine px_aload_n hC 0 rfl dX1_copyMagnitude_0 ?_
  refine px_callSi (st := []) (nn := 1) hC (c_isNeg l E L f a x hf hx) gX1_copyMagnitude_X1_isNegative rfl (by decide +kernel) (by decide) (Nat.le_of_ble_eq_true rfl) (by decide) rfl rfl dX1_copyMagnitude_1 (fun z f1 hz => ?_)
  obtain ⟨rfl, hz⟩ := hz
  rcases hz with ⟨rfl, h⟩ | ⟨rfl, h⟩
  · refine px_if_eq hC 15 dX1_copyMagnitude_4 (by decide) (fun q9 => absurd q9 (by decide)) (fun _ => ?_)
    refine px_aload_n hC 0 rfl dX1_copyMagnitude_7 ?_
    refine px_aload_n hC 1 rfl dX1_copyMagnitude_8 ?_
    refine px_callSv (st := []) (nn := 2) hC (c_copyN l E L _ a b x r hf hg hne hx) gX1_copyMagnitude_X1_copyNegated rfl (by decide +kernel) (by decide) (Nat.le_of_ble_eq_true rfl) (by decide) rfl rfl dX1_copyMagnitude_9 (fun f2 h3 => ?_)
    obtain ⟨y, hy, ⟨k, hk⟩, rfl⟩ := h3
    refine px_goto hC 20 dX1_copyMagnitude_12 (by decide) ?_
    subst hQ
    exact px_vret hC rfl (⟨rfl, rfl, y, hy, vl_neg hx hy hk h, rfl⟩) dX1_copyMagnitude_20
  · refine px_if_eq hC 15 dX1_copyMagnitude_4 (by decide) (fun _ => ?_) (fun q9 => (q9 (by decide)).elim)
    refine px_aload_n hC 0 rfl dX1_copyMagnitude_15 ?_
    refine px_aload_n hC 1 rfl dX1_copyMagnitude_16 ?_
    refine px_callSv (st := []) (nn := 2) hC (c_copy l E L _ a b x r hf hg) gX1_copyMagnitude_X1_copy rfl (by decide +kernel) (by decide) (Nat.le_of_ble_eq_true rfl) (by decide) rfl rfl dX1_copyMagnitude_17 (fun f2 h3 => ?_)
    subst h3
    subst hQ
    exact px_vret hC rfl (⟨rfl, rfl, x, hx, vl_pos (by omega), rfl⟩) dX1_copyMagnitude_20
theorem c_lowB (l : Launch) (E : px_E) (L : List Nat) (f : Nat → va_E) (a : Nat) (x : Nat → Nat) (hf : px_at L f a (aJ E 21 (lw x))) (hx : dg x) : px_M l yX2_lowBits wsX2_lowBits (px_rm 0 0) E L f [.ref a] (px_l L (fun z f' => f' = f ∧ z = lN (x 1 * 4294967296 + x 0))) := by
  refine px_M.of (cc := cX2_lowBits) (maxL := 1) (ret := (some .long)) (lv := [(0, .ref a)]) (by decide) rfl (Nat.le_of_ble_eq_true rfl) rfl ?_
  intro p e s m below meth c A hC hnm
  obtain ⟨Q, hQ⟩ : ∃ Q, Q = MQ below (px_Q E (px_l L (fun z f' => f' = f ∧ z = lN (x 1 * 4294967296 + x 0))) A) [.ref a].toArray s (px_rm 0 0).cells (px_rm 0 0).slots A := ⟨_, rfl⟩
  rw [← hQ]
  have h0 := hx 0 (by decide)
  have h1 := hx 1 (by decide)
  refine px_aload_n hC 0 rfl dX2_lowBits_0 ?_
  refine px_iconst (v := nI 1) hC (by decide) dX2_lowBits_1 ?_
  refine px_lald hC hf (by decide) (by first | decide | assumption | omega) dX2_lowBits_2 ?_
  refine px_bipush (v := nI 32) hC (by decide) dX2_lowBits_3 ?_
  refine px_lshl hC dX2_lowBits_5 ?_
  refine px_el (y := lN (x 1 * 2 ^ 32)) (wb_shl (x 1) (by decide)) ?_
  refine px_aload_n hC 0 rfl dX2_lowBits_6 ?_
  refine px_iconst (v := nI 0) hC (by decide) dX2_lowBits_7 ?_
  refine px_lald hC hf (by decide) (by first | decide | assumption | omega) dX2_lowBits_8 ?_
  refine px_lor hC dX2_lowBits_9 ?_
  refine px_el (y := lN (x 1 * 4294967296 + x 0)) (g_or (k := 32) rfl h0 (by omega)) ?_
  subst hQ
  exact px_lret hC rfl (⟨_, rfl, rfl, rfl, rfl⟩) dX2_lowBits_10
theorem fl_sum {x : Nat → Nat} (h : ∀ i, 2 ≤ i → i < 21 → x i = 0) : vl 4294967296 x 21 = x 1 * 4294967296 + x 0 := by
  rw [vl_top (w := 2) (by decide) h]
  show 0 + x 0 * 4294967296 ^ 0 + x 1 * 4294967296 ^ 1 = _
  omega
theorem fl_big {x : Nat → Nat} {i : Nat} (h2 : 2 ≤ i) (hi : i < 21) (h : x i ≠ 0) : 18446744073709551616 ≤ vl 4294967296 x 21 := by
  have h1 := vl_ge (B := 4294967296) (x := x) hi
  have h3 : 4294967296 ^ 2 ≤ 4294967296 ^ i := Nat.pow_le_pow_right (by decide) h2
  have h4 : 1 * 4294967296 ^ i ≤ x i * 4294967296 ^ i := Nat.mul_le_mul_right _ (by omega)
  have h5 : (4294967296 : Nat) ^ 2 = 18446744073709551616 := by decide
  omega
theorem c_fits (l : Launch) (E : px_E) (L : List Nat) (f : Nat → va_E) (a b : Nat) (x : Nat → Nat) (hf : px_at L f a (aJ E 21 (lw x))) (hx : dg x) (hb : b < 2) : px_M l yX2_fitsLong wsX2_fitsLong (px_rm 1 20) E L f [.ref a, .int (nI b)] (px_i L (fun z f' => f' = f ∧ ((z = nI 1 ∧ (vl 4294967296 x 21 < 2 ^ 63 ∨ (b = 1 ∧ vl 4294967296 x 21 = 2 ^ 63)) ∧ vl 4294967296 x 21 = x 1 * 4294967296 + x 0) ∨ (z = nI 0 ∧ ¬ (vl 4294967296 x 21 < 2 ^ 63 ∨ (b = 1 ∧ vl 4294967296 x 21 = 2 ^ 63)))))) := by
  refine px_M.of (cc := cX2_fitsLong) (maxL := 4) (ret := (some .boolean)) (lv := [(0, .ref a), (1, .int (nI b))]) (by decide) rfl (Nat.le_of_ble_eq_true rfl) rfl ?_
  intro p e s m below meth c A hC hnm
  obtain ⟨Q, hQ⟩ : ∃ Q, Q = MQ below (px_Q E (px_i L (fun z f' => f' = f ∧ ((z = nI 1 ∧ (vl 4294967296 x 21 < 2 ^ 63 ∨ (b = 1 ∧ vl 4294967296 x 21 = 2 ^ 63)) ∧ vl 4294967296 x 21 = x 1 * 4294967296 + x 0) ∨ (z = nI 0 ∧ ¬ (vl 4294967296 x 21 < 2 ^ 63 ∨ (b = 1 ∧ vl 4294967296 x 21 = 2 ^ 63)))))) A) [.ref a, .int (nI b)].toArray s (px_rm 1 20).cells (px_rm 1 20).slots A := ⟨_, rfl⟩
  rw [← hQ]
  have h0 := hx 0 (by decide)
  have h1 := hx 1 (by decide)
  have loop : ∀ (d i : Nat), i + d = 21 → 2 ≤ i → (∀ j, 2 ≤ j → j < i → x j = 0) → px p l e (px_rm 1 20) s m [.ref a, .int (nI b)].toArray below meth c 4 E A s.heap L (f) 0 0 Q 2 [(0, .ref a), (1, .int (nI b)), (2, .int (nI i))] [] := by
    intro d
    induction d with
    | zero =>
      intro i hi h2 hz
      have e : i = 21 := by omega
      subst e
      have hs := fl_sum hz
      refine px_iload_n hC 2 rfl dX2_fitsLong_2 ?_
      refine px_bipush (v := nI 21) hC (by decide) dX2_fitsLong_3 ?_
      refine px_icmp_ge hC 24 dX2_fitsLong_5 (by decide) (fun _ => ?_) (fun q9 => (q9 (by decide)).elim)
      refine px_aload_n hC 0 rfl dX2_fitsLong_24 ?_
      refine px_callSl (st := []) (nn := 1) hC (c_lowB l E L f a x hf hx) gX2_fitsLong_X2_lowBits rfl (by decide +kernel) (by decide) (Nat.le_of_ble_eq_true rfl) (by decide) rfl rfl dX2_fitsLong_25 (fun z f1 hz1 => ?_)
      obtain ⟨rfl, rfl⟩ := hz1
      rw [← hs]
      generalize hV : vl 4294967296 x 21 = V at hs ⊢
      have hVl : V < 2 ^ 64 := by omega
      refine px_lstore_n (lv' := [(0, .ref a), (1, .int (nI b)), (2, .long (lN (V)))]) hC [1, 2, 0] dX2_fitsLong_28 (by decide) rfl ?_
      refine px_lload_n hC 2 rfl dX2_fitsLong_29 ?_
      refine px_lconst (v := lN 0) hC (by decide) dX2_fitsLong_30 ?_
      refine px_lcmp hC dX2_fitsLong_31 ?_
      by_cases q : V < 2 ^ 63
      · refine px_if_ge hC 47 dX2_fitsLong_32 (by decide) (fun _ => ?_) (fun q9 => (q9 ((lz_cge q (by decide)).mpr (Nat.zero_le _))).elim)
        refine px_iconst (v := nI 1) hC (by decide) dX2_fitsLong_47 ?_
        refine px_goto hC 52 dX2_fitsLong_48 (by decide) ?_
        subst hQ
        exact px_zret hC rfl (by decide) (⟨_, rfl, rfl, rfl, Or.inl ⟨rfl, Or.inl (by rw [hV]; exact q), by rw [hV]; exact hs⟩⟩) dX2_fitsLong_52
      · have hneg : ¬ 0 ≤ lg_cmp (lN V) (lN 0) := by
          rw [lg_cmp_ge]
          intro q2
          have h3 : (0 : Int) ≤ (lN V).toInt := by
            have h9 := Int64.le_iff_toInt_le.mp q2
            rw [show (lN 0).toInt = 0 from by decide] at h9
            exact h9
          have h4 : (lN V).toInt = (V : Int) - 2 ^ 64 := by
            show (BitVec.ofNat 64 V).toInt = _
            rw [BitVec.toInt_eq_toNat_cond, BitVec.toNat_ofNat, Nat.mod_eq_of_lt hVl, if_neg (by omega)]
            rfl
          omega
        refine px_if_ge hC 47 dX2_fitsLong_32 (by decide) (fun q9 => absurd q9 (hneg)) (fun _ => ?_)
        refine px_iload_n hC 1 rfl dX2_fitsLong_35 ?_
        rcases (show b = 0 ∨ b = 1 by omega) with rfl | rfl
        · refine px_if_eq hC 51 dX2_fitsLong_36 (by decide) (fun _ => ?_) (fun q9 => (q9 (by decide)).elim)
          refine px_iconst (v := nI 0) hC (by decide) dX2_fitsLong_51 ?_
          subst hQ
          exact px_zret hC rfl (by decide) (⟨_, rfl, rfl, rfl, Or.inr ⟨rfl, fun q3 => by rw [hV] at q3; omega⟩⟩) dX2_fitsLong_52
        · refine px_if_eq hC 51 dX2_fitsLong_36 (by decide) (fun q9 => absurd q9 (by decide)) (fun _ => ?_)
          refine px_lload_n hC 2 rfl dX2_fitsLong_39 ?_
          refine px_ldc2 (v := (-9223372036854775808)) hC dX2_fitsLong_40 (by decide +kernel) ?_
          refine px_lcmp hC dX2_fitsLong_43 ?_
          by_cases q3 : V = 2 ^ 63
          · subst q3
            refine px_if_ne hC 51 dX2_fitsLong_44 (by decide) (fun q9 => (q9 (by decide)).elim) (fun _ => ?_)
            refine px_iconst (v := nI 1) hC (by decide) dX2_fitsLong_47 ?_
            refine px_goto hC 52 dX2_fitsLong_48 (by decide) ?_
            subst hQ
            exact px_zret hC rfl (by decide) (⟨_, rfl, rfl, rfl, Or.inl ⟨rfl, Or.inr ⟨rfl, hV⟩, by rw [hV]; exact hs⟩⟩) dX2_fitsLong_52
          · have hne : ¬ lg_cmp (lN V) (-9223372036854775808) = 0 := by
              intro q4
              have h5 : lN V = lN (2 ^ 63) := by
                have h6 : lN V = -9223372036854775808 := by
                  unfold lg_cmp at q4
                  by_cases h7 : lN V > -9223372036854775808
                  · rw [if_pos h7] at q4; exact absurd q4 (by decide)
                  · rw [if_neg h7] at q4
                    by_cases h8 : lN V = -9223372036854775808
                    · exact h8
                    · rw [if_neg h8] at q4; exact absurd q4 (by decide)
                rw [h6]; decide
              exact q3 ((lz_inj hVl (by decide)).mp h5)
            refine px_if_ne hC 51 dX2_fitsLong_44 (by decide) (fun _ => ?_) (fun q9 => absurd q9 (hne))
            refine px_iconst (v := nI 0) hC (by decide) dX2_fitsLong_51 ?_
            subst hQ
            exact px_zret hC rfl (by decide) (⟨_, rfl, rfl, rfl, Or.inr ⟨rfl, fun q5 => by rw [hV] at q5; omega⟩⟩) dX2_fitsLong_52
    | succ d ih =>
      intro i hi h2 hz
      have hxi := hx i (by omega)
      refine px_iload_n hC 2 rfl dX2_fitsLong_2 ?_
      refine px_bipush (v := nI 21) hC (by decide) dX2_fitsLong_3 ?_
      refine px_icmp_ge hC 24 dX2_fitsLong_5 (by decide) (fun q9 => absurd q9 (nI_ge (by omega) (by omega))) (fun _ => ?_)
      refine px_aload_n hC 0 rfl dX2_fitsLong_8 ?_
      refine px_iload_n hC 2 rfl dX2_fitsLong_9 ?_
      refine px_lald hC hf (by omega) (by first | decide | assumption | omega) dX2_fitsLong_10 ?_
      refine px_lconst (v := lN 0) hC (by decide) dX2_fitsLong_11 ?_
      refine px_lcmp hC dX2_fitsLong_12 ?_
      by_cases h : x i = 0
      · refine px_if_eq hC 18 dX2_fitsLong_13 (by decide) (fun _ => ?_) (fun q9 => (q9 ((lz_c0 (by omega) (by omega)).mpr h)).elim)
        refine px_iinc (v := nI (i + 1)) (lv' := [(0, .ref a), (1, .int (nI b)), (2, .int (nI (i + 1)))]) hC 2 [1, 2, 0] dX2_fitsLong_18 rfl (nI_1 i) (by decide) rfl ?_
        refine px_goto hC 2 dX2_fitsLong_21 (by decide) ?_
        exact ih (i + 1) (by omega) (by omega) (fun j h3 h4 => by
          by_cases q : j = i
          · subst q; exact h
          · exact hz j h3 (by omega))
      · have hbig := fl_big h2 (by omega) h
        refine px_if_eq hC 18 dX2_fitsLong_13 (by decide) (fun q9 => absurd q9 (fun q => h ((lz_c0 (by omega) (by omega)).mp q))) (fun _ => ?_)
        refine px_iconst (v := nI 0) hC (by decide) dX2_fitsLong_16 ?_
        subst hQ
        exact px_zret hC rfl (by decide) (⟨_, rfl, rfl, rfl, Or.inr ⟨rfl, fun q => by omega⟩⟩) dX2_fitsLong_17
  refine px_iconst (v := nI 2) hC (by decide) dX2_fitsLong_0 ?_
  refine px_istore_n (lv' := [(0, .ref a), (1, .int (nI b)), (2, .int (nI 2))]) hC [1, 2, 0] dX2_fitsLong_1 (by decide) rfl ?_
  exact loop 19 2 (by omega) (by omega) (fun j h3 h4 => absurd h3 (by omega))
theorem c_rmT (l : Launch) (E : px_E) (L : List Nat) (f : Nat → va_E) (a w : Nat) (x : Nat → Nat) (hf : px_at L f a (aJ E 21 (lw x))) (hx : dg x) (hw : w ≤ 21) (ht : ∀ i, w ≤ i → i < 21 → x i = 0) (h0 : vl 4294967296 x w ≠ 0) : px_M l yX2_removeTwos wsX2_removeTwos (px_rm 2 51) E L f [.ref a, .int (nI w)] (px_v L (fun f' => ∃ y, dg y ∧ (∀ i, w ≤ i → i < 21 → y i = 0) ∧ (∃ t o, vl 4294967296 x w = 2 ^ t * (2 * o + 1) ∧ vl 4294967296 y w = 2 * o + 1) ∧ f' = va_up f a (aJ E 21 (lw y)))) := by
  refine px_M.of (cc := cX2_removeTwos) (maxL := 2) (ret := none) (lv := [(0, .ref a), (1, .int (nI w))]) (by decide) rfl (Nat.le_of_ble_eq_true rfl) rfl ?_
  intro p e s m below meth c A hC hnm
  obtain ⟨Q, hQ⟩ : ∃ Q, Q = MQ below (px_Q E (px_v L (fun f' => ∃ y, dg y ∧ (∀ i, w ≤ i → i < 21 → y i = 0) ∧ (∃ t o, vl 4294967296 x w = 2 ^ t * (2 * o + 1) ∧ vl 4294967296 y w = 2 * o + 1) ∧ f' = va_up f a (aJ E 21 (lw y)))) A) [.ref a, .int (nI w)].toArray s (px_rm 2 51).cells (px_rm 2 51).slots A := ⟨_, rfl⟩
  rw [← hQ]
  refine px_aload_n hC 0 rfl dX2_removeTwos_0 ?_
  refine px_aload_n hC 0 rfl dX2_removeTwos_1 ?_
  refine px_callSi (st := [.ref a]) (nn := 1) hC (c_trailZ l E L f a x hf hx) gX2_removeTwos_X1_trailingZeros rfl (by decide +kernel) (by decide) (Nat.le_of_ble_eq_true rfl) (by decide) rfl rfl dX2_removeTwos_2 (fun z f1 hz => ?_)
  obtain ⟨rfl, t, rfl, hz⟩ := hz
  have e21 := vl_top hw ht
  rcases hz with ⟨h1, h2⟩ | ⟨h1, o, h2⟩
  · exact absurd (by rw [← e21]; exact h1) h0
  · refine px_iload_n hC 1 rfl dX2_removeTwos_5 ?_
    refine px_callSv (st := []) (nn := 3) hC (c_shr l E L _ a t w x hf hx hw (by omega)) gX2_removeTwos_X1_shiftRight rfl (by decide +kernel) (by decide) (Nat.le_of_ble_eq_true rfl) (by decide) rfl rfl dX2_removeTwos_6 (fun f2 h3 => ?_)
    obtain ⟨y, hy, hk, hv, rfl⟩ := h3
    subst hQ
    exact px_vret hC rfl (⟨rfl, rfl, y, hy, fun i h4 h5 => by rw [hk i h4]; exact ht i h4 h5, ⟨t, o, by rw [← e21]; exact h2, by rw [hv, ← e21, h2, Nat.mul_div_cancel_left _ (Nat.pow_pos (by decide))]⟩, rfl⟩) dX2_removeTwos_9
end
section

/-! ===== minors, and elimination without fractions ===== -/
def wg (a : Nat → Int) : (List Nat → Int) → List Nat → Int
  | _, [] => 0
  | F, c :: cs => a c * F cs - wg a (fun t => F (c :: t)) cs
def dt : List (Nat → Int) → List Nat → Int
  | [], _ => 1
  | a :: rows, cs => wg a (dt rows) cs
theorem wg_sub (a : Nat → Int) (cs : List Nat) : ∀ (F G : List Nat → Int), wg a (fun t => F t - G t) cs = wg a F cs - wg a G cs := by
  induction cs with
  | nil => intro F G; simp [wg]
  | cons c cs ih =>
    intro F G
    simp only [wg]
    rw [ih (fun t => F (c :: t)) (fun t => G (c :: t))]
    grind
theorem wg_mul (a : Nat → Int) (x : Int) (cs : List Nat) : ∀ (F : List Nat → Int), wg a (fun t => x * F t) cs = x * wg a F cs := by
  induction cs with
  | nil => intro F; simp [wg]
  | cons c cs ih =>
    intro F
    simp only [wg]
    rw [ih (fun t => F (c :: t))]
    grind
theorem wg_zero (a : Nat → Int) (cs : List Nat) : wg a (fun _ => 0) cs = 0 := by
  induction cs with
  | nil => rfl
  | cons c cs ih => simp only [wg]; rw [ih]; omega
theorem wg_anti (a b : Nat → Int) (cs : List Nat) : ∀ (F : List Nat → Int), wg a (wg b F) cs = - wg b (wg a F) cs := by
  induction cs with
  | nil => intro F; simp [wg]
  | cons c cs ih =>
    intro F
    have e1 : (fun t => wg b F (c :: t)) = (fun t => b c * F t - wg b (fun s => F (c :: s)) t) := rfl
    have e2 : (fun t => wg a F (c :: t)) = (fun t => a c * F t - wg a (fun s => F (c :: s)) t) := rfl
    show a c * wg b F cs - wg a (fun t => wg b F (c :: t)) cs = - (b c * wg a F cs - wg b (fun t => wg a F (c :: t)) cs)
    rw [e1, e2, wg_sub, wg_sub, wg_mul, wg_mul]
    have := ih (fun s => F (c :: s))
    have e3 : wg a (fun t => wg b (fun s => F (c :: s)) t) cs = wg a (wg b (fun s => F (c :: s))) cs := rfl
    have e4 : wg b (fun t => wg a (fun s => F (c :: s)) t) cs = wg b (wg a (fun s => F (c :: s))) cs := rfl
    rw [e3, e4]
    omega
theorem wg_two (a : Nat → Int) (F : List Nat → Int) (cs : List Nat) : wg a (wg a F) cs = 0 := by
  have := wg_anti a a cs F
  omega
theorem dt_dup {a : Nat → Int} : ∀ (rows : List (Nat → Int)), a ∈ rows → ∀ cs, dt (a :: rows) cs = 0 := by
  intro rows
  induction rows with
  | nil => intro h; cases h
  | cons b rows ih =>
    intro h cs
    rcases List.mem_cons.mp h with q | q
    · subst q
      exact wg_two a (dt rows) cs
    · show wg a (wg b (dt rows)) cs = 0
      rw [wg_anti]
      have e : wg a (dt rows) = fun _ => 0 := by
        funext t
        exact ih q t
      rw [e, wg_zero]
      rfl
/-- sums -/
def sm : Nat → (Nat → Int) → Int
  | 0, _ => 0
  | n + 1, g => sm n g + g n
theorem sm_c {n : Nat} {g h : Nat → Int} (e : ∀ l, l < n → g l = h l) : sm n g = sm n h := by
  induction n with
  | zero => rfl
  | succ n ih => simp only [sm]; rw [ih (fun l hl => e l (by omega)), e n (by omega)]
theorem sm_sub (n : Nat) (g h : Nat → Int) : sm n (fun l => g l - h l) = sm n g - sm n h := by
  induction n with
  | zero => rfl
  | succ n ih => simp only [sm]; rw [ih]; omega
theorem sm_add (n : Nat) (g h : Nat → Int) : sm n (fun l => g l + h l) = sm n g + sm n h := by
  induction n with
  | zero => rfl
  | succ n ih => simp only [sm]; rw [ih]; omega
theorem sm_mul (n : Nat) (x : Int) (g : Nat → Int) : sm n (fun l => x * g l) = x * sm n g := by
  induction n with
  | zero => simp [sm]
  | succ n ih => simp only [sm]; rw [ih]; grind
theorem sm_zero (n : Nat) : sm n (fun _ => 0) = 0 := by
  induction n with
  | zero => rfl
  | succ n ih => simp only [sm]; rw [ih]; rfl
def kd (l : Nat) : Nat → Int := fun c => if c = l then 1 else 0
theorem sm_kd (n c : Nat) (hc : c < n) (a : Nat → Int) (X : Int) : sm n (fun l => a l * (kd l c * X)) = a c * X := by
  induction n with
  | zero => omega
  | succ n ih =>
    simp only [sm]
    by_cases q : c = n
    · subst q
      have e : sm c (fun l => a l * (kd l c * X)) = 0 := by
        rw [sm_c (h := fun _ => 0) (fun l hl => by simp [kd, show ¬ c = l by omega]), sm_zero]
      rw [e]
      simp [kd]
    · rw [ih (by omega)]
      simp [kd, q]
theorem wg_lin (k : Nat) (a : Nat → Int) (cs : List Nat) : (∀ c ∈ cs, c < k) → ∀ F : List Nat → Int, wg a F cs = sm k (fun l => a l * wg (kd l) F cs) := by
  induction cs with
  | nil => intro _ F; simp only [wg]; rw [sm_c (h := fun _ => 0) (fun l _ => by simp), sm_zero]
  | cons c cs ih =>
    intro hc F
    have h1 := ih (fun d hd => hc d (List.mem_cons_of_mem _ hd)) (fun t => F (c :: t))
    show a c * F cs - wg a (fun t => F (c :: t)) cs = sm k (fun l => a l * (kd l c * F cs - wg (kd l) (fun t => F (c :: t)) cs))
    rw [h1, sm_c (g := fun l => a l * (kd l c * F cs - wg (kd l) (fun t => F (c :: t)) cs)) (h := fun l => a l * (kd l c * F cs) - a l * wg (kd l) (fun t => F (c :: t)) cs) (fun l _ => by grind), sm_sub, sm_kd k c (hc c List.mem_cons_self)]
theorem wg_kd0 {l : Nat} (cs : List Nat) : (∀ c ∈ cs, c ≠ l) → ∀ F : List Nat → Int, wg (kd l) F cs = 0 := by
  induction cs with
  | nil => intro _ F; rfl
  | cons c cs ih =>
    intro hc F
    show kd l c * F cs - wg (kd l) (fun t => F (c :: t)) cs = 0
    rw [ih (fun d hd => hc d (List.mem_cons_of_mem _ hd))]
    simp [kd, hc c List.mem_cons_self]
/-- the first k rows of an arrangement, the last one first; the first k columns, the last one first -/
def rws (A : Nat → Nat → Int) : Nat → List (Nat → Int)
  | 0 => []
  | k + 1 => A k :: rws A k
def cls : Nat → List Nat
  | 0 => []
  | k + 1 => k :: cls k
theorem cls_lt (k : Nat) : ∀ c ∈ cls k, c < k := by
  induction k with
  | zero => intro c h; cases h
  | succ k ih =>
    intro c h
    rcases List.mem_cons.mp h with q | q
    · omega
    · have := ih c q; omega
theorem rws_mem (A : Nat → Nat → Int) {k i : Nat} (h : i < k) : A i ∈ rws A k := by
  induction k with
  | zero => omega
  | succ k ih =>
    by_cases q : i = k
    · subst q; exact List.mem_cons_self
    · exact List.mem_cons_of_mem _ (ih (by omega))
def bd (A : Nat → Nat → Int) (k : Nat) : Int := dt (rws A k) (cls k)
def bE (A : Nat → Nat → Int) (k i j : Nat) : Int := dt (A i :: rws A k) (j :: cls k)
def bC (A : Nat → Nat → Int) (k l j : Nat) : Int := wg (kd l) (fun t => dt (rws A k) (j :: t)) (cls k)
theorem bE_eq (A : Nat → Nat → Int) (k i j : Nat) : bE A k i j = A i j * bd A k - sm k (fun l => A i l * bC A k l j) := by
  show A i j * dt (rws A k) (cls k) - wg (A i) (fun t => dt (rws A k) (j :: t)) (cls k) = _
  rw [wg_lin k (A i) (cls k) (cls_lt k)]
  rfl
theorem bE_0 (A : Nat → Nat → Int) {k i : Nat} (j : Nat) (h : i < k) : bE A k i j = 0 := dt_dup _ (rws_mem A h) _
theorem bd_s (A : Nat → Nat → Int) (k : Nat) : bd A (k + 1) = bE A k k k := rfl
theorem bC_k (A : Nat → Nat → Int) (k j : Nat) : bC A (k + 1) k j = bE A k k j := by
  show kd k k * dt (rws A (k + 1)) (j :: cls k) - wg (kd k) (fun t => dt (rws A (k + 1)) (j :: (k :: t))) (cls k) = _
  rw [wg_kd0 (cls k) (fun c hc => by have := cls_lt k c hc; omega)]
  simp [kd]
  rfl
/-- only 0 solves the first k rows without a right side -/
theorem b_uni (A : Nat → Nat → Int) (k : Nat) : (∀ m, m ≤ k → bd A m ≠ 0) → ∀ y : Nat → Int, (∀ i, i < k → sm k (fun l => A i l * y l) = 0) → ∀ l, l < k → y l = 0 := by
  induction k with
  | zero => intro _ y _ l h; omega
  | succ k ih =>
    intro hd y hy
    have hdk : bd A k ≠ 0 := hd k (by omega)
    have hs : ∀ i, sm k (fun l => A i l * (bd A k * y l + bC A k l k * y k)) = bd A k * sm k (fun l => A i l * y l) + y k * (A i k * bd A k - bE A k i k) := by
      intro i
      rw [bE_eq, sm_c (h := fun l => bd A k * (A i l * y l) + y k * (A i l * bC A k l k)) (fun l _ => by grind), sm_add, sm_mul, sm_mul]
      grind
    have hz := ih (fun m hm => hd m (by omega)) (fun l => bd A k * y l + bC A k l k * y k) (fun i hi => by
      have h1 : sm k (fun l => A i l * y l) + A i k * y k = 0 := hy i (by omega)
      rw [hs i, bE_0 A k hi]
      have h2 : sm k (fun l => A i l * y l) = - (A i k * y k) := by omega
      rw [h2]
      grind)
    have h1 : sm k (fun l => A k l * y l) + A k k * y k = 0 := hy k (by omega)
    have h3 := hs k
    rw [sm_c (h := fun _ => 0) (fun l hl => by rw [hz l hl]; omega), sm_zero, ← bd_s] at h3
    have h4 : bd A (k + 1) * y k = 0 := by
      have h2 : sm k (fun l => A k l * y l) = - (A k k * y k) := by omega
      rw [h2] at h3
      grind
    have h5 : y k = 0 := (Int.mul_eq_zero.mp h4).resolve_left (hd (k + 1) (by omega))
    intro l hl
    by_cases q : l = k
    · subst q; exact h5
    · have h6 := hz l (by omega)
      simp only [h5, Int.mul_zero, Int.add_zero] at h6
      exact (Int.mul_eq_zero.mp h6).resolve_left hdk
/-- a step: what the division gives -/
theorem b_step (A : Nat → Nat → Int) (k j : Nat) (hd : ∀ m, m ≤ k + 1 → bd A m ≠ 0) : (∀ l, l < k → bd A k * bC A (k + 1) l j = bd A (k + 1) * bC A k l j - bC A k l k * bE A k k j) ∧ ∀ i, bd A k * bE A (k + 1) i j = bd A (k + 1) * bE A k i j - bE A k i k * bE A k k j := by
  have hS : ∀ i, sm k (fun l => A i l * (bd A (k + 1) * bC A k l j - bC A k l k * bE A k k j)) = bd A (k + 1) * (A i j * bd A k - bE A k i j) - bE A k k j * (A i k * bd A k - bE A k i k) := by
    intro i
    rw [bE_eq A k i j, bE_eq A k i k, sm_c (h := fun l => bd A (k + 1) * (A i l * bC A k l j) - bE A k k j * (A i l * bC A k l k)) (fun l _ => by grind), sm_sub, sm_mul, sm_mul]
    grind
  have hT : ∀ i, sm k (fun l => A i l * (bd A k * bC A (k + 1) l j)) + A i k * (bd A k * bE A k k j) = bd A k * (A i j * bd A (k + 1) - bE A (k + 1) i j) := by
    intro i
    rw [bE_eq A (k + 1) i j]
    show _ = bd A k * (A i j * bd A (k + 1) - (A i j * bd A (k + 1) - (sm k (fun l => A i l * bC A (k + 1) l j) + A i k * bC A (k + 1) k j)))
    rw [bC_k, sm_c (h := fun l => bd A k * (A i l * bC A (k + 1) l j)) (fun l _ => by grind), sm_mul]
    grind
  have key := b_uni A (k + 1) (fun m hm => hd m hm) (fun l => if l < k then (bd A (k + 1) * bC A k l j - bC A k l k * bE A k k j) - bd A k * bC A (k + 1) l j else 0) (fun i hi => by
    show sm k _ + _ = 0
    rw [sm_c (h := fun l => A i l * (bd A (k + 1) * bC A k l j - bC A k l k * bE A k k j) - A i l * (bd A k * bC A (k + 1) l j)) (fun l hl => by simp only [hl, if_true]; grind), sm_sub, hS i]
    have h0 : (A i k * if k < k then bd A (k + 1) * bC A k k j - bC A k k k * bE A k k j - bd A k * bC A (k + 1) k j else 0) = 0 := by rw [if_neg (Nat.lt_irrefl k), Int.mul_zero]
    show _ + (A i k * if k < k then bd A (k + 1) * bC A k k j - bC A k k k * bE A k k j - bd A k * bC A (k + 1) k j else 0) = 0
    rw [h0]
    have h1 := hT i
    have h2 : bE A (k + 1) i j = 0 := bE_0 A j hi
    rw [h2] at h1
    by_cases q : i = k
    · subst q
      rw [← bd_s] 
      grind
    · rw [bE_0 A j (by omega : i < k), bE_0 A k (by omega : i < k)]
      grind)
  have hC : ∀ l, l < k → bd A k * bC A (k + 1) l j = bd A (k + 1) * bC A k l j - bC A k l k * bE A k k j := by
    intro l hl
    have h1 := key l (by omega)
    simp only [hl, if_true] at h1
    omega
  refine ⟨hC, fun i => ?_⟩
  have h1 := hT i
  rw [sm_c (h := fun l => A i l * (bd A (k + 1) * bC A k l j - bC A k l k * bE A k k j)) (fun l hl => by rw [hC l hl]), hS i] at h1
  grind
end
section

/-! ===== the elimination's state, and its run ===== -/
def fc : Nat → Nat
  | 0 => 1
  | n + 1 => (n + 1) * fc n
theorem wg_le {a : Nat → Int} {K D : Nat} (ha : ∀ c, (a c).natAbs ≤ D) (cs : List Nat) : ∀ F : List Nat → Int, (∀ t, t.length + 1 = cs.length → (F t).natAbs ≤ K) → (wg a F cs).natAbs ≤ cs.length * (D * K) := by
  induction cs with
  | nil => intro F _; simp [wg]
  | cons c cs ih =>
    intro F hF
    have h1 := ih (fun t => F (c :: t)) (fun t ht => hF (c :: t) (by simp only [List.length_cons] at ht ⊢; omega))
    have h2 := hF cs (by simp)
    have h3 : (a c * F cs).natAbs ≤ D * K := by rw [Int.natAbs_mul]; exact Nat.mul_le_mul (ha c) h2
    show (a c * F cs - wg a (fun t => F (c :: t)) cs).natAbs ≤ (cs.length + 1) * (D * K)
    rw [Nat.add_mul, Nat.one_mul]
    generalize wg a (fun t => F (c :: t)) cs = u at h1 ⊢
    generalize a c * F cs = v at h3 ⊢
    generalize cs.length * (D * K) = P at h1 ⊢
    omega
theorem dt_le {D : Nat} (rows : List (Nat → Int)) : (∀ a ∈ rows, ∀ c, (a c).natAbs ≤ D) → ∀ cs : List Nat, cs.length = rows.length → (dt rows cs).natAbs ≤ fc rows.length * D ^ rows.length := by
  induction rows with
  | nil => intro _ cs _; simp [dt, fc]
  | cons a rows ih =>
    intro h cs hc
    have h1 := wg_le (K := fc rows.length * D ^ rows.length) (h a List.mem_cons_self) cs (dt rows) (fun t ht => ih (fun b hb => h b (List.mem_cons_of_mem _ hb)) t (by simp only [List.length_cons] at hc; omega))
    show (wg a (dt rows) cs).natAbs ≤ ((rows.length + 1) * fc rows.length) * D ^ (rows.length + 1)
    have e : ((rows.length + 1) * fc rows.length) * D ^ (rows.length + 1) = cs.length * (D * (fc rows.length * D ^ rows.length)) := by
      rw [hc, List.length_cons, Nat.pow_succ]; grind
    rw [e]; exact h1
theorem wg_kd_le {l K : Nat} (cs : List Nat) : cs.Nodup → ∀ F : List Nat → Int, (∀ t, t.length + 1 = cs.length → (F t).natAbs ≤ K) → (wg (kd l) F cs).natAbs ≤ K := by
  induction cs with
  | nil => intro _ F _; simp [wg]
  | cons c cs ih =>
    intro hn F hF
    have hn' := List.nodup_cons.mp hn
    have h2 := hF cs (by simp)
    show (kd l c * F cs - wg (kd l) (fun t => F (c :: t)) cs).natAbs ≤ K
    by_cases q : c = l
    · subst q
      rw [wg_kd0 cs (fun d hd (e : d = c) => hn'.1 (by rw [← e]; exact hd))]
      simp [kd]
      exact h2
    · have h1 := ih hn'.2 (fun t => F (c :: t)) (fun t ht => hF (c :: t) (by simp only [List.length_cons] at ht ⊢; omega))
      simp [kd, q]
      exact h1
theorem cls_len (k : Nat) : (cls k).length = k := by
  induction k with
  | zero => rfl
  | succ k ih => simp [cls, ih]
theorem rws_len (A : Nat → Nat → Int) (k : Nat) : (rws A k).length = k := by
  induction k with
  | zero => rfl
  | succ k ih => simp [rws, ih]
theorem cls_nd (k : Nat) : (cls k).Nodup := by
  induction k with
  | zero => exact List.nodup_nil
  | succ k ih => exact List.nodup_cons.mpr ⟨fun h => by have := cls_lt k k h; omega, ih⟩
theorem rws_le {A : Nat → Nat → Int} {D : Nat} (h : ∀ i c, (A i c).natAbs ≤ D) (k : Nat) : ∀ a ∈ rws A k, ∀ c, (a c).natAbs ≤ D := by
  induction k with
  | zero => intro a ha; cases ha
  | succ k ih =>
    intro a ha
    rcases List.mem_cons.mp ha with q | q
    · subst q; exact h k
    · exact ih a q
theorem bd_le {A : Nat → Nat → Int} {D : Nat} (h : ∀ i c, (A i c).natAbs ≤ D) (k : Nat) : (bd A k).natAbs ≤ fc k * D ^ k := by
  have := dt_le (rws A k) (rws_le h k) (cls k) (by rw [cls_len, rws_len])
  rw [rws_len] at this
  exact this
theorem bE_le {A : Nat → Nat → Int} {D : Nat} (h : ∀ i c, (A i c).natAbs ≤ D) (k i j : Nat) : (bE A k i j).natAbs ≤ fc (k + 1) * D ^ (k + 1) := by
  have := dt_le (A i :: rws A k) (fun a ha => by
    rcases List.mem_cons.mp ha with q | q
    · subst q; exact h i
    · exact rws_le h k a q) (j :: cls k) (by simp [cls_len, rws_len])
  rw [List.length_cons, rws_len] at this
  exact this
theorem bC_le {A : Nat → Nat → Int} {D : Nat} (h : ∀ i c, (A i c).natAbs ≤ D) (k l j : Nat) : (bC A k l j).natAbs ≤ fc k * D ^ k := by
  refine wg_kd_le (cls k) (cls_nd k) _ (fun t ht => ?_)
  rw [cls_len] at ht
  have := dt_le (rws A k) (rws_le h k) (j :: t) (by rw [rws_len, List.length_cons]; exact ht)
  rw [rws_len] at this
  exact this
def sw {α : Type} (M : Nat → α) (k p : Nat) : Nat → α := fun i => if i = k then M p else if i = p then M k else M i
def el (M : Nat → Nat → Int) (k : Nat) (d : Int) : Nat → Nat → Int := fun i j => if i = k then M k j else (M k k * M i j - M i k * M k j) / d
def bI (A : Nat → Nat → Int) (n k : Nat) (d : Int) (M : Nat → Nat → Int) : Prop := d = bd A k ∧ (∀ m, m ≤ k → bd A m ≠ 0) ∧ (∀ i j, k ≤ i → i < n → k ≤ j → j ≤ n → M i j = bE A k i j) ∧ (∀ i j, i < k → k ≤ j → j ≤ n → M i j = bC A k i j) ∧ ∀ i j, i < n → j < k → M i j = if i = j then d else 0
theorem bI_0 (A : Nat → Nat → Int) (n : Nat) : bI A n 0 1 A := by
  refine ⟨rfl, fun m hm => ?_, fun i j _ _ _ _ => ?_, fun i j h => absurd h (by omega), fun i j _ h => absurd h (by omega)⟩
  · rw [show m = 0 by omega]; exact (by decide : (1 : Int) ≠ 0)
  · show _ = A i j * 1 - 0
    omega
theorem rws_sw (A : Nat → Nat → Int) {k p q : Nat} (h1 : q ≤ k) (h2 : q ≤ p) : rws (sw A k p) q = rws A q := by
  induction q with
  | zero => rfl
  | succ q ih =>
    show sw A k p q :: rws (sw A k p) q = A q :: rws A q
    rw [ih (by omega) (by omega)]
    congr 1
    unfold sw
    rw [if_neg (by omega), if_neg (by omega)]
theorem bI_sw {A : Nat → Nat → Int} {n k p : Nat} {d : Int} {M : Nat → Nat → Int} (h : bI A n k d M) (h1 : k ≤ p) (h2 : p < n) : bI (sw A k p) n k d (sw M k p) := by
  obtain ⟨a1, a2, a3, a4, a5⟩ := h
  have e1 : ∀ m, m ≤ k → bd (sw A k p) m = bd A m := fun m hm => by unfold bd; rw [rws_sw A hm (by omega)]
  have e2 : ∀ i j, bE (sw A k p) k i j = dt (sw A k p i :: rws A k) (j :: cls k) := fun i j => by unfold bE; rw [rws_sw A (Nat.le_refl k) h1]
  refine ⟨a1.trans (e1 k (Nat.le_refl k)).symm, fun m hm => by rw [e1 m hm]; exact a2 m hm, fun i j h3 h4 h5 h6 => ?_, fun i j h3 h4 h5 => ?_, fun i j h3 h4 => ?_⟩
  · rw [e2 i j]
    unfold sw
    by_cases q : i = k
    · simp only [q, if_true]
      exact a3 p j h1 h2 h5 h6
    · by_cases q2 : i = p
      · simp only [q2]
        by_cases q3 : p = k
        · simp only [q3, if_true]; exact a3 k j (by omega) (by omega) h5 h6
        · simp only [q3, if_false, if_true]; exact a3 k j (by omega) (by omega) h5 h6
      · simp only [q, q2, if_false]; exact a3 i j h3 h4 h5 h6
  · have e : sw M k p i = M i := by unfold sw; rw [if_neg (by omega), if_neg (by omega)]
    rw [e, a4 i j h3 h4 h5]
    unfold bC
    rw [rws_sw A (Nat.le_refl k) h1]
  · unfold sw
    by_cases q : i = k
    · simp only [q, if_true]
      rw [a5 p j h2 h4, if_neg (by omega), if_neg (by omega)]
    · by_cases q2 : i = p
      · simp only [q2]
        by_cases q3 : p = k
        · omega
        · simp only [q3, if_false, if_true]
          rw [a5 k j (by omega) h4, if_neg (by omega), if_neg (by omega)]
      · simp only [q, q2, if_false]; exact a5 i j h3 h4
theorem bI_el {A : Nat → Nat → Int} {n k : Nat} {d : Int} {M : Nat → Nat → Int} (h : bI A n k d M) (hk : k < n) (hp : M k k ≠ 0) : bI A n (k + 1) (M k k) (el M k d) ∧ ∀ i j, i < n → i ≠ k → j ≤ n → M k k * M i j - M i k * M k j = d * el M k d i j := by
  obtain ⟨a1, a2, a3, a4, a5⟩ := h
  have hd : d ≠ 0 := by rw [a1]; exact a2 k (Nat.le_refl k)
  have e0 : M k k = bd A (k + 1) := by rw [bd_s]; exact a3 k k (Nat.le_refl k) hk (Nat.le_refl k) (by omega)
  have a2' : ∀ m, m ≤ k + 1 → bd A m ≠ 0 := fun m hm => by
    by_cases q : m = k + 1
    · subst q; rw [← e0]; exact hp
    · exact a2 m (by omega)
  have hs := fun j => b_step A k j a2'
  have key : ∀ i j, i < n → i ≠ k → j ≤ n → ∃ v, M k k * M i j - M i k * M k j = d * v ∧ (k + 1 ≤ j → k + 1 ≤ i → v = bE A (k + 1) i j) ∧ (k + 1 ≤ j → i < k → v = bC A (k + 1) i j) ∧ (j < k + 1 → v = if i = j then M k k else 0) := by
    intro i j hi hik hj
    by_cases q : k + 1 ≤ j
    · have ekj : M k j = bE A k k j := a3 k j (Nat.le_refl k) hk (by omega) hj
      by_cases q2 : k + 1 ≤ i
      · refine ⟨bE A (k + 1) i j, ?_, fun _ _ => rfl, fun _ h => absurd h (by omega), fun h => absurd h (by omega)⟩
        rw [e0, ekj, a3 i j (by omega) hi (by omega) hj, a3 i k (by omega) hi (Nat.le_refl k) (by omega), a1]
        exact ((hs j).2 i).symm
      · refine ⟨bC A (k + 1) i j, ?_, fun _ h => absurd h (by omega), fun _ _ => rfl, fun h => absurd h (by omega)⟩
        rw [e0, ekj, a4 i j (by omega) (by omega) hj, a4 i k (by omega) (Nat.le_refl k) (by omega), a1]
        exact ((hs j).1 i (by omega)).symm
    · by_cases q2 : j = k
      · subst q2
        refine ⟨0, by grind, fun h => absurd h (by omega), fun h => absurd h (by omega), fun _ => by rw [if_neg hik]⟩
      · have ekj : M k j = 0 := by rw [a5 k j hk (by omega), if_neg (by omega)]
        have eij := a5 i j hi (by omega)
        refine ⟨if i = j then M k k else 0, ?_, fun h => absurd h (by omega), fun h => absurd h (by omega), fun _ => rfl⟩
        rw [ekj, eij]
        by_cases q3 : i = j
        · simp only [q3, if_true]; grind
        · simp only [q3, if_false]; grind
  have hel : ∀ i j, i < n → i ≠ k → j ≤ n → M k k * M i j - M i k * M k j = d * el M k d i j := by
    intro i j hi hik hj
    obtain ⟨v, hv, -⟩ := key i j hi hik hj
    unfold el
    rw [if_neg hik, hv, Int.mul_ediv_cancel_left _ hd]
  have hv2 : ∀ i j v, i < n → i ≠ k → j ≤ n → M k k * M i j - M i k * M k j = d * v → el M k d i j = v := by
    intro i j v hi hik hj h
    unfold el
    rw [if_neg hik, h, Int.mul_ediv_cancel_left _ hd]
  refine ⟨⟨e0, a2', fun i j h1 h2 h3 h4 => ?_, fun i j h1 h2 h3 => ?_, fun i j h1 h2 => ?_⟩, hel⟩
  · obtain ⟨v, hv, hA, -⟩ := key i j h2 (by omega) h4
    rw [hv2 i j v h2 (by omega) h4 hv, hA h3 h1]
  · by_cases q : i = k
    · subst q
      unfold el
      rw [if_pos rfl, bC_k]
      exact a3 i j (Nat.le_refl i) hk (by omega) h3
    · obtain ⟨v, hv, -, hB, -⟩ := key i j (by omega) q h3
      rw [hv2 i j v (by omega) q h3 hv, hB h2 (by omega)]
  · by_cases q : i = k
    · subst q
      unfold el
      rw [if_pos rfl]
      by_cases q2 : j = i
      · subst q2; rw [if_pos rfl]
      · rw [a5 i j hk (by omega), if_neg (by omega), if_neg (by omega)]
    · obtain ⟨v, hv, -, -, hD⟩ := key i j h1 q (by omega)
      rw [hv2 i j v h1 q (by omega) hv, hD h2]
theorem fc_mono {a b D : Nat} (hD : 1 ≤ D) (h : a ≤ b) : fc a * D ^ a ≤ fc b * D ^ b := by
  induction b with
  | zero => rw [show a = 0 by omega]; exact Nat.le_refl _
  | succ b ih =>
    by_cases q : a = b + 1
    · subst q; exact Nat.le_refl _
    · have h1 := ih (by omega)
      have h2 : fc b * D ^ b ≤ (b + 1) * fc b * (D ^ b * D) := by
        have e : (b + 1) * fc b * (D ^ b * D) = (fc b * D ^ b) * ((b + 1) * D) := by grind
        rw [e]
        exact Nat.le_mul_of_pos_right _ (Nat.mul_pos (by omega) (by omega))
      show fc a * D ^ a ≤ (b + 1) * fc b * D ^ (b + 1)
      rw [Nat.pow_succ]
      omega
theorem bI_le {A : Nat → Nat → Int} {n k D : Nat} {d : Int} {M : Nat → Nat → Int} (h : bI A n k d M) (hA : ∀ i c, (A i c).natAbs ≤ D) (hD : 1 ≤ D) (hk : k ≤ n) : ∀ i j, i < n → j ≤ n → (M i j).natAbs ≤ fc (min (k + 1) n) * D ^ (min (k + 1) n) := by
  obtain ⟨a1, a2, a3, a4, a5⟩ := h
  have hkm : k ≤ min (k + 1) n := by omega
  intro i j hi hj
  by_cases q : j < k
  · rw [a5 i j hi q]
    by_cases q2 : i = j
    · rw [if_pos q2, a1]
      exact Nat.le_trans (bd_le hA k) (fc_mono hD hkm)
    · rw [if_neg q2]; exact Nat.zero_le _
  · by_cases q2 : i < k
    · rw [a4 i j q2 (by omega) hj]
      exact Nat.le_trans (bC_le hA k i j) (fc_mono hD hkm)
    · rw [a3 i j (by omega) hi (by omega) hj, show min (k + 1) n = k + 1 by omega]
      exact bE_le hA k i j
theorem bI_d {A : Nat → Nat → Int} {n k D : Nat} {d : Int} {M : Nat → Nat → Int} (h : bI A n k d M) (hA : ∀ i c, (A i c).natAbs ≤ D) : d ≠ 0 ∧ d.natAbs ≤ fc k * D ^ k := ⟨by rw [h.1]; exact h.2.1 k (Nat.le_refl k), by rw [h.1]; exact bd_le hA k⟩
/-- the run: the first row p from k on with a number in column k, changed with row k; then the step -/
def fnd (M : Nat → Nat → Int) (k : Nat) : Nat → Nat → Option Nat
  | _, 0 => none
  | p, u + 1 => if M p k = 0 then fnd M k (p + 1) u else some p
def brun (n : Nat) : Nat → Nat → Int → (Nat → Nat → Int) → Option (Int × (Nat → Nat → Int))
  | 0, _, d, M => some (d, M)
  | u + 1, k, d, M => match fnd M k k (n - k) with
    | none => none
    | some p => brun n u (k + 1) (M p k) (el (sw M k p) k d)
theorem fnd_some {M : Nat → Nat → Int} {k : Nat} : ∀ (u p q : Nat), fnd M k p u = some q → p ≤ q ∧ q < p + u ∧ M q k ≠ 0 := by
  intro u
  induction u with
  | zero => intro p q h; cases h
  | succ u ih =>
    intro p q h
    unfold fnd at h
    by_cases e : M p k = 0
    · rw [if_pos e] at h
      have := ih (p + 1) q h
      omega
    · rw [if_neg e] at h
      cases h
      exact ⟨Nat.le_refl p, by omega, e⟩
end
section

/-! ===== congruences ===== -/
def cg (m a b : Int) : Prop := ∃ k : Int, a = b + k * m
theorem cg_r (m a : Int) : cg m a a := ⟨0, by omega⟩
theorem cg_e {m a b : Int} (h : a = b) : cg m a b := ⟨0, by omega⟩
theorem cg_s {m a b : Int} (h : cg m a b) : cg m b a := by obtain ⟨k, h⟩ := h; exact ⟨-k, by rw [h]; grind⟩
theorem cg_t {m a b c : Int} (h : cg m a b) (h2 : cg m b c) : cg m a c := by obtain ⟨k, h⟩ := h; obtain ⟨j, h2⟩ := h2; exact ⟨k + j, by rw [h, h2]; grind⟩
theorem cg_a {m a b c d : Int} (h : cg m a b) (h2 : cg m c d) : cg m (a + c) (b + d) := by obtain ⟨k, h⟩ := h; obtain ⟨j, h2⟩ := h2; exact ⟨k + j, by rw [h, h2]; grind⟩
theorem cg_n {m a b : Int} (h : cg m a b) : cg m (-a) (-b) := by obtain ⟨k, h⟩ := h; exact ⟨-k, by rw [h]; grind⟩
theorem cg_m {m a b c d : Int} (h : cg m a b) (h2 : cg m c d) : cg m (a * c) (b * d) := by obtain ⟨k, h⟩ := h; obtain ⟨j, h2⟩ := h2; exact ⟨b * j + k * d + k * j * m, by rw [h, h2]; grind⟩
theorem cg_w {m n a b : Int} (h : cg (m * n) a b) : cg m a b := by obtain ⟨k, h⟩ := h; exact ⟨k * n, by rw [h]; grind⟩
theorem cg_p {B u w : Nat} {a b : Int} (h : u ≤ w) (hc : cg ((B ^ w : Nat) : Int) a b) : cg ((B ^ u : Nat) : Int) a b := by
  rw [show B ^ w = B ^ u * B ^ (w - u) from by rw [← Nat.pow_add]; congr 1; omega, Int.natCast_mul] at hc
  exact cg_w hc
theorem cg_odd {d : Int} (hd : d % 2 = 1) (N : Nat) : ∀ x : Int, cg ((2 ^ N : Nat) : Int) (d * x) 0 → cg ((2 ^ N : Nat) : Int) x 0 := by
  induction N with
  | zero => intro x _; exact ⟨x, by simp⟩
  | succ N ih =>
    intro x h
    obtain ⟨k, h⟩ := h
    have e : ((2 ^ (N + 1) : Nat) : Int) = 2 * ((2 ^ N : Nat) : Int) := by rw [Nat.pow_succ, Int.natCast_mul, Int.mul_comm]; rfl
    rw [e] at h ⊢
    have h2 : d * x % 2 = 0 := by rw [h]; rw [show (0 : Int) + k * (2 * ((2 ^ N : Nat) : Int)) = 2 * (k * ((2 ^ N : Nat) : Int)) from by grind]; omega
    have h3 : x % 2 = 0 := by
      rw [Int.mul_emod, hd] at h2
      omega
    obtain ⟨y, hy⟩ : ∃ y, x = 2 * y := ⟨x / 2, by omega⟩
    subst hy
    have h5 : 2 * (d * y) = 2 * (k * ((2 ^ N : Nat) : Int)) := by
      rw [show 2 * (d * y) = d * (2 * y) from by grind, h]
      grind
    obtain ⟨j, hj⟩ := ih y ⟨k, by omega⟩
    exact ⟨j, by rw [hj]; grind⟩
theorem cg_cancel {d a b : Int} (hd : d % 2 = 1) {N : Nat} (h : cg ((2 ^ N : Nat) : Int) (a * d) (d * b)) : cg ((2 ^ N : Nat) : Int) a b := by
  obtain ⟨k, h⟩ := h
  obtain ⟨j, hj⟩ := cg_odd hd N (a - b) ⟨k, by rw [Int.mul_sub, Int.mul_comm d a, h]; omega⟩
  exact ⟨j, by omega⟩
theorem pow_BB (w : Nat) : 4294967296 ^ w = 2 ^ (32 * w) := by rw [Nat.pow_mul]
/-! ===== 21 limbs as a whole number ===== -/
theorem vl_hi {x : Nat → Nat} {w : Nat} (hw : 1 ≤ w) (h : ∀ i, i < w → x i < 4294967296) : (2147483648 ≤ x (w - 1) → 4294967296 ^ w ≤ 2 * vl 4294967296 x w) ∧ (¬ 2147483648 ≤ x (w - 1) → 2 * vl 4294967296 x w < 4294967296 ^ w) := by
  obtain ⟨u, rfl⟩ : ∃ u, w = u + 1 := ⟨w - 1, by omega⟩
  have h1 := vl_lt (B := 4294967296) (x := x) (n := u) (fun i hi => h i (by omega))
  have e : vl 4294967296 x (u + 1) = vl 4294967296 x u + x u * 4294967296 ^ u := rfl
  rw [show u + 1 - 1 = u by omega, e, Nat.pow_succ]
  constructor
  · intro h2
    have h3 : 2147483648 * 4294967296 ^ u ≤ x u * 4294967296 ^ u := Nat.mul_le_mul_right _ h2
    omega
  · intro h2
    have h3 : x u * 4294967296 ^ u ≤ 2147483647 * 4294967296 ^ u := Nat.mul_le_mul_right _ (by omega)
    omega
theorem sg_cg {x : Nat → Nat} : cg ((4294967296 ^ 21 : Nat) : Int) (vl 4294967296 x 21) (sg x) := by
  unfold sg
  by_cases h : 2147483648 ≤ x 20
  · rw [if_pos h]; exact ⟨1, by omega⟩
  · rw [if_neg h]; exact cg_r _ _
theorem sg_rng {x : Nat → Nat} (hx : dg x) : - ((4294967296 ^ 21 : Nat) : Int) ≤ 2 * sg x ∧ 2 * sg x < ((4294967296 ^ 21 : Nat) : Int) := by
  have h1 := vl_hi (w := 21) (by decide) hx
  have h2 := vl_lt hx
  unfold sg
  by_cases h : 2147483648 ≤ x 20
  · rw [if_pos h]; have := h1.1 h; omega
  · rw [if_neg h]; have := h1.2 h; omega
theorem cg_uni {M a b : Int} (h : cg M a b) (ha : -M ≤ 2 * a ∧ 2 * a < M) (hb : -M < 2 * b ∧ 2 * b < M) : a = b := by
  obtain ⟨k, h⟩ := h
  rcases (show k = 0 ∨ 1 ≤ k ∨ k ≤ -1 by omega) with q | q | q
  · subst q; omega
  · have : M * 1 ≤ M * k := Int.mul_le_mul_of_nonneg_left q (by omega)
    rw [Int.mul_comm M k] at this
    omega
  · have : M * k ≤ M * (-1) := Int.mul_le_mul_of_nonneg_left q (by omega)
    rw [Int.mul_comm M k] at this
    omega
theorem sg_of {x : Nat → Nat} {v : Int} (hx : dg x) (h : cg ((4294967296 ^ 21 : Nat) : Int) (vl 4294967296 x 21) v) (hv : -((4294967296 ^ 21 : Nat) : Int) < 2 * v ∧ 2 * v < ((4294967296 ^ 21 : Nat) : Int)) : sg x = v := cg_uni (cg_t (cg_s sg_cg) h) (sg_rng hx) hv
theorem vl_low {x : Nat → Nat} {u w : Nat} (h : u ≤ w) : cg ((4294967296 ^ u : Nat) : Int) (vl 4294967296 x w) (vl 4294967296 x u) := by
  have e : vl 4294967296 x w = vl 4294967296 x u + 4294967296 ^ u * vl 4294967296 (fun i => x (u + i)) (w - u) := by rw [← vl_a, show u + (w - u) = w by omega]
  exact ⟨vl 4294967296 (fun i => x (u + i)) (w - u), by rw [e, Int.natCast_add, Int.natCast_mul, Int.mul_comm]⟩
theorem sg_low {x : Nat → Nat} {w : Nat} (hw : w ≤ 21) : cg ((4294967296 ^ w : Nat) : Int) (vl 4294967296 x w) (sg x) := cg_t (cg_s (vl_low hw)) (cg_p hw sg_cg)
theorem wx_dg {x : Nat → Nat} {w : Nat} (hx : dg x) : dg (wx x w) := by
  intro i hi
  unfold wx
  by_cases q : i < w
  · rw [if_pos q]; exact hx i hi
  · rw [if_neg q]
    by_cases q2 : 2147483648 ≤ x (w - 1)
    · rw [if_pos q2]; decide
    · rw [if_neg q2]; decide
theorem vl_max (n : Nat) : vl 4294967296 (fun _ => 4294967295) n + 1 = 4294967296 ^ n := by
  induction n with
  | zero => rfl
  | succ n ih =>
    show vl 4294967296 (fun _ => 4294967295) n + 4294967295 * 4294967296 ^ n + 1 = 4294967296 ^ (n + 1)
    rw [Nat.pow_succ]
    omega
theorem wx_sg {x : Nat → Nat} {w : Nat} {v : Int} (h1 : 1 ≤ w) (h2 : w ≤ 21) (hx : dg x) (h : cg ((4294967296 ^ w : Nat) : Int) (vl 4294967296 x w) v) (hv : -((4294967296 ^ w : Nat) : Int) < 2 * v ∧ 2 * v < ((4294967296 ^ w : Nat) : Int)) : sg (wx x w) = v := by
  have hxw : ∀ i, i < w → x i < 4294967296 := fun i hi => hx i (by omega)
  have hh := vl_hi h1 hxw
  have hl := vl_lt hxw
  have hm : 4294967296 ^ w ≤ 4294967296 ^ 21 := Nat.pow_le_pow_right (by decide) h2
  have e : vl 4294967296 (wx x w) 21 = vl 4294967296 x w + 4294967296 ^ w * vl 4294967296 (fun i => wx x w (w + i)) (21 - w) := by
    rw [← vl_c (x := wx x w) (y := x) (n := w) (fun i hi => by unfold wx; rw [if_pos hi]), ← vl_a, show w + (21 - w) = 21 by omega]
  apply sg_of (wx_dg hx) ?_ (by omega)
  by_cases q : 2147483648 ≤ x (w - 1)
  · have q1 := hh.1 q
    have e2 : vl 4294967296 (fun i => wx x w (w + i)) (21 - w) + 1 = 4294967296 ^ (21 - w) := by
      rw [← vl_max (21 - w), vl_c (y := fun _ => 4294967295) (fun i _ => by show wx x w (w + i) = _; unfold wx; rw [if_neg (by omega), if_pos q])]
    have e3 : 4294967296 ^ w * 4294967296 ^ (21 - w) = 4294967296 ^ 21 := by rw [← Nat.pow_add]; congr 1; omega
    have e4 : 4294967296 ^ w * (vl 4294967296 (fun i => wx x w (w + i)) (21 - w) + 1) = 4294967296 ^ 21 := by rw [e2, e3]
    rw [Nat.mul_add, Nat.mul_one] at e4
    have hv2 : (vl 4294967296 x w : Int) - ((4294967296 ^ w : Nat) : Int) = v := cg_uni (M := ((4294967296 ^ w : Nat) : Int)) (cg_t ⟨-1, by omega⟩ h) (by omega) hv
    exact ⟨1, by rw [e]; omega⟩
  · have q1 := hh.2 q
    have e2 : vl 4294967296 (fun i => wx x w (w + i)) (21 - w) = 0 := by
      rw [vl_c (y := fun _ => 0) (fun i _ => by show wx x w (w + i) = _; unfold wx; rw [if_neg (by omega), if_neg q]), vl_0]
    have hv2 : (vl 4294967296 x w : Int) = v := cg_uni (M := ((4294967296 ^ w : Nat) : Int)) h (by omega) hv
    rw [e, e2, Nat.mul_zero, Nat.add_zero]
    exact cg_e hv2
theorem i32_n (v : Int32) : v.toInt = if 2147483648 ≤ v.toBitVec.toNat then (v.toBitVec.toNat : Int) - 4294967296 else v.toBitVec.toNat := by
  show v.toBitVec.toInt = _
  rw [BitVec.toInt_eq_toNat_cond]
  have := v.toBitVec.isLt
  by_cases q : 2147483648 ≤ v.toBitVec.toNat
  · rw [if_pos q, if_neg (by omega)]; rfl
  · rw [if_neg q, if_pos (by omega)]
theorem sx_wx (v : Int32) : sx v = wx (fun _ => v.toBitVec.toNat) 1 := by
  funext i
  have h := i32_n v
  have hb := v.toBitVec.isLt
  by_cases q : i = 0
  · subst q
    show un _ 0 _ 0 = if 0 < 1 then v.toBitVec.toNat else _
    rw [un_s, if_pos (by decide)]
  · show un (fun _ => if v < 0 then 4294967295 else 0) 0 _ i = if i < 1 then v.toBitVec.toNat else if 2147483648 ≤ v.toBitVec.toNat then 4294967295 else 0
    rw [un_n _ _ q, if_neg (show ¬ i < 1 by omega)]
    by_cases q2 : v < 0
    · have h1 : v.toInt < 0 := Int32.lt_iff_toInt_lt.mp q2
      rw [if_pos q2]
      by_cases q3 : 2147483648 ≤ v.toBitVec.toNat
      · rw [if_pos q3]
      · rw [if_neg q3] at h; omega
    · have h1 : ¬ v.toInt < 0 := fun h2 => q2 (Int32.lt_iff_toInt_lt.mpr h2)
      rw [if_neg q2]
      by_cases q3 : 2147483648 ≤ v.toBitVec.toNat
      · rw [if_pos q3] at h; omega
      · rw [if_neg q3]
theorem sx_dg (v : Int32) : dg (sx v) := by rw [sx_wx]; exact wx_dg (fun _ _ => v.toBitVec.isLt)
theorem sx_sg (v : Int32) : sg (sx v) = v.toInt := by
  have h := i32_n v
  have hb := v.toBitVec.isLt
  by_cases q : v.toInt = -2147483648
  · have e : v = -2147483648 := Int32.toInt_inj.mp q
    subst e
    decide +kernel
  rw [sx_wx]
  have e : vl 4294967296 (fun _ => v.toBitVec.toNat) 1 = v.toBitVec.toNat := by show 0 + v.toBitVec.toNat * 4294967296 ^ 0 = _; omega
  refine wx_sg (Nat.le_refl 1) (by decide) (fun _ _ => hb) ?_ ?_
  · rw [e, h]
    by_cases q : 2147483648 ≤ v.toBitVec.toNat
    · rw [if_pos q]; exact ⟨1, by simp⟩
    · rw [if_neg q]; exact cg_r _ _
  · rw [show ((4294967296 ^ 1 : Nat) : Int) = 4294967296 from rfl]
    by_cases q2 : 2147483648 ≤ v.toBitVec.toNat
    · rw [if_pos q2] at h; omega
    · rw [if_neg q2] at h; omega
/-- what a cell becomes: the numbers modulo a power of two, shifted, divided, widened -/
theorem rp_shift {Z d' v : Int} {t ww Y2 Y3 : Nat} (hZ : Z = ((2 ^ t : Nat) : Int) * d' * v) (ht : t ≤ 32 * ww) (h : cg ((4294967296 ^ ww : Nat) : Int) Y2 Z) (h3 : Y3 = Y2 / 2 ^ t) : cg ((2 ^ (32 * ww - t) : Nat) : Int) Y3 (d' * v) := by
  obtain ⟨k, h⟩ := h
  have e : 4294967296 ^ ww = 2 ^ t * 2 ^ (32 * ww - t) := by rw [pow_BB, ← Nat.pow_add]; congr 1; omega
  have hp : (0 : Int) < ((2 ^ t : Nat) : Int) := by have := Nat.pow_pos (n := t) (show 0 < 2 by decide); omega
  rw [e, Int.natCast_mul, hZ] at h
  rw [h3, Int.natCast_ediv]
  generalize ((2 ^ t : Nat) : Int) = T at h hp ⊢
  generalize ((2 ^ (32 * ww - t) : Nat) : Int) = R at h ⊢
  have h4 : (Y2 : Int) = T * (d' * v + k * R) := by rw [h]; grind
  exact ⟨k, by rw [h4, Int.mul_ediv_cancel_left _ (by omega)]⟩
end
section
/-! ===== Elimination: the object, its cells ===== -/
abbrev eF (cs np od wk : Nat) (sz eb tw : Int32) (iv : Int64) (mw ww : Int32) : List Value := [.ref cs, .ref np, .ref od, .ref wk, .int sz, .int eb, .int tw, .long iv, .int mw, .int ww]
/-- the kind of a cell -/
def knd (x : va_E) : Nat := match x with
  | .inl (_, _, .inl _) => 0
  | .inl (_, _, .inr (.inl _)) => 1
  | .inl (_, _, .inr (.inr _)) => 2
  | .inr (c, _) => 10 + c
theorem px_at.nk {L : List Nat} {f : Nat → va_E} {a b : Nat} {x y : va_E} (h : px_at L f a x) (h2 : px_at L f b y) (hk : (knd x == knd y) = false) : a ≠ b := h.ne h2 (fun e => by rw [e, beq_self_eq_true] at hk; cases hk)
def cR (E : px_E) (L : List Nat) (f : Nat → va_E) (a : Nat) (v : Int) : Prop := ∃ x, px_at L f a (aJ E 21 (lw x)) ∧ dg x ∧ sg x = v
theorem cR.fr {E : px_E} {L : List Nat} {f g : Nat → va_E} {a : Nat} {v : Int} (h : cR E L f a v) (e : g a = f a) : cR E L g a v := by
  obtain ⟨x, h1, h2, h3⟩ := h
  exact ⟨x, ⟨h1.1, e.trans h1.2⟩, h2, h3⟩
theorem px_at.fr {L : List Nat} {f g : Nat → va_E} {a : Nat} {x : va_E} (h : px_at L f a x) (e : g a = f a) : px_at L g a x := ⟨h.1, e.trans h.2⟩
theorem sg_0 {x : Nat → Nat} (hx : dg x) : vl 4294967296 x 21 = 0 ↔ sg x = 0 := by
  have h1 := vl_lt hx
  unfold sg
  constructor
  · intro h
    have h2 := vl_z (by decide) h 20 (by decide)
    rw [if_neg (by omega), h]
    rfl
  · intro h
    by_cases q : 2147483648 ≤ x 20
    · rw [if_pos q] at h; omega
    · rw [if_neg q] at h; omega
theorem flX0_cell_13 : Cond.fieldLink RX0 13 "RowReduction$Elimination" "cells" "[[J" ∈ wsX0_cell := by decide +kernel
theorem kkX0_cell_X0 : ∀ w ∈ wsX00, w ∈ wsX0_cell := fun _ h => List.mem_cons_of_mem _ (List.mem_append_right _ h)
theorem flX0_limbsOfMinor_32 : Cond.fieldLink RX0 32 "RowReduction$Elimination" "entryBits" "I" ∈ wsX0_limbsOfMinor := by decide +kernel
theorem kkX0_limbsOfMinor_X0 : ∀ w ∈ wsX00, w ∈ wsX0_limbsOfMinor := fun _ h => List.mem_cons_of_mem _ (List.mem_append_right _ h)
theorem flX0_dividend_28 : Cond.fieldLink RX0 28 "RowReduction$Elimination" "size" "I" ∈ wsX0_dividend := by decide +kernel
theorem kkX0_dividend_X0 : ∀ w ∈ wsX00, w ∈ wsX0_dividend := fun _ h => List.mem_cons_of_mem _ (List.mem_append_right _ h)
theorem flX0_divisor_28 : Cond.fieldLink RX0 28 "RowReduction$Elimination" "size" "I" ∈ wsX0_divisor := by decide +kernel
theorem kkX0_divisor_X0 : ∀ w ∈ wsX00, w ∈ wsX0_divisor := fun _ h => List.mem_cons_of_mem _ (List.mem_append_right _ h)
theorem flX0_width_28 : Cond.fieldLink RX0 28 "RowReduction$Elimination" "size" "I" ∈ wsX0_width := by decide +kernel
theorem kkX0_width_X0 : ∀ w ∈ wsX00, w ∈ wsX0_width := fun _ h => List.mem_cons_of_mem _ (List.mem_append_right _ h)
theorem flX0_findPivotRow_28 : Cond.fieldLink RX0 28 "RowReduction$Elimination" "size" "I" ∈ wsX0_findPivotRow := by decide +kernel
theorem kkX0_findPivotRow_X0 : ∀ w ∈ wsX00, w ∈ wsX0_findPivotRow := fun _ h => List.mem_cons_of_mem _ (List.mem_append_right _ h)
theorem flX0_swapRows_28 : Cond.fieldLink RX0 28 "RowReduction$Elimination" "size" "I" ∈ wsX0_swapRows := by decide +kernel
theorem kkX0_swapRows_X0 : ∀ w ∈ wsX00, w ∈ wsX0_swapRows := fun _ h => List.mem_cons_of_mem _ (List.mem_append_right _ h)
theorem flX0_swapRows_13 : Cond.fieldLink RX0 13 "RowReduction$Elimination" "cells" "[[J" ∈ wsX0_swapRows := by decide +kernel
theorem c_cell (l : Launch) (E : px_E) (L : List Nat) (f : Nat → va_E) (q i j : Nat) {cs np od wk : Nat} {sz eb tw : Int32} {iv : Int64} {mw ww : Int32} {cr : Nat → Option Nat} {a : Nat} (hq : px_at L f q (.inr (0, eF cs np od wk sz eb tw iv mw ww))) (hc : px_at L f cs (aJJ E 110 cr)) (hr : cr (i * 11 + j) = some a) (hij : i * 11 + j < 110) : px_M l yX0_cell wsX0_cell (px_rm 0 0) E L f [.ref q, .int (nI i), .int (nI j)] (px_r L (fun z f' => f' = f ∧ z = a)) := by
  refine px_M.of (cc := cX0_cell) (maxL := 3) (ret := (some (.array .long))) (lv := [(0, .ref q), (1, .int (nI i)), (2, .int (nI j))]) (by decide) rfl (Nat.le_of_ble_eq_true rfl) rfl ?_
  intro p e s m below meth c A hC hnm
  obtain ⟨Q, hQ⟩ : ∃ Q, Q = MQ below (px_Q E (px_r L (fun z f' => f' = f ∧ z = a)) A) [.ref q, .int (nI i), .int (nI j)].toArray s (px_rm 0 0).cells (px_rm 0 0).slots A := ⟨_, rfl⟩
  rw [← hQ]
  refine px_aload_n hC 0 rfl dX0_cell_0 ?_
  refine px_get (C := RX0) (T := TX0) (N := 10) hC hq rfl kkX0_cell_X0 0 (by decide) flX0_cell_13 rfl dX0_cell_1 ?_
  refine px_iload_n hC 1 rfl dX0_cell_4 ?_
  refine px_bipush (v := nI 11) hC (by decide) dX0_cell_5 ?_
  refine px_imul hC dX0_cell_7 ?_
  refine px_iload_n hC 2 rfl dX0_cell_8 ?_
  refine px_iadd hC dX0_cell_9 ?_
  refine px_ei (y := nI (i * 11 + j)) (by rw [pk_mul, nI_add]) ?_
  refine px_aald (t0 := 4) hC hc rfl rfl hij (by first | decide | assumption | omega) hr dX0_cell_10 ?_
  subst hQ
  exact px_aret hC rfl (Or.inr ⟨_, rfl⟩) (⟨_, rfl, rfl, rfl, rfl⟩) dX0_cell_11
theorem c_limbs (l : Launch) (E : px_E) (L : List Nat) (f : Nat → va_E) (q r : Nat) {cs np od wk : Nat} {sz : Int32} {eb : Nat} {tw : Int32} {iv : Int64} {mw ww : Int32} (hq : px_at L f q (.inr (0, eF cs np od wk sz (nI eb) tw iv mw ww))) (hr : r ≤ 10) (he : eb ≤ 31) : px_M l yX0_limbsOfMinor wsX0_limbsOfMinor (px_rm 0 0) E L f [.ref q, .int (nI r)] (px_i L (fun z f' => f' = f ∧ z = nI ((r * eb + 23) / 32 + 1))) := by
  refine px_M.of (cc := cX0_limbsOfMinor) (maxL := 2) (ret := (some .int)) (lv := [(0, .ref q), (1, .int (nI r))]) (by decide) rfl (Nat.le_of_ble_eq_true rfl) rfl ?_
  intro p e s m below meth c A hC hnm
  obtain ⟨Q, hQ⟩ : ∃ Q, Q = MQ below (px_Q E (px_i L (fun z f' => f' = f ∧ z = nI ((r * eb + 23) / 32 + 1))) A) [.ref q, .int (nI r)].toArray s (px_rm 0 0).cells (px_rm 0 0).slots A := ⟨_, rfl⟩
  rw [← hQ]
  have h1 : r * eb ≤ 10 * 31 := Nat.mul_le_mul hr he
  refine px_iload_n hC 1 rfl dX0_limbsOfMinor_0 ?_
  refine px_aload_n hC 0 rfl dX0_limbsOfMinor_1 ?_
  refine px_get (C := RX0) (T := TX0) (N := 10) hC hq rfl kkX0_limbsOfMinor_X0 5 (by decide) flX0_limbsOfMinor_32 rfl dX0_limbsOfMinor_2 ?_
  refine px_imul hC dX0_limbsOfMinor_5 ?_
  refine px_bipush (v := nI 23) hC (by decide) dX0_limbsOfMinor_6 ?_
  refine px_iadd hC dX0_limbsOfMinor_8 ?_
  refine px_ei (y := nI (r * eb + 23)) (by rw [pk_mul, nI_add]) ?_
  refine px_bipush (v := nI 32) hC (by decide) dX0_limbsOfMinor_9 ?_
  refine px_idiv hC (by decide) dX0_limbsOfMinor_11 ?_
  refine px_ei (y := nI ((r * eb + 23) / 32)) (pk_div (by omega) (by decide) (by decide)) ?_
  refine px_iconst (v := nI 1) hC (by decide) dX0_limbsOfMinor_12 ?_
  refine px_iadd hC dX0_limbsOfMinor_13 ?_
  refine px_ei (y := nI ((r * eb + 23) / 32 + 1)) (nI_add _ _) ?_
  subst hQ
  exact px_iret hC rfl (⟨_, rfl, rfl, rfl, rfl⟩) dX0_limbsOfMinor_14
theorem c_dividend (l : Launch) (E : px_E) (L : List Nat) (f : Nat → va_E) (q k n : Nat) {cs np od wk : Nat} {eb tw : Int32} {iv : Int64} {mw ww : Int32} {cr : Nat → Option Nat} {a : Nat} (hq : px_at L f q (.inr (0, eF cs np od wk (nI n) eb tw iv mw ww))) (hc : px_at L f cs (aJJ E 110 cr)) (hr : cr (k * 11 + n) = some a) (hij : k * 11 + n < 110) : px_M l yX0_dividend wsX0_dividend (px_rm 1 22) E L f [.ref q, .int (nI k)] (px_r L (fun z f' => f' = f ∧ z = a)) := by
  refine px_M.of (cc := cX0_dividend) (maxL := 2) (ret := (some (.array .long))) (lv := [(0, .ref q), (1, .int (nI k))]) (by decide) rfl (Nat.le_of_ble_eq_true rfl) rfl ?_
  intro p e s m below meth c A hC hnm
  obtain ⟨Q, hQ⟩ : ∃ Q, Q = MQ below (px_Q E (px_r L (fun z f' => f' = f ∧ z = a)) A) [.ref q, .int (nI k)].toArray s (px_rm 1 22).cells (px_rm 1 22).slots A := ⟨_, rfl⟩
  rw [← hQ]
  refine px_aload_n hC 0 rfl dX0_dividend_0 ?_
  refine px_iload_n hC 1 rfl dX0_dividend_1 ?_
  refine px_aload_n hC 0 rfl dX0_dividend_2 ?_
  refine px_get (C := RX0) (T := TX0) (N := 10) hC hq rfl kkX0_dividend_X0 4 (by decide) flX0_dividend_28 rfl dX0_dividend_3 ?_
  refine px_callVr (C := RX0) (T := TX0) (N := 10) (st := []) (nn := 2) hC (c_cell l E L f q k n hq hc hr hij) hq rfl gX0_dividend_X0_cell rfl (by decide +kernel) (by decide) (Nat.le_of_ble_eq_true rfl) (by decide) rfl rfl dX0_dividend_6 (fun z f1 hz => ?_)
  obtain ⟨rfl, rfl⟩ := hz
  subst hQ
  exact px_aret hC rfl (Or.inr ⟨_, rfl⟩) (⟨_, rfl, rfl, rfl, rfl⟩) dX0_dividend_9
theorem c_divisor (l : Launch) (E : px_E) (L : List Nat) (f : Nat → va_E) (q n : Nat) {cs np od wk : Nat} {eb tw : Int32} {iv : Int64} {mw ww : Int32} {cr : Nat → Option Nat} {a : Nat} (hq : px_at L f q (.inr (0, eF cs np od wk (nI n) eb tw iv mw ww))) (hc : px_at L f cs (aJJ E 110 cr)) (h1 : 1 ≤ n) (hr : cr ((n - 1) * 11 + (n - 1)) = some a) (hij : (n - 1) * 11 + (n - 1) < 110) : px_M l yX0_divisor wsX0_divisor (px_rm 1 22) E L f [.ref q] (px_r L (fun z f' => f' = f ∧ z = a)) := by
  refine px_M.of (cc := cX0_divisor) (maxL := 1) (ret := (some (.array .long))) (lv := [(0, .ref q)]) (by decide) rfl (Nat.le_of_ble_eq_true rfl) rfl ?_
  intro p e s m below meth c A hC hnm
  obtain ⟨Q, hQ⟩ : ∃ Q, Q = MQ below (px_Q E (px_r L (fun z f' => f' = f ∧ z = a)) A) [.ref q].toArray s (px_rm 1 22).cells (px_rm 1 22).slots A := ⟨_, rfl⟩
  rw [← hQ]
  refine px_aload_n hC 0 rfl dX0_divisor_0 ?_
  refine px_aload_n hC 0 rfl dX0_divisor_1 ?_
  refine px_get (C := RX0) (T := TX0) (N := 10) hC hq rfl kkX0_divisor_X0 4 (by decide) flX0_divisor_28 rfl dX0_divisor_2 ?_
  refine px_iconst (v := nI 1) hC (by decide) dX0_divisor_5 ?_
  refine px_isub hC dX0_divisor_6 ?_
  refine px_ei (y := nI (n - 1)) (pk_sub h1) ?_
  refine px_aload_n hC 0 rfl dX0_divisor_7 ?_
  refine px_get (C := RX0) (T := TX0) (N := 10) hC hq rfl kkX0_divisor_X0 4 (by decide) flX0_divisor_28 rfl dX0_divisor_8 ?_
  refine px_iconst (v := nI 1) hC (by decide) dX0_divisor_11 ?_
  refine px_isub hC dX0_divisor_12 ?_
  refine px_ei (y := nI (n - 1)) (pk_sub h1) ?_
  refine px_callVr (C := RX0) (T := TX0) (N := 10) (st := []) (nn := 2) hC (c_cell l E L f q (n - 1) (n - 1) hq hc hr hij) hq rfl gX0_divisor_X0_cell rfl (by decide +kernel) (by decide) (Nat.le_of_ble_eq_true rfl) (by decide) rfl rfl dX0_divisor_13 (fun z f1 hz => ?_)
  obtain ⟨rfl, rfl⟩ := hz
  subst hQ
  exact px_aret hC rfl (Or.inr ⟨_, rfl⟩) (⟨_, rfl, rfl, rfl, rfl⟩) dX0_divisor_16
theorem c_width (l : Launch) (E : px_E) (L : List Nat) (f : Nat → va_E) (q n : Nat) {cs np od wk : Nat} {eb : Nat} {tw : Int32} {iv : Int64} {mw ww : Int32} (hq : px_at L f q (.inr (0, eF cs np od wk (nI n) (nI eb) tw iv mw ww))) (hn : n ≤ 10) (he : eb ≤ 31) : px_M l yX0_width wsX0_width (px_rm 1 21) E L f [.ref q] (px_i L (fun z f' => f' = f ∧ z = nI ((n * eb + 23) / 32 + 1))) := by
  refine px_M.of (cc := cX0_width) (maxL := 1) (ret := (some .int)) (lv := [(0, .ref q)]) (by decide) rfl (Nat.le_of_ble_eq_true rfl) rfl ?_
  intro p e s m below meth c A hC hnm
  obtain ⟨Q, hQ⟩ : ∃ Q, Q = MQ below (px_Q E (px_i L (fun z f' => f' = f ∧ z = nI ((n * eb + 23) / 32 + 1))) A) [.ref q].toArray s (px_rm 1 21).cells (px_rm 1 21).slots A := ⟨_, rfl⟩
  rw [← hQ]
  refine px_aload_n hC 0 rfl dX0_width_0 ?_
  refine px_aload_n hC 0 rfl dX0_width_1 ?_
  refine px_get (C := RX0) (T := TX0) (N := 10) hC hq rfl kkX0_width_X0 4 (by decide) flX0_width_28 rfl dX0_width_2 ?_
  refine px_callVi (C := RX0) (T := TX0) (N := 10) (st := []) (nn := 1) hC (c_limbs l E L f q n hq hn he) hq rfl gX0_width_X0_limbsOfMinor rfl (by decide +kernel) (by decide) (Nat.le_of_ble_eq_true rfl) (by decide) rfl rfl dX0_width_5 (fun z f1 hz => ?_)
  obtain ⟨rfl, rfl⟩ := hz
  subst hQ
  exact px_iret hC rfl (⟨_, rfl, rfl, rfl, rfl⟩) dX0_width_8
theorem c_pivot (l : Launch) (E : px_E) (L : List Nat) (f : Nat → va_E) (q k n : Nat) {cs np od wk : Nat} {eb tw : Int32} {iv : Int64} {mw ww : Int32} {cr : Nat → Option Nat} (M : Nat → Nat → Int) (hq : px_at L f q (.inr (0, eF cs np od wk (nI n) eb tw iv mw ww))) (hc : px_at L f cs (aJJ E 110 cr)) (hn : n ≤ 10) (hk : k < n) (hM : ∀ i, i < n → ∃ a, cr (i * 11 + k) = some a ∧ cR E L f a (M i k)) : px_M l yX0_findPivotRow wsX0_findPivotRow (px_rm 1 22) E L f [.ref q, .int (nI k)] (px_i L (fun z f' => f' = f ∧ z = (match fnd M k k (n - k) with | none => (-1) | some p => nI p))) := by
  refine px_M.of (cc := cX0_findPivotRow) (maxL := 3) (ret := (some .int)) (lv := [(0, .ref q), (1, .int (nI k))]) (by decide) rfl (Nat.le_of_ble_eq_true rfl) rfl ?_
  intro p e s m below meth c A hC hnm
  obtain ⟨Q, hQ⟩ : ∃ Q, Q = MQ below (px_Q E (px_i L (fun z f' => f' = f ∧ z = (match fnd M k k (n - k) with | none => (-1) | some p => nI p))) A) [.ref q, .int (nI k)].toArray s (px_rm 1 22).cells (px_rm 1 22).slots A := ⟨_, rfl⟩
  rw [← hQ]
  have loop : ∀ (d i : Nat), i + d = n → fnd M k k (n - k) = fnd M k i d → px p l e (px_rm 1 22) s m [.ref q, .int (nI k)].toArray below meth c 3 E A s.heap L (f) 0 0 Q 2 [(0, .ref q), (1, .int (nI k)), (2, .int (nI i))] [] := by
    intro d
    induction d with
    | zero =>
      intro i hi hf
      refine px_iload_n hC 2 rfl dX0_findPivotRow_2 ?_
      refine px_aload_n hC 0 rfl dX0_findPivotRow_3 ?_
      refine px_get (C := RX0) (T := TX0) (N := 10) hC hq rfl kkX0_findPivotRow_X0 4 (by decide) flX0_findPivotRow_28 rfl dX0_findPivotRow_4 ?_
      refine px_icmp_ge hC 30 dX0_findPivotRow_7 (by decide) (fun _ => ?_) (fun q9 => (q9 (nI_le (by omega) (by omega))).elim)
      refine px_iconst (v := (-1)) hC (by decide) dX0_findPivotRow_30 ?_
      subst hQ
      exact px_iret hC rfl (⟨_, rfl, rfl, rfl, by rw [hf]; rfl⟩) dX0_findPivotRow_31
    | succ d ih =>
      intro i hi hf
      obtain ⟨a, ha, x, hx, hdx, hsx⟩ := hM i (by omega)
      refine px_iload_n hC 2 rfl dX0_findPivotRow_2 ?_
      refine px_aload_n hC 0 rfl dX0_findPivotRow_3 ?_
      refine px_get (C := RX0) (T := TX0) (N := 10) hC hq rfl kkX0_findPivotRow_X0 4 (by decide) flX0_findPivotRow_28 rfl dX0_findPivotRow_4 ?_
      refine px_icmp_ge hC 30 dX0_findPivotRow_7 (by decide) (fun q9 => absurd q9 (nI_ge (by omega) (by omega))) (fun _ => ?_)
      refine px_aload_n hC 0 rfl dX0_findPivotRow_10 ?_
      refine px_iload_n hC 2 rfl dX0_findPivotRow_11 ?_
      refine px_iload_n hC 1 rfl dX0_findPivotRow_12 ?_
      refine px_callVr (C := RX0) (T := TX0) (N := 10) (st := []) (nn := 2) hC (c_cell l E L f q i k hq hc ha (by omega)) hq rfl gX0_findPivotRow_X0_cell rfl (by decide +kernel) (by decide) (Nat.le_of_ble_eq_true rfl) (by decide) rfl rfl dX0_findPivotRow_13 (fun z f1 hz => ?_)
      obtain ⟨rfl, rfl⟩ := hz
      refine px_callSi (st := []) (nn := 1) hC (c_isZero l E L _ z x hx hdx) gX0_findPivotRow_X1_isZero rfl (by decide +kernel) (by decide) (Nat.le_of_ble_eq_true rfl) (by decide) rfl rfl dX0_findPivotRow_16 (fun z2 f2 hz2 => ?_)
      obtain ⟨rfl, hz2⟩ := hz2
      rcases hz2 with ⟨rfl, h0⟩ | ⟨rfl, h0⟩
      · refine px_if_ne hC 24 dX0_findPivotRow_19 (by decide) (fun _ => ?_) (fun q9 => absurd q9 (by decide))
        refine px_iinc (v := nI (i + 1)) (lv' := [(0, .ref q), (1, .int (nI k)), (2, .int (nI (i + 1)))]) hC 2 [1, 2, 0] dX0_findPivotRow_24 rfl (nI_1 i) (by decide) rfl ?_
        refine px_goto hC 2 dX0_findPivotRow_27 (by decide) ?_
        refine ih (i + 1) (by omega) ?_
        rw [hf, fnd, if_pos (by rw [← hsx]; exact (sg_0 hdx).mp h0)]
      · refine px_if_ne hC 24 dX0_findPivotRow_19 (by decide) (fun q9 => (q9 (by decide)).elim) (fun _ => ?_)
        refine px_iload_n hC 2 rfl dX0_findPivotRow_22 ?_
        subst hQ
        exact px_iret hC rfl (⟨_, rfl, rfl, rfl, by rw [hf, fnd, if_neg (fun e => h0 ((sg_0 hdx).mpr (by rw [hsx]; exact e)))]⟩) dX0_findPivotRow_23
  refine px_iload_n hC 1 rfl dX0_findPivotRow_0 ?_
  refine px_istore_n (lv' := [(0, .ref q), (1, .int (nI k)), (2, .int (nI k))]) hC [1, 2, 0] dX0_findPivotRow_1 (by decide) rfl ?_
  exact loop (n - k) k (by omega) rfl
def crS (cr : Nat → Option Nat) (o p c : Nat) : Nat → Option Nat := fun t => if t / 11 = o ∧ t % 11 < c then cr (p * 11 + t % 11) else if t / 11 = p ∧ t % 11 < c then cr (o * 11 + t % 11) else cr t
theorem crS_0 (cr : Nat → Option Nat) (o p : Nat) : crS cr o p 0 = cr := by
  funext t
  unfold crS
  rw [if_neg (by omega), if_neg (by omega)]
theorem crS_same (cr : Nat → Option Nat) (o c : Nat) : crS cr o o c = cr := by
  funext t
  unfold crS
  by_cases q : t / 11 = o ∧ t % 11 < c
  · rw [if_pos q, show o * 11 + t % 11 = t by omega]
  · rw [if_neg q, if_neg q]
theorem crS_s (cr : Nat → Option Nat) {o p c : Nat} (hne : o ≠ p) (hc : c < 11) : va_up (va_up (crS cr o p c) (o * 11 + c) (cr (p * 11 + c))) (p * 11 + c) (cr (o * 11 + c)) = crS cr o p (c + 1) := by
  funext t
  by_cases q1 : t = p * 11 + c
  · subst q1
    rw [va_up_self]
    unfold crS
    rw [if_neg (by omega), if_pos (by omega), show (p * 11 + c) % 11 = c by omega]
  · rw [va_up_ne _ _ q1]
    by_cases q2 : t = o * 11 + c
    · subst q2
      rw [va_up_self]
      unfold crS
      rw [if_pos (by omega), show (o * 11 + c) % 11 = c by omega]
    · rw [va_up_ne _ _ q2]
      unfold crS
      by_cases q3 : t / 11 = o ∧ t % 11 < c
      · rw [if_pos q3, if_pos (by omega)]
      · rw [if_neg q3, if_neg (show ¬ (t / 11 = o ∧ t % 11 < c + 1) by omega)]
        by_cases q4 : t / 11 = p ∧ t % 11 < c
        · rw [if_pos q4, if_pos (by omega)]
        · rw [if_neg q4, if_neg (by omega)]
theorem c_swap (l : Launch) (E : px_E) (L : List Nat) (f : Nat → va_E) (q o pp n : Nat) {cs np od wk : Nat} {eb tw : Int32} {iv : Int64} {mw ww : Int32} {cr : Nat → Option Nat} (hq : px_at L f q (.inr (0, eF cs np od wk (nI n) eb tw iv mw ww))) (hc : px_at L f cs (aJJ E 110 cr)) (hn : n ≤ 10) (ho : o < n) (hp : pp < n) (hA : ∀ t, t < 110 → ∃ a r, cr t = some a ∧ px_at L f a (aJ E 21 r)) : px_M l yX0_swapRows wsX0_swapRows (px_rm 1 22) E L f [.ref q, .int (nI o), .int (nI pp)] (px_v L (fun f' => f' = va_up f cs (aJJ E 110 (crS cr o pp (n + 1))))) := by
  refine px_M.of (cc := cX0_swapRows) (maxL := 5) (ret := none) (lv := [(0, .ref q), (1, .int (nI o)), (2, .int (nI pp))]) (by decide) rfl (Nat.le_of_ble_eq_true rfl) rfl ?_
  intro p e s m below meth c A hC hnm
  obtain ⟨Q, hQ⟩ : ∃ Q, Q = MQ below (px_Q E (px_v L (fun f' => f' = va_up f cs (aJJ E 110 (crS cr o pp (n + 1))))) A) [.ref q, .int (nI o), .int (nI pp)].toArray s (px_rm 1 22).cells (px_rm 1 22).slots A := ⟨_, rfl⟩
  rw [← hQ]
  by_cases hne : o = pp
  · subst hne
    refine px_iload_n hC 1 rfl dX0_swapRows_0 ?_
    refine px_iload_n hC 2 rfl dX0_swapRows_1 ?_
    refine px_icmp_ne hC 6 dX0_swapRows_2 (by decide) (fun q9 => (q9 (rfl)).elim) (fun _ => ?_)
    subst hQ
    exact px_vret hC rfl (⟨rfl, rfl, by show f = _; rw [crS_same, px_us hc.2]⟩) dX0_swapRows_5
  have hqc : q ≠ cs := hq.nk hc rfl
  have loop : ∀ (d jc : Nat), jc + d = n + 1 → px p l e (px_rm 1 22) s m [.ref q, .int (nI o), .int (nI pp)].toArray below meth c 5 E A s.heap L (va_up f cs (aJJ E 110 (crS cr o pp jc))) 0 0 Q 8 [(0, .ref q), (1, .int (nI o)), (2, .int (nI pp)), (3, .int (nI jc))] [] := by
    intro d
    induction d with
    | zero =>
      intro jc hd
      have e : jc = n + 1 := by omega
      subst e
      refine px_iload_n hC 3 rfl dX0_swapRows_8 ?_
      refine px_aload_n hC 0 rfl dX0_swapRows_9 ?_
      refine px_get (C := RX0) (T := TX0) (N := 10) hC (hq.up hqc) rfl kkX0_swapRows_X0 4 (by decide) flX0_swapRows_28 rfl dX0_swapRows_10 ?_
      refine px_icmp_gt hC 60 dX0_swapRows_13 (by decide) (fun _ => ?_) (fun q9 => (q9 (nI_lt (by omega) (by omega))).elim)
      subst hQ
      exact px_vret hC rfl (⟨rfl, rfl, rfl⟩) dX0_swapRows_60
    | succ d ih =>
      intro jc hd
      obtain ⟨a, ra, ha, hxa⟩ := hA (o * 11 + jc) (by omega)
      obtain ⟨b, rb, hb, hxb⟩ := hA (pp * 11 + jc) (by omega)
      have hac : a ≠ cs := hxa.nk hc rfl
      have hbc : b ≠ cs := hxb.nk hc rfl
      have h1 : crS cr o pp jc (o * 11 + jc) = some a := by
        unfold crS; rw [if_neg (by omega), if_neg (by omega)]; exact ha
      have h2 : crS cr o pp jc (pp * 11 + jc) = some b := by
        unfold crS; rw [if_neg (by omega), if_neg (by omega)]; exact hb
      refine px_iload_n hC 3 rfl dX0_swapRows_8 ?_
      refine px_aload_n hC 0 rfl dX0_swapRows_9 ?_
      refine px_get (C := RX0) (T := TX0) (N := 10) hC (hq.up hqc) rfl kkX0_swapRows_X0 4 (by decide) flX0_swapRows_28 rfl dX0_swapRows_10 ?_
      refine px_icmp_gt hC 60 dX0_swapRows_13 (by decide) (fun q9 => absurd q9 (nI_nlt (by omega) (by omega))) (fun _ => ?_)
      refine px_aload_n hC 0 rfl dX0_swapRows_16 ?_
      refine px_iload_n hC 1 rfl dX0_swapRows_17 ?_
      refine px_iload_n hC 3 rfl dX0_swapRows_18 ?_
      refine px_callVr (C := RX0) (T := TX0) (N := 10) (st := []) (nn := 2) hC (c_cell l E L _ q o jc (hq.up hqc) hc.self h1 (by omega)) (hq.up hqc) rfl gX0_swapRows_X0_cell rfl (by decide +kernel) (by decide) (Nat.le_of_ble_eq_true rfl) (by decide) rfl rfl dX0_swapRows_19 (fun z f1 hz => ?_)
      obtain ⟨rfl, rfl⟩ := hz
      refine px_astore (lv' := [(0, .ref q), (1, .int (nI o)), (2, .int (nI pp)), (3, .int (nI jc)), (4, .ref z)]) hC [1, 2, 3, 4, 0] dX0_swapRows_22 (by decide) rfl ?_
      refine px_aload_n hC 0 rfl dX0_swapRows_24 ?_
      refine px_get (C := RX0) (T := TX0) (N := 10) hC (hq.up hqc) rfl kkX0_swapRows_X0 0 (by decide) flX0_swapRows_13 rfl dX0_swapRows_25 ?_
      refine px_iload_n hC 1 rfl dX0_swapRows_28 ?_
      refine px_bipush (v := nI 11) hC (by decide) dX0_swapRows_29 ?_
      refine px_imul hC dX0_swapRows_31 ?_
      refine px_iload_n hC 3 rfl dX0_swapRows_32 ?_
      refine px_iadd hC dX0_swapRows_33 ?_
      refine px_ei (y := nI (o * 11 + jc)) (by rw [pk_mul, nI_add]) ?_
      refine px_aload_n hC 0 rfl dX0_swapRows_34 ?_
      refine px_iload_n hC 2 rfl dX0_swapRows_35 ?_
      refine px_iload_n hC 3 rfl dX0_swapRows_36 ?_
      refine px_callVr (C := RX0) (T := TX0) (N := 10) (st := [.int (nI (o * 11 + jc)), .ref cs]) (nn := 2) hC (c_cell l E L _ q pp jc (hq.up hqc) hc.self h2 (by omega)) (hq.up hqc) rfl gX0_swapRows_X0_cell rfl (by decide +kernel) (by decide) (Nat.le_of_ble_eq_true rfl) (by decide) rfl rfl dX0_swapRows_37 (fun z2 f2 hz2 => ?_)
      obtain ⟨rfl, rfl⟩ := hz2
      refine px_aastJ hC hc.self (hxb.up hbc) (by omega) (by first | decide | assumption | omega) dX0_swapRows_40 ?_
      rw [px_uu]
      refine px_aload_n hC 0 rfl dX0_swapRows_41 ?_
      refine px_get (C := RX0) (T := TX0) (N := 10) hC (hq.up hqc) rfl kkX0_swapRows_X0 0 (by decide) flX0_swapRows_13 rfl dX0_swapRows_42 ?_
      refine px_iload_n hC 2 rfl dX0_swapRows_45 ?_
      refine px_bipush (v := nI 11) hC (by decide) dX0_swapRows_46 ?_
      refine px_imul hC dX0_swapRows_48 ?_
      refine px_iload_n hC 3 rfl dX0_swapRows_49 ?_
      refine px_iadd hC dX0_swapRows_50 ?_
      refine px_ei (y := nI (pp * 11 + jc)) (by rw [pk_mul, nI_add]) ?_
      refine px_aload hC 4 rfl dX0_swapRows_51 ?_
      refine px_aastJ hC hc.self (hxa.up hac) (by omega) (by first | decide | assumption | omega) dX0_swapRows_53 ?_
      rw [px_uu, show va_up (va_up (crS cr o pp jc) (o * 11 + jc) (some z2)) (pp * 11 + jc) (some z) = crS cr o pp (jc + 1) from by rw [← ha, ← hb]; exact crS_s cr hne (by omega)]
      refine px_iinc (v := nI (jc + 1)) (lv' := [(0, .ref q), (1, .int (nI o)), (2, .int (nI pp)), (3, .int (nI (jc + 1))), (4, .ref z)]) hC 3 [1, 2, 3, 0, 4] dX0_swapRows_54 rfl (nI_1 jc) (by decide) rfl ?_
      refine px_goto hC 8 dX0_swapRows_57 (by decide) ?_
      refine px_lv (lv2 := [(0, .ref q), (1, .int (nI o)), (2, .int (nI pp)), (3, .int (nI (jc + 1)))]) [0, 1, 2, 3] rfl ?_
      exact ih (jc + 1) (by omega)
  refine px_iload_n hC 1 rfl dX0_swapRows_0 ?_
  refine px_iload_n hC 2 rfl dX0_swapRows_1 ?_
  refine px_icmp_ne hC 6 dX0_swapRows_2 (by decide) (fun _ => ?_) (fun q9 => absurd q9 (fun e => hne ((nI_eq (by omega) (by omega)).mp e)))
  refine px_iconst (v := nI 0) hC (by decide) dX0_swapRows_6 ?_
  refine px_istore_n (lv' := [(0, .ref q), (1, .int (nI o)), (2, .int (nI pp)), (3, .int (nI 0))]) hC [1, 2, 3, 0] dX0_swapRows_7 (by decide) rfl ?_
  have h0 := loop (n + 1) 0 (by omega)
  rw [crS_0, px_us hc.2] at h0
  exact h0
end
section
theorem rp_two {W : Int} {y1 y2 n1 a1 b1 c1 k1 k2 : Nat} {pv va vb vc : Int} (e1 : ((y1 + n1 * a1 : Nat) : Int) = k1 * W) (e2 : ((y2 + b1 * c1 : Nat) : Int) = y1 + k2 * W) (h1 : cg W n1 (-pv)) (h2 : cg W a1 va) (h3 : cg W b1 vb) (h4 : cg W c1 vc) : cg W y2 (pv * va - vb * vc) := by
  have h5 := cg_m h1 h2
  have h6 := cg_m h3 h4
  rw [Int.natCast_add, Int.natCast_mul] at e1 e2
  have h7 : (y2 : Int) = -((n1 : Int) * a1) + -((b1 : Int) * c1) + (k1 + k2) * W := by grind
  have h8 := cg_a (cg_n h5) (cg_n h6)
  refine cg_t ⟨k1 + k2, h7⟩ (cg_t h8 (cg_e (by grind)))
theorem rp_odd {d d' : Int} {t : Nat} {V : Nat} (hd : d = ((2 ^ t : Nat) : Int) * d') (ht : t ≤ 672) (h : cg ((4294967296 ^ 21 : Nat) : Int) ((V : Int) * ((2 ^ t : Nat) : Int)) d) : cg ((2 ^ (672 - t) : Nat) : Int) V d' := by
  obtain ⟨k, h⟩ := h
  have e : 4294967296 ^ 21 = 2 ^ t * 2 ^ (672 - t) := by rw [pow_BB, ← Nat.pow_add]; congr 1; omega
  have hp : (0 : Int) < ((2 ^ t : Nat) : Int) := by have := Nat.pow_pos (n := t) (show 0 < 2 by decide); omega
  rw [e, Int.natCast_mul, hd] at h
  generalize ((2 ^ t : Nat) : Int) = T at h hp
  generalize ((2 ^ (672 - t) : Nat) : Int) = R at h ⊢
  have h4 : T * (V : Int) = T * (d' + k * R) := by grind
  exact ⟨k, Int.eq_of_mul_eq_mul_left (by omega) h4⟩
theorem cg_2 {a b : Int} {u w : Nat} (h : u ≤ w) (hc : cg ((2 ^ w : Nat) : Int) a b) : cg ((2 ^ u : Nat) : Int) a b := cg_p h hc
theorem mn_I {a b : Nat} (ha : a < 2 ^ 31) (hb : b < 2 ^ 31) : (if nI b < nI a then nI b else nI a) = nI (min a b) := by
  by_cases h : b < a
  · rw [if_pos ((nI_ltI hb ha).mpr h), Nat.min_eq_right (by omega)]
  · rw [if_neg (fun h2 => h ((nI_ltI hb ha).mp h2)), Nat.min_eq_left (by omega)]
theorem flX0_replace_25 : Cond.fieldLink RX0 25 "RowReduction$Elimination" "work" "[J" ∈ wsX0_replace := by decide +kernel
theorem kkX0_replace_X0 : ∀ w ∈ wsX00, w ∈ wsX0_replace := fun _ h => List.mem_cons_of_mem _ (List.mem_append_right _ h)
theorem flX0_replace_18 : Cond.fieldLink RX0 18 "RowReduction$Elimination" "negatedPivot" "[J" ∈ wsX0_replace := by decide +kernel
theorem flX0_replace_45 : Cond.fieldLink RX0 45 "RowReduction$Elimination" "workWidth" "I" ∈ wsX0_replace := by decide +kernel
theorem flX0_replace_35 : Cond.fieldLink RX0 35 "RowReduction$Elimination" "divisorTwos" "I" ∈ wsX0_replace := by decide +kernel
theorem flX0_replace_22 : Cond.fieldLink RX0 22 "RowReduction$Elimination" "oddDivisor" "[J" ∈ wsX0_replace := by decide +kernel
theorem flX0_replace_38 : Cond.fieldLink RX0 38 "RowReduction$Elimination" "divisorInverse" "J" ∈ wsX0_replace := by decide +kernel
theorem flX0_replace_42 : Cond.fieldLink RX0 42 "RowReduction$Elimination" "minorWidth" "I" ∈ wsX0_replace := by decide +kernel
theorem flX0_prepareStep_22 : Cond.fieldLink RX0 22 "RowReduction$Elimination" "oddDivisor" "[J" ∈ wsX0_prepareStep := by decide +kernel
theorem kkX0_prepareStep_X0 : ∀ w ∈ wsX00, w ∈ wsX0_prepareStep := fun _ h => List.mem_cons_of_mem _ (List.mem_append_right _ h)
theorem flX0_prepareStep_35 : Cond.fieldLink RX0 35 "RowReduction$Elimination" "divisorTwos" "I" ∈ wsX0_prepareStep := by decide +kernel
theorem flX0_prepareStep_38 : Cond.fieldLink RX0 38 "RowReduction$Elimination" "divisorInverse" "J" ∈ wsX0_prepareStep := by decide +kernel
theorem flX0_prepareStep_28 : Cond.fieldLink RX0 28 "RowReduction$Elimination" "size" "I" ∈ wsX0_prepareStep := by decide +kernel
theorem flX0_prepareStep_42 : Cond.fieldLink RX0 42 "RowReduction$Elimination" "minorWidth" "I" ∈ wsX0_prepareStep := by decide +kernel
theorem flX0_prepareStep_45 : Cond.fieldLink RX0 45 "RowReduction$Elimination" "workWidth" "I" ∈ wsX0_prepareStep := by decide +kernel
theorem flX0_prepareStep_18 : Cond.fieldLink RX0 18 "RowReduction$Elimination" "negatedPivot" "[J" ∈ wsX0_prepareStep := by decide +kernel
theorem c_repl (l : Launch) (E : px_E) (L : List Nat) (f : Nat → va_E) (q a b b2 : Nat) {cs np od wk : Nat} {sz eb : Int32} {t iv mw ww : Nat} {r : Nat → Int64} {nx ox : Nat → Nat} {pv d d' va vb vc v : Int} (hq : px_at L f q (.inr (0, eF cs np od wk sz eb (nI t) (lN iv) (nI mw) (nI ww)))) (hwk : px_at L f wk (aJ E 21 r)) (hnp : px_at L f np (aJ E 21 (lw nx))) (hod : px_at L f od (aJ E 21 (lw ox))) (hdn : dg nx) (hdo : dg ox) (ha : cR E L f a va) (hb : cR E L f b vb) (hc2 : cR E L f b2 vc) (haw : a ≠ wk) (hbw : b ≠ wk) (hcw : b2 ≠ wk) (hnw : np ≠ wk) (how : od ≠ wk) (hp : cg ((4294967296 ^ 21 : Nat) : Int) (vl 4294967296 nx 21) (-pv)) (ho : cg ((4294967296 ^ 21 : Nat) : Int) ((vl 4294967296 ox 21 : Int) * ((2 ^ t : Nat) : Int)) d) (hiv : iv < 4294967296) (hi1 : iv * ox 0 % 4294967296 = 1) (hd : d = ((2 ^ t : Nat) : Int) * d') (hdo' : d' % 2 = 1) (hZ : pv * va - vb * vc = d * v) (h1 : 1 ≤ mw) (hww : ww = mw + t / 32 + 1) (hw21 : ww ≤ 21) (ht : t + 32 * mw ≤ 672) (hv : -((4294967296 ^ mw : Nat) : Int) < 2 * v ∧ 2 * v < ((4294967296 ^ mw : Nat) : Int)) : px_M l yX0_replace wsX0_replace (px_rm 3 69) E L f [.ref q, .ref a, .ref b, .ref b2] (px_v L (fun f' => ∃ y r', dg y ∧ sg y = v ∧ f' = va_up (va_up f wk (aJ E 21 r')) a (aJ E 21 (lw y)))) := by
  refine px_M.of (cc := cX0_replace) (maxL := 4) (ret := none) (lv := [(0, .ref q), (1, .ref a), (2, .ref b), (3, .ref b2)]) (by decide) rfl (Nat.le_of_ble_eq_true rfl) rfl ?_
  intro p e s m below meth c A hC hnm
  obtain ⟨Q, hQ⟩ : ∃ Q, Q = MQ below (px_Q E (px_v L (fun f' => ∃ y r', dg y ∧ sg y = v ∧ f' = va_up (va_up f wk (aJ E 21 r')) a (aJ E 21 (lw y)))) A) [.ref q, .ref a, .ref b, .ref b2].toArray s (px_rm 3 69).cells (px_rm 3 69).slots A := ⟨_, rfl⟩
  rw [← hQ]
  obtain ⟨xa, hxa, dxa, sxa⟩ := ha
  obtain ⟨xb, hxb, dxb, sxb⟩ := hb
  obtain ⟨xc, hxc, dxc, sxc⟩ := hc2
  have hqw : q ≠ wk := hq.nk hwk rfl
  refine px_aload_n hC 0 rfl dX0_replace_0 ?_
  refine px_get (C := RX0) (T := TX0) (N := 10) hC hq rfl kkX0_replace_X0 3 (by decide) flX0_replace_25 rfl dX0_replace_1 ?_
  refine px_lconst (v := lN 0) hC (by decide) dX0_replace_4 ?_
  refine px_callSv (st := []) (nn := 2) hC (c_fillJ l E L f wk 21 r (lN 0) hwk (by decide)) gX0_replace_J7_fill_d0a16 rfl (by decide +kernel) (by decide) (Nat.le_of_ble_eq_true rfl) (by decide) rfl rfl dX0_replace_5 (fun f1 h2 => ?_)
  subst h2
  refine px_aload_n hC 0 rfl dX0_replace_8 ?_
  refine px_get (C := RX0) (T := TX0) (N := 10) hC (hq.up hqw) rfl kkX0_replace_X0 3 (by decide) flX0_replace_25 rfl dX0_replace_9 ?_
  refine px_aload_n hC 0 rfl dX0_replace_12 ?_
  refine px_get (C := RX0) (T := TX0) (N := 10) hC (hq.up hqw) rfl kkX0_replace_X0 1 (by decide) flX0_replace_18 rfl dX0_replace_13 ?_
  refine px_aload_n hC 1 rfl dX0_replace_16 ?_
  refine px_aload_n hC 0 rfl dX0_replace_17 ?_
  refine px_get (C := RX0) (T := TX0) (N := 10) hC (hq.up hqw) rfl kkX0_replace_X0 9 (by decide) flX0_replace_45 rfl dX0_replace_18 ?_
  refine px_callSv (st := []) (nn := 4) hC (c_subP l E L _ wk np a ww (fun _ => 0) nx xa hwk.self (hnp.up hnw) (hxa.up haw) hnw haw hw21 (fun _ _ => by show 0 < 4294967296; decide) hdn dxa) gX0_replace_X1_subtractProduct rfl (by decide +kernel) (by decide) (Nat.le_of_ble_eq_true rfl) (by decide) rfl rfl dX0_replace_21 (fun f1 h2 => ?_)
  obtain ⟨y1, dy1, ⟨k1, e1⟩, rfl⟩ := h2
  rw [px_uu]
  refine px_aload_n hC 0 rfl dX0_replace_24 ?_
  refine px_get (C := RX0) (T := TX0) (N := 10) hC (hq.up hqw) rfl kkX0_replace_X0 3 (by decide) flX0_replace_25 rfl dX0_replace_25 ?_
  refine px_aload_n hC 2 rfl dX0_replace_28 ?_
  refine px_aload_n hC 3 rfl dX0_replace_29 ?_
  refine px_aload_n hC 0 rfl dX0_replace_30 ?_
  refine px_get (C := RX0) (T := TX0) (N := 10) hC (hq.up hqw) rfl kkX0_replace_X0 9 (by decide) flX0_replace_45 rfl dX0_replace_31 ?_
  refine px_callSv (st := []) (nn := 4) hC (c_subP l E L _ wk b b2 ww y1 xb xc hwk.self (hxb.up hbw) (hxc.up hcw) hbw hcw hw21 dy1 dxb dxc) gX0_replace_X1_subtractProduct rfl (by decide +kernel) (by decide) (Nat.le_of_ble_eq_true rfl) (by decide) rfl rfl dX0_replace_34 (fun f1 h2 => ?_)
  obtain ⟨y2, dy2, ⟨k2, e2⟩, rfl⟩ := h2
  rw [px_uu]
  refine px_aload_n hC 0 rfl dX0_replace_37 ?_
  refine px_get (C := RX0) (T := TX0) (N := 10) hC (hq.up hqw) rfl kkX0_replace_X0 3 (by decide) flX0_replace_25 rfl dX0_replace_38 ?_
  refine px_aload_n hC 0 rfl dX0_replace_41 ?_
  refine px_get (C := RX0) (T := TX0) (N := 10) hC (hq.up hqw) rfl kkX0_replace_X0 6 (by decide) flX0_replace_35 rfl dX0_replace_42 ?_
  refine px_aload_n hC 0 rfl dX0_replace_45 ?_
  refine px_get (C := RX0) (T := TX0) (N := 10) hC (hq.up hqw) rfl kkX0_replace_X0 9 (by decide) flX0_replace_45 rfl dX0_replace_46 ?_
  refine px_callSv (st := []) (nn := 3) hC (c_shr l E L _ wk t ww y2 hwk.self dy2 hw21 (by omega)) gX0_replace_X1_shiftRight rfl (by decide +kernel) (by decide) (Nat.le_of_ble_eq_true rfl) (by decide) rfl rfl dX0_replace_49 (fun f1 h2 => ?_)
  obtain ⟨y3, dy3, -, e3, rfl⟩ := h2
  rw [px_uu]
  refine px_aload_n hC 0 rfl dX0_replace_52 ?_
  refine px_get (C := RX0) (T := TX0) (N := 10) hC (hq.up hqw) rfl kkX0_replace_X0 3 (by decide) flX0_replace_25 rfl dX0_replace_53 ?_
  refine px_aload_n hC 0 rfl dX0_replace_56 ?_
  refine px_get (C := RX0) (T := TX0) (N := 10) hC (hq.up hqw) rfl kkX0_replace_X0 2 (by decide) flX0_replace_22 rfl dX0_replace_57 ?_
  refine px_aload_n hC 0 rfl dX0_replace_60 ?_
  refine px_get (C := RX0) (T := TX0) (N := 10) hC (hq.up hqw) rfl kkX0_replace_X0 7 (by decide) flX0_replace_38 rfl dX0_replace_61 ?_
  refine px_aload_n hC 0 rfl dX0_replace_64 ?_
  refine px_get (C := RX0) (T := TX0) (N := 10) hC (hq.up hqw) rfl kkX0_replace_X0 8 (by decide) flX0_replace_42 rfl dX0_replace_65 ?_
  refine px_callSv (st := []) (nn := 4) hC (c_divE l E L _ wk od iv mw y3 ox hwk.self (hod.up how) how (by omega) hiv hi1 dy3 hdo) gX0_replace_X1_divideEvenly rfl (by decide +kernel) (by decide) (Nat.le_of_ble_eq_true rfl) (by decide) rfl rfl dX0_replace_68 (fun f1 h2 => ?_)
  obtain ⟨y4, dy4, -, e4, rfl⟩ := h2
  rw [px_uu]
  refine px_aload_n hC 0 rfl dX0_replace_71 ?_
  refine px_get (C := RX0) (T := TX0) (N := 10) hC (hq.up hqw) rfl kkX0_replace_X0 3 (by decide) flX0_replace_25 rfl dX0_replace_72 ?_
  refine px_aload_n hC 0 rfl dX0_replace_75 ?_
  refine px_get (C := RX0) (T := TX0) (N := 10) hC (hq.up hqw) rfl kkX0_replace_X0 8 (by decide) flX0_replace_42 rfl dX0_replace_76 ?_
  refine px_aload_n hC 1 rfl dX0_replace_79 ?_
  refine px_callSv (st := []) (nn := 3) hC (c_copyW l E L _ wk a mw y4 (lw xa) hwk.self (hxa.up haw) (fun h => haw h.symm) h1 (by omega) dy4) gX0_replace_X1_copyWidened rfl (by decide +kernel) (by decide) (Nat.le_of_ble_eq_true rfl) (by decide) rfl rfl dX0_replace_80 (fun f1 h2 => ?_)
  subst h2
  have g1 : cg ((4294967296 ^ ww : Nat) : Int) (vl 4294967296 y2 ww) (d * v) := by
    rw [← hZ]
    rw [vl_0, Nat.zero_add] at e1
    exact rp_two (by exact_mod_cast e1) (by exact_mod_cast e2) (cg_t (cg_s (vl_low hw21)) (cg_p hw21 hp)) (by rw [← sxa]; exact sg_low hw21) (by rw [← sxb]; exact sg_low hw21) (by rw [← sxc]; exact sg_low hw21)
  have g2 := rp_shift (Z := d * v) (d' := d') (v := v) (t := t) (by rw [hd]) (by omega) g1 e3
  have g3 : cg ((2 ^ (32 * mw) : Nat) : Int) (vl 4294967296 y3 mw) (d' * v) := by
    have g4 := cg_2 (show 32 * mw ≤ 32 * ww - t by omega) g2
    have g5 := vl_low (x := y3) (show mw ≤ ww by omega)
    rw [pow_BB] at g5
    exact cg_t (cg_s g5) g4
  have g6 : cg ((2 ^ (32 * mw) : Nat) : Int) (vl 4294967296 ox mw) d' := by
    have g4 := cg_2 (show 32 * mw ≤ 672 - t by omega) (rp_odd hd (by omega) ho)
    have g5 := vl_low (x := ox) (show mw ≤ 21 by omega)
    rw [pow_BB] at g5
    exact cg_t (cg_s g5) g4
  have g7 : cg ((4294967296 ^ mw : Nat) : Int) (vl 4294967296 y4 mw) v := by
    rw [pow_BB] at e4 ⊢
    obtain ⟨k4, e4⟩ := e4
    refine cg_cancel hdo' ?_
    exact cg_t (cg_m (cg_r _ _) (cg_s g6)) (cg_t (cg_s ⟨k4, e4⟩) g3)
  subst hQ
  exact px_vret hC rfl (⟨rfl, rfl, wx y4 mw, lw y4, wx_dg dy4, wx_sg h1 (by omega) dy4 g7 hv, rfl⟩) dX0_replace_83
theorem ps_odd {x o : Nat → Nat} {t ov : Nat} {d : Int} (ht : t < 672) (hx : vl 4294967296 x 21 = 2 ^ t * (2 * ov + 1)) (hs : sg x = d) (ho : vl 4294967296 o 21 = vl 4294967296 x 21 / 2 ^ t) (hdo : dg o) : o 0 % 2 = 1 ∧ cg ((4294967296 ^ 21 : Nat) : Int) ((vl 4294967296 o 21 : Int) * ((2 ^ t : Nat) : Int)) d ∧ ∃ d' : Int, d = ((2 ^ t : Nat) : Int) * d' ∧ d' % 2 = 1 := by
  have hp : 0 < 2 ^ t := Nat.pow_pos (by decide)
  have e : vl 4294967296 o 21 = 2 * ov + 1 := by rw [ho, hx, Nat.mul_div_cancel_left _ hp]
  have e1 : vl 4294967296 o 21 = o 0 + 4294967296 * vl 4294967296 (fun i => o (1 + i)) 20 := vl_s1 4294967296 o 20
  refine ⟨by omega, ?_, ?_⟩
  · have e2 : ((vl 4294967296 o 21 : Nat) : Int) * ((2 ^ t : Nat) : Int) = vl 4294967296 x 21 := by rw [e, hx]; rw [Int.natCast_mul, Int.mul_comm]
    rw [e2, ← hs]
    exact sg_cg
  · obtain ⟨k, hk⟩ := cg_s (sg_cg (x := x))
    rw [hs, hx] at hk
    have e3 : 4294967296 ^ 21 = 2 ^ t * (2 * 2 ^ (671 - t)) := by
      rw [pow_BB, show 2 * 2 ^ (671 - t) = 2 ^ (672 - t) from by rw [Nat.mul_comm, ← Nat.pow_succ]; congr 1; omega, ← Nat.pow_add]; congr 1; omega
    rw [e3, Int.natCast_mul, Int.natCast_mul, Int.natCast_mul] at hk
    refine ⟨((2 * ov + 1 : Nat) : Int) + k * (((2 : Nat) : Int) * ((2 ^ (671 - t) : Nat) : Int)), by rw [hk]; grind, ?_⟩
    rw [show ((2 * ov + 1 : Nat) : Int) + k * (((2 : Nat) : Int) * ((2 ^ (671 - t) : Nat) : Int)) = 2 * ((ov : Int) + k * ((2 ^ (671 - t) : Nat) : Int)) + 1 from by push_cast; grind]
    omega
def mwd (n k eb : Nat) : Nat := (min (k + 2) n * eb + 23) / 32 + 1
theorem c_prep (l : Launch) (E : px_E) (L : List Nat) (f : Nat → va_E) (q k n eb : Nat) {cs np od wk : Nat} {tw : Int32} {iv0 : Int64} {mw0 ww0 : Int32} {cr : Nat → Option Nat} {r1 r2 : Nat → Int64} {ap ad : Nat} {pv d : Int} (hq : px_at L f q (.inr (0, eF cs np od wk (nI n) (nI eb) tw iv0 mw0 ww0))) (hc : px_at L f cs (aJJ E 110 cr)) (hnp : px_at L f np (aJ E 21 r1)) (hod : px_at L f od (aJ E 21 r2)) (hno : np ≠ od) (hn : n ≤ 10) (he : eb ≤ 31) (hk : k < n) (hpc : cr (k * 11 + k) = some ap) (hpv : cR E L f ap pv) (hapn : ap ≠ np) (hdc : k ≠ 0 → cr ((k - 1) * 11 + (k - 1)) = some ad ∧ cR E L f ad d ∧ ad ≠ np) (hd0 : k = 0 → d = 1) (hdne : d ≠ 0) : px_M l yX0_prepareStep wsX0_prepareStep (px_rm 2 53) E L f [.ref q, .int (nI k)] (px_v L (fun f' => ∃ nx ox t iv, dg nx ∧ dg ox ∧ cg ((4294967296 ^ 21 : Nat) : Int) (vl 4294967296 nx 21) (-pv) ∧ cg ((4294967296 ^ 21 : Nat) : Int) ((vl 4294967296 ox 21 : Int) * ((2 ^ t : Nat) : Int)) d ∧ iv < 4294967296 ∧ iv * ox 0 % 4294967296 = 1 ∧ (∃ d' : Int, d = ((2 ^ t : Nat) : Int) * d' ∧ d' % 2 = 1) ∧ t < 672 ∧ f' = va_up (va_up (va_up f np (aJ E 21 (lw nx))) od (aJ E 21 (lw ox))) q (.inr (0, eF cs np od wk (nI n) (nI eb) (nI t) (lN iv) (nI (mwd n k eb)) (nI (min (mwd n k eb + t / 32 + 1) 21)))))) := by
  refine px_M.of (cc := cX0_prepareStep) (maxL := 2) (ret := none) (lv := [(0, .ref q), (1, .int (nI k))]) (by decide) rfl (Nat.le_of_ble_eq_true rfl) rfl ?_
  intro p e s m below meth c A hC hnm
  obtain ⟨Q, hQ⟩ : ∃ Q, Q = MQ below (px_Q E (px_v L (fun f' => ∃ nx ox t iv, dg nx ∧ dg ox ∧ cg ((4294967296 ^ 21 : Nat) : Int) (vl 4294967296 nx 21) (-pv) ∧ cg ((4294967296 ^ 21 : Nat) : Int) ((vl 4294967296 ox 21 : Int) * ((2 ^ t : Nat) : Int)) d ∧ iv < 4294967296 ∧ iv * ox 0 % 4294967296 = 1 ∧ (∃ d' : Int, d = ((2 ^ t : Nat) : Int) * d' ∧ d' % 2 = 1) ∧ t < 672 ∧ f' = va_up (va_up (va_up f np (aJ E 21 (lw nx))) od (aJ E 21 (lw ox))) q (.inr (0, eF cs np od wk (nI n) (nI eb) (nI t) (lN iv) (nI (mwd n k eb)) (nI (min (mwd n k eb + t / 32 + 1) 21)))))) A) [.ref q, .int (nI k)].toArray s (px_rm 2 53).cells (px_rm 2 53).slots A := ⟨_, rfl⟩
  rw [← hQ]
  have hqn : q ≠ np := hq.nk hnp rfl
  have hqo : q ≠ od := hq.nk hod rfl
  have hcn : cs ≠ np := hc.nk hnp rfl
  have hco : cs ≠ od := hc.nk hod rfl
  have hmb : min (k + 2) n * eb ≤ 10 * 31 := Nat.mul_le_mul (by omega) he
  have hmw : mwd n k eb ≤ 11 := by unfold mwd; omega
  have tail : ∀ nx xd, dg nx → cg ((4294967296 ^ 21 : Nat) : Int) (vl 4294967296 nx 21) (-pv) → dg xd → sg xd = d → px p l e (px_rm 2 53) s m [.ref q, .int (nI k)].toArray below meth c 2 E A s.heap L (va_up (va_up f np (aJ E 21 (lw nx))) od (aJ E 21 (lw xd))) 0 0 Q 45 [(0, .ref q), (1, .int (nI k))] [] := by
    intro nx xd dnx hnx dxd sxd
    have g1 := (hq.up (y := aJ E 21 (lw nx)) hqn).up (y := aJ E 21 (lw xd)) hqo
    have o1 : px_at L (va_up (va_up f np (aJ E 21 (lw nx))) od (aJ E 21 (lw xd))) od (aJ E 21 (lw xd)) := (hod.up (fun h => hno h.symm)).self
    refine px_aload_n hC 0 rfl dX0_prepareStep_45 ?_
    refine px_aload_n hC 0 rfl dX0_prepareStep_46 ?_
    refine px_get (C := RX0) (T := TX0) (N := 10) hC g1 rfl kkX0_prepareStep_X0 2 (by decide) flX0_prepareStep_22 rfl dX0_prepareStep_47 ?_
    refine px_callSi (st := [.ref q]) (nn := 1) hC (c_trailZ l E L _ od xd o1 dxd) gX0_prepareStep_X1_trailingZeros rfl (by decide +kernel) (by decide) (Nat.le_of_ble_eq_true rfl) (by decide) rfl rfl dX0_prepareStep_50 (fun z f1 hz => ?_)
    obtain ⟨rfl, t, rfl, hz⟩ := hz
    rcases hz with ⟨h1, -⟩ | ⟨ht, ov, hov⟩
    · exact absurd (by rw [← sxd]; exact (sg_0 dxd).mp h1) hdne
    refine px_put (C := RX0) (T := TX0) (N := 10) (fs' := eF cs np od wk (nI n) (nI eb) (nI t) iv0 mw0 ww0) hC g1 rfl kkX0_prepareStep_X0 6 (by decide) tyX0 tyX0_ok nmX0 flX0_prepareStep_35 rfl rfl rfl (Nat.le_of_ble_eq_true rfl) rfl dX0_prepareStep_53 ?_
    have o2 := o1.up (y := .inr (0, eF cs np od wk (nI n) (nI eb) (nI t) iv0 mw0 ww0)) (fun h => hqo h.symm)
    refine px_aload_n hC 0 rfl dX0_prepareStep_56 ?_
    refine px_get (C := RX0) (T := TX0) (N := 10) hC (g1.self) rfl kkX0_prepareStep_X0 2 (by decide) flX0_prepareStep_22 rfl dX0_prepareStep_57 ?_
    refine px_aload_n hC 0 rfl dX0_prepareStep_60 ?_
    refine px_get (C := RX0) (T := TX0) (N := 10) hC (g1.self) rfl kkX0_prepareStep_X0 6 (by decide) flX0_prepareStep_35 rfl dX0_prepareStep_61 ?_
    refine px_bipush (v := nI 21) hC (by decide) dX0_prepareStep_64 ?_
    refine px_callSv (st := []) (nn := 3) hC (c_shr l E L _ od t 21 xd o2 dxd (by decide) (by omega)) gX0_prepareStep_X1_shiftRight rfl (by decide +kernel) (by decide) (Nat.le_of_ble_eq_true rfl) (by decide) rfl rfl dX0_prepareStep_66 (fun f1 h2 => ?_)
    obtain ⟨ox, dox, -, hox, rfl⟩ := h2
    obtain ⟨hodd, hcg, hd'⟩ := ps_odd ht hov sxd hox dox
    have g2 := (g1.self (y := .inr (0, eF cs np od wk (nI n) (nI eb) (nI t) iv0 mw0 ww0))).up (y := aJ E 21 (lw ox)) hqo
    refine px_aload_n hC 0 rfl dX0_prepareStep_69 ?_
    refine px_aload_n hC 0 rfl dX0_prepareStep_70 ?_
    refine px_get (C := RX0) (T := TX0) (N := 10) hC g2 rfl kkX0_prepareStep_X0 2 (by decide) flX0_prepareStep_22 rfl dX0_prepareStep_71 ?_
    refine px_iconst (v := nI 0) hC (by decide) dX0_prepareStep_74 ?_
    refine px_lald hC o2.self (by decide) (by first | decide | assumption | omega) dX0_prepareStep_75 ?_
    refine px_callSl (st := [.ref q]) (nn := 1) hC (c_inv l E L _ (ox 0) hodd (dox 0 (by decide))) gX0_prepareStep_X1_inverse rfl (by decide +kernel) (by decide) (Nat.le_of_ble_eq_true rfl) (by decide) rfl rfl dX0_prepareStep_76 (fun z f1 hz => ?_)
    obtain ⟨rfl, iv, rfl, hiv, hi1⟩ := hz
    refine px_put (C := RX0) (T := TX0) (N := 10) (fs' := eF cs np od wk (nI n) (nI eb) (nI t) (lN iv) mw0 ww0) hC g2 rfl kkX0_prepareStep_X0 7 (by decide) tyX0 tyX0_ok nmX0 flX0_prepareStep_38 rfl rfl rfl (Nat.le_of_ble_eq_true rfl) rfl dX0_prepareStep_79 ?_
    rw [px_uc _ _ _ hqo, px_uu, px_uu]
    have g3 := ((hq.up (y := aJ E 21 (lw nx)) hqn).up (y := aJ E 21 (lw ox)) hqo).self (y := .inr (0, eF cs np od wk (nI n) (nI eb) (nI t) (lN iv) mw0 ww0))
    refine px_aload_n hC 0 rfl dX0_prepareStep_82 ?_
    refine px_aload_n hC 0 rfl dX0_prepareStep_83 ?_
    refine px_iload_n hC 1 rfl dX0_prepareStep_84 ?_
    refine px_iconst (v := nI 2) hC (by decide) dX0_prepareStep_85 ?_
    refine px_iadd hC dX0_prepareStep_86 ?_
    refine px_ei (y := nI (k + 2)) (nI_add _ _) ?_
    refine px_aload_n hC 0 rfl dX0_prepareStep_87 ?_
    refine px_get (C := RX0) (T := TX0) (N := 10) hC g3 rfl kkX0_prepareStep_X0 4 (by decide) flX0_prepareStep_28 rfl dX0_prepareStep_88 ?_
    refine px_mmin hC (by decide +kernel) (by decide +kernel) (by decide +kernel) (by decide +kernel) (by decide) (Nat.le_of_ble_eq_true rfl) (by decide) dX0_prepareStep_91 ?_
    refine px_ei (y := nI (min (k + 2) n)) (mn_I (by omega) (by omega)) ?_
    refine px_callVi (C := RX0) (T := TX0) (N := 10) (st := [.ref q]) (nn := 1) hC (c_limbs l E L _ q (min (k + 2) n) g3 (by omega) he) g3 rfl gX0_prepareStep_X0_limbsOfMinor rfl (by decide +kernel) (by decide) (Nat.le_of_ble_eq_true rfl) (by decide) rfl rfl dX0_prepareStep_94 (fun z f1 hz => ?_)
    obtain ⟨rfl, rfl⟩ := hz
    refine px_put (C := RX0) (T := TX0) (N := 10) (fs' := eF cs np od wk (nI n) (nI eb) (nI t) (lN iv) (nI (mwd n k eb)) ww0) hC g3 rfl kkX0_prepareStep_X0 8 (by decide) tyX0 tyX0_ok nmX0 flX0_prepareStep_42 rfl rfl rfl (Nat.le_of_ble_eq_true rfl) rfl dX0_prepareStep_97 ?_
    rw [px_uu]
    have g4 := ((hq.up (y := aJ E 21 (lw nx)) hqn).up (y := aJ E 21 (lw ox)) hqo).self (y := .inr (0, eF cs np od wk (nI n) (nI eb) (nI t) (lN iv) (nI (mwd n k eb)) ww0))
    refine px_aload_n hC 0 rfl dX0_prepareStep_100 ?_
    refine px_aload_n hC 0 rfl dX0_prepareStep_101 ?_
    refine px_get (C := RX0) (T := TX0) (N := 10) hC g4 rfl kkX0_prepareStep_X0 8 (by decide) flX0_prepareStep_42 rfl dX0_prepareStep_102 ?_
    refine px_aload_n hC 0 rfl dX0_prepareStep_105 ?_
    refine px_get (C := RX0) (T := TX0) (N := 10) hC g4 rfl kkX0_prepareStep_X0 6 (by decide) flX0_prepareStep_35 rfl dX0_prepareStep_106 ?_
    refine px_bipush (v := nI 32) hC (by decide) dX0_prepareStep_109 ?_
    refine px_idiv hC (by decide) dX0_prepareStep_111 ?_
    refine px_ei (y := nI (t / 32)) (pk_div (by omega) (by decide) (by decide)) ?_
    refine px_iadd hC dX0_prepareStep_112 ?_
    refine px_ei (y := nI (mwd n k eb + t / 32)) (nI_add _ _) ?_
    refine px_iconst (v := nI 1) hC (by decide) dX0_prepareStep_113 ?_
    refine px_iadd hC dX0_prepareStep_114 ?_
    refine px_ei (y := nI (mwd n k eb + t / 32 + 1)) (nI_add _ _) ?_
    refine px_bipush (v := nI 21) hC (by decide) dX0_prepareStep_115 ?_
    refine px_mmin hC (by decide +kernel) (by decide +kernel) (by decide +kernel) (by decide +kernel) (by decide) (Nat.le_of_ble_eq_true rfl) (by decide) dX0_prepareStep_117 ?_
    refine px_ei (y := nI (min (mwd n k eb + t / 32 + 1) 21)) (mn_I (by omega) (by omega)) ?_
    refine px_put (C := RX0) (T := TX0) (N := 10) (fs' := eF cs np od wk (nI n) (nI eb) (nI t) (lN iv) (nI (mwd n k eb)) (nI (min (mwd n k eb + t / 32 + 1) 21))) hC g4 rfl kkX0_prepareStep_X0 9 (by decide) tyX0 tyX0_ok nmX0 flX0_prepareStep_45 rfl rfl rfl (Nat.le_of_ble_eq_true rfl) rfl dX0_prepareStep_120 ?_
    rw [px_uu]
    subst hQ
    exact px_vret hC rfl (⟨rfl, rfl, nx, ox, t, iv, dnx, dox, hnx, hcg, hiv, hi1, hd', ht, rfl⟩) dX0_prepareStep_123
  obtain ⟨xp, hxp, dxp, sxp⟩ := hpv
  have hapo : ap = od ∨ ap ≠ od := Classical.em _
  refine px_aload_n hC 0 rfl dX0_prepareStep_0 ?_
  refine px_iload_n hC 1 rfl dX0_prepareStep_1 ?_
  refine px_iload_n hC 1 rfl dX0_prepareStep_2 ?_
  refine px_callVr (C := RX0) (T := TX0) (N := 10) (st := []) (nn := 2) hC (c_cell l E L f q k k hq hc hpc (by omega)) hq rfl gX0_prepareStep_X0_cell rfl (by decide +kernel) (by decide) (Nat.le_of_ble_eq_true rfl) (by decide) rfl rfl dX0_prepareStep_3 (fun z f1 hz => ?_)
  obtain ⟨rfl, rfl⟩ := hz
  refine px_aload_n hC 0 rfl dX0_prepareStep_6 ?_
  refine px_get (C := RX0) (T := TX0) (N := 10) hC hq rfl kkX0_prepareStep_X0 1 (by decide) flX0_prepareStep_18 rfl dX0_prepareStep_7 ?_
  refine px_callSv (st := []) (nn := 2) hC (c_copyN l E L _ z np xp r1 hxp hnp hapn dxp) gX0_prepareStep_X1_copyNegated rfl (by decide +kernel) (by decide) (Nat.le_of_ble_eq_true rfl) (by decide) rfl rfl dX0_prepareStep_10 (fun f1 h2 => ?_)
  obtain ⟨nx, dnx, ⟨kn, hkn⟩, rfl⟩ := h2
  have hnx : cg ((4294967296 ^ 21 : Nat) : Int) (vl 4294967296 nx 21) (-pv) := by
    have h4 : ((vl 4294967296 nx 21 + vl 4294967296 xp 21 : Nat) : Int) = ((kn * 4294967296 ^ 21 : Nat) : Int) := by rw [hkn]
    rw [Int.natCast_add, Int.natCast_mul] at h4
    have h3 : cg ((4294967296 ^ 21 : Nat) : Int) (vl 4294967296 nx 21) (-(vl 4294967296 xp 21 : Int)) := ⟨kn, by omega⟩
    rw [← sxp]
    exact cg_t h3 (cg_n sg_cg)
  refine px_iload_n hC 1 rfl dX0_prepareStep_13 ?_
  by_cases h0 : k = 0
  · refine px_if_ne hC 28 dX0_prepareStep_14 (by decide) (fun q9 => (q9 (by rw [h0]; rfl)).elim) (fun _ => ?_)
    refine px_aload_n hC 0 rfl dX0_prepareStep_17 ?_
    refine px_get (C := RX0) (T := TX0) (N := 10) hC (hq.up hqn) rfl kkX0_prepareStep_X0 2 (by decide) flX0_prepareStep_22 rfl dX0_prepareStep_18 ?_
    refine px_iconst (v := nI 1) hC (by decide) dX0_prepareStep_21 ?_
    refine px_callSv (st := []) (nn := 2) hC (c_setTo l E L _ od r2 (nI 1) (hod.up (fun h => hno h.symm))) gX0_prepareStep_X1_setTo rfl (by decide +kernel) (by decide) (Nat.le_of_ble_eq_true rfl) (by decide) rfl rfl dX0_prepareStep_22 (fun f1 h2 => ?_)
    subst h2
    refine px_goto hC 45 dX0_prepareStep_25 (by decide) ?_
    exact tail nx (sx (nI 1)) dnx hnx (sx_dg _) (by rw [sx_sg, hd0 h0]; decide)
  · obtain ⟨hdc1, ⟨xd, hxd, dxd, sxd⟩, hadn⟩ := hdc h0
    refine px_if_ne hC 28 dX0_prepareStep_14 (by decide) (fun _ => ?_) (fun q9 => absurd q9 (nI_ne0 (by omega) (by omega)))
    refine px_aload_n hC 0 rfl dX0_prepareStep_28 ?_
    refine px_iload_n hC 1 rfl dX0_prepareStep_29 ?_
    refine px_iconst (v := nI 1) hC (by decide) dX0_prepareStep_30 ?_
    refine px_isub hC dX0_prepareStep_31 ?_
    refine px_ei (y := nI (k - 1)) (pk_sub (by omega)) ?_
    refine px_iload_n hC 1 rfl dX0_prepareStep_32 ?_
    refine px_iconst (v := nI 1) hC (by decide) dX0_prepareStep_33 ?_
    refine px_isub hC dX0_prepareStep_34 ?_
    refine px_ei (y := nI (k - 1)) (pk_sub (by omega)) ?_
    refine px_callVr (C := RX0) (T := TX0) (N := 10) (st := []) (nn := 2) hC (c_cell l E L _ q (k - 1) (k - 1) (hq.up hqn) (hc.up hcn) hdc1 (by omega)) (hq.up hqn) rfl gX0_prepareStep_X0_cell rfl (by decide +kernel) (by decide) (Nat.le_of_ble_eq_true rfl) (by decide) rfl rfl dX0_prepareStep_35 (fun z2 f1 hz => ?_)
    obtain ⟨rfl, rfl⟩ := hz
    refine px_aload_n hC 0 rfl dX0_prepareStep_38 ?_
    refine px_get (C := RX0) (T := TX0) (N := 10) hC (hq.up hqn) rfl kkX0_prepareStep_X0 2 (by decide) flX0_prepareStep_22 rfl dX0_prepareStep_39 ?_
    refine px_callSv (st := []) (nn := 2) hC (c_copy l E L _ z2 od xd r2 (hxd.up hadn) (hod.up (fun h => hno h.symm))) gX0_prepareStep_X1_copy rfl (by decide +kernel) (by decide) (Nat.le_of_ble_eq_true rfl) (by decide) rfl rfl dX0_prepareStep_42 (fun f1 h2 => ?_)
    subst h2
    exact tail nx xd dnx hnx dxd sxd
end
section
def eD (np od wk : Nat) (cr : Nat → Option Nat) (ad : Nat → Nat) : Prop := (∀ t, t < 110 → cr t = some (ad t)) ∧ (∀ t u, t < 110 → u < 110 → ad t = ad u → t = u) ∧ (∀ t, t < 110 → ad t ≠ np ∧ ad t ≠ od ∧ ad t ≠ wk) ∧ np ≠ od ∧ np ≠ wk ∧ od ≠ wk
/-- which cells of a column's clearing are done -/
def dn (n k r x i j : Nat) : Prop := i < n ∧ i ≠ k ∧ k < j ∧ j ≤ n ∧ (i < r ∨ (i = r ∧ j < x))
def ccI (E : px_E) (L : List Nat) (f g : Nat → va_E) (wk : Nat) (ad : Nat → Nat) (V : Nat → Nat → Int) (n k r x : Nat) : Prop := (∃ z, px_at L g wk (aJ E 21 z)) ∧ (∀ i j, dn n k r x i j → cR E L g (ad (i * 11 + j)) (V i j)) ∧ ∀ b, b ≠ wk → (∀ i j, dn n k r x i j → b ≠ ad (i * 11 + j)) → g b = f b
theorem flX0_clearColumn_28 : Cond.fieldLink RX0 28 "RowReduction$Elimination" "size" "I" ∈ wsX0_clearColumn := by decide +kernel
theorem kkX0_clearColumn_X0 : ∀ w ∈ wsX00, w ∈ wsX0_clearColumn := fun _ h => List.mem_cons_of_mem _ (List.mem_append_right _ h)
theorem c_clear (l : Launch) (E : px_E) (L : List Nat) (f : Nat → va_E) (q k n : Nat) {cs np od wk : Nat} {eb : Int32} {t iv mw ww : Nat} {cr : Nat → Option Nat} {ad : Nat → Nat} {r0 : Nat → Int64} {nx ox : Nat → Nat} {d d' : Int} {M V : Nat → Nat → Int} (hq : px_at L f q (.inr (0, eF cs np od wk (nI n) eb (nI t) (lN iv) (nI mw) (nI ww)))) (hcs : px_at L f cs (aJJ E 110 cr)) (hD : eD np od wk cr ad) (hn : n ≤ 10) (hk : k < n) (hwk : px_at L f wk (aJ E 21 r0)) (hnp : px_at L f np (aJ E 21 (lw nx))) (hod : px_at L f od (aJ E 21 (lw ox))) (hdn : dg nx) (hdo : dg ox) (hM : ∀ i j, i < n → k ≤ j → j ≤ n → cR E L f (ad (i * 11 + j)) (M i j)) (hp : cg ((4294967296 ^ 21 : Nat) : Int) (vl 4294967296 nx 21) (-(M k k))) (ho : cg ((4294967296 ^ 21 : Nat) : Int) ((vl 4294967296 ox 21 : Int) * ((2 ^ t : Nat) : Int)) d) (hiv : iv < 4294967296) (hi1 : iv * ox 0 % 4294967296 = 1) (hd : d = ((2 ^ t : Nat) : Int) * d') (hdo' : d' % 2 = 1) (hZ : ∀ i j, i < n → i ≠ k → k < j → j ≤ n → M k k * M i j - M i k * M k j = d * V i j) (h1 : 1 ≤ mw) (hww : ww = mw + t / 32 + 1) (hw21 : ww ≤ 21) (ht : t + 32 * mw ≤ 672) (hv : ∀ i j, i < n → i ≠ k → k < j → j ≤ n → -((4294967296 ^ mw : Nat) : Int) < 2 * V i j ∧ 2 * V i j < ((4294967296 ^ mw : Nat) : Int)) : px_M l yX0_clearColumn wsX0_clearColumn (px_rm 4 92) E L f [.ref q, .int (nI k)] (px_v L (fun f' => ccI E L f f' wk ad V n k n 0)) := by
  refine px_M.of (cc := cX0_clearColumn) (maxL := 4) (ret := none) (lv := [(0, .ref q), (1, .int (nI k))]) (by decide) rfl (Nat.le_of_ble_eq_true rfl) rfl ?_
  intro p e s m below meth c A hC hnm
  obtain ⟨Q, hQ⟩ : ∃ Q, Q = MQ below (px_Q E (px_v L (fun f' => ccI E L f f' wk ad V n k n 0)) A) [.ref q, .int (nI k)].toArray s (px_rm 4 92).cells (px_rm 4 92).slots A := ⟨_, rfl⟩
  rw [← hQ]
  obtain ⟨hD1, hD2, hD3, hno, hnw, how⟩ := hD
  have hqw : q ≠ wk := hq.nk hwk rfl
  have hcw : cs ≠ wk := hcs.nk hwk rfl
  have hqa : ∀ i j, i < n → k ≤ j → j ≤ n → q ≠ ad (i * 11 + j) := fun i j a1 a2 a3 => by
    obtain ⟨x, hx, -⟩ := hM i j a1 a2 a3
    exact hq.nk hx rfl
  have hca : ∀ i j, i < n → k ≤ j → j ≤ n → cs ≠ ad (i * 11 + j) := fun i j a1 a2 a3 => by
    obtain ⟨x, hx, -⟩ := hM i j a1 a2 a3
    exact hcs.nk hx rfl
  have hqG : ∀ g r x, ccI E L f g wk ad V n k r x → px_at L g q (.inr (0, eF cs np od wk (nI n) eb (nI t) (lN iv) (nI mw) (nI ww))) := fun g r x h => hq.fr (h.2.2 q hqw (fun i j hd => hqa i j hd.1 (by have := hd.2.2.1; omega) hd.2.2.2.1))
  have hcG : ∀ g r x, ccI E L f g wk ad V n k r x → px_at L g cs (aJJ E 110 cr) := fun g r x h => hcs.fr (h.2.2 cs hcw (fun i j hd => hca i j hd.1 (by have := hd.2.2.1; omega) hd.2.2.2.1))
  have hMG : ∀ g r x i j, ccI E L f g wk ad V n k r x → i < n → k ≤ j → j ≤ n → ¬ dn n k r x i j → cR E L g (ad (i * 11 + j)) (M i j) := fun g r x i j h a1 a2 a3 a4 => (hM i j a1 a2 a3).fr (h.2.2 _ (hD3 _ (by omega)).2.2 (fun i' j' hd he => by
    have h5 := hD2 _ _ (by omega) (by have := hd.1; have := hd.2.2.2.1; omega) he
    have h6 := hd.2.2.2.1
    have e1 : i = i' := by omega
    have e2 : j = j' := by omega
    subst e1; subst e2
    exact a4 hd))
  have hnG : ∀ g r x, ccI E L f g wk ad V n k r x → px_at L g np (aJ E 21 (lw nx)) := fun g r x h => hnp.fr (h.2.2 np hnw (fun i j hd he => (hD3 (i * 11 + j) (by have := hd.1; have := hd.2.2.2.1; omega)).1 he.symm))
  have hoG : ∀ g r x, ccI E L f g wk ad V n k r x → px_at L g od (aJ E 21 (lw ox)) := fun g r x h => hod.fr (h.2.2 od how (fun i j hd he => (hD3 (i * 11 + j) (by have := hd.1; have := hd.2.2.2.1; omega)).2.1 he.symm))
  have nxt : ∀ g r x x2, ccI E L f g wk ad V n k r x → (r = k ∨ n < x) → ccI E L f g wk ad V n k (r + 1) x2 ∨ x2 ≠ 0 := fun g r x x2 h hx => by
    by_cases q0 : x2 = 0
    · left
      subst q0
      have hiff : ∀ i j, dn n k (r + 1) 0 i j ↔ dn n k r x i j := by
        intro i j
        unfold dn
        omega
      exact ⟨h.1, fun i j hd => h.2.1 i j ((hiff i j).mp hd), fun b hb hd => h.2.2 b hb (fun i j h3 => hd i j ((hiff i j).mpr h3))⟩
    · exact Or.inr q0
  have outer : ∀ (u r : Nat) (g : Nat → va_E), r + u = n → ccI E L f g wk ad V n k r 0 → px p l e (px_rm 4 92) s m [.ref q, .int (nI k)].toArray below meth c 4 E A s.heap L (g) 0 0 Q 2 [(0, .ref q), (1, .int (nI k)), (2, .int (nI r))] [] := by
    intro u
    induction u with
    | zero =>
      intro r g hr hI
      have e1 : r = n := by omega
      subst e1
      refine px_iload_n hC 2 rfl dX0_clearColumn_2 ?_
      refine px_aload_n hC 0 rfl dX0_clearColumn_3 ?_
      refine px_get (C := RX0) (T := TX0) (N := 10) hC (hqG _ _ _ hI) rfl kkX0_clearColumn_X0 4 (by decide) flX0_clearColumn_28 rfl dX0_clearColumn_4 ?_
      refine px_icmp_ge hC 61 dX0_clearColumn_7 (by decide) (fun _ => ?_) (fun q9 => (q9 (nI_le (Nat.le_refl r) (by omega))).elim)
      subst hQ
      exact px_vret hC rfl (⟨rfl, rfl, hI⟩) dX0_clearColumn_61
    | succ u ihu =>
      intro r g hr hI
      have inner : ∀ (v x : Nat) (g : Nat → va_E), x + v = n + 1 → k < x → ccI E L f g wk ad V n k r x → px p l e (px_rm 4 92) s m [.ref q, .int (nI k)].toArray below meth c 4 E A s.heap L (g) 0 0 Q 14 [(0, .ref q), (1, .int (nI k)), (2, .int (nI r)), (3, .int (nI x))] [] := by
        intro v
        induction v with
        | zero =>
          intro x g hx hkx hI
          have hI2 := (nxt g r x 0 hI (Or.inr (by omega))).resolve_right (fun h => h rfl)
          refine px_iload_n hC 2 rfl dX0_clearColumn_14 ?_
          refine px_iload_n hC 1 rfl dX0_clearColumn_15 ?_
          by_cases hrk : r = k
          · refine px_icmp_eq hC 55 dX0_clearColumn_16 (by decide) (fun _ => ?_) (fun q9 => (q9 (by rw [hrk])).elim)
            refine px_iinc (v := nI (r + 1)) (lv' := [(0, .ref q), (1, .int (nI k)), (2, .int (nI (r + 1))), (3, .int (nI x))]) hC 2 [1, 2, 0, 3] dX0_clearColumn_55 rfl (nI_1 r) (by decide) rfl ?_
            refine px_goto hC 2 dX0_clearColumn_58 (by decide) ?_
            refine px_lv (lv2 := [(0, .ref q), (1, .int (nI k)), (2, .int (nI (r + 1)))]) [0, 1, 2] rfl ?_
            exact ihu (r + 1) g (by omega) hI2
          · refine px_icmp_eq hC 55 dX0_clearColumn_16 (by decide) (fun q9 => absurd q9 (fun h => hrk ((nI_eq (by omega) (by omega)).mp h))) (fun _ => ?_)
            refine px_iload_n hC 3 rfl dX0_clearColumn_19 ?_
            refine px_aload_n hC 0 rfl dX0_clearColumn_20 ?_
            refine px_get (C := RX0) (T := TX0) (N := 10) hC (hqG _ _ _ hI) rfl kkX0_clearColumn_X0 4 (by decide) flX0_clearColumn_28 rfl dX0_clearColumn_21 ?_
            refine px_icmp_gt hC 55 dX0_clearColumn_24 (by decide) (fun _ => ?_) (fun q9 => (q9 (nI_lt (by omega) (by omega))).elim)
            refine px_iinc (v := nI (r + 1)) (lv' := [(0, .ref q), (1, .int (nI k)), (2, .int (nI (r + 1))), (3, .int (nI x))]) hC 2 [1, 2, 0, 3] dX0_clearColumn_55 rfl (nI_1 r) (by decide) rfl ?_
            refine px_goto hC 2 dX0_clearColumn_58 (by decide) ?_
            refine px_lv (lv2 := [(0, .ref q), (1, .int (nI k)), (2, .int (nI (r + 1)))]) [0, 1, 2] rfl ?_
            exact ihu (r + 1) g (by omega) hI2
        | succ v ihv =>
          intro x g hx hkx hI
          refine px_iload_n hC 2 rfl dX0_clearColumn_14 ?_
          refine px_iload_n hC 1 rfl dX0_clearColumn_15 ?_
          by_cases hrk : r = k
          · have hI2 := (nxt g r x 0 hI (Or.inl hrk)).resolve_right (fun h => h rfl)
            refine px_icmp_eq hC 55 dX0_clearColumn_16 (by decide) (fun _ => ?_) (fun q9 => (q9 (by rw [hrk])).elim)
            refine px_iinc (v := nI (r + 1)) (lv' := [(0, .ref q), (1, .int (nI k)), (2, .int (nI (r + 1))), (3, .int (nI x))]) hC 2 [1, 2, 0, 3] dX0_clearColumn_55 rfl (nI_1 r) (by decide) rfl ?_
            refine px_goto hC 2 dX0_clearColumn_58 (by decide) ?_
            refine px_lv (lv2 := [(0, .ref q), (1, .int (nI k)), (2, .int (nI (r + 1)))]) [0, 1, 2] rfl ?_
            exact ihu (r + 1) g (by omega) hI2
          · have hra := hMG g r x r x hI (by omega) (by omega) (by omega) (by unfold dn; omega)
            have hrb := hMG g r x r k hI (by omega) (Nat.le_refl k) (by omega) (by unfold dn; omega)
            have hrc := hMG g r x k x hI hk (by omega) (by omega) (by unfold dn; omega)
            obtain ⟨zw, hzw⟩ := hI.1
            refine px_icmp_eq hC 55 dX0_clearColumn_16 (by decide) (fun q9 => absurd q9 (fun h => hrk ((nI_eq (by omega) (by omega)).mp h))) (fun _ => ?_)
            refine px_iload_n hC 3 rfl dX0_clearColumn_19 ?_
            refine px_aload_n hC 0 rfl dX0_clearColumn_20 ?_
            refine px_get (C := RX0) (T := TX0) (N := 10) hC (hqG _ _ _ hI) rfl kkX0_clearColumn_X0 4 (by decide) flX0_clearColumn_28 rfl dX0_clearColumn_21 ?_
            refine px_icmp_gt hC 55 dX0_clearColumn_24 (by decide) (fun q9 => absurd q9 (nI_nlt (by omega) (by omega))) (fun _ => ?_)
            refine px_aload_n hC 0 rfl dX0_clearColumn_27 ?_
            refine px_aload_n hC 0 rfl dX0_clearColumn_28 ?_
            refine px_iload_n hC 2 rfl dX0_clearColumn_29 ?_
            refine px_iload_n hC 3 rfl dX0_clearColumn_30 ?_
            refine px_callVr (C := RX0) (T := TX0) (N := 10) (st := [.ref q]) (nn := 2) hC (c_cell l E L _ q r x (hqG _ _ _ hI) (hcG _ _ _ hI) (hD1 _ (by omega)) (by omega)) (hqG _ _ _ hI) rfl gX0_clearColumn_X0_cell rfl (by decide +kernel) (by decide) (Nat.le_of_ble_eq_true rfl) (by decide) rfl rfl dX0_clearColumn_31 (fun z1 f1 hz => ?_)
            obtain ⟨rfl, rfl⟩ := hz
            refine px_aload_n hC 0 rfl dX0_clearColumn_34 ?_
            refine px_iload_n hC 2 rfl dX0_clearColumn_35 ?_
            refine px_iload_n hC 1 rfl dX0_clearColumn_36 ?_
            refine px_callVr (C := RX0) (T := TX0) (N := 10) (st := [.ref (ad (r * 11 + x)), .ref q]) (nn := 2) hC (c_cell l E L _ q r k (hqG _ _ _ hI) (hcG _ _ _ hI) (hD1 _ (by omega)) (by omega)) (hqG _ _ _ hI) rfl gX0_clearColumn_X0_cell rfl (by decide +kernel) (by decide) (Nat.le_of_ble_eq_true rfl) (by decide) rfl rfl dX0_clearColumn_37 (fun z2 f2 hz => ?_)
            obtain ⟨rfl, rfl⟩ := hz
            refine px_aload_n hC 0 rfl dX0_clearColumn_40 ?_
            refine px_iload_n hC 1 rfl dX0_clearColumn_41 ?_
            refine px_iload_n hC 3 rfl dX0_clearColumn_42 ?_
            refine px_callVr (C := RX0) (T := TX0) (N := 10) (st := [.ref (ad (r * 11 + k)), .ref (ad (r * 11 + x)), .ref q]) (nn := 2) hC (c_cell l E L _ q k x (hqG _ _ _ hI) (hcG _ _ _ hI) (hD1 _ (by omega)) (by omega)) (hqG _ _ _ hI) rfl gX0_clearColumn_X0_cell rfl (by decide +kernel) (by decide) (Nat.le_of_ble_eq_true rfl) (by decide) rfl rfl dX0_clearColumn_43 (fun z3 f3 hz => ?_)
            obtain ⟨rfl, rfl⟩ := hz
            refine px_callVv (C := RX0) (T := TX0) (N := 10) (st := []) (nn := 3) hC (c_repl l E L _ q (ad (r * 11 + x)) (ad (r * 11 + k)) (ad (k * 11 + x)) (v := V r x) (hqG _ _ _ hI) hzw (hnG _ _ _ hI) (hoG _ _ _ hI) hdn hdo hra hrb hrc (hD3 _ (by omega)).2.2 (hD3 _ (by omega)).2.2 (hD3 _ (by omega)).2.2 hnw how hp ho hiv hi1 hd hdo' (hZ r x (by omega) hrk (by omega) (by omega)) h1 hww hw21 ht (hv r x (by omega) hrk (by omega) (by omega))) (hqG _ _ _ hI) rfl gX0_clearColumn_X0_replace rfl (by decide +kernel) (by decide) (Nat.le_of_ble_eq_true rfl) (by decide) rfl rfl dX0_clearColumn_46 (fun f4 h4 => ?_)
            obtain ⟨y, r', dy, sy, rfl⟩ := h4
            refine px_iinc (v := nI (x + 1)) (lv' := [(0, .ref q), (1, .int (nI k)), (2, .int (nI r)), (3, .int (nI (x + 1)))]) hC 3 [1, 2, 3, 0] dX0_clearColumn_49 rfl (nI_1 x) (by decide) rfl ?_
            refine px_goto hC 14 dX0_clearColumn_52 (by decide) ?_
            refine ihv (x + 1) _ (by omega) (by omega) ⟨⟨r', ?_⟩, fun i j hd2 => ?_, fun b hb hd2 => ?_⟩
            · exact (hzw.self).up (fun h => (hD3 _ (by omega)).2.2 h.symm)
            · by_cases q0 : i = r ∧ j = x
              · obtain ⟨rfl, rfl⟩ := q0
                obtain ⟨xr, hxr, -⟩ := hra
                exact ⟨y, (hxr.up (hD3 _ (by omega)).2.2).self, dy, sy⟩
              · have h5 : dn n k r x i j := by unfold dn at hd2 ⊢; omega
                have h6 : i * 11 + j < 110 := by have := h5.1; have := h5.2.2.2.1; omega
                refine (hI.2.1 i j h5).fr ?_
                rw [va_up_ne _ _ (fun h => q0 (by have := hD2 _ _ h6 (by omega) h; have := h5.2.2.2.1; omega)), va_up_ne _ _ (hD3 _ h6).2.2]
            · rw [va_up_ne _ _ (hd2 r x (by unfold dn; omega)), va_up_ne _ _ hb]
              exact hI.2.2 b hb (fun i j h5 => hd2 i j (by unfold dn at h5 ⊢; omega))
      refine px_iload_n hC 2 rfl dX0_clearColumn_2 ?_
      refine px_aload_n hC 0 rfl dX0_clearColumn_3 ?_
      refine px_get (C := RX0) (T := TX0) (N := 10) hC (hqG _ _ _ hI) rfl kkX0_clearColumn_X0 4 (by decide) flX0_clearColumn_28 rfl dX0_clearColumn_4 ?_
      refine px_icmp_ge hC 61 dX0_clearColumn_7 (by decide) (fun q9 => absurd q9 (nI_ge (by omega) (by omega))) (fun _ => ?_)
      refine px_iload_n hC 1 rfl dX0_clearColumn_10 ?_
      refine px_iconst (v := nI 1) hC (by decide) dX0_clearColumn_11 ?_
      refine px_iadd hC dX0_clearColumn_12 ?_
      refine px_ei (y := nI (k + 1)) (nI_add _ _) ?_
      refine px_istore_n (lv' := [(0, .ref q), (1, .int (nI k)), (2, .int (nI r)), (3, .int (nI (k + 1)))]) hC [1, 2, 3, 0] dX0_clearColumn_13 (by decide) rfl ?_
      have hI3 : ccI E L f g wk ad V n k r (k + 1) := by
        have hiff : ∀ i j, dn n k r (k + 1) i j ↔ dn n k r 0 i j := by
          intro i j
          unfold dn
          omega
        exact ⟨hI.1, fun i j hd => hI.2.1 i j ((hiff i j).mp hd), fun b hb hd => hI.2.2 b hb (fun i j h3 => hd i j ((hiff i j).mpr h3))⟩
      exact inner (n - k) (k + 1) g (by omega) (by omega) hI3
  refine px_iconst (v := nI 0) hC (by decide) dX0_clearColumn_0 ?_
  refine px_istore_n (lv' := [(0, .ref q), (1, .int (nI k)), (2, .int (nI 0))]) hC [1, 2, 0] dX0_clearColumn_1 (by decide) rfl ?_
  exact outer n 0 f (by omega) ⟨⟨r0, hwk⟩, fun i j hd => absurd hd (by unfold dn; omega), fun b _ _ => rfl⟩
end
section
/-! ===== load: the numbers, and how many bits they use ===== -/
def m32 (v : Int32) : Nat := if v < 0 then 4294967295 - v.toBitVec.toNat else v.toBitVec.toNat
theorem m32_lt (v : Int32) : m32 v < 2147483648 := by
  have h := i32_n v
  have hb := v.toBitVec.isLt
  unfold m32
  by_cases q2 : v < 0
  · have h1 : v.toInt < 0 := Int32.lt_iff_toInt_lt.mp q2
    rw [if_pos q2]
    by_cases q3 : 2147483648 ≤ v.toBitVec.toNat
    · omega
    · rw [if_neg q3] at h; omega
  · have h1 : ¬ v.toInt < 0 := fun h2 => q2 (Int32.lt_iff_toInt_lt.mpr h2)
    rw [if_neg q2]
    by_cases q3 : 2147483648 ≤ v.toBitVec.toNat
    · rw [if_pos q3] at h; omega
    · omega
theorem m32_abs (v : Int32) : v.toInt.natAbs ≤ m32 v + 1 := by
  have h := i32_n v
  have hb := v.toBitVec.isLt
  unfold m32
  by_cases q2 : v < 0
  · have h1 : v.toInt < 0 := Int32.lt_iff_toInt_lt.mp q2
    rw [if_pos q2]
    by_cases q3 : 2147483648 ≤ v.toBitVec.toNat
    · rw [if_pos q3] at h; omega
    · rw [if_neg q3] at h; omega
  · have h1 : ¬ v.toInt < 0 := fun h2 => q2 (Int32.lt_iff_toInt_lt.mpr h2)
    rw [if_neg q2]
    by_cases q3 : 2147483648 ≤ v.toBitVec.toNat
    · rw [if_pos q3] at h; omega
    · rw [if_neg q3] at h; omega
theorem nI_self (v : Int32) : nI v.toBitVec.toNat = v := Int32.toBitVec_inj.mp (by show BitVec.ofNat 32 _ = _; simp)
theorem m32_neg {v : Int32} (h : v < 0) : v ^^^ (-1) = nI (m32 v) := by
  unfold m32
  rw [if_pos h]
  apply Int32.toBitVec_inj.mp
  rw [Int32.toBitVec_xor, show ((-1 : Int32)).toBitVec = BitVec.allOnes 32 from by decide, BitVec.xor_allOnes]
  apply BitVec.eq_of_toNat_eq
  rw [BitVec.toNat_not]
  show _ = (BitVec.ofNat 32 _).toNat
  rw [BitVec.toNat_ofNat, Nat.mod_eq_of_lt (by omega)]
theorem m32_pos {v : Int32} (h : ¬ v < 0) : v = nI (m32 v) := by
  unfold m32
  rw [if_neg h, nI_self]
theorem nI_or {a b : Nat} (ha : a < 2 ^ 32) (hb : b < 2 ^ 32) : nI a ||| nI b = nI (a ||| b) := by
  apply Int32.toBitVec_inj.mp
  rw [Int32.toBitVec_or]
  apply BitVec.eq_of_toNat_eq
  show (BitVec.ofNat 32 a ||| BitVec.ofNat 32 b).toNat = (BitVec.ofNat 32 (a ||| b)).toNat
  rw [BitVec.toNat_or, BitVec.toNat_ofNat, BitVec.toNat_ofNat, BitVec.toNat_ofNat, Nat.mod_eq_of_lt ha, Nat.mod_eq_of_lt hb, Nat.mod_eq_of_lt (Nat.or_lt_two_pow ha hb)]
theorem su_31 : ∀ n, n < 32 → (((nI n).toUInt32 &&& Int32.toUInt32 31).toBitVec % 32).toNat = n := by decide +kernel
def ldn (n r x i j : Nat) : Prop := i < n ∧ j ≤ n ∧ (i < r ∨ (i = r ∧ j < x))
def ldI (E : px_E) (L : List Nat) (f g : Nat → va_E) (ad : Nat → Nat) (w : Nat → Nat → Int32) (n r x ub : Nat) : Prop := ub < 2147483648 ∧ (∀ i j, ldn n r x i j → cR E L g (ad (i * 11 + j)) (w i j).toInt ∧ m32 (w i j) ≤ ub) ∧ ∀ b, (∀ i j, ldn n r x i j → b ≠ ad (i * 11 + j)) → g b = f b
theorem flX0_load_32 : Cond.fieldLink RX0 32 "RowReduction$Elimination" "entryBits" "I" ∈ wsX0_load := by decide +kernel
theorem kkX0_load_X0 : ∀ w ∈ wsX00, w ∈ wsX0_load := fun _ h => List.mem_cons_of_mem _ (List.mem_append_right _ h)
theorem flX0_load_28 : Cond.fieldLink RX0 28 "RowReduction$Elimination" "size" "I" ∈ wsX0_load := by decide +kernel
theorem c_load (l : Launch) (E : px_E) (L : List Nat) (f : Nat → va_E) (q n sy : Nat) {cs np od wk : Nat} {eb0 tw : Int32} {iv : Int64} {mw ww : Int32} {cr sr : Nat → Option Nat} {ad ra : Nat → Nat} {w : Nat → Nat → Int32} (hq : px_at L f q (.inr (0, eF cs np od wk (nI n) eb0 tw iv mw ww))) (hcs : px_at L f cs (aJJ E 110 cr)) (hD : eD np od wk cr ad) (hA : ∀ t, t < 110 → ∃ r, px_at L f (ad t) (aJ E 21 r)) (hn : n ≤ 10) (hsy : px_at L f sy (aII E 10 sr)) (hra : ∀ i, i < 10 → sr i = some (ra i) ∧ px_at L f (ra i) (aI E 11 (w i))) : px_M l yX0_load wsX0_load (px_rm 2 45) E L f [.ref q, .ref sy] (px_v L (fun f' => ∃ eb g, eb ≤ 31 ∧ (∀ i j, i < n → j ≤ n → cR E L g (ad (i * 11 + j)) (w i j).toInt ∧ m32 (w i j) < 2 ^ eb) ∧ (∀ b, (∀ i j, i < n → j ≤ n → b ≠ ad (i * 11 + j)) → g b = f b) ∧ f' = va_up g q (.inr (0, eF cs np od wk (nI n) (nI eb) tw iv mw ww)))) := by
  refine px_M.of (cc := cX0_load) (maxL := 6) (ret := none) (lv := [(0, .ref q), (1, .ref sy)]) (by decide) rfl (Nat.le_of_ble_eq_true rfl) rfl ?_
  intro p e s m below meth c A hC hnm
  obtain ⟨Q, hQ⟩ : ∃ Q, Q = MQ below (px_Q E (px_v L (fun f' => ∃ eb g, eb ≤ 31 ∧ (∀ i j, i < n → j ≤ n → cR E L g (ad (i * 11 + j)) (w i j).toInt ∧ m32 (w i j) < 2 ^ eb) ∧ (∀ b, (∀ i j, i < n → j ≤ n → b ≠ ad (i * 11 + j)) → g b = f b) ∧ f' = va_up g q (.inr (0, eF cs np od wk (nI n) (nI eb) tw iv mw ww)))) A) [.ref q, .ref sy].toArray s (px_rm 2 45).cells (px_rm 2 45).slots A := ⟨_, rfl⟩
  rw [← hQ]
  obtain ⟨hD1, hD2, hD3, hno, hnw, how⟩ := hD
  have hqa : ∀ t, t < 110 → q ≠ ad t := fun t ht => by obtain ⟨r, hr⟩ := hA t ht; exact hq.nk hr rfl
  have hca : ∀ t, t < 110 → cs ≠ ad t := fun t ht => by obtain ⟨r, hr⟩ := hA t ht; exact hcs.nk hr rfl
  have hsa : ∀ t, t < 110 → sy ≠ ad t := fun t ht => by obtain ⟨r, hr⟩ := hA t ht; exact hsy.nk hr rfl
  have hrr : ∀ t i, t < 110 → i < 10 → ra i ≠ ad t := fun t i ht hi => by obtain ⟨r, hr⟩ := hA t ht; exact (hra i hi).2.nk hr rfl
  have hlt : ∀ {r x i j}, ldn n r x i j → i * 11 + j < 110 := fun h => by have := h.1; have := h.2.1; omega
  have hqG : ∀ g r x ub, ldI E L f g ad w n r x ub → px_at L g q (.inr (0, eF cs np od wk (nI n) eb0 tw iv mw ww)) := fun g r x ub h => hq.fr (h.2.2 q (fun i j hd => hqa _ (hlt hd)))
  have hcG : ∀ g r x ub, ldI E L f g ad w n r x ub → px_at L g cs (aJJ E 110 cr) := fun g r x ub h => hcs.fr (h.2.2 cs (fun i j hd => hca _ (hlt hd)))
  have hsG : ∀ g r x ub, ldI E L f g ad w n r x ub → px_at L g sy (aII E 10 sr) := fun g r x ub h => hsy.fr (h.2.2 sy (fun i j hd => hsa _ (hlt hd)))
  have hrG : ∀ g r x ub i, ldI E L f g ad w n r x ub → i < 10 → px_at L g (ra i) (aI E 11 (w i)) := fun g r x ub i h hi => (hra i hi).2.fr (h.2.2 _ (fun i' j hd => hrr _ _ (hlt hd) hi))
  have hcong : ∀ g r x r2 x2 ub, ldI E L f g ad w n r x ub → (∀ i j, ldn n r2 x2 i j ↔ ldn n r x i j) → ldI E L f g ad w n r2 x2 ub := fun g r x r2 x2 ub h hi => ⟨h.1, fun i j hd => h.2.1 i j ((hi i j).mp hd), fun b hd => h.2.2 b (fun i j h3 => hd i j ((hi i j).mpr h3))⟩
  have last : ∀ (g : Nat → va_E) (ub : Nat), ldI E L f g ad w n n 0 ub → ∀ (u eb : Nat), eb + u = 31 → px p l e (px_rm 2 45) s m [.ref q, .ref sy].toArray below meth c 6 E A s.heap L (va_up g q (.inr (0, eF cs np od wk (nI n) (nI eb) tw iv mw ww))) 0 0 Q 78 [(0, .ref q), (1, .ref sy), (2, .int (nI ub)), (3, .int (nI n))] [] := by
    intro g ub hI
    have hub := hI.1
    have fin : ∀ eb, eb ≤ 31 → ub < 2 ^ eb → ∃ eb' g', eb' ≤ 31 ∧ (∀ i j, i < n → j ≤ n → cR E L g' (ad (i * 11 + j)) (w i j).toInt ∧ m32 (w i j) < 2 ^ eb') ∧ (∀ b, (∀ i j, i < n → j ≤ n → b ≠ ad (i * 11 + j)) → g' b = f b) ∧ va_up g q (.inr (0, eF cs np od wk (nI n) (nI eb) tw iv mw ww)) = va_up g' q (.inr (0, eF cs np od wk (nI n) (nI eb') tw iv mw ww)) := fun eb h1 h2 => ⟨eb, g, h1, fun i j a1 a2 => by
      have h3 := hI.2.1 i j ⟨a1, a2, Or.inl a1⟩
      exact ⟨h3.1, by omega⟩, fun b hb => hI.2.2 b (fun i j hd => hb i j hd.1 hd.2.1), rfl⟩
    intro u
    induction u with
    | zero =>
      intro eb he
      have e1 : eb = 31 := by omega
      subst e1
      refine px_aload_n hC 0 rfl dX0_load_78 ?_
      refine px_get (C := RX0) (T := TX0) (N := 10) hC (hqG _ _ _ _ hI).self rfl kkX0_load_X0 5 (by decide) flX0_load_32 rfl dX0_load_79 ?_
      refine px_bipush (v := nI 31) hC (by decide) dX0_load_82 ?_
      refine px_icmp_ge hC 109 dX0_load_84 (by decide) (fun _ => ?_) (fun q9 => (q9 (by decide)).elim)
      subst hQ
      exact px_vret hC rfl (⟨rfl, rfl, fin 31 (by decide) hub⟩) dX0_load_109
    | succ u ih =>
      intro eb he
      refine px_aload_n hC 0 rfl dX0_load_78 ?_
      refine px_get (C := RX0) (T := TX0) (N := 10) hC (hqG _ _ _ _ hI).self rfl kkX0_load_X0 5 (by decide) flX0_load_32 rfl dX0_load_79 ?_
      refine px_bipush (v := nI 31) hC (by decide) dX0_load_82 ?_
      refine px_icmp_ge hC 109 dX0_load_84 (by decide) (fun q9 => absurd q9 (nI_ge (by omega) (by omega))) (fun _ => ?_)
      refine px_iload_n hC 2 rfl dX0_load_87 ?_
      refine px_aload_n hC 0 rfl dX0_load_88 ?_
      refine px_get (C := RX0) (T := TX0) (N := 10) hC (hqG _ _ _ _ hI).self rfl kkX0_load_X0 5 (by decide) flX0_load_32 rfl dX0_load_89 ?_
      refine px_iushr hC dX0_load_92 ?_
      refine px_ei (y := nI (ub / 2 ^ eb)) (pk_ushrN (by omega) (nI eb) eb (su_31 eb (by omega))) ?_
      by_cases h : ub / 2 ^ eb = 0
      · have h2 : ub < 2 ^ eb := by
          rcases Nat.div_eq_zero_iff.mp h with q0 | q0
          · have := Nat.pow_pos (n := eb) (show 0 < 2 by decide); omega
          · exact q0
        refine px_if_eq hC 109 dX0_load_93 (by decide) (fun _ => ?_) (fun q9 => (q9 (by rw [h]; rfl)).elim)
        subst hQ
        exact px_vret hC rfl (⟨rfl, rfl, fin eb (by omega) h2⟩) dX0_load_109
      · refine px_if_eq hC 109 dX0_load_93 (by decide) (fun q9 => absurd q9 (nI_ne0 (Nat.pos_of_ne_zero h) (Nat.lt_of_le_of_lt (Nat.div_le_self _ _) (by omega)))) (fun _ => ?_)
        refine px_aload_n hC 0 rfl dX0_load_96 ?_
        refine px_dup hC rfl dX0_load_97 ?_
        refine px_get (C := RX0) (T := TX0) (N := 10) hC (hqG _ _ _ _ hI).self rfl kkX0_load_X0 5 (by decide) flX0_load_32 rfl dX0_load_98 ?_
        refine px_iconst (v := nI 1) hC (by decide) dX0_load_101 ?_
        refine px_iadd hC dX0_load_102 ?_
        refine px_ei (y := nI (eb + 1)) (nI_add _ _) ?_
        refine px_put (C := RX0) (T := TX0) (N := 10) (fs' := eF cs np od wk (nI n) (nI (eb + 1)) tw iv mw ww) hC (hqG _ _ _ _ hI).self rfl kkX0_load_X0 5 (by decide) tyX0 tyX0_ok nmX0 flX0_load_32 rfl rfl rfl (Nat.le_of_ble_eq_true rfl) rfl dX0_load_103 ?_
        rw [px_uu]
        refine px_goto hC 78 dX0_load_106 (by decide) ?_
        exact ih (eb + 1) (by omega)
  have outer : ∀ (u r ub : Nat) (g : Nat → va_E), r + u = n → ldI E L f g ad w n r 0 ub → px p l e (px_rm 2 45) s m [.ref q, .ref sy].toArray below meth c 6 E A s.heap L (g) 0 0 Q 4 [(0, .ref q), (1, .ref sy), (2, .int (nI ub)), (3, .int (nI r))] [] := by
    intro u
    induction u with
    | zero =>
      intro r ub g hr hI
      have e1 : r = n := by omega
      subst e1
      refine px_iload_n hC 3 rfl dX0_load_4 ?_
      refine px_aload_n hC 0 rfl dX0_load_5 ?_
      refine px_get (C := RX0) (T := TX0) (N := 10) hC (hqG _ _ _ _ hI) rfl kkX0_load_X0 4 (by decide) flX0_load_28 rfl dX0_load_6 ?_
      refine px_icmp_ge hC 73 dX0_load_9 (by decide) (fun _ => ?_) (fun q9 => (q9 (nI_le (Nat.le_refl r) (by omega))).elim)
      refine px_aload_n hC 0 rfl dX0_load_73 ?_
      refine px_iconst (v := nI 0) hC (by decide) dX0_load_74 ?_
      refine px_put (C := RX0) (T := TX0) (N := 10) (fs' := eF cs np od wk (nI r) (nI 0) tw iv mw ww) hC (hqG _ _ _ _ hI) rfl kkX0_load_X0 5 (by decide) tyX0 tyX0_ok nmX0 flX0_load_32 rfl rfl rfl (Nat.le_of_ble_eq_true rfl) rfl dX0_load_75 ?_
      exact last g ub hI 31 0 (by omega)
    | succ u ihu =>
      intro r ub g hr hI
      have inner : ∀ (v x ub : Nat) (g : Nat → va_E), x + v = n + 1 → ldI E L f g ad w n r x ub → px p l e (px_rm 2 45) s m [.ref q, .ref sy].toArray below meth c 6 E A s.heap L (g) 0 0 Q 15 [(0, .ref q), (1, .ref sy), (2, .int (nI ub)), (3, .int (nI r)), (4, .int (nI x))] [] := by
        intro v
        induction v with
        | zero =>
          intro x ub g hx hI
          refine px_iload hC 4 rfl dX0_load_15 ?_
          refine px_aload_n hC 0 rfl dX0_load_17 ?_
          refine px_get (C := RX0) (T := TX0) (N := 10) hC (hqG _ _ _ _ hI) rfl kkX0_load_X0 4 (by decide) flX0_load_28 rfl dX0_load_18 ?_
          refine px_icmp_gt hC 67 dX0_load_21 (by decide) (fun _ => ?_) (fun q9 => (q9 (nI_lt (by omega) (by omega))).elim)
          refine px_iinc (v := nI (r + 1)) (lv' := [(0, .ref q), (1, .ref sy), (2, .int (nI ub)), (3, .int (nI (r + 1))), (4, .int (nI x))]) hC 3 [1, 2, 3, 0, 4] dX0_load_67 rfl (nI_1 r) (by decide) rfl ?_
          refine px_goto hC 4 dX0_load_70 (by decide) ?_
          refine px_lv (lv2 := [(0, .ref q), (1, .ref sy), (2, .int (nI ub)), (3, .int (nI (r + 1)))]) [0, 1, 2, 3] rfl ?_
          exact ihu (r + 1) ub g (by omega) (hcong g r x (r + 1) 0 ub hI (fun i j => by unfold ldn; omega))
        | succ v ihv =>
          intro x ub g hx hI
          obtain ⟨r0, hr0⟩ := hA (r * 11 + x) (by omega)
          have hr1 := hr0.fr (hI.2.2 _ (fun i j hd he => by have h5 := hD2 _ _ (by omega) (hlt hd) he; have h6 := hd.2.1; have h7 := hd.2.2; omega))
          have hub := hI.1
          have hml := m32_lt (w r x)
          have hor : ub ||| m32 (w r x) < 2147483648 := Nat.or_lt_two_pow (n := 31) hub hml
          refine px_iload hC 4 rfl dX0_load_15 ?_
          refine px_aload_n hC 0 rfl dX0_load_17 ?_
          refine px_get (C := RX0) (T := TX0) (N := 10) hC (hqG _ _ _ _ hI) rfl kkX0_load_X0 4 (by decide) flX0_load_28 rfl dX0_load_18 ?_
          refine px_icmp_gt hC 67 dX0_load_21 (by decide) (fun q9 => absurd q9 (nI_nlt (by omega) (by omega))) (fun _ => ?_)
          refine px_aload_n hC 1 rfl dX0_load_24 ?_
          refine px_iload_n hC 3 rfl dX0_load_25 ?_
          refine px_aald (t0 := 3) hC (hsG _ _ _ _ hI) rfl rfl (by omega) (by first | decide | assumption | omega) (hra r (by omega)).1 dX0_load_26 ?_
          refine px_iload hC 4 rfl dX0_load_27 ?_
          refine px_iald hC (hrG _ _ _ _ r hI (by omega)) (by omega) (by first | decide | assumption | omega) dX0_load_29 ?_
          refine px_istore (lv' := [(0, .ref q), (1, .ref sy), (2, .int (nI ub)), (3, .int (nI r)), (4, .int (nI x)), (5, .int (w r x))]) hC [1, 2, 3, 4, 5, 0] dX0_load_30 (by decide) rfl ?_
          refine px_aload_n hC 0 rfl dX0_load_32 ?_
          refine px_iload_n hC 3 rfl dX0_load_33 ?_
          refine px_iload hC 4 rfl dX0_load_34 ?_
          refine px_callVr (C := RX0) (T := TX0) (N := 10) (st := []) (nn := 2) hC (c_cell l E L _ q r x (hqG _ _ _ _ hI) (hcG _ _ _ _ hI) (hD1 _ (by omega)) (by omega)) (hqG _ _ _ _ hI) rfl gX0_load_X0_cell rfl (by decide +kernel) (by decide) (Nat.le_of_ble_eq_true rfl) (by decide) rfl rfl dX0_load_36 (fun z1 f1 hz => ?_)
          obtain ⟨rfl, rfl⟩ := hz
          refine px_iload hC 5 rfl dX0_load_39 ?_
          refine px_callSv (st := []) (nn := 2) hC (c_setTo l E L _ (ad (r * 11 + x)) r0 (w r x) hr1) gX0_load_X1_setTo rfl (by decide +kernel) (by decide) (Nat.le_of_ble_eq_true rfl) (by decide) rfl rfl dX0_load_41 (fun f1 h2 => ?_)
          subst h2
          have hnew : ldI E L f (va_up f1 (ad (r * 11 + x)) (aJ E 21 (lw (sx (w r x))))) ad w n r (x + 1) (ub ||| m32 (w r x)) := by
            refine ⟨hor, fun i j hd => ?_, fun b hd => ?_⟩
            · by_cases q0 : i = r ∧ j = x
              · obtain ⟨rfl, rfl⟩ := q0
                exact ⟨⟨sx (w i j), hr1.self, sx_dg _, sx_sg _⟩, Nat.right_le_or⟩
              · have h5 : ldn n r x i j := by unfold ldn at hd ⊢; omega
                have h6 := hI.2.1 i j h5
                refine ⟨h6.1.fr (va_up_ne _ _ (fun h => q0 (by have := hD2 _ _ (hlt h5) (by omega) h; have := h5.2.1; omega))), Nat.le_trans h6.2 Nat.left_le_or⟩
            · rw [va_up_ne _ _ (hd r x (by unfold ldn; omega))]
              exact hI.2.2 b (fun i j h5 => hd i j (by unfold ldn at h5 ⊢; omega))
          refine px_iload_n hC 2 rfl dX0_load_44 ?_
          refine px_iload hC 5 rfl dX0_load_45 ?_
          by_cases hneg : 0 ≤ w r x
          · have hv : ¬ w r x < 0 := Int32.not_lt.mpr hneg
            refine px_if_ge hC 57 dX0_load_47 (by decide) (fun _ => ?_) (fun q9 => (q9 (hneg)).elim)
            refine px_iload hC 5 rfl dX0_load_57 ?_
            refine px_ior hC dX0_load_59 ?_
            refine px_ei (y := nI (ub ||| m32 (w r x))) ((congrArg (fun z => nI ub ||| z) (m32_pos hv)).trans (nI_or (by omega) (by omega))) ?_
            refine px_istore_n (lv' := [(0, .ref q), (1, .ref sy), (2, .int (nI (ub ||| m32 (w r x)))), (3, .int (nI r)), (4, .int (nI x)), (5, .int (w r x))]) hC [1, 2, 0, 3, 4, 5] dX0_load_60 (by decide) rfl ?_
            refine px_iinc (v := nI (x + 1)) (lv' := [(0, .ref q), (1, .ref sy), (2, .int (nI (ub ||| m32 (w r x)))), (3, .int (nI r)), (4, .int (nI (x + 1))), (5, .int (w r x))]) hC 4 [1, 2, 3, 4, 0, 5] dX0_load_61 rfl (nI_1 x) (by decide) rfl ?_
            refine px_goto hC 15 dX0_load_64 (by decide) ?_
            refine px_lv (lv2 := [(0, .ref q), (1, .ref sy), (2, .int (nI (ub ||| m32 (w r x)))), (3, .int (nI r)), (4, .int (nI (x + 1)))]) [0, 1, 2, 3, 4] rfl ?_
            exact ihv (x + 1) _ _ (by omega) hnew
          · have hv : w r x < 0 := Int32.not_le.mp hneg
            refine px_if_ge hC 57 dX0_load_47 (by decide) (fun q9 => absurd q9 (hneg)) (fun _ => ?_)
            refine px_iload hC 5 rfl dX0_load_50 ?_
            refine px_iconst (v := (-1)) hC (by decide) dX0_load_52 ?_
            refine px_ixor hC dX0_load_53 ?_
            refine px_goto hC 59 dX0_load_54 (by decide) ?_
            refine px_ior hC dX0_load_59 ?_
            refine px_ei (y := nI (ub ||| m32 (w r x))) (by rw [m32_neg hv, nI_or (by omega) (by omega)]) ?_
            refine px_istore_n (lv' := [(0, .ref q), (1, .ref sy), (2, .int (nI (ub ||| m32 (w r x)))), (3, .int (nI r)), (4, .int (nI x)), (5, .int (w r x))]) hC [1, 2, 0, 3, 4, 5] dX0_load_60 (by decide) rfl ?_
            refine px_iinc (v := nI (x + 1)) (lv' := [(0, .ref q), (1, .ref sy), (2, .int (nI (ub ||| m32 (w r x)))), (3, .int (nI r)), (4, .int (nI (x + 1))), (5, .int (w r x))]) hC 4 [1, 2, 3, 4, 0, 5] dX0_load_61 rfl (nI_1 x) (by decide) rfl ?_
            refine px_goto hC 15 dX0_load_64 (by decide) ?_
            refine px_lv (lv2 := [(0, .ref q), (1, .ref sy), (2, .int (nI (ub ||| m32 (w r x)))), (3, .int (nI r)), (4, .int (nI (x + 1)))]) [0, 1, 2, 3, 4] rfl ?_
            exact ihv (x + 1) _ _ (by omega) hnew
      refine px_iload_n hC 3 rfl dX0_load_4 ?_
      refine px_aload_n hC 0 rfl dX0_load_5 ?_
      refine px_get (C := RX0) (T := TX0) (N := 10) hC (hqG _ _ _ _ hI) rfl kkX0_load_X0 4 (by decide) flX0_load_28 rfl dX0_load_6 ?_
      refine px_icmp_ge hC 73 dX0_load_9 (by decide) (fun q9 => absurd q9 (nI_ge (by omega) (by omega))) (fun _ => ?_)
      refine px_iconst (v := nI 0) hC (by decide) dX0_load_12 ?_
      refine px_istore (lv' := [(0, .ref q), (1, .ref sy), (2, .int (nI ub)), (3, .int (nI r)), (4, .int (nI 0))]) hC [1, 2, 3, 4, 0] dX0_load_13 (by decide) rfl ?_
      exact inner (n + 1) 0 ub g (by omega) hI
  refine px_iconst (v := nI 0) hC (by decide) dX0_load_0 ?_
  refine px_istore_n (lv' := [(0, .ref q), (1, .ref sy), (2, .int (nI 0))]) hC [1, 2, 0] dX0_load_1 (by decide) rfl ?_
  refine px_iconst (v := nI 0) hC (by decide) dX0_load_2 ?_
  refine px_istore_n (lv' := [(0, .ref q), (1, .ref sy), (2, .int (nI 0)), (3, .int (nI 0))]) hC [1, 2, 3, 0] dX0_load_3 (by decide) rfl ?_
  exact outer n 0 0 f (by omega) ⟨by decide, fun i j hd => absurd hd (by unfold ldn; omega), fun b _ => rfl⟩
end
section
/-! ===== reduce ===== -/
def tau (o p c t : Nat) : Nat := if t / 11 = o ∧ t % 11 < c then p * 11 + t % 11 else if t / 11 = p ∧ t % 11 < c then o * 11 + t % 11 else t
theorem tau_lt {o p c t : Nat} (ho : o < 10) (hp : p < 10) (ht : t < 110) : tau o p c t < 110 := by
  unfold tau
  by_cases q : t / 11 = o ∧ t % 11 < c
  · rw [if_pos q]; omega
  · rw [if_neg q]
    by_cases q2 : t / 11 = p ∧ t % 11 < c
    · rw [if_pos q2]; omega
    · rw [if_neg q2]; exact ht
theorem tau_inj {o p c t u : Nat} (h : tau o p c t = tau o p c u) : t = u := by
  unfold tau at h
  by_cases q : t / 11 = o ∧ t % 11 < c
  · rw [if_pos q] at h
    by_cases r : u / 11 = o ∧ u % 11 < c
    · rw [if_pos r] at h; omega
    · rw [if_neg r] at h
      by_cases r2 : u / 11 = p ∧ u % 11 < c
      · rw [if_pos r2] at h; omega
      · rw [if_neg r2] at h; omega
  · rw [if_neg q] at h
    by_cases q2 : t / 11 = p ∧ t % 11 < c
    · rw [if_pos q2] at h
      by_cases r : u / 11 = o ∧ u % 11 < c
      · rw [if_pos r] at h; omega
      · rw [if_neg r] at h
        by_cases r2 : u / 11 = p ∧ u % 11 < c
        · rw [if_pos r2] at h; omega
        · rw [if_neg r2] at h; omega
    · rw [if_neg q2] at h
      by_cases r : u / 11 = o ∧ u % 11 < c
      · rw [if_pos r] at h; omega
      · rw [if_neg r] at h
        by_cases r2 : u / 11 = p ∧ u % 11 < c
        · rw [if_pos r2] at h; omega
        · rw [if_neg r2] at h; exact h
theorem crS_tau (cr : Nat → Option Nat) (o p c t : Nat) : crS cr o p c t = cr (tau o p c t) := by
  unfold crS tau
  by_cases q : t / 11 = o ∧ t % 11 < c
  · rw [if_pos q, if_pos q]
  · rw [if_neg q, if_neg q]
    by_cases q2 : t / 11 = p ∧ t % 11 < c
    · rw [if_pos q2, if_pos q2]
    · rw [if_neg q2, if_neg q2]
theorem eD_sw {np od wk : Nat} {cr : Nat → Option Nat} {ad : Nat → Nat} {o p c : Nat} (h : eD np od wk cr ad) (ho : o < 10) (hp : p < 10) : eD np od wk (crS cr o p c) (fun t => ad (tau o p c t)) := by
  obtain ⟨h1, h2, h3, h4⟩ := h
  exact ⟨fun t ht => by rw [crS_tau]; exact h1 _ (tau_lt ho hp ht), fun t u ht hu he => tau_inj (h2 _ _ (tau_lt ho hp ht) (tau_lt ho hp hu) he), fun t ht => h3 _ (tau_lt ho hp ht), h4⟩
theorem fc_10 {m : Nat} (h : m ≤ 10) : fc m ≤ 3628800 := by
  have : ∀ m, m ≤ 10 → fc m ≤ 3628800 := by decide
  exact this m h
theorem bw_w {m eb : Nat} {v : Int} (hm : m ≤ 10) (h : v.natAbs ≤ fc m * (2 ^ eb) ^ m) : -((4294967296 ^ ((m * eb + 23) / 32 + 1) : Nat) : Int) < 2 * v ∧ 2 * v < ((4294967296 ^ ((m * eb + 23) / 32 + 1) : Nat) : Int) := by
  have h1 := fc_10 hm
  have h2 : (2 ^ eb) ^ m = 2 ^ (m * eb) := by rw [← Nat.pow_mul, Nat.mul_comm]
  have h3 : 2 ^ (m * eb + 24) ≤ 4294967296 ^ ((m * eb + 23) / 32 + 1) := by rw [pow_BB]; exact Nat.pow_le_pow_right (by decide) (by omega)
  rw [h2] at h
  have h4 : fc m * 2 ^ (m * eb) ≤ 3628800 * 2 ^ (m * eb) := Nat.mul_le_mul_right _ h1
  have h5 : 0 < 2 ^ (m * eb) := Nat.pow_pos (by decide)
  rw [Nat.pow_add] at h3
  generalize 4294967296 ^ ((m * eb + 23) / 32 + 1) = W at h3 ⊢
  generalize 2 ^ (m * eb) = P at h h3 h4 h5
  omega
theorem tw_lt {k eb t : Nat} {d d' : Int} (hk : k ≤ 9) (he : eb ≤ 31) (hd : d = ((2 ^ t : Nat) : Int) * d') (h0 : d ≠ 0) (h : d.natAbs ≤ fc k * (2 ^ eb) ^ k) : t < 301 := by
  have h1 := fc_10 (show k ≤ 10 by omega)
  have h2 : (2 ^ eb) ^ k ≤ 2 ^ 279 := by rw [← Nat.pow_mul]; exact Nat.pow_le_pow_right (by decide) (by have : eb * k ≤ 31 * 9 := Nat.mul_le_mul he hk; omega)
  have h3 : fc k * (2 ^ eb) ^ k ≤ 3628800 * 2 ^ 279 := Nat.mul_le_mul h1 h2
  have h4 : d' ≠ 0 := fun q => h0 (by rw [hd, q, Int.mul_zero])
  have h5 : 2 ^ t * 1 ≤ d.natAbs := by
    rw [hd, Int.natAbs_mul, Int.natAbs_natCast]
    exact Nat.mul_le_mul_left _ (by omega)
  have h6 : 2 ^ t < 2 ^ 301 := by
    have h7 : (3628800 : Nat) * 2 ^ 279 < 2 ^ 301 := by decide
    omega
  exact (Nat.pow_lt_pow_iff_right (by decide : 1 < 2)).mp h6
def mA (w : Nat → Nat → Int32) (n : Nat) : Nat → Nat → Int := fun i j => if i < n ∧ j ≤ n then (w i j).toInt else 0
def swA {α : Type} (M : Nat → α) (k p i : Nat) : sw M k p i = if i = k then M p else if i = p then M k else M i := rfl
/-- the object's cells: where they are, whatever they hold -/
def eOK (E : px_E) (L : List Nat) (f : Nat → va_E) (q cs np od wk : Nat) (ad0 : Nat → Nat) : Prop := ∃ (cr : Nat → Option Nat) (ad : Nat → Nat) (sz eb tw : Int32) (iv : Int64) (mw ww : Int32), px_at L f q (.inr (0, eF cs np od wk sz eb tw iv mw ww)) ∧ px_at L f cs (aJJ E 110 cr) ∧ eD np od wk cr ad ∧ (∀ t, t < 110 → ∃ u, u < 110 ∧ ad t = ad0 u) ∧ (∀ t, t < 110 → ∃ r, px_at L f (ad t) (aJ E 21 r)) ∧ (∃ r, px_at L f np (aJ E 21 r)) ∧ (∃ r, px_at L f od (aJ E 21 r)) ∧ ∃ r, px_at L f wk (aJ E 21 r)
def eA (q cs np od wk : Nat) (ad0 : Nat → Nat) (b : Nat) : Prop := b = q ∨ b = cs ∨ b = np ∨ b = od ∨ b = wk ∨ ∃ u, u < 110 ∧ b = ad0 u
def eR (E : px_E) (L : List Nat) (f : Nat → va_E) (q cs np od wk n : Nat) (d : Int) (M : Nat → Nat → Int) : Prop := ∃ (cr : Nat → Option Nat) (ad : Nat → Nat) (eb : Nat) (tw : Int32) (iv : Int64) (mw ww : Int32), eb ≤ 31 ∧ px_at L f q (.inr (0, eF cs np od wk (nI n) (nI eb) tw iv mw ww)) ∧ px_at L f cs (aJJ E 110 cr) ∧ eD np od wk cr ad ∧ (∀ i, i < n → cR E L f (ad (i * 11 + n)) (M i n) ∧ -((4294967296 ^ ((n * eb + 23) / 32 + 1) : Nat) : Int) < 2 * M i n ∧ 2 * M i n < ((4294967296 ^ ((n * eb + 23) / 32 + 1) : Nat) : Int)) ∧ cR E L f (ad ((n - 1) * 11 + (n - 1))) d ∧ d ≠ 0 ∧ -((4294967296 ^ ((n * eb + 23) / 32 + 1) : Nat) : Int) < 2 * d ∧ 2 * d < ((4294967296 ^ ((n * eb + 23) / 32 + 1) : Nat) : Int)
def rdI (E : px_E) (L : List Nat) (f g : Nat → va_E) (q cs np od wk : Nat) (ad0 : Nat → Nat) (n eb k : Nat) (d : Int) (M : Nat → Nat → Int) : Prop := ∃ (A' : Nat → Nat → Int) (cr : Nat → Option Nat) (ad : Nat → Nat) (tw : Int32) (iv : Int64) (mw ww : Int32), bI A' n k d M ∧ (∀ i c, (A' i c).natAbs ≤ 2 ^ eb) ∧ px_at L g q (.inr (0, eF cs np od wk (nI n) (nI eb) tw iv mw ww)) ∧ px_at L g cs (aJJ E 110 cr) ∧ eD np od wk cr ad ∧ (∀ t, t < 110 → ∃ u, u < 110 ∧ ad t = ad0 u) ∧ (∀ t, t < 110 → ∃ r, px_at L g (ad t) (aJ E 21 r)) ∧ (∃ r, px_at L g np (aJ E 21 r)) ∧ (∃ r, px_at L g od (aJ E 21 r)) ∧ (∃ r, px_at L g wk (aJ E 21 r)) ∧ (∀ i j, i < n → k ≤ j → j ≤ n → cR E L g (ad (i * 11 + j)) (M i j)) ∧ (k ≠ 0 → cR E L g (ad ((k - 1) * 11 + (k - 1))) d) ∧ (k = 0 → d = 1) ∧ ∀ b, ¬ eA q cs np od wk ad0 b → g b = f b
theorem rdI_ok {E : px_E} {L : List Nat} {f g : Nat → va_E} {q cs np od wk : Nat} {ad0 : Nat → Nat} {n eb k : Nat} {d : Int} {M : Nat → Nat → Int} (h : rdI E L f g q cs np od wk ad0 n eb k d M) : eOK E L g q cs np od wk ad0 := by
  obtain ⟨A', cr, ad, tw, iv, mw, ww, h1, h2, h3, h4, h5, h6, h7, h8, h9, h10, -⟩ := h
  exact ⟨cr, ad, _, _, tw, iv, mw, ww, h3, h4, h5, h6, h7, h8, h9, h10⟩
theorem flX0_reduce_28 : Cond.fieldLink RX0 28 "RowReduction$Elimination" "size" "I" ∈ wsX0_reduce := by decide +kernel
theorem kkX0_reduce_X0 : ∀ w ∈ wsX00, w ∈ wsX0_reduce := fun _ h => List.mem_cons_of_mem _ (List.mem_append_right _ h)
theorem c_reduce (l : Launch) (E : px_E) (L : List Nat) (f : Nat → va_E) (q n sy : Nat) {cs np od wk : Nat} {ad0 : Nat → Nat} {sr : Nat → Option Nat} {ra : Nat → Nat} {w : Nat → Nat → Int32} (hOK : eOK E L f q cs np od wk ad0) (h1n : 1 ≤ n) (hn : n ≤ 10) (hsy : px_at L f sy (aII E 10 sr)) (hra : ∀ i, i < 10 → sr i = some (ra i) ∧ px_at L f (ra i) (aI E 11 (w i))) : px_M l yX0_reduce wsX0_reduce (px_rm 5 115) E L f [.ref q, .ref sy, .int (nI n)] (px_i L (fun z f' => eOK E L f' q cs np od wk ad0 ∧ (∀ b, ¬ eA q cs np od wk ad0 b → f' b = f b) ∧ ((brun n n 0 1 (mA w n) = none ∧ z = nI 0) ∨ (∃ d M, brun n n 0 1 (mA w n) = some (d, M) ∧ z = nI 1 ∧ eR E L f' q cs np od wk n d M)))) := by
  refine px_M.of (cc := cX0_reduce) (maxL := 5) (ret := (some .boolean)) (lv := [(0, .ref q), (1, .ref sy), (2, .int (nI n))]) (by decide) rfl (Nat.le_of_ble_eq_true rfl) rfl ?_
  intro p e s m below meth c A hC hnm
  obtain ⟨Q, hQ⟩ : ∃ Q, Q = MQ below (px_Q E (px_i L (fun z f' => eOK E L f' q cs np od wk ad0 ∧ (∀ b, ¬ eA q cs np od wk ad0 b → f' b = f b) ∧ ((brun n n 0 1 (mA w n) = none ∧ z = nI 0) ∨ (∃ d M, brun n n 0 1 (mA w n) = some (d, M) ∧ z = nI 1 ∧ eR E L f' q cs np od wk n d M)))) A) [.ref q, .ref sy, .int (nI n)].toArray s (px_rm 5 115).cells (px_rm 5 115).slots A := ⟨_, rfl⟩
  rw [← hQ]
  have loop : ∀ (u k eb : Nat) (g : Nat → va_E) (d : Int) (M : Nat → Nat → Int), k + u = n → eb ≤ 31 → rdI E L f g q cs np od wk ad0 n eb k d M → brun n n 0 1 (mA w n) = brun n u k d M → px p l e (px_rm 5 115) s m [.ref q, .ref sy, .int (nI n)].toArray below meth c 5 E A s.heap L (g) 0 0 Q 12 [(0, .ref q), (1, .ref sy), (2, .int (nI n)), (3, .int (nI k))] [] := by
    intro u
    induction u with
    | zero =>
      intro k eb g d M hk heb hI hb
      have hok := rdI_ok hI
      obtain ⟨A', cr, ad, tw, iv, mw, ww, hB, hA, hq, hcs, hD, hr0, har, hnp, hod, hwk, hM, hdc, hd0, hfr⟩ := hI
      have e1 : k = n := by omega
      subst e1
      have hle := bI_le hB hA (Nat.pow_pos (by decide)) (Nat.le_refl k)
      rw [show min (k + 1) k = k by omega] at hle
      have hdl := bI_d hB hA
      refine px_iload_n hC 3 rfl dX0_reduce_12 ?_
      refine px_aload_n hC 0 rfl dX0_reduce_13 ?_
      refine px_get (C := RX0) (T := TX0) (N := 10) hC hq rfl kkX0_reduce_X0 4 (by decide) flX0_reduce_28 rfl dX0_reduce_14 ?_
      refine px_icmp_ge hC 57 dX0_reduce_17 (by decide) (fun _ => ?_) (fun q9 => (q9 (nI_le (Nat.le_refl k) (by omega))).elim)
      refine px_iconst (v := nI 1) hC (by decide) dX0_reduce_57 ?_
      subst hQ
      exact px_zret hC rfl (by decide) (⟨_, rfl, rfl, hok, hfr, Or.inr ⟨d, M, hb, rfl, cr, ad, eb, tw, iv, mw, ww, heb, hq, hcs, hD, fun i hi => ⟨hM i k hi (Nat.le_refl k) (Nat.le_refl k), bw_w hn (hle i k hi (Nat.le_refl k))⟩, hdc (by omega), hdl.1, bw_w hn hdl.2⟩⟩) dX0_reduce_58
    | succ u ih =>
      intro k eb g d M hk heb hI hb
      have hok := rdI_ok hI
      obtain ⟨A', cr, ad, tw, iv, mw, ww, hB, hA, hq, hcs, hD, hr0, har, ⟨rn, hnp⟩, ⟨ro, hod⟩, ⟨rw_, hwk⟩, hM, hdc, hd0, hfr⟩ := hI
      have hdl := bI_d hB hA
      have hqc : q ≠ cs := hq.nk hcs rfl
      have hqn : q ≠ np := hq.nk hnp rfl
      have hqo : q ≠ od := hq.nk hod rfl
      have hqw : q ≠ wk := hq.nk hwk rfl
      have hcn : cs ≠ np := hcs.nk hnp rfl
      have hco : cs ≠ od := hcs.nk hod rfl
      have hcw : cs ≠ wk := hcs.nk hwk rfl
      have hqa : ∀ t, t < 110 → q ≠ ad t := fun t ht => by obtain ⟨r, hr⟩ := har t ht; exact hq.nk hr rfl
      have hca : ∀ t, t < 110 → cs ≠ ad t := fun t ht => by obtain ⟨r, hr⟩ := har t ht; exact hcs.nk hr rfl
      refine px_iload_n hC 3 rfl dX0_reduce_12 ?_
      refine px_aload_n hC 0 rfl dX0_reduce_13 ?_
      refine px_get (C := RX0) (T := TX0) (N := 10) hC hq rfl kkX0_reduce_X0 4 (by decide) flX0_reduce_28 rfl dX0_reduce_14 ?_
      refine px_icmp_ge hC 57 dX0_reduce_17 (by decide) (fun q9 => absurd q9 (nI_ge (by omega) (by omega))) (fun _ => ?_)
      refine px_aload_n hC 0 rfl dX0_reduce_20 ?_
      refine px_iload_n hC 3 rfl dX0_reduce_21 ?_
      refine px_callVi (C := RX0) (T := TX0) (N := 10) (st := []) (nn := 1) hC (c_pivot l E L g q k n M hq hcs hn (by omega) (fun i hi => ⟨_, hD.1 _ (by omega), hM i k hi (Nat.le_refl k) (by omega)⟩)) hq rfl gX0_reduce_X0_findPivotRow rfl (by decide +kernel) (by decide) (Nat.le_of_ble_eq_true rfl) (by decide) rfl rfl dX0_reduce_22 (fun z f1 hz => ?_)
      obtain ⟨rfl, hz⟩ := hz
      have hbr : brun n (u + 1) k d M = (match fnd M k k (n - k) with | none => none | some p => brun n u (k + 1) (M p k) (el (sw M k p) k d)) := rfl
      rw [hbr] at hb
      cases hfd : fnd M k k (n - k) with
      | none =>
        rw [hfd] at hz hb
        subst hz
        refine px_istore (lv' := [(0, .ref q), (1, .ref sy), (2, .int (nI n)), (3, .int (nI k)), (4, .int (-1))]) hC [1, 2, 3, 4, 0] dX0_reduce_25 (by decide) rfl ?_
        refine px_iload hC 4 rfl dX0_reduce_27 ?_
        refine px_if_ge hC 34 dX0_reduce_29 (by decide) (fun q9 => absurd q9 (by decide)) (fun _ => ?_)
        refine px_iconst (v := nI 0) hC (by decide) dX0_reduce_32 ?_
        subst hQ
        exact px_zret hC rfl (by decide) (⟨_, rfl, rfl, hok, hfr, Or.inl ⟨hb, rfl⟩⟩) dX0_reduce_33
      | some pp =>
        rw [hfd] at hz hb
        subst hz
        have hpp := fnd_some _ _ _ hfd
        have hppn : pp < n := by omega
        refine px_istore (lv' := [(0, .ref q), (1, .ref sy), (2, .int (nI n)), (3, .int (nI k)), (4, .int (nI pp))]) hC [1, 2, 3, 4, 0] dX0_reduce_25 (by decide) rfl ?_
        refine px_iload hC 4 rfl dX0_reduce_27 ?_
        refine px_if_ge hC 34 dX0_reduce_29 (by decide) (fun _ => ?_) (fun q9 => (q9 (nI_pos' (by omega))).elim)
        refine px_aload_n hC 0 rfl dX0_reduce_34 ?_
        refine px_iload_n hC 3 rfl dX0_reduce_35 ?_
        refine px_iload hC 4 rfl dX0_reduce_36 ?_
        refine px_callVv (C := RX0) (T := TX0) (N := 10) (st := []) (nn := 2) hC (c_swap l E L _ q k pp n hq hcs hn (by omega) hppn (fun t ht => by obtain ⟨r, hr⟩ := har t ht; exact ⟨_, r, hD.1 t ht, hr⟩)) hq rfl gX0_reduce_X0_swapRows rfl (by decide +kernel) (by decide) (Nat.le_of_ble_eq_true rfl) (by decide) rfl rfl dX0_reduce_38 (fun f2 h2 => ?_)
        subst h2
        have hBs := bI_sw hB hpp.1 hppn
        have hAs : ∀ i c, (sw A' k pp i c).natAbs ≤ 2 ^ eb := fun i c => by
          rw [swA]
          by_cases q1 : i = k
          · rw [if_pos q1]; exact hA _ _
          · rw [if_neg q1]
            by_cases q2 : i = pp
            · rw [if_pos q2]; exact hA _ _
            · rw [if_neg q2]; exact hA _ _
        have hDs := eD_sw (c := n + 1) hD (show k < 10 by omega) (show pp < 10 by omega)
        have hpv : sw M k pp k k = M pp k := by rw [swA, if_pos rfl]
        have hel := bI_el hBs (by omega) (by rw [hpv]; exact hpp.2.2)
        have hMs : ∀ i j, i < n → k ≤ j → j ≤ n → cR E L (va_up f1 cs (aJJ E 110 (crS cr k pp (n + 1)))) (ad (tau k pp (n + 1) (i * 11 + j))) (sw M k pp i j) := fun i j a1 a2 a3 => by
          have h4 : tau k pp (n + 1) (i * 11 + j) = (if i = k then pp else if i = pp then k else i) * 11 + j := by
            unfold tau
            by_cases q1 : i = k
            · rw [if_pos (by omega), if_pos q1]; omega
            · rw [if_neg (by omega), if_neg q1]
              by_cases q2 : i = pp
              · rw [if_pos (by omega), if_pos q2]; omega
              · rw [if_neg (by omega), if_neg q2]
          have h5 : sw M k pp i j = M (if i = k then pp else if i = pp then k else i) j := by
            rw [swA]
            by_cases q1 : i = k
            · rw [if_pos q1, if_pos q1]
            · rw [if_neg q1, if_neg q1]
              by_cases q2 : i = pp
              · rw [if_pos q2, if_pos q2]
              · rw [if_neg q2, if_neg q2]
          rw [h4, h5]
          have h6 : (if i = k then pp else if i = pp then k else i) < n := by
            by_cases q1 : i = k
            · rw [if_pos q1]; exact hppn
            · rw [if_neg q1]
              by_cases q2 : i = pp
              · rw [if_pos q2]; omega
              · rw [if_neg q2]; exact a1
          generalize (if i = k then pp else if i = pp then k else i) = i' at h6 ⊢
          exact (hM i' j h6 a2 a3).fr (va_up_ne _ _ (fun h => hca _ (by omega) h.symm))
        have hdcs : k ≠ 0 → crS cr k pp (n + 1) ((k - 1) * 11 + (k - 1)) = some (ad ((k - 1) * 11 + (k - 1))) ∧ cR E L (va_up f1 cs (aJJ E 110 (crS cr k pp (n + 1)))) (ad ((k - 1) * 11 + (k - 1))) d ∧ ad ((k - 1) * 11 + (k - 1)) ≠ np := fun h => by
          refine ⟨?_, (hdc h).fr (va_up_ne _ _ (fun h => hca _ (by omega) h.symm)), (hD.2.2.1 _ (by omega)).1⟩
          unfold crS
          rw [if_neg (by omega), if_neg (by omega)]
          exact hD.1 _ (by omega)
        have hars : ∀ t, t < 110 → ∃ r, px_at L (va_up f1 cs (aJJ E 110 (crS cr k pp (n + 1)))) (ad (tau k pp (n + 1) t)) (aJ E 21 r) := fun t ht => by
          obtain ⟨r, hr⟩ := har (tau k pp (n + 1) t) (tau_lt (by omega) (by omega) ht)
          exact ⟨r, hr.up (fun h => hca _ (tau_lt (by omega) (by omega) ht) h.symm)⟩
        refine px_aload_n hC 0 rfl dX0_reduce_41 ?_
        refine px_iload_n hC 3 rfl dX0_reduce_42 ?_
        refine px_callVv (C := RX0) (T := TX0) (N := 10) (st := []) (nn := 1) hC (c_prep l E L _ q k n eb (ad := ad ((k - 1) * 11 + (k - 1))) (d := d) (hq.up hqc) hcs.self (hnp.up (fun h => hcn h.symm)) (hod.up (fun h => hco h.symm)) hD.2.2.2.1 hn heb (by omega) (hDs.1 _ (by omega)) (hMs k k (by omega) (Nat.le_refl k) (by omega)) (hDs.2.2.1 _ (by omega)).1 hdcs hd0 hdl.1) (hq.up hqc) rfl gX0_reduce_X0_prepareStep rfl (by decide +kernel) (by decide) (Nat.le_of_ble_eq_true rfl) (by decide) rfl rfl dX0_reduce_43 (fun f3 h3 => ?_)
        obtain ⟨nx, ox, t, iv2, dnx, dox, hnx, hox, hiv, hi1, ⟨d', hd', hdo⟩, ht, rfl⟩ := h3
        have htw := tw_lt (by omega) heb hd' hdl.1 hdl.2
        have hmb : min (k + 2) n * eb ≤ 10 * 31 := Nat.mul_le_mul (by omega) heb
        have hmw : mwd n k eb ≤ 11 := by unfold mwd; omega
        have hmw1 : 1 ≤ mwd n k eb := by unfold mwd; omega
        have e21 : min (mwd n k eb + t / 32 + 1) 21 = mwd n k eb + t / 32 + 1 := by omega
        rw [e21]
        have hle := bI_le hel.1 hAs (Nat.pow_pos (by decide)) (by omega)
        have kq : ∀ {b x}, px_at L (va_up f1 cs (aJJ E 110 (crS cr k pp (n + 1)))) b x → b ≠ np → b ≠ od → b ≠ q → px_at L (va_up (va_up (va_up (va_up f1 cs (aJJ E 110 (crS cr k pp (n + 1)))) np (aJ E 21 (lw nx))) od (aJ E 21 (lw ox))) q (.inr (0, eF cs np od wk (nI n) (nI eb) (nI t) (lN iv2) (nI (mwd n k eb)) (nI (mwd n k eb + t / 32 + 1))))) b x := fun h a1 a2 a3 => ((h.up a1).up a2).up a3
        have hMp : ∀ i j, i < n → k ≤ j → j ≤ n → cR E L (va_up (va_up (va_up (va_up f1 cs (aJJ E 110 (crS cr k pp (n + 1)))) np (aJ E 21 (lw nx))) od (aJ E 21 (lw ox))) q (.inr (0, eF cs np od wk (nI n) (nI eb) (nI t) (lN iv2) (nI (mwd n k eb)) (nI (mwd n k eb + t / 32 + 1))))) (ad (tau k pp (n + 1) (i * 11 + j))) (sw M k pp i j) := fun i j a1 a2 a3 => by
          obtain ⟨x, h4, h5, h6⟩ := hMs i j a1 a2 a3
          have h7 : i * 11 + j < 110 := by omega
          exact ⟨x, kq h4 (hDs.2.2.1 _ h7).1 (hDs.2.2.1 _ h7).2.1 (fun h => hqa _ (tau_lt (by omega) (by omega) h7) h.symm), h5, h6⟩
        have hqp := (((hq.up (y := aJJ E 110 (crS cr k pp (n + 1))) hqc).up (y := aJ E 21 (lw nx)) hqn).up (y := aJ E 21 (lw ox)) hqo).self (y := .inr (0, eF cs np od wk (nI n) (nI eb) (nI t) (lN iv2) (nI (mwd n k eb)) (nI (mwd n k eb + t / 32 + 1))))
        have hcp := kq hcs.self hcn hco (fun h => hqc h.symm)
        have hnpp := (((hnp.up (y := aJJ E 110 (crS cr k pp (n + 1))) (fun h => hcn h.symm)).self (y := aJ E 21 (lw nx))).up (y := aJ E 21 (lw ox)) hD.2.2.2.1).up (y := .inr (0, eF cs np od wk (nI n) (nI eb) (nI t) (lN iv2) (nI (mwd n k eb)) (nI (mwd n k eb + t / 32 + 1)))) (fun h => hqn h.symm)
        have hodp := (((hod.up (y := aJJ E 110 (crS cr k pp (n + 1))) (fun h => hco h.symm)).up (y := aJ E 21 (lw nx)) (fun h => hD.2.2.2.1 h.symm)).self (y := aJ E 21 (lw ox))).up (y := .inr (0, eF cs np od wk (nI n) (nI eb) (nI t) (lN iv2) (nI (mwd n k eb)) (nI (mwd n k eb + t / 32 + 1)))) (fun h => hqo h.symm)
        have hwkp := kq (hwk.up (fun h => hcw h.symm)) (fun h => hD.2.2.2.2.1 h.symm) (fun h => hD.2.2.2.2.2 h.symm) (fun h => hqw h.symm)
        refine px_aload_n hC 0 rfl dX0_reduce_46 ?_
        refine px_iload_n hC 3 rfl dX0_reduce_47 ?_
        refine px_callVv (C := RX0) (T := TX0) (N := 10) (st := []) (nn := 1) hC (c_clear l E L _ q k n (M := sw M k pp) (V := el (sw M k pp) k d) (d := d) (d' := d') hqp hcp hDs hn (by omega) hwkp hnpp hodp dnx dox hMp hnx hox hiv hi1 hd' hdo (fun i j a1 a2 a3 a4 => hel.2 i j a1 a2 a4) hmw1 rfl (by omega) (by omega) (fun i j a1 a2 a3 a4 => bw_w (by omega) (hle i j a1 a4))) hqp rfl gX0_reduce_X0_clearColumn rfl (by decide +kernel) (by decide) (Nat.le_of_ble_eq_true rfl) (by decide) rfl rfl dX0_reduce_48 (fun f4 h4 => ?_)
        obtain ⟨hw4, hc4, hf4⟩ := h4
        refine px_iinc (v := nI (k + 1)) (lv' := [(0, .ref q), (1, .ref sy), (2, .int (nI n)), (3, .int (nI (k + 1))), (4, .int (nI pp))]) hC 3 [1, 2, 3, 0, 4] dX0_reduce_51 rfl (nI_1 k) (by decide) rfl ?_
        refine px_goto hC 12 dX0_reduce_54 (by decide) ?_
        refine px_lv (lv2 := [(0, .ref q), (1, .ref sy), (2, .int (nI n)), (3, .int (nI (k + 1)))]) [0, 1, 2, 3] rfl ?_
        have dlt : ∀ {i j}, dn n k n 0 i j → i * 11 + j < 110 := fun h => by have := h.1; have := h.2.2.2.1; omega
        have kf : ∀ {b x}, px_at L (va_up (va_up (va_up (va_up f1 cs (aJJ E 110 (crS cr k pp (n + 1)))) np (aJ E 21 (lw nx))) od (aJ E 21 (lw ox))) q (.inr (0, eF cs np od wk (nI n) (nI eb) (nI t) (lN iv2) (nI (mwd n k eb)) (nI (mwd n k eb + t / 32 + 1))))) b x → b ≠ wk → (∀ t, t < 110 → b ≠ ad (tau k pp (n + 1) t)) → px_at L f4 b x := fun h a1 a2 => h.fr (hf4 _ a1 (fun i j hd => a2 _ (dlt hd)))
        refine ih (k + 1) eb f4 (M pp k) (el (sw M k pp) k d) (by omega) heb ⟨sw A' k pp, crS cr k pp (n + 1), fun t => ad (tau k pp (n + 1) t), _, _, _, _, by rw [← hpv]; exact hel.1, hAs, kf hqp hqw (fun t ht => hqa _ (tau_lt (by omega) (by omega) ht)), kf hcp hcw (fun t ht => hca _ (tau_lt (by omega) (by omega) ht)), hDs, fun t ht => hr0 _ (tau_lt (by omega) (by omega) ht), fun t ht => ?_, ⟨_, kf hnpp hD.2.2.2.2.1 (fun t ht h => (hDs.2.2.1 t ht).1 h.symm)⟩, ⟨_, kf hodp hD.2.2.2.2.2 (fun t ht h => (hDs.2.2.1 t ht).2.1 h.symm)⟩, hw4, fun i j a1 a2 a3 => ?_, fun _ => ?_, fun h => absurd h (by omega), fun b hb2 => ?_⟩ hb
        · by_cases hx : ∃ i j, dn n k n 0 i j ∧ t = i * 11 + j
          · obtain ⟨i, j, h5, rfl⟩ := hx
            obtain ⟨x, h6, -⟩ := hc4 i j h5
            exact ⟨_, h6⟩
          · obtain ⟨r, hr⟩ := hars t ht
            have h6 := kq hr (hDs.2.2.1 t ht).1 (hDs.2.2.1 t ht).2.1 (fun h => hqa _ (tau_lt (by omega) (by omega) ht) h.symm)
            exact ⟨r, h6.fr (hf4 _ (hDs.2.2.1 t ht).2.2 (fun i j hd he => hx ⟨i, j, hd, hDs.2.1 _ _ ht (dlt hd) he⟩))⟩
        · by_cases q1 : i = k
          · subst q1
            have h5 : el (sw M i pp) i d i j = sw M i pp i j := by unfold el; rw [if_pos rfl]
            rw [h5]
            exact (hMp i j a1 (by omega) a3).fr (hf4 _ (hDs.2.2.1 _ (by omega)).2.2 (fun i' j' hd he => by have h6 := hDs.2.1 _ _ (by omega) (dlt hd) he; have h7 := hd.2.1; have h8 := hd.2.2.2.1; omega))
          · exact hc4 i j ⟨a1, q1, by omega, a3, Or.inl a1⟩
        · rw [show k + 1 - 1 = k by omega, ← hpv]
          exact (hMp k k (by omega) (Nat.le_refl k) (by omega)).fr (hf4 _ (hDs.2.2.1 _ (by omega)).2.2 (fun i' j' hd he => by have h6 := hDs.2.1 _ _ (by omega) (dlt hd) he; have h7 := hd.2.1; have h8 := hd.2.2.2.1; omega))
        · have hb3 : b ≠ q ∧ b ≠ cs ∧ b ≠ np ∧ b ≠ od ∧ b ≠ wk ∧ ∀ u, u < 110 → b ≠ ad0 u := ⟨fun h => hb2 (Or.inl h), fun h => hb2 (Or.inr (Or.inl h)), fun h => hb2 (Or.inr (Or.inr (Or.inl h))), fun h => hb2 (Or.inr (Or.inr (Or.inr (Or.inl h)))), fun h => hb2 (Or.inr (Or.inr (Or.inr (Or.inr (Or.inl h))))), fun u hu h => hb2 (Or.inr (Or.inr (Or.inr (Or.inr (Or.inr ⟨u, hu, h⟩)))))⟩
          rw [hf4 b hb3.2.2.2.2.1 (fun i j hd he => by
            obtain ⟨u, hu, h6⟩ := hr0 _ (tau_lt (c := n + 1) (show k < 10 by omega) (show pp < 10 by omega) (dlt hd))
            exact hb3.2.2.2.2.2 u hu (he.trans h6)), va_up_ne _ _ hb3.1, va_up_ne _ _ hb3.2.2.2.1, va_up_ne _ _ hb3.2.2.1, va_up_ne _ _ hb3.2.1]
          exact hfr b hb2
  obtain ⟨cr, ad, sz, eb0, tw, iv, mw, ww, hq, hcs, hD, hr0, har, ⟨rn, hnp⟩, ⟨ro, hod⟩, ⟨rw_, hwk⟩⟩ := hOK
  have hqc : q ≠ cs := hq.nk hcs rfl
  have hqs : q ≠ sy := hq.nk hsy rfl
  have hqr : ∀ i, i < 10 → ra i ≠ q := fun i hi h => hq.nk (hra i hi).2 rfl h.symm
  have hqa : ∀ t, t < 110 → q ≠ ad t := fun t ht => by obtain ⟨r, hr⟩ := har t ht; exact hq.nk hr rfl
  have hca : ∀ t, t < 110 → cs ≠ ad t := fun t ht => by obtain ⟨r, hr⟩ := har t ht; exact hcs.nk hr rfl
  refine px_aload_n hC 0 rfl dX0_reduce_0 ?_
  refine px_iload_n hC 2 rfl dX0_reduce_1 ?_
  refine px_put (C := RX0) (T := TX0) (N := 10) (fs' := eF cs np od wk (nI n) eb0 tw iv mw ww) hC hq rfl kkX0_reduce_X0 4 (by decide) tyX0 tyX0_ok nmX0 flX0_reduce_28 rfl rfl rfl (Nat.le_of_ble_eq_true rfl) rfl dX0_reduce_2 ?_
  refine px_aload_n hC 0 rfl dX0_reduce_5 ?_
  refine px_aload_n hC 1 rfl dX0_reduce_6 ?_
  refine px_callVv (C := RX0) (T := TX0) (N := 10) (st := []) (nn := 1) hC (c_load l E L _ q n sy (w := w) (ra := ra) hq.self (hcs.up (fun h => hqc h.symm)) hD (fun t ht => by obtain ⟨r, hr⟩ := har t ht; exact ⟨r, hr.up (fun h => hqa t ht h.symm)⟩) hn (hsy.up (fun h => hqs h.symm)) (fun i hi => ⟨(hra i hi).1, (hra i hi).2.up (hqr i hi)⟩)) hq.self rfl gX0_reduce_X0_load rfl (by decide +kernel) (by decide) (Nat.le_of_ble_eq_true rfl) (by decide) rfl rfl dX0_reduce_7 (fun f2 h2 => ?_)
  obtain ⟨eb, g, heb, hcell, hfr, rfl⟩ := h2
  refine px_iconst (v := nI 0) hC (by decide) dX0_reduce_10 ?_
  refine px_istore_n (lv' := [(0, .ref q), (1, .ref sy), (2, .int (nI n)), (3, .int (nI 0))]) hC [1, 2, 3, 0] dX0_reduce_11 (by decide) rfl ?_
  have lt : ∀ {i j}, i < n → j ≤ n → i * 11 + j < 110 := fun a1 a2 => by omega
  have kg : ∀ {b x}, px_at L f b x → b ≠ q → (∀ t, t < 110 → b ≠ ad t) → px_at L (va_up g q (.inr (0, eF cs np od wk (nI n) (nI eb) tw iv mw ww))) b x := fun h a1 a2 => by
    refine h.fr ?_
    rw [va_up_ne _ _ a1, hfr _ (fun i j b1 b2 => a2 _ (lt b1 b2)), va_up_ne _ _ a1]
  refine loop n 0 eb _ 1 (mA w n) (by omega) heb ⟨mA w n, cr, ad, tw, iv, mw, ww, bI_0 _ _, fun i c => ?_, ⟨hq.1, va_up_self _ _ _⟩, kg hcs (fun h => hqc h.symm) hca, hD, hr0, fun t ht => ?_, ⟨rn, kg hnp (fun h => hq.nk hnp rfl h.symm) (fun t ht h => (hD.2.2.1 t ht).1 h.symm)⟩, ⟨ro, kg hod (fun h => hq.nk hod rfl h.symm) (fun t ht h => (hD.2.2.1 t ht).2.1 h.symm)⟩, ⟨rw_, kg hwk (fun h => hq.nk hwk rfl h.symm) (fun t ht h => (hD.2.2.1 t ht).2.2 h.symm)⟩, fun i j a1 a2 a3 => ?_, fun h => absurd rfl h, fun _ => rfl, fun b hb => ?_⟩ rfl
  · unfold mA
    by_cases q1 : i < n ∧ c ≤ n
    · rw [if_pos q1]
      have h3 := (hcell i c q1.1 q1.2).2
      have h4 := m32_abs (w i c)
      omega
    · rw [if_neg q1]; exact Nat.zero_le _
  · by_cases hx : ∃ i j, (i < n ∧ j ≤ n) ∧ t = i * 11 + j
    · obtain ⟨i, j, h5, rfl⟩ := hx
      obtain ⟨x, h6, -⟩ := (hcell i j h5.1 h5.2).1
      exact ⟨_, h6.up (fun h => hqa _ (lt h5.1 h5.2) h.symm)⟩
    · obtain ⟨r, hr⟩ := har t ht
      refine ⟨r, hr.fr ?_⟩
      rw [va_up_ne _ _ (fun h => hqa t ht h.symm), hfr _ (fun i j b1 b2 he => hx ⟨i, j, ⟨b1, b2⟩, hD.2.1 _ _ ht (lt b1 b2) he⟩), va_up_ne _ _ (fun h => hqa t ht h.symm)]
  · have h5 : mA w n i j = (w i j).toInt := by unfold mA; rw [if_pos ⟨a1, a3⟩]
    rw [h5]
    exact (hcell i j a1 a3).1.fr (va_up_ne _ _ (fun h => hqa _ (lt a1 a3) h.symm))
  · have hb3 : b ≠ q := fun h => hb (Or.inl h)
    rw [va_up_ne _ _ hb3, hfr _ (fun i j b1 b2 he => by
      obtain ⟨u, hu, h6⟩ := hr0 _ (lt b1 b2)
      exact hb (Or.inr (Or.inr (Or.inr (Or.inr (Or.inr ⟨u, hu, he.trans h6⟩)))))), va_up_ne _ _ hb3]
end
section
/-! ===== lowest terms ===== -/
abbrev lF (tp bt ot ob : Nat) (nu de : Int64) : List Value := [.ref tp, .ref bt, .ref ot, .ref ob, .long nu, .long de]
def hz (x : Nat → Nat) (w : Nat) : Prop := ∀ i, w ≤ i → i < 21 → x i = 0
theorem hz_of {x : Nat → Nat} {w : Nat} (h : vl 4294967296 x 21 < 4294967296 ^ w) : hz x w := by
  intro i h1 h2
  have h3 := vl_ge (B := 4294967296) (x := x) h2
  have h4 : 4294967296 ^ w ≤ 4294967296 ^ i := Nat.pow_le_pow_right (by decide) h1
  rcases Nat.eq_zero_or_pos (x i) with q | q
  · exact q
  · have : 1 * 4294967296 ^ i ≤ x i * 4294967296 ^ i := Nat.mul_le_mul_right _ q
    omega
theorem hz_mono {x : Nat → Nat} {u w : Nat} (h : hz x u) (hu : u ≤ w) : hz x w := fun i h1 h2 => h i (by omega) h2
theorem gcd_odd2 {t o s : Nat} (h : s % 2 = 1) : Nat.gcd (2 ^ t * o) s = Nat.gcd o s := by
  have h1 : Nat.gcd 2 s = 1 := by rw [Nat.gcd_rec, h]; rfl
  have h2 : Nat.gcd (2 ^ t) s = 1 := by
    induction t with
    | zero => simp
    | succ t ih =>
      rw [Nat.pow_succ]
      exact Nat.Coprime.mul_left ih h1
  exact Nat.Coprime.gcd_mul_left_cancel o h2
theorem gcd_sub2 {a b : Nat} (h : b ≤ a) : Nat.gcd (a - b) b = Nat.gcd a b := by
  have e : a = (a - b) + b := by omega
  rw [show Nat.gcd a b = Nat.gcd ((a - b) + b) b from by rw [← e], Nat.gcd_add_self_left]
theorem flX2_removeCommonTwos_9 : Cond.fieldLink RX2 9 "RowReduction$LowestTerms" "top" "[J" ∈ wsX2_removeCommonTwos := by decide +kernel
theorem kkX2_removeCommonTwos_X2 : ∀ w ∈ wsX20, w ∈ wsX2_removeCommonTwos := fun _ h => List.mem_cons_of_mem _ (List.mem_append_right _ h)
theorem flX2_removeCommonTwos_15 : Cond.fieldLink RX2 15 "RowReduction$LowestTerms" "bottom" "[J" ∈ wsX2_removeCommonTwos := by decide +kernel
theorem flX2_commonOddFactor_18 : Cond.fieldLink RX2 18 "RowReduction$LowestTerms" "oddTop" "[J" ∈ wsX2_commonOddFactor := by decide +kernel
theorem kkX2_commonOddFactor_X2 : ∀ w ∈ wsX20, w ∈ wsX2_commonOddFactor := fun _ h => List.mem_cons_of_mem _ (List.mem_append_right _ h)
theorem flX2_commonOddFactor_21 : Cond.fieldLink RX2 21 "RowReduction$LowestTerms" "oddBottom" "[J" ∈ wsX2_commonOddFactor := by decide +kernel
theorem tz_min {t s o V : Nat} (h : V = 2 ^ t * (2 * o + 1)) (hs : s ≤ t) : V / 2 ^ s = 2 ^ (t - s) * (2 * o + 1) ∧ V / 2 ^ s * 2 ^ s = V ∧ (s = t → V / 2 ^ s % 2 = 1) := by
  have e : 2 ^ t = 2 ^ s * 2 ^ (t - s) := by rw [← Nat.pow_add]; congr 1; omega
  have hp : 0 < 2 ^ s := Nat.pow_pos (by decide)
  have e2 : V / 2 ^ s = 2 ^ (t - s) * (2 * o + 1) := by rw [h, e, Nat.mul_assoc, Nat.mul_div_cancel_left _ hp]
  refine ⟨e2, ?_, fun q => ?_⟩
  · rw [e2, h, e]; grind
  · rw [e2, q, Nat.sub_self, Nat.pow_zero]; omega
theorem c_rmCT (l : Launch) (E : px_E) (L : List Nat) (f : Nat → va_E) (lt w : Nat) {tp bt ot ob : Nat} {nu de : Int64} {x y : Nat → Nat} (hq : px_at L f lt (.inr (1, lF tp bt ot ob nu de))) (ht : px_at L f tp (aJ E 21 (lw x))) (hb : px_at L f bt (aJ E 21 (lw y))) (htb : tp ≠ bt) (dx : dg x) (dy : dg y) (hw : w ≤ 21) (zx : hz x w) (zy : hz y w) (nx : vl 4294967296 x 21 ≠ 0) (ny : vl 4294967296 y 21 ≠ 0) : px_M l yX2_removeCommonTwos wsX2_removeCommonTwos (px_rm 2 51) E L f [.ref lt, .int (nI w)] (px_v L (fun f' => ∃ x' y' s, dg x' ∧ dg y' ∧ hz x' w ∧ hz y' w ∧ vl 4294967296 x' 21 * 2 ^ s = vl 4294967296 x 21 ∧ vl 4294967296 y' 21 * 2 ^ s = vl 4294967296 y 21 ∧ (vl 4294967296 x' 21 % 2 = 1 ∨ vl 4294967296 y' 21 % 2 = 1) ∧ f' = va_up (va_up f tp (aJ E 21 (lw x'))) bt (aJ E 21 (lw y')))) := by
  refine px_M.of (cc := cX2_removeCommonTwos) (maxL := 3) (ret := none) (lv := [(0, .ref lt), (1, .int (nI w))]) (by decide) rfl (Nat.le_of_ble_eq_true rfl) rfl ?_
  intro p e s m below meth c A hC hnm
  obtain ⟨Q, hQ⟩ : ∃ Q, Q = MQ below (px_Q E (px_v L (fun f' => ∃ x' y' s, dg x' ∧ dg y' ∧ hz x' w ∧ hz y' w ∧ vl 4294967296 x' 21 * 2 ^ s = vl 4294967296 x 21 ∧ vl 4294967296 y' 21 * 2 ^ s = vl 4294967296 y 21 ∧ (vl 4294967296 x' 21 % 2 = 1 ∨ vl 4294967296 y' 21 % 2 = 1) ∧ f' = va_up (va_up f tp (aJ E 21 (lw x'))) bt (aJ E 21 (lw y')))) A) [.ref lt, .int (nI w)].toArray s (px_rm 2 51).cells (px_rm 2 51).slots A := ⟨_, rfl⟩
  rw [← hQ]
  have hqt : lt ≠ tp := hq.nk ht rfl
  have hqb : lt ≠ bt := hq.nk hb rfl
  refine px_aload_n hC 0 rfl dX2_removeCommonTwos_0 ?_
  refine px_get (C := RX2) (T := TX2) (N := 6) hC hq rfl kkX2_removeCommonTwos_X2 0 (by decide) flX2_removeCommonTwos_9 rfl dX2_removeCommonTwos_1 ?_
  refine px_callSi (st := []) (nn := 1) hC (c_trailZ l E L f tp x ht dx) gX2_removeCommonTwos_X1_trailingZeros rfl (by decide +kernel) (by decide) (Nat.le_of_ble_eq_true rfl) (by decide) rfl rfl dX2_removeCommonTwos_4 (fun z1 f1 h1 => ?_)
  obtain ⟨rfl, t1, rfl, h1⟩ := h1
  refine px_aload_n hC 0 rfl dX2_removeCommonTwos_7 ?_
  refine px_get (C := RX2) (T := TX2) (N := 6) hC hq rfl kkX2_removeCommonTwos_X2 1 (by decide) flX2_removeCommonTwos_15 rfl dX2_removeCommonTwos_8 ?_
  refine px_callSi (st := [.int (nI t1)]) (nn := 1) hC (c_trailZ l E L _ bt y hb dy) gX2_removeCommonTwos_X1_trailingZeros rfl (by decide +kernel) (by decide) (Nat.le_of_ble_eq_true rfl) (by decide) rfl rfl dX2_removeCommonTwos_11 (fun z2 f2 h2 => ?_)
  obtain ⟨rfl, t2, rfl, h2⟩ := h2
  rcases h1 with ⟨h1, -⟩ | ⟨h1, o1, e1⟩
  · exact absurd h1 nx
  rcases h2 with ⟨h2, -⟩ | ⟨h2, o2, e2⟩
  · exact absurd h2 ny
  refine px_mmin hC (by decide +kernel) (by decide +kernel) (by decide +kernel) (by decide +kernel) (by decide) (Nat.le_of_ble_eq_true rfl) (by decide) dX2_removeCommonTwos_14 ?_
  refine px_ei (y := nI (min t1 t2)) (mn_I (by omega) (by omega)) ?_
  generalize hs : min t1 t2 = sft
  refine px_istore_n (lv' := [(0, .ref lt), (1, .int (nI w)), (2, .int (nI (sft)))]) hC [1, 2, 0] dX2_removeCommonTwos_17 (by decide) rfl ?_
  refine px_aload_n hC 0 rfl dX2_removeCommonTwos_18 ?_
  refine px_get (C := RX2) (T := TX2) (N := 6) hC hq rfl kkX2_removeCommonTwos_X2 0 (by decide) flX2_removeCommonTwos_9 rfl dX2_removeCommonTwos_19 ?_
  refine px_iload_n hC 2 rfl dX2_removeCommonTwos_22 ?_
  refine px_iload_n hC 1 rfl dX2_removeCommonTwos_23 ?_
  refine px_callSv (st := []) (nn := 3) hC (c_shr l E L _ tp sft w x ht dx hw (by omega)) gX2_removeCommonTwos_X1_shiftRight rfl (by decide +kernel) (by decide) (Nat.le_of_ble_eq_true rfl) (by decide) rfl rfl dX2_removeCommonTwos_24 (fun f3 h3 => ?_)
  obtain ⟨x', dx', kx, vx, rfl⟩ := h3
  refine px_aload_n hC 0 rfl dX2_removeCommonTwos_27 ?_
  refine px_get (C := RX2) (T := TX2) (N := 6) hC (hq.up hqt) rfl kkX2_removeCommonTwos_X2 1 (by decide) flX2_removeCommonTwos_15 rfl dX2_removeCommonTwos_28 ?_
  refine px_iload_n hC 2 rfl dX2_removeCommonTwos_31 ?_
  refine px_iload_n hC 1 rfl dX2_removeCommonTwos_32 ?_
  refine px_callSv (st := []) (nn := 3) hC (c_shr l E L _ bt sft w y (hb.up (fun h => htb h.symm)) dy hw (by omega)) gX2_removeCommonTwos_X1_shiftRight rfl (by decide +kernel) (by decide) (Nat.le_of_ble_eq_true rfl) (by decide) rfl rfl dX2_removeCommonTwos_33 (fun f4 h4 => ?_)
  obtain ⟨y', dy', ky, vy, rfl⟩ := h4
  have zx' : hz x' w := fun i a1 a2 => by rw [kx i a1]; exact zx i a1 a2
  have zy' : hz y' w := fun i a1 a2 => by rw [ky i a1]; exact zy i a1 a2
  have m1 := tz_min e1 (show sft ≤ t1 by omega)
  have m2 := tz_min e2 (show sft ≤ t2 by omega)
  have vx' : vl 4294967296 x' 21 = vl 4294967296 x 21 / 2 ^ sft := by rw [vl_top hw zx', vx, ← vl_top hw zx]
  have vy' : vl 4294967296 y' 21 = vl 4294967296 y 21 / 2 ^ sft := by rw [vl_top hw zy', vy, ← vl_top hw zy]
  subst hQ
  exact px_vret hC rfl (⟨rfl, rfl, x', y', sft, dx', dy', zx', zy', by rw [vx']; exact m1.2.1, by rw [vy']; exact m2.2.1, by rw [vx', vy']; rcases (show sft = t1 ∨ sft = t2 by omega) with q | q; exact Or.inl (m1.2.2 q); exact Or.inr (m2.2.2 q), rfl⟩) dX2_removeCommonTwos_36
def coI (E : px_E) (L : List Nat) (f g : Nat → va_E) (ot ob p1 p2 : Nat) (x1 x2 : Nat → Nat) (u step G : Nat) : Prop := ((p1 = ot ∧ p2 = ob) ∨ (p1 = ob ∧ p2 = ot)) ∧ px_at L g p1 (aJ E 21 (lw x1)) ∧ px_at L g p2 (aJ E 21 (lw x2)) ∧ dg x1 ∧ dg x2 ∧ hz x1 u ∧ hz x2 u ∧ vl 4294967296 x1 21 % 2 = 1 ∧ vl 4294967296 x2 21 % 2 = 1 ∧ Nat.gcd (vl 4294967296 x1 21) (vl 4294967296 x2 21) = G ∧ vl 4294967296 x1 21 * vl 4294967296 x2 21 < 2 ^ (1344 - step) ∧ ∀ b, b ≠ ot → b ≠ ob → g b = f b
def coQ (E : px_E) (L : List Nat) (f : Nat → va_E) (ot ob G : Nat) (z : Nat) (f' : Nat → va_E) : Prop := (z = ot ∨ z = ob) ∧ (∃ g, dg g ∧ vl 4294967296 g 21 = G ∧ px_at L f' z (aJ E 21 (lw g))) ∧ (∃ r, px_at L f' ot (aJ E 21 r)) ∧ (∃ r, px_at L f' ob (aJ E 21 r)) ∧ ∀ b, b ≠ ot → b ≠ ob → f' b = f b
theorem c_coF (l : Launch) (E : px_E) (L : List Nat) (f : Nat → va_E) (lt w : Nat) {tp bt ot ob : Nat} {nu de : Int64} {x y : Nat → Nat} (hq : px_at L f lt (.inr (1, lF tp bt ot ob nu de))) (ht : px_at L f ot (aJ E 21 (lw x))) (hb : px_at L f ob (aJ E 21 (lw y))) (htb : ot ≠ ob) (dx : dg x) (dy : dg y) (h1 : 1 ≤ w) (hw : w ≤ 21) (zx : hz x w) (zy : hz y w) (nx : vl 4294967296 x 21 % 2 = 1) (ny : vl 4294967296 y 21 % 2 = 1) : px_M l yX2_commonOddFactor wsX2_commonOddFactor (px_rm 3 72) E L f [.ref lt, .int (nI w)] (px_r L (fun z f' => coQ E L f ot ob (Nat.gcd (vl 4294967296 x 21) (vl 4294967296 y 21)) z f')) := by
  refine px_M.of (cc := cX2_commonOddFactor) (maxL := 8) (ret := (some (.array .long))) (lv := [(0, .ref lt), (1, .int (nI w))]) (by decide) rfl (Nat.le_of_ble_eq_true rfl) rfl ?_
  intro p e s m below meth c A hC hnm
  obtain ⟨Q, hQ⟩ : ∃ Q, Q = MQ below (px_Q E (px_r L (fun z f' => coQ E L f ot ob (Nat.gcd (vl 4294967296 x 21) (vl 4294967296 y 21)) z f')) A) [.ref lt, .int (nI w)].toArray s (px_rm 3 72).cells (px_rm 3 72).slots A := ⟨_, rfl⟩
  rw [← hQ]
  generalize hG : Nat.gcd (vl 4294967296 x 21) (vl 4294967296 y 21) = G at hQ ⊢
  have outer : ∀ (d step u p1 p2 : Nat) (x1 x2 : Nat → Nat) (g : Nat → va_E), step + d = 1344 → 1 ≤ u → u ≤ 21 → coI E L f g ot ob p1 p2 x1 x2 u step G → px p l e (px_rm 3 72) s m [.ref lt, .int (nI w)].toArray below meth c 8 E A s.heap L (g) 0 0 Q 16 [(0, .ref lt), (1, .int (nI w)), (2, .ref p1), (3, .ref p2), (4, .int (nI u)), (5, .int (nI step))] [] := by
    intro d
    induction d with
    | zero =>
      intro step u p1 p2 x1 x2 g hd hu1 hu2 hI
      obtain ⟨-, -, -, -, -, -, -, i1, i2, -, i3, -⟩ := hI
      have i4 : 1 * 1 ≤ vl 4294967296 x1 21 * vl 4294967296 x2 21 := Nat.mul_le_mul (by omega) (by omega)
      rw [show 1344 - step = 0 by omega, Nat.pow_zero] at i3
      omega
    | succ d ih =>
      have sub : ∀ (step u p1 p2 : Nat) (x1 x2 : Nat → Nat) (g : Nat → va_E), step + (d + 1) = 1344 → 1 ≤ u → u ≤ 21 → coI E L f g ot ob p1 p2 x1 x2 u step G → vl 4294967296 x2 u < vl 4294967296 x1 u → px p l e (px_rm 3 72) s m [.ref lt, .int (nI w)].toArray below meth c 8 E A s.heap L (g) 0 0 Q 88 [(0, .ref lt), (1, .int (nI w)), (2, .ref p1), (3, .ref p2), (4, .int (nI u)), (5, .int (nI step))] [] := by
        intro step u p1 p2 x1 x2 g hd hu1 hu2 hI hlt
        obtain ⟨ip, iq1, iq2, id1, id2, iz1, iz2, io1, io2, ig, im, ifr⟩ := hI
        have hpp : p2 ≠ p1 := by rcases ip with ⟨a, b⟩ | ⟨a, b⟩ <;> (rw [a, b]; first | exact htb | exact fun h => htb h.symm)
        have t1 := vl_top hu2 iz1
        have t2 := vl_top hu2 iz2
        have l1 := vl_lt (B := 4294967296) (x := x1) (n := u) (fun i hi => id1 i (by omega))
        refine px_aload_n hC 2 rfl dX2_commonOddFactor_88 ?_
        refine px_iconst (v := nI 0) hC (by decide) dX2_commonOddFactor_89 ?_
        refine px_lconst (v := lN 1) hC (by decide) dX2_commonOddFactor_90 ?_
        refine px_aload_n hC 3 rfl dX2_commonOddFactor_91 ?_
        refine px_iload hC 4 rfl dX2_commonOddFactor_92 ?_
        refine px_callSv (st := []) (nn := 5) hC (c_subS l E L g p1 p2 0 1 u x1 x2 iq1 iq2 hpp (by omega) hu2 (by decide) id1 id2) gX2_commonOddFactor_X1_subtractScaled rfl (by decide +kernel) (by decide) (Nat.le_of_ble_eq_true rfl) (by decide) rfl rfl dX2_commonOddFactor_94 (fun f1 h2 => ?_)
        obtain ⟨y1, dy1, ky1, ⟨k1, e1⟩, rfl⟩ := h2
        have l2 := vl_lt (B := 4294967296) (x := y1) (n := u) (fun i hi => dy1 i (by omega))
        rw [Nat.pow_zero, Nat.mul_one, Nat.one_mul, Nat.sub_zero] at e1
        have hk : k1 = 0 := by
          rcases Nat.eq_zero_or_pos k1 with q | q
          · exact q
          · have : 1 * 4294967296 ^ u ≤ k1 * 4294967296 ^ u := Nat.mul_le_mul_right _ q
            omega
        rw [hk, Nat.zero_mul, Nat.add_zero] at e1
        have zy1 : hz y1 u := fun i a1 a2 => by rw [ky1 i (Or.inr a1)]; exact iz1 i a1 a2
        refine px_aload_n hC 2 rfl dX2_commonOddFactor_97 ?_
        refine px_iload hC 4 rfl dX2_commonOddFactor_98 ?_
        refine px_callSv (st := []) (nn := 2) hC (c_rmT l E L _ p1 u y1 iq1.self dy1 hu2 zy1 (by omega)) gX2_commonOddFactor_X2_removeTwos rfl (by decide +kernel) (by decide) (Nat.le_of_ble_eq_true rfl) (by decide) rfl rfl dX2_commonOddFactor_100 (fun f2 h3 => ?_)
        obtain ⟨y2, dy2, zy2, ⟨t, o, e2, e3⟩, rfl⟩ := h3
        rw [px_uu]
        have t3 := vl_top hu2 zy2
        have ht1 : t ≠ 0 := fun q => by rw [q, Nat.pow_zero] at e2; omega
        have h2o : 2 * (2 * o + 1) ≤ vl 4294967296 y1 u := by
          have h5 : 2 ^ 1 ≤ 2 ^ t := Nat.pow_le_pow_right (by decide) (by omega)
          rw [e2]
          exact Nat.mul_le_mul_right _ (by omega)
        refine px_iinc (v := nI (step + 1)) (lv' := [(0, .ref lt), (1, .int (nI w)), (2, .ref p1), (3, .ref p2), (4, .int (nI u)), (5, .int (nI (step + 1)))]) hC 5 [1, 2, 3, 4, 5, 0] dX2_commonOddFactor_103 rfl (nI_1 step) (by decide) rfl ?_
        refine px_goto hC 16 dX2_commonOddFactor_106 (by decide) ?_
        refine ih (step + 1) u p1 p2 y2 x2 _ (by omega) hu1 hu2 ⟨ip, iq1.self, iq2.up hpp, dy2, id2, zy2, iz2, by omega, io2, ?_, ?_, fun b a1 a2 => ?_⟩
        · rw [t3, e3, ← gcd_odd2 (t := t) io2, ← e2, ← ig, t1, t2, show vl 4294967296 y1 u = vl 4294967296 x1 u - vl 4294967296 x2 u by omega]
          exact gcd_sub2 (by omega)
        · have h5 : 2 * (vl 4294967296 y2 21 * vl 4294967296 x2 21) ≤ vl 4294967296 x1 21 * vl 4294967296 x2 21 := by
            rw [← Nat.mul_assoc]
            exact Nat.mul_le_mul_right _ (by omega)
          rw [show 1344 - step = (1344 - (step + 1)) + 1 by omega, Nat.pow_succ] at im
          omega
        · rw [va_up_ne _ _ (by rcases ip with ⟨a, b⟩ | ⟨a, b⟩ <;> (rw [a]; assumption))]
          exact ifr b a1 a2
      have cmp : ∀ (step u p1 p2 : Nat) (x1 x2 : Nat → Nat) (g : Nat → va_E), step + (d + 1) = 1344 → 1 ≤ u → u ≤ 21 → coI E L f g ot ob p1 p2 x1 x2 u step G → px p l e (px_rm 3 72) s m [.ref lt, .int (nI w)].toArray below meth c 8 E A s.heap L (g) 0 0 Q 58 [(0, .ref lt), (1, .int (nI w)), (2, .ref p1), (3, .ref p2), (4, .int (nI u)), (5, .int (nI step))] [] := by
        intro step u p1 p2 x1 x2 g hd hu1 hu2 hI
        have hI0 := hI
        obtain ⟨ip, iq1, iq2, id1, id2, iz1, iz2, io1, io2, ig, im, ifr⟩ := hI
        have t1 := vl_top hu2 iz1
        have t2 := vl_top hu2 iz2
        refine px_aload_n hC 2 rfl dX2_commonOddFactor_58 ?_
        refine px_aload_n hC 3 rfl dX2_commonOddFactor_59 ?_
        refine px_iload hC 4 rfl dX2_commonOddFactor_60 ?_
        refine px_callSi (st := []) (nn := 3) hC (c_cmp l E L g p1 p2 u x1 x2 iq1 iq2 id1 id2 hu2) gX2_commonOddFactor_X1_compare rfl (by decide +kernel) (by decide) (Nat.le_of_ble_eq_true rfl) (by decide) rfl rfl dX2_commonOddFactor_62 (fun z f1 hz1 => ?_)
        obtain ⟨rfl, hz1⟩ := hz1
        rcases hz1 with ⟨rfl, h5⟩ | ⟨rfl, h5⟩ | ⟨rfl, h5⟩
        · refine px_istore (lv' := [(0, .ref lt), (1, .int (nI w)), (2, .ref p1), (3, .ref p2), (4, .int (nI u)), (5, .int (nI step)), (6, .int (nI 0))]) hC [1, 2, 3, 4, 5, 6, 0] dX2_commonOddFactor_65 (by decide) rfl ?_
          refine px_iload hC 6 rfl dX2_commonOddFactor_67 ?_
          refine px_if_ne hC 75 dX2_commonOddFactor_69 (by decide) (fun q9 => (q9 (by decide)).elim) (fun _ => ?_)
          refine px_goto hC 109 dX2_commonOddFactor_72 (by decide) ?_
          refine px_aload_n hC 2 rfl dX2_commonOddFactor_109 ?_
          subst hQ
          exact px_aret hC rfl (Or.inr ⟨_, rfl⟩) (⟨_, rfl, rfl, by rcases ip with ⟨a, b⟩ | ⟨a, b⟩; exact Or.inl a; exact Or.inr a, ⟨x1, id1, by rw [← ig, t1, t2, ← h5, Nat.gcd_self], iq1⟩, by rcases ip with ⟨a, b⟩ | ⟨a, b⟩; exact ⟨_, a ▸ iq1⟩; exact ⟨_, b ▸ iq2⟩, by rcases ip with ⟨a, b⟩ | ⟨a, b⟩; exact ⟨_, b ▸ iq2⟩; exact ⟨_, a ▸ iq1⟩, ifr⟩) dX2_commonOddFactor_110
        · refine px_istore (lv' := [(0, .ref lt), (1, .int (nI w)), (2, .ref p1), (3, .ref p2), (4, .int (nI u)), (5, .int (nI step)), (6, .int (nI 1))]) hC [1, 2, 3, 4, 5, 6, 0] dX2_commonOddFactor_65 (by decide) rfl ?_
          refine px_iload hC 6 rfl dX2_commonOddFactor_67 ?_
          refine px_if_ne hC 75 dX2_commonOddFactor_69 (by decide) (fun _ => ?_) (fun q9 => absurd q9 (by decide))
          refine px_iload hC 6 rfl dX2_commonOddFactor_75 ?_
          refine px_if_ge hC 88 dX2_commonOddFactor_77 (by decide) (fun _ => ?_) (fun q9 => (q9 (by decide)).elim)
          refine px_lv (lv2 := [(0, .ref lt), (1, .int (nI w)), (2, .ref p1), (3, .ref p2), (4, .int (nI u)), (5, .int (nI step))]) [0, 1, 2, 3, 4, 5] rfl ?_
          exact sub step u p1 p2 x1 x2 _ hd hu1 hu2 hI0 h5
        · refine px_istore (lv' := [(0, .ref lt), (1, .int (nI w)), (2, .ref p1), (3, .ref p2), (4, .int (nI u)), (5, .int (nI step)), (6, .int (-1))]) hC [1, 2, 3, 4, 5, 6, 0] dX2_commonOddFactor_65 (by decide) rfl ?_
          refine px_iload hC 6 rfl dX2_commonOddFactor_67 ?_
          refine px_if_ne hC 75 dX2_commonOddFactor_69 (by decide) (fun _ => ?_) (fun q9 => absurd q9 (by decide))
          refine px_iload hC 6 rfl dX2_commonOddFactor_75 ?_
          refine px_if_ge hC 88 dX2_commonOddFactor_77 (by decide) (fun q9 => absurd q9 (by decide)) (fun _ => ?_)
          refine px_aload_n hC 2 rfl dX2_commonOddFactor_80 ?_
          refine px_astore (lv' := [(0, .ref lt), (1, .int (nI w)), (2, .ref p1), (3, .ref p2), (4, .int (nI u)), (5, .int (nI step)), (6, .int (-1)), (7, .ref p1)]) hC [1, 2, 3, 4, 5, 6, 7, 0] dX2_commonOddFactor_81 (by decide) rfl ?_
          refine px_aload_n hC 3 rfl dX2_commonOddFactor_83 ?_
          refine px_astore_n (lv' := [(0, .ref lt), (1, .int (nI w)), (2, .ref p2), (3, .ref p2), (4, .int (nI u)), (5, .int (nI step)), (6, .int (-1)), (7, .ref p1)]) hC [1, 2, 0, 3, 4, 5, 6, 7] dX2_commonOddFactor_84 (by decide) rfl ?_
          refine px_aload hC 7 rfl dX2_commonOddFactor_85 ?_
          refine px_astore_n (lv' := [(0, .ref lt), (1, .int (nI w)), (2, .ref p2), (3, .ref p1), (4, .int (nI u)), (5, .int (nI step)), (6, .int (-1)), (7, .ref p1)]) hC [1, 2, 3, 0, 4, 5, 6, 7] dX2_commonOddFactor_87 (by decide) rfl ?_
          refine px_lv (lv2 := [(0, .ref lt), (1, .int (nI w)), (2, .ref p2), (3, .ref p1), (4, .int (nI u)), (5, .int (nI step))]) [0, 1, 2, 3, 4, 5] rfl ?_
          exact sub step u p2 p1 x2 x1 _ hd hu1 hu2 ⟨ip.symm.imp (fun h => ⟨h.2, h.1⟩) (fun h => ⟨h.2, h.1⟩), iq2, iq1, id2, id1, iz2, iz1, io2, io1, by rw [Nat.gcd_comm]; exact ig, by rw [Nat.mul_comm]; exact im, ifr⟩ h5
      intro step u p1 p2 x1 x2 g hd hu1 hu2 hI
      have inner : ∀ (v u : Nat), u = v + 1 → u ≤ 21 → coI E L f g ot ob p1 p2 x1 x2 u step G → px p l e (px_rm 3 72) s m [.ref lt, .int (nI w)].toArray below meth c 8 E A s.heap L (g) 0 0 Q 24 [(0, .ref lt), (1, .int (nI w)), (2, .ref p1), (3, .ref p2), (4, .int (nI u)), (5, .int (nI step))] [] := by
        intro v
        induction v with
        | zero =>
          intro u hu hu2 hI
          refine px_iload hC 4 rfl dX2_commonOddFactor_24 ?_
          refine px_iconst (v := nI 1) hC (by decide) dX2_commonOddFactor_26 ?_
          refine px_icmp_le hC 58 dX2_commonOddFactor_27 (by decide) (fun _ => ?_) (fun q9 => (q9 (nI_le (by omega) (by omega))).elim)
          exact cmp step u p1 p2 x1 x2 g hd (by omega) hu2 hI
        | succ v ihv =>
          intro u hu hu2 hI
          have hI0 := hI
          obtain ⟨ip, iq1, iq2, id1, id2, iz1, iz2, io1, io2, ig, im, ifr⟩ := hI
          have b1 := id1 (u - 1) (by omega)
          have b2 := id2 (u - 1) (by omega)
          refine px_iload hC 4 rfl dX2_commonOddFactor_24 ?_
          refine px_iconst (v := nI 1) hC (by decide) dX2_commonOddFactor_26 ?_
          refine px_icmp_le hC 58 dX2_commonOddFactor_27 (by decide) (fun q9 => absurd q9 (nI_ge (by omega) (by omega))) (fun _ => ?_)
          refine px_aload_n hC 2 rfl dX2_commonOddFactor_30 ?_
          refine px_iload hC 4 rfl dX2_commonOddFactor_31 ?_
          refine px_iconst (v := nI 1) hC (by decide) dX2_commonOddFactor_33 ?_
          refine px_isub hC dX2_commonOddFactor_34 ?_
          refine px_ei (y := nI (u - 1)) (pk_sub (by omega)) ?_
          refine px_lald hC iq1 (by omega) (by first | decide | assumption | omega) dX2_commonOddFactor_35 ?_
          refine px_lconst (v := lN 0) hC (by decide) dX2_commonOddFactor_36 ?_
          refine px_lcmp hC dX2_commonOddFactor_37 ?_
          by_cases c1 : x1 (u - 1) = 0
          · refine px_if_ne hC 58 dX2_commonOddFactor_38 (by decide) (fun q9 => (q9 ((lz_c0 (by omega) (by omega)).mpr c1)).elim) (fun _ => ?_)
            refine px_aload_n hC 3 rfl dX2_commonOddFactor_41 ?_
            refine px_iload hC 4 rfl dX2_commonOddFactor_42 ?_
            refine px_iconst (v := nI 1) hC (by decide) dX2_commonOddFactor_44 ?_
            refine px_isub hC dX2_commonOddFactor_45 ?_
            refine px_ei (y := nI (u - 1)) (pk_sub (by omega)) ?_
            refine px_lald hC iq2 (by omega) (by first | decide | assumption | omega) dX2_commonOddFactor_46 ?_
            refine px_lconst (v := lN 0) hC (by decide) dX2_commonOddFactor_47 ?_
            refine px_lcmp hC dX2_commonOddFactor_48 ?_
            by_cases c2 : x2 (u - 1) = 0
            · refine px_if_ne hC 58 dX2_commonOddFactor_49 (by decide) (fun q9 => (q9 ((lz_c0 (by omega) (by omega)).mpr c2)).elim) (fun _ => ?_)
              refine px_iinc (v := nI (u - 1)) (lv' := [(0, .ref lt), (1, .int (nI w)), (2, .ref p1), (3, .ref p2), (4, .int (nI (u - 1))), (5, .int (nI step))]) hC 4 [1, 2, 3, 4, 0, 5] dX2_commonOddFactor_52 rfl (by rw [show u = (u - 1) + 1 by omega]; exact pk_m1 (u - 1)) (by decide) rfl ?_
              refine px_goto hC 24 dX2_commonOddFactor_55 (by decide) ?_
              exact ihv (u - 1) (by omega) (by omega) ⟨ip, iq1, iq2, id1, id2, fun i a1 a2 => by
                by_cases q : i = u - 1
                · rw [q]; exact c1
                · exact iz1 i (by omega) a2, fun i a1 a2 => by
                by_cases q : i = u - 1
                · rw [q]; exact c2
                · exact iz2 i (by omega) a2, io1, io2, ig, im, ifr⟩
            · refine px_if_ne hC 58 dX2_commonOddFactor_49 (by decide) (fun _ => ?_) (fun q9 => absurd q9 (fun q => c2 ((lz_c0 (by omega) (by omega)).mp q)))
              exact cmp step u p1 p2 x1 x2 g hd (by omega) hu2 hI0
          · refine px_if_ne hC 58 dX2_commonOddFactor_38 (by decide) (fun _ => ?_) (fun q9 => absurd q9 (fun q => c1 ((lz_c0 (by omega) (by omega)).mp q)))
            exact cmp step u p1 p2 x1 x2 g hd (by omega) hu2 hI0
      refine px_iload hC 5 rfl dX2_commonOddFactor_16 ?_
      refine px_sipush (v := nI 1344) hC (by decide) dX2_commonOddFactor_18 ?_
      refine px_icmp_ge hC 109 dX2_commonOddFactor_21 (by decide) (fun q9 => absurd q9 (nI_ge (by omega) (by omega))) (fun _ => ?_)
      exact inner (u - 1) u (by omega) hu2 hI
  refine px_aload_n hC 0 rfl dX2_commonOddFactor_0 ?_
  refine px_get (C := RX2) (T := TX2) (N := 6) hC hq rfl kkX2_commonOddFactor_X2 2 (by decide) flX2_commonOddFactor_18 rfl dX2_commonOddFactor_1 ?_
  refine px_astore_n (lv' := [(0, .ref lt), (1, .int (nI w)), (2, .ref ot)]) hC [1, 2, 0] dX2_commonOddFactor_4 (by decide) rfl ?_
  refine px_aload_n hC 0 rfl dX2_commonOddFactor_5 ?_
  refine px_get (C := RX2) (T := TX2) (N := 6) hC hq rfl kkX2_commonOddFactor_X2 3 (by decide) flX2_commonOddFactor_21 rfl dX2_commonOddFactor_6 ?_
  refine px_astore_n (lv' := [(0, .ref lt), (1, .int (nI w)), (2, .ref ot), (3, .ref ob)]) hC [1, 2, 3, 0] dX2_commonOddFactor_9 (by decide) rfl ?_
  refine px_iload_n hC 1 rfl dX2_commonOddFactor_10 ?_
  refine px_istore (lv' := [(0, .ref lt), (1, .int (nI w)), (2, .ref ot), (3, .ref ob), (4, .int (nI w))]) hC [1, 2, 3, 4, 0] dX2_commonOddFactor_11 (by decide) rfl ?_
  refine px_iconst (v := nI 0) hC (by decide) dX2_commonOddFactor_13 ?_
  refine px_istore (lv' := [(0, .ref lt), (1, .int (nI w)), (2, .ref ot), (3, .ref ob), (4, .int (nI w)), (5, .int (nI 0))]) hC [1, 2, 3, 4, 5, 0] dX2_commonOddFactor_14 (by decide) rfl ?_
  have lx := vl_lt dx
  have ly := vl_lt dy
  refine outer 1344 0 w ot ob x y f (by omega) h1 hw ⟨Or.inl ⟨rfl, rfl⟩, ht, hb, dx, dy, zx, zy, nx, ny, hG, ?_, fun b _ _ => rfl⟩
  have h5 : vl 4294967296 x 21 * vl 4294967296 y 21 < 4294967296 ^ 21 * 4294967296 ^ 21 := by
    have h6 : vl 4294967296 x 21 * vl 4294967296 y 21 ≤ vl 4294967296 x 21 * 4294967296 ^ 21 := Nat.mul_le_mul_left _ (by omega)
    have h7 : (vl 4294967296 x 21 + 1) * 4294967296 ^ 21 ≤ 4294967296 ^ 21 * 4294967296 ^ 21 := Nat.mul_le_mul_right _ lx
    have h8 : 0 < 4294967296 ^ 21 := Nat.pow_pos (by decide)
    rw [Nat.add_mul, Nat.one_mul] at h7
    omega
  rw [show 1344 - 0 = 672 + 672 from rfl, Nat.pow_add, show 2 ^ 672 = 4294967296 ^ 21 from (pow_BB 21).symm]
  exact h5
end
section
def lD (tp bt ot ob : Nat) : Prop := tp ≠ bt ∧ tp ≠ ot ∧ tp ≠ ob ∧ bt ≠ ot ∧ bt ≠ ob ∧ ot ≠ ob
/-- dividing by an odd factor, limb by limb, is dividing -/
theorem dv_exact {x y b : Nat → Nat} {w g a : Nat} (dx : dg x) (dy : dg y) (hw : w ≤ 21) (h : ∃ k : Int, (vl 4294967296 x w : Int) = vl 4294967296 y w * vl 4294967296 b w + k * ((4294967296 ^ w : Nat) : Int)) (hb : vl 4294967296 b w = g) (hg : g % 2 = 1) (hx : vl 4294967296 x w = g * a) : vl 4294967296 y w = a := by
  have lx := vl_lt (B := 4294967296) (x := x) (n := w) (fun i hi => dx i (by omega))
  have ly := vl_lt (B := 4294967296) (x := y) (n := w) (fun i hi => dy i (by omega))
  have la : a < 4294967296 ^ w := by
    have : 1 * a ≤ g * a := Nat.mul_le_mul_right _ (by omega)
    omega
  obtain ⟨k, h⟩ := h
  rw [hb, hx] at h
  have h1 : cg ((2 ^ (32 * w) : Nat) : Int) ((vl 4294967296 y w : Int) * g) ((g : Int) * a) := by
    rw [← pow_BB]
    exact cg_s ⟨k, by rw [← h, Int.natCast_mul]⟩
  obtain ⟨j, hj⟩ := cg_cancel (by omega) h1
  rw [← pow_BB] at hj
  rcases (show j = 0 ∨ 1 ≤ j ∨ j ≤ -1 by omega) with q | q | q
  · subst q; omega
  · have h5 : ((4294967296 ^ w : Nat) : Int) * 1 ≤ ((4294967296 ^ w : Nat) : Int) * j := Int.mul_le_mul_of_nonneg_left q (by omega)
    rw [Int.mul_comm _ j] at h5
    omega
  · have h5 : ((4294967296 ^ w : Nat) : Int) * j ≤ ((4294967296 ^ w : Nat) : Int) * (-1) := Int.mul_le_mul_of_nonneg_left q (by omega)
    rw [Int.mul_comm _ j] at h5
    omega
theorem gcd_parts {a b t1 o1 t2 o2 : Nat} (h1 : a = 2 ^ t1 * (2 * o1 + 1)) (h2 : b = 2 ^ t2 * (2 * o2 + 1)) (h : a % 2 = 1 ∨ b % 2 = 1) : Nat.gcd (2 * o1 + 1) (2 * o2 + 1) = Nat.gcd a b := by
  have z : ∀ {v t o : Nat}, v = 2 ^ t * (2 * o + 1) → v % 2 = 1 → v = 2 * o + 1 := fun {v t o} e q => by
    cases t with
    | zero => rw [e, Nat.pow_zero, Nat.one_mul]
    | succ t =>
      have h3 : v = 2 * (2 ^ t * (2 * o + 1)) := by rw [e, Nat.pow_succ]; grind
      omega
  rcases h with q | q
  · have e := z h1 q
    rw [h2, Nat.gcd_comm a, gcd_odd2 q, e, Nat.gcd_comm]
  · have e := z h2 q
    rw [h1, gcd_odd2 q, e]
theorem sg_neg {x : Nat → Nat} (hx : dg x) : 2147483648 ≤ x 20 ↔ sg x < 0 := by
  have h1 := vl_lt hx
  unfold sg
  constructor
  · intro h; rw [if_pos h]; omega
  · intro h
    by_cases q : 2147483648 ≤ x 20
    · exact q
    · rw [if_neg q] at h; omega
theorem flX2_removeCommonOddFactor_9 : Cond.fieldLink RX2 9 "RowReduction$LowestTerms" "top" "[J" ∈ wsX2_removeCommonOddFactor := by decide +kernel
theorem kkX2_removeCommonOddFactor_X2 : ∀ w ∈ wsX20, w ∈ wsX2_removeCommonOddFactor := fun _ h => List.mem_cons_of_mem _ (List.mem_append_right _ h)
theorem flX2_removeCommonOddFactor_18 : Cond.fieldLink RX2 18 "RowReduction$LowestTerms" "oddTop" "[J" ∈ wsX2_removeCommonOddFactor := by decide +kernel
theorem flX2_removeCommonOddFactor_15 : Cond.fieldLink RX2 15 "RowReduction$LowestTerms" "bottom" "[J" ∈ wsX2_removeCommonOddFactor := by decide +kernel
theorem flX2_removeCommonOddFactor_21 : Cond.fieldLink RX2 21 "RowReduction$LowestTerms" "oddBottom" "[J" ∈ wsX2_removeCommonOddFactor := by decide +kernel
theorem flX2_find_24 : Cond.fieldLink RX2 24 "RowReduction$LowestTerms" "numerator" "J" ∈ wsX2_find := by decide +kernel
theorem kkX2_find_X2 : ∀ w ∈ wsX20, w ∈ wsX2_find := fun _ h => List.mem_cons_of_mem _ (List.mem_append_right _ h)
theorem flX2_find_28 : Cond.fieldLink RX2 28 "RowReduction$LowestTerms" "denominator" "J" ∈ wsX2_find := by decide +kernel
theorem flX2_find_9 : Cond.fieldLink RX2 9 "RowReduction$LowestTerms" "top" "[J" ∈ wsX2_find := by decide +kernel
theorem flX2_find_15 : Cond.fieldLink RX2 15 "RowReduction$LowestTerms" "bottom" "[J" ∈ wsX2_find := by decide +kernel
theorem c_rmCO (l : Launch) (E : px_E) (L : List Nat) (f : Nat → va_E) (lt w : Nat) {tp bt ot ob : Nat} {nu de : Int64} {x y : Nat → Nat} {r1 r2 : Nat → Int64} (hq : px_at L f lt (.inr (1, lF tp bt ot ob nu de))) (hD : lD tp bt ot ob) (ht : px_at L f tp (aJ E 21 (lw x))) (hb : px_at L f bt (aJ E 21 (lw y))) (hot : px_at L f ot (aJ E 21 r1)) (hob : px_at L f ob (aJ E 21 r2)) (dx : dg x) (dy : dg y) (h1 : 1 ≤ w) (hw : w ≤ 21) (zx : hz x w) (zy : hz y w) (nx : vl 4294967296 x 21 ≠ 0) (ny : vl 4294967296 y 21 ≠ 0) (hodd : vl 4294967296 x 21 % 2 = 1 ∨ vl 4294967296 y 21 % 2 = 1) : px_M l yX2_removeCommonOddFactor wsX2_removeCommonOddFactor (px_rm 4 99) E L f [.ref lt, .int (nI w)] (px_v L (fun f' => ∃ x' y', dg x' ∧ dg y' ∧ vl 4294967296 x' 21 = vl 4294967296 x 21 / Nat.gcd (vl 4294967296 x 21) (vl 4294967296 y 21) ∧ vl 4294967296 y' 21 = vl 4294967296 y 21 / Nat.gcd (vl 4294967296 x 21) (vl 4294967296 y 21) ∧ px_at L f' tp (aJ E 21 (lw x')) ∧ px_at L f' bt (aJ E 21 (lw y')) ∧ (∃ r, px_at L f' ot (aJ E 21 r)) ∧ (∃ r, px_at L f' ob (aJ E 21 r)) ∧ ∀ b, b ≠ tp → b ≠ bt → b ≠ ot → b ≠ ob → f' b = f b)) := by
  refine px_M.of (cc := cX2_removeCommonOddFactor) (maxL := 5) (ret := none) (lv := [(0, .ref lt), (1, .int (nI w))]) (by decide) rfl (Nat.le_of_ble_eq_true rfl) rfl ?_
  intro p e s m below meth c A hC hnm
  obtain ⟨Q, hQ⟩ : ∃ Q, Q = MQ below (px_Q E (px_v L (fun f' => ∃ x' y', dg x' ∧ dg y' ∧ vl 4294967296 x' 21 = vl 4294967296 x 21 / Nat.gcd (vl 4294967296 x 21) (vl 4294967296 y 21) ∧ vl 4294967296 y' 21 = vl 4294967296 y 21 / Nat.gcd (vl 4294967296 x 21) (vl 4294967296 y 21) ∧ px_at L f' tp (aJ E 21 (lw x')) ∧ px_at L f' bt (aJ E 21 (lw y')) ∧ (∃ r, px_at L f' ot (aJ E 21 r)) ∧ (∃ r, px_at L f' ob (aJ E 21 r)) ∧ ∀ b, b ≠ tp → b ≠ bt → b ≠ ot → b ≠ ob → f' b = f b)) A) [.ref lt, .int (nI w)].toArray s (px_rm 4 99).cells (px_rm 4 99).slots A := ⟨_, rfl⟩
  rw [← hQ]
  obtain ⟨n1, n2, n3, n4, n5, n6⟩ := hD
  have hqt : lt ≠ tp := hq.nk ht rfl
  have hqb : lt ≠ bt := hq.nk hb rfl
  have hqo : lt ≠ ot := hq.nk hot rfl
  have hqp : lt ≠ ob := hq.nk hob rfl
  have tx := vl_top hw zx
  have ty := vl_top hw zy
  refine px_aload_n hC 0 rfl dX2_removeCommonOddFactor_0 ?_
  refine px_get (C := RX2) (T := TX2) (N := 6) hC hq rfl kkX2_removeCommonOddFactor_X2 0 (by decide) flX2_removeCommonOddFactor_9 rfl dX2_removeCommonOddFactor_1 ?_
  refine px_aload_n hC 0 rfl dX2_removeCommonOddFactor_4 ?_
  refine px_get (C := RX2) (T := TX2) (N := 6) hC hq rfl kkX2_removeCommonOddFactor_X2 2 (by decide) flX2_removeCommonOddFactor_18 rfl dX2_removeCommonOddFactor_5 ?_
  refine px_callSv (st := []) (nn := 2) hC (c_copy l E L f tp ot x r1 ht hot) gX2_removeCommonOddFactor_X1_copy rfl (by decide +kernel) (by decide) (Nat.le_of_ble_eq_true rfl) (by decide) rfl rfl dX2_removeCommonOddFactor_8 (fun f1 h2 => ?_)
  subst h2
  refine px_aload_n hC 0 rfl dX2_removeCommonOddFactor_11 ?_
  refine px_get (C := RX2) (T := TX2) (N := 6) hC (hq.up hqo) rfl kkX2_removeCommonOddFactor_X2 1 (by decide) flX2_removeCommonOddFactor_15 rfl dX2_removeCommonOddFactor_12 ?_
  refine px_aload_n hC 0 rfl dX2_removeCommonOddFactor_15 ?_
  refine px_get (C := RX2) (T := TX2) (N := 6) hC (hq.up hqo) rfl kkX2_removeCommonOddFactor_X2 3 (by decide) flX2_removeCommonOddFactor_21 rfl dX2_removeCommonOddFactor_16 ?_
  refine px_callSv (st := []) (nn := 2) hC (c_copy l E L _ bt ob y r2 (hb.up n4) (hob.up (fun h => n6 h.symm))) gX2_removeCommonOddFactor_X1_copy rfl (by decide +kernel) (by decide) (Nat.le_of_ble_eq_true rfl) (by decide) rfl rfl dX2_removeCommonOddFactor_19 (fun f1 h2 => ?_)
  subst h2
  refine px_aload_n hC 0 rfl dX2_removeCommonOddFactor_22 ?_
  refine px_get (C := RX2) (T := TX2) (N := 6) hC ((hq.up hqo).up hqp) rfl kkX2_removeCommonOddFactor_X2 2 (by decide) flX2_removeCommonOddFactor_18 rfl dX2_removeCommonOddFactor_23 ?_
  refine px_iload_n hC 1 rfl dX2_removeCommonOddFactor_26 ?_
  refine px_callSv (st := []) (nn := 2) hC (c_rmT l E L _ ot w x (hot.self.up n6) dx hw zx (by omega)) gX2_removeCommonOddFactor_X2_removeTwos rfl (by decide +kernel) (by decide) (Nat.le_of_ble_eq_true rfl) (by decide) rfl rfl dX2_removeCommonOddFactor_27 (fun f1 h2 => ?_)
  obtain ⟨xo, dxo, zxo, ⟨t1, o1, e1, e1'⟩, rfl⟩ := h2
  rw [px_uc _ _ _ (fun h => n6 h.symm), px_uu]
  refine px_aload_n hC 0 rfl dX2_removeCommonOddFactor_30 ?_
  refine px_get (C := RX2) (T := TX2) (N := 6) hC ((hq.up hqo).up hqp) rfl kkX2_removeCommonOddFactor_X2 3 (by decide) flX2_removeCommonOddFactor_21 rfl dX2_removeCommonOddFactor_31 ?_
  refine px_iload_n hC 1 rfl dX2_removeCommonOddFactor_34 ?_
  refine px_callSv (st := []) (nn := 2) hC (c_rmT l E L _ ob w y ((hob.up (fun h => n6 h.symm)).self) dy hw zy (by omega)) gX2_removeCommonOddFactor_X2_removeTwos rfl (by decide +kernel) (by decide) (Nat.le_of_ble_eq_true rfl) (by decide) rfl rfl dX2_removeCommonOddFactor_35 (fun f1 h2 => ?_)
  obtain ⟨yo, dyo, zyo, ⟨t2, o2, e2, e2'⟩, rfl⟩ := h2
  rw [px_uu]
  have txo := vl_top hw zxo
  have tyo := vl_top hw zyo
  have hg : Nat.gcd (vl 4294967296 xo 21) (vl 4294967296 yo 21) = Nat.gcd (vl 4294967296 x 21) (vl 4294967296 y 21) := by
    rw [txo, tyo, e1', e2', tx, ty]
    exact gcd_parts e1 e2 (by rw [← tx, ← ty]; exact hodd)
  refine px_aload_n hC 0 rfl dX2_removeCommonOddFactor_38 ?_
  refine px_iload_n hC 1 rfl dX2_removeCommonOddFactor_39 ?_
  refine px_callVr (C := RX2) (T := TX2) (N := 6) (st := []) (nn := 1) hC (c_coF l E L _ lt w (x := xo) (y := yo) ((hq.up hqo).up hqp) (hot.self.up n6) ((hob.up (fun h => n6 h.symm)).self) n6 dxo dyo h1 hw zxo zyo (by rw [txo, e1']; omega) (by rw [tyo, e2']; omega)) ((hq.up hqo).up hqp) rfl gX2_removeCommonOddFactor_X2_commonOddFactor rfl (by decide +kernel) (by decide) (Nat.le_of_ble_eq_true rfl) (by decide) rfl rfl dX2_removeCommonOddFactor_40 (fun z f2 h3 => ?_)
  obtain ⟨hz1, ⟨gx, dgx, vgx, hgx⟩, hz3, hz4, hfr⟩ := h3
  rw [hg] at vgx
  have gne : ∀ b, b ≠ ot → b ≠ ob → f2 b = f b := fun b a1 a2 => by rw [hfr b a1 a2, va_up_ne _ _ a2, va_up_ne _ _ a1]
  have hg0 : Nat.gcd (vl 4294967296 x 21) (vl 4294967296 y 21) % 2 = 1 := by
    rcases Nat.mod_two_eq_zero_or_one (Nat.gcd (vl 4294967296 x 21) (vl 4294967296 y 21)) with q | q
    · have d2 : 2 ∣ Nat.gcd (vl 4294967296 x 21) (vl 4294967296 y 21) := Nat.dvd_of_mod_eq_zero q
      have d3 := Nat.dvd_trans d2 (Nat.gcd_dvd_left _ _)
      have d4 := Nat.dvd_trans d2 (Nat.gcd_dvd_right _ _)
      omega
    · exact q
  have hgl : Nat.gcd (vl 4294967296 x 21) (vl 4294967296 y 21) ≤ vl 4294967296 x 21 := Nat.le_of_dvd (by omega) (Nat.gcd_dvd_left _ _)
  have hxw := vl_lt (B := 4294967296) (x := x) (n := w) (fun i hi => dx i (by omega))
  have zgx : hz gx w := hz_of (by rw [vgx]; omega)
  have tgx := vl_top hw zgx
  obtain ⟨ax, hax⟩ := Nat.gcd_dvd_left (vl 4294967296 x 21) (vl 4294967296 y 21)
  obtain ⟨ay, hay⟩ := Nat.gcd_dvd_right (vl 4294967296 x 21) (vl 4294967296 y 21)
  generalize Nat.gcd (vl 4294967296 x 21) (vl 4294967296 y 21) = g at vgx hg0 hgl hax hay hQ
  have hzt : z ≠ tp := by rcases hz1 with q | q <;> (rw [q]; first | exact fun h => n2 h.symm | exact fun h => n3 h.symm)
  have hzb : z ≠ bt := by rcases hz1 with q | q <;> (rw [q]; first | exact fun h => n4 h.symm | exact fun h => n5 h.symm)
  have hq2 : px_at L f2 lt (.inr (1, lF tp bt ot ob nu de)) := hq.fr (gne lt hqo hqp)
  have ht2 : px_at L f2 tp (aJ E 21 (lw x)) := ht.fr (gne tp n2 n3)
  have hb2 : px_at L f2 bt (aJ E 21 (lw y)) := hb.fr (gne bt n4 n5)
  have go : gx 0 % 2 = 1 := by
    have e : vl 4294967296 gx 21 = gx 0 + 4294967296 * vl 4294967296 (fun i => gx (1 + i)) 20 := vl_s1 4294967296 gx 20
    omega
  refine px_astore_n (lv' := [(0, .ref lt), (1, .int (nI w)), (2, .ref z)]) hC [1, 2, 0] dX2_removeCommonOddFactor_43 (by decide) rfl ?_
  refine px_aload_n hC 2 rfl dX2_removeCommonOddFactor_44 ?_
  refine px_iconst (v := nI 0) hC (by decide) dX2_removeCommonOddFactor_45 ?_
  refine px_lald hC hgx (by decide) (by first | decide | assumption | omega) dX2_removeCommonOddFactor_46 ?_
  refine px_callSl (st := []) (nn := 1) hC (c_inv l E L _ (gx 0) go (dgx 0 (by decide))) gX2_removeCommonOddFactor_X1_inverse rfl (by decide +kernel) (by decide) (Nat.le_of_ble_eq_true rfl) (by decide) rfl rfl dX2_removeCommonOddFactor_47 (fun z2 f3 h4 => ?_)
  obtain ⟨rfl, iv, rfl, hiv, hi1⟩ := h4
  refine px_lstore_n (lv' := [(0, .ref lt), (1, .int (nI w)), (2, .ref z), (3, .long (lN iv))]) hC [1, 2, 3, 0] dX2_removeCommonOddFactor_50 (by decide) rfl ?_
  refine px_aload_n hC 0 rfl dX2_removeCommonOddFactor_51 ?_
  refine px_get (C := RX2) (T := TX2) (N := 6) hC hq2 rfl kkX2_removeCommonOddFactor_X2 0 (by decide) flX2_removeCommonOddFactor_9 rfl dX2_removeCommonOddFactor_52 ?_
  refine px_aload_n hC 2 rfl dX2_removeCommonOddFactor_55 ?_
  refine px_lload_n hC 3 rfl dX2_removeCommonOddFactor_56 ?_
  refine px_iload_n hC 1 rfl dX2_removeCommonOddFactor_57 ?_
  refine px_callSv (st := []) (nn := 4) hC (c_divE l E L _ tp z iv w x gx ht2 hgx hzt hw hiv hi1 dx dgx) gX2_removeCommonOddFactor_X1_divideEvenly rfl (by decide +kernel) (by decide) (Nat.le_of_ble_eq_true rfl) (by decide) rfl rfl dX2_removeCommonOddFactor_58 (fun f4 h5 => ?_)
  obtain ⟨x', dx', kx, ex, rfl⟩ := h5
  refine px_aload_n hC 0 rfl dX2_removeCommonOddFactor_61 ?_
  refine px_get (C := RX2) (T := TX2) (N := 6) hC (hq2.up hqt) rfl kkX2_removeCommonOddFactor_X2 1 (by decide) flX2_removeCommonOddFactor_15 rfl dX2_removeCommonOddFactor_62 ?_
  refine px_aload_n hC 2 rfl dX2_removeCommonOddFactor_65 ?_
  refine px_lload_n hC 3 rfl dX2_removeCommonOddFactor_66 ?_
  refine px_iload_n hC 1 rfl dX2_removeCommonOddFactor_67 ?_
  refine px_callSv (st := []) (nn := 4) hC (c_divE l E L _ bt z iv w y gx (hb2.up (fun h => n1 h.symm)) (hgx.up hzt) hzb hw hiv hi1 dy dgx) gX2_removeCommonOddFactor_X1_divideEvenly rfl (by decide +kernel) (by decide) (Nat.le_of_ble_eq_true rfl) (by decide) rfl rfl dX2_removeCommonOddFactor_68 (fun f5 h6 => ?_)
  obtain ⟨y', dy', ky, ey, rfl⟩ := h6
  have hgp : 0 < g := by omega
  have vx : vl 4294967296 x' w = ax := dv_exact dx dx' hw ex (by rw [← tgx]; exact vgx) hg0 (by rw [← tx]; exact hax)
  have vy : vl 4294967296 y' w = ay := dv_exact dy dy' hw ey (by rw [← tgx]; exact vgx) hg0 (by rw [← ty]; exact hay)
  have tx' := vl_top hw (show hz x' w from fun i a1 a2 => by rw [kx i a1]; exact zx i a1 a2)
  have ty' := vl_top hw (show hz y' w from fun i a1 a2 => by rw [ky i a1]; exact zy i a1 a2)
  subst hQ
  exact px_vret hC rfl (⟨rfl, rfl, x', y', dx', dy', by rw [tx', vx, hax, Nat.mul_div_cancel_left _ hgp], by rw [ty', vy, hay, Nat.mul_div_cancel_left _ hgp], ht2.self.up n1, (hb2.up (fun h => n1 h.symm)).self, (by obtain ⟨r, hr⟩ := hz3; exact ⟨r, (hr.up (fun h => n2 h.symm)).up (fun h => n4 h.symm)⟩), (by obtain ⟨r, hr⟩ := hz4; exact ⟨r, (hr.up (fun h => n3 h.symm)).up (fun h => n5 h.symm)⟩), fun b a1 a2 a3 a4 => by rw [va_up_ne _ _ a2, va_up_ne _ _ a1]; exact gne b a3 a4⟩) dX2_removeCommonOddFactor_71
def fN (D V : Int) : Int := if D < 0 ↔ V < 0 then ((D.natAbs / Nat.gcd D.natAbs V.natAbs : Nat) : Int) else -((D.natAbs / Nat.gcd D.natAbs V.natAbs : Nat) : Int)
def fM (D V : Int) : Nat := V.natAbs / Nat.gcd D.natAbs V.natAbs
def fit (D V : Int) : Prop := -(2 : Int) ^ 63 ≤ fN D V ∧ fN D V < 2 ^ 63 ∧ fM D V < 2 ^ 63
theorem lN_neg {X : Nat} (h : X ≤ 2 ^ 63) : (-(lN X)).toInt = -(X : Int) := by
  have e : -(lN X) = lN (2 ^ 64 - X) := by
    have h1 : lN (2 ^ 64 - X) + lN X = 0 := by rw [lN_add, Nat.sub_add_cancel (by omega), wb_mod, Nat.mod_self]; rfl
    have h2 : lN (2 ^ 64 - X) = lN (2 ^ 64 - X) + lN X - lN X := by rw [Int64.add_sub_cancel]
    rw [h2, h1, Int64.zero_sub]
  rw [e]
  show (BitVec.ofNat 64 (2 ^ 64 - X)).toInt = _
  rw [BitVec.toInt_eq_toNat_cond, BitVec.toNat_ofNat]
  rcases Nat.eq_zero_or_pos X with q | q
  · subst q; rfl
  · rw [Nat.mod_eq_of_lt (by omega), if_neg (by omega)]; omega
def lOK (E : px_E) (L : List Nat) (f : Nat → va_E) (lt tp bt ot ob : Nat) : Prop := lD tp bt ot ob ∧ (∃ nu de, px_at L f lt (.inr (1, lF tp bt ot ob nu de))) ∧ (∃ r, px_at L f tp (aJ E 21 r)) ∧ (∃ r, px_at L f bt (aJ E 21 r)) ∧ (∃ r, px_at L f ot (aJ E 21 r)) ∧ ∃ r, px_at L f ob (aJ E 21 r)
theorem q_scale {a b a' b' g c : Nat} (hc : 0 < c) (h1 : a' * c = a) (h2 : b' * c = b) : a' / Nat.gcd a' b' = a / Nat.gcd a b ∧ b' / Nat.gcd a' b' = b / Nat.gcd a b := by
  have e : Nat.gcd a b = Nat.gcd a' b' * c := by rw [← h1, ← h2, Nat.gcd_mul_right]
  rw [e, ← h1, ← h2]
  exact ⟨(Nat.mul_div_mul_right _ _ hc).symm, (Nat.mul_div_mul_right _ _ hc).symm⟩
theorem fit_iff {b' X Y : Nat} {D V : Int} (eN : fN D V = if b' = 0 then (X : Int) else -(X : Int)) (eM : fM D V = Y) (hb2 : b' < 2) : fit D V ↔ (X < 2 ^ 63 ∨ (b' = 1 ∧ X = 2 ^ 63)) ∧ Y < 2 ^ 63 := by
  unfold fit
  rw [eN, eM]
  rcases (show b' = 0 ∨ b' = 1 by omega) with q | q
  · subst q; rw [if_pos rfl]; omega
  · subst q; rw [if_neg (by decide)]; omega
theorem two_of {b : Nat} (h : b < 2) : b = 0 ∨ b = 1 := by omega
theorem big_of {X : Nat} {b : Nat} (h : X < 2 ^ 63 ∨ (b = 1 ∧ X = 2 ^ 63)) : X ≤ 2 ^ 63 := by omega
theorem sml_of {X : Nat} (h : X < 2 ^ 63 ∨ (0 = 1 ∧ X = 2 ^ 63)) : X < 2 ^ 63 := by omega
theorem iff_a {P Q : Prop} {x y : Nat} (h1 : 2147483648 ≤ x ↔ P) (h2 : 2147483648 ≤ y ↔ Q) (hx : 2147483648 ≤ x) (hy : 2147483648 ≤ y) : P ↔ Q := ⟨fun _ => h2.mp hy, fun _ => h1.mp hx⟩
theorem iff_b {P Q : Prop} {x y : Nat} (h1 : 2147483648 ≤ x ↔ P) (h2 : 2147483648 ≤ y ↔ Q) (hx : x < 2147483648) (hy : y < 2147483648) : P ↔ Q := ⟨fun h => absurd (h1.mpr h) (by omega), fun h => absurd (h2.mpr h) (by omega)⟩
theorem iff_c {P Q : Prop} {x y : Nat} (h1 : 2147483648 ≤ x ↔ P) (h2 : 2147483648 ≤ y ↔ Q) (hx : 2147483648 ≤ x) (hy : y < 2147483648) : ¬ (P ↔ Q) := fun h => absurd (h2.mpr (h.mp (h1.mp hx))) (by omega)
theorem c_find (l : Launch) (E : px_E) (L : List Nat) (f : Nat → va_E) (lt a b w : Nat) {tp bt ot ob : Nat} {D V : Int} (hOK : lOK E L f lt tp bt ot ob) (hA : cR E L f a D) (hB : cR E L f b V) (hV : V ≠ 0) (ha : a ≠ tp ∧ a ≠ bt ∧ a ≠ ot ∧ a ≠ ob) (hb : b ≠ tp ∧ b ≠ bt ∧ b ≠ ot ∧ b ≠ ob) (h1 : 1 ≤ w) (hw : w ≤ 21) (hDw : D.natAbs < 4294967296 ^ w) (hVw : V.natAbs < 4294967296 ^ w) : px_M l yX2_find wsX2_find (px_rm 5 123) E L f [.ref lt, .ref a, .ref b, .int (nI w)] (px_i L (fun z f' => lOK E L f' lt tp bt ot ob ∧ (∀ c, c ≠ lt → c ≠ tp → c ≠ bt → c ≠ ot → c ≠ ob → f' c = f c) ∧ ((z = nI 1 ∧ fit D V ∧ ∃ nu de : Int64, nu.toInt = fN D V ∧ de.toInt = fM D V ∧ px_at L f' lt (.inr (1, lF tp bt ot ob nu de))) ∨ (z = nI 0 ∧ ¬ fit D V)))) := by
  refine px_M.of (cc := cX2_find) (maxL := 5) (ret := (some .boolean)) (lv := [(0, .ref lt), (1, .ref a), (2, .ref b), (3, .int (nI w))]) (by decide) rfl (Nat.le_of_ble_eq_true rfl) rfl ?_
  intro p e s m below meth c A hC hnm
  obtain ⟨Q, hQ⟩ : ∃ Q, Q = MQ below (px_Q E (px_i L (fun z f' => lOK E L f' lt tp bt ot ob ∧ (∀ c, c ≠ lt → c ≠ tp → c ≠ bt → c ≠ ot → c ≠ ob → f' c = f c) ∧ ((z = nI 1 ∧ fit D V ∧ ∃ nu de : Int64, nu.toInt = fN D V ∧ de.toInt = fM D V ∧ px_at L f' lt (.inr (1, lF tp bt ot ob nu de))) ∨ (z = nI 0 ∧ ¬ fit D V)))) A) [.ref lt, .ref a, .ref b, .int (nI w)].toArray s (px_rm 5 123).cells (px_rm 5 123).slots A := ⟨_, rfl⟩
  rw [← hQ]
  obtain ⟨hD, ⟨nu0, de0, hq⟩, ⟨r1, ht⟩, ⟨r2, hbt⟩, ⟨r3, hot⟩, ⟨r4, hob⟩⟩ := hOK
  obtain ⟨n1, n2, n3, n4, n5, n6⟩ := id hD
  obtain ⟨xa, hxa, dxa, sxa⟩ := hA
  obtain ⟨xb, hxb, dxb, sxb⟩ := hB
  have hqt : lt ≠ tp := hq.nk ht rfl
  have hqb : lt ≠ bt := hq.nk hbt rfl
  have hqo : lt ≠ ot := hq.nk hot rfl
  have hqp : lt ≠ ob := hq.nk hob rfl
  refine px_aload_n hC 1 rfl dX2_find_0 ?_
  refine px_callSi (st := []) (nn := 1) hC (c_isZero l E L f a xa hxa dxa) gX2_find_X1_isZero rfl (by decide +kernel) (by decide) (Nat.le_of_ble_eq_true rfl) (by decide) rfl rfl dX2_find_1 (fun z f1 hz1 => ?_)
  obtain ⟨rfl, hz1⟩ := hz1
  rcases hz1 with ⟨rfl, hz1⟩ | ⟨rfl, hz1⟩
  · have hD0 : D = 0 := by rw [← sxa]; exact (sg_0 dxa).mp hz1
    have eN : fN D V = 0 := by unfold fN; rw [hD0]; simp
    have eM : fM D V = 1 := by unfold fM; rw [hD0, Int.natAbs_zero, Nat.gcd_zero_left]; exact Nat.div_self (by omega)
    refine px_if_eq hC 19 dX2_find_4 (by decide) (fun q9 => absurd q9 (by decide)) (fun _ => ?_)
    refine px_aload_n hC 0 rfl dX2_find_7 ?_
    refine px_lconst (v := lN 0) hC (by decide) dX2_find_8 ?_
    refine px_put (C := RX2) (T := TX2) (N := 6) (fs' := lF tp bt ot ob (lN 0) de0) hC hq rfl kkX2_find_X2 4 (by decide) tyX2 tyX2_ok nmX2 flX2_find_24 rfl rfl rfl (Nat.le_of_ble_eq_true rfl) rfl dX2_find_9 ?_
    refine px_aload_n hC 0 rfl dX2_find_12 ?_
    refine px_lconst (v := lN 1) hC (by decide) dX2_find_13 ?_
    refine px_put (C := RX2) (T := TX2) (N := 6) (fs' := lF tp bt ot ob (lN 0) (lN 1)) hC hq.self rfl kkX2_find_X2 5 (by decide) tyX2 tyX2_ok nmX2 flX2_find_28 rfl rfl rfl (Nat.le_of_ble_eq_true rfl) rfl dX2_find_14 ?_
    rw [px_uu]
    refine px_iconst (v := nI 1) hC (by decide) dX2_find_17 ?_
    subst hQ
    exact px_zret hC rfl (by decide) (⟨_, rfl, rfl, ⟨hD, ⟨_, _, hq.self⟩, ⟨r1, ht.up (fun h => hqt h.symm)⟩, ⟨r2, hbt.up (fun h => hqb h.symm)⟩, ⟨r3, hot.up (fun h => hqo h.symm)⟩, ⟨r4, hob.up (fun h => hqp h.symm)⟩⟩, fun c a1 _ _ _ _ => va_up_ne _ _ a1, Or.inl ⟨rfl, ⟨by rw [eN]; decide, by rw [eN]; decide, by rw [eM]; decide⟩, lN 0, lN 1, by rw [eN]; decide, by rw [eM]; decide, hq.self⟩⟩) dX2_find_18
  have hDn : D ≠ 0 := fun h => hz1 ((sg_0 dxa).mpr (by rw [sxa]; exact h))
  have hDa : D.natAbs ≠ 0 := Int.natAbs_ne_zero.mpr hDn
  have hVa : V.natAbs ≠ 0 := Int.natAbs_ne_zero.mpr hV
  have rest : ∀ b' : Nat, b' < 2 → (b' = 0 ↔ (D < 0 ↔ V < 0)) → px p l e (px_rm 5 123) s m [.ref lt, .ref a, .ref b, .int (nI w)].toArray below meth c 5 E A s.heap L (f1) 0 0 Q 35 [(0, .ref lt), (1, .ref a), (2, .ref b), (3, .int (nI w))] [.int (nI b')] := by
    intro b' hb2 hbs
    refine px_istore (lv' := [(0, .ref lt), (1, .ref a), (2, .ref b), (3, .int (nI w)), (4, .int (nI b'))]) hC [1, 2, 3, 4, 0] dX2_find_35 (by decide) rfl ?_
    refine px_aload_n hC 1 rfl dX2_find_37 ?_
    refine px_aload_n hC 0 rfl dX2_find_38 ?_
    refine px_get (C := RX2) (T := TX2) (N := 6) hC hq rfl kkX2_find_X2 0 (by decide) flX2_find_9 rfl dX2_find_39 ?_
    refine px_callSv (st := []) (nn := 2) hC (c_copyM l E L _ a tp xa r1 hxa ht ha.1 dxa) gX2_find_X1_copyMagnitude rfl (by decide +kernel) (by decide) (Nat.le_of_ble_eq_true rfl) (by decide) rfl rfl dX2_find_42 (fun f2 h2 => ?_)
    obtain ⟨x1, dx1, vx1, rfl⟩ := h2
    rw [sxa] at vx1
    refine px_aload_n hC 2 rfl dX2_find_45 ?_
    refine px_aload_n hC 0 rfl dX2_find_46 ?_
    refine px_get (C := RX2) (T := TX2) (N := 6) hC (hq.up hqt) rfl kkX2_find_X2 1 (by decide) flX2_find_15 rfl dX2_find_47 ?_
    refine px_callSv (st := []) (nn := 2) hC (c_copyM l E L _ b bt xb r2 (hxb.up hb.1) (hbt.up (fun h => n1 h.symm)) hb.2.1 dxb) gX2_find_X1_copyMagnitude rfl (by decide +kernel) (by decide) (Nat.le_of_ble_eq_true rfl) (by decide) rfl rfl dX2_find_50 (fun f2 h2 => ?_)
    obtain ⟨y1, dy1, vy1, rfl⟩ := h2
    rw [sxb] at vy1
    refine px_aload_n hC 0 rfl dX2_find_53 ?_
    refine px_iload_n hC 3 rfl dX2_find_54 ?_
    refine px_callVv (C := RX2) (T := TX2) (N := 6) (st := []) (nn := 1) hC (c_rmCT l E L _ lt w (x := x1) (y := y1) ((hq.up hqt).up hqb) (ht.self.up n1) ((hbt.up (fun h => n1 h.symm)).self) n1 dx1 dy1 hw (hz_of (by rw [vx1]; exact hDw)) (hz_of (by rw [vy1]; exact hVw)) (by rw [vx1]; exact hDa) (by rw [vy1]; exact hVa)) ((hq.up hqt).up hqb) rfl gX2_find_X2_removeCommonTwos rfl (by decide +kernel) (by decide) (Nat.le_of_ble_eq_true rfl) (by decide) rfl rfl dX2_find_55 (fun f2 h2 => ?_)
    obtain ⟨x2, y2, sft, dx2, dy2, zx2, zy2, vx2, vy2, hodd, rfl⟩ := h2
    rw [px_uc _ _ _ (fun h => n1 h.symm), px_uu, px_uu]
    refine px_aload_n hC 0 rfl dX2_find_58 ?_
    refine px_iload_n hC 3 rfl dX2_find_59 ?_
    refine px_callVv (C := RX2) (T := TX2) (N := 6) (st := []) (nn := 1) hC (c_rmCO l E L _ lt w (x := x2) (y := y2) ((hq.up hqt).up hqb) hD (ht.self.up n1) ((hbt.up (fun h => n1 h.symm)).self) ((hot.up (fun h => n2 h.symm)).up (fun h => n4 h.symm)) ((hob.up (fun h => n3 h.symm)).up (fun h => n5 h.symm)) dx2 dy2 h1 hw zx2 zy2 (fun h => by rw [h, Nat.zero_mul, vx1] at vx2; exact hDa vx2.symm) (fun h => by rw [h, Nat.zero_mul, vy1] at vy2; exact hVa vy2.symm) hodd) ((hq.up hqt).up hqb) rfl gX2_find_X2_removeCommonOddFactor rfl (by decide +kernel) (by decide) (Nat.le_of_ble_eq_true rfl) (by decide) rfl rfl dX2_find_60 (fun f3 h3 => ?_)
    obtain ⟨x3, y3, dx3, dy3, vx3, vy3, hpt, hpb, hpo, hpp, hfr⟩ := h3
    have hsc := q_scale (g := 0) (Nat.pow_pos (n := sft) (show 0 < 2 by decide)) vx2 vy2
    rw [hsc.1, vx1, vy1] at vx3
    rw [hsc.2, vx1, vy1] at vy3
    have fr2 : ∀ c, c ≠ tp → c ≠ bt → c ≠ ot → c ≠ ob → f3 c = f1 c := fun c a1 a2 a3 a4 => by rw [hfr c a1 a2 a3 a4, va_up_ne _ _ a2, va_up_ne _ _ a1]
    have hq3 : px_at L f3 lt (.inr (1, lF tp bt ot ob nu0 de0)) := hq.fr (fr2 lt hqt hqb hqo hqp)
    have eM : fM D V = vl 4294967296 y3 21 := vy3.symm
    have eN : fN D V = if b' = 0 then (vl 4294967296 x3 21 : Int) else -(vl 4294967296 x3 21 : Int) := by
      unfold fN
      rw [vx3]
      by_cases q : b' = 0
      · rw [if_pos (hbs.mp q), if_pos q]
      · rw [if_neg (fun h => q (hbs.mpr h)), if_neg q]
    have ok3 : lOK E L f3 lt tp bt ot ob := ⟨hD, ⟨_, _, hq3⟩, ⟨_, hpt⟩, ⟨_, hpb⟩, hpo, hpp⟩
    refine px_aload_n hC 0 rfl dX2_find_63 ?_
    refine px_get (C := RX2) (T := TX2) (N := 6) hC hq3 rfl kkX2_find_X2 0 (by decide) flX2_find_9 rfl dX2_find_64 ?_
    refine px_iload hC 4 rfl dX2_find_67 ?_
    refine px_callSi (st := []) (nn := 2) hC (c_fits l E L _ tp b' x3 hpt dx3 hb2) gX2_find_X2_fitsLong rfl (by decide +kernel) (by decide) (Nat.le_of_ble_eq_true rfl) (by decide) rfl rfl dX2_find_69 (fun z4 f4 h4 => ?_)
    obtain ⟨rfl, h4⟩ := h4
    rcases h4 with ⟨rfl, h4, s4⟩ | ⟨rfl, h4⟩
    · refine px_if_eq hC 86 dX2_find_72 (by decide) (fun q9 => absurd q9 (by decide)) (fun _ => ?_)
      refine px_aload_n hC 0 rfl dX2_find_75 ?_
      refine px_get (C := RX2) (T := TX2) (N := 6) hC hq3 rfl kkX2_find_X2 1 (by decide) flX2_find_15 rfl dX2_find_76 ?_
      refine px_iconst (v := nI 0) hC (by decide) dX2_find_79 ?_
      refine px_callSi (st := []) (nn := 2) hC (c_fits l E L _ bt 0 y3 hpb dy3 (by decide)) gX2_find_X2_fitsLong rfl (by decide +kernel) (by decide) (Nat.le_of_ble_eq_true rfl) (by decide) rfl rfl dX2_find_80 (fun z5 f5 h5 => ?_)
      obtain ⟨rfl, h5⟩ := h5
      rcases h5 with ⟨rfl, h5, s5⟩ | ⟨rfl, h5⟩
      · have h5' : vl 4294967296 y3 21 < 2 ^ 63 := by rcases h5 with q | ⟨q, -⟩; exact q; exact absurd q (by decide)
        have hfit : fit D V := (fit_iff eN eM hb2).mpr ⟨h4, h5'⟩
        refine px_if_ne hC 88 dX2_find_83 (by decide) (fun _ => ?_) (fun q9 => absurd q9 (by decide))
        refine px_aload_n hC 0 rfl dX2_find_88 ?_
        refine px_iload hC 4 rfl dX2_find_89 ?_
        rcases two_of hb2 with q | q
        · subst q
          refine px_if_eq hC 105 dX2_find_91 (by decide) (fun _ => ?_) (fun q9 => (q9 (by decide)).elim)
          refine px_aload_n hC 0 rfl dX2_find_105 ?_
          refine px_get (C := RX2) (T := TX2) (N := 6) hC hq3 rfl kkX2_find_X2 0 (by decide) flX2_find_9 rfl dX2_find_106 ?_
          refine px_callSl (st := [.ref lt]) (nn := 1) hC (c_lowB l E L _ tp x3 hpt dx3) gX2_find_X2_lowBits rfl (by decide +kernel) (by decide) (Nat.le_of_ble_eq_true rfl) (by decide) rfl rfl dX2_find_109 (fun z6 f6 h6 => ?_)
          obtain ⟨rfl, rfl⟩ := h6
          rw [← s4]
          refine px_put (C := RX2) (T := TX2) (N := 6) (fs' := lF tp bt ot ob (lN (vl 4294967296 x3 21)) de0) hC hq3 rfl kkX2_find_X2 4 (by decide) tyX2 tyX2_ok nmX2 flX2_find_24 rfl rfl rfl (Nat.le_of_ble_eq_true rfl) rfl dX2_find_112 ?_
          refine px_aload_n hC 0 rfl dX2_find_115 ?_
          refine px_aload_n hC 0 rfl dX2_find_116 ?_
          refine px_get (C := RX2) (T := TX2) (N := 6) hC hq3.self rfl kkX2_find_X2 1 (by decide) flX2_find_15 rfl dX2_find_117 ?_
          refine px_callSl (st := [.ref lt]) (nn := 1) hC (c_lowB l E L _ bt y3 (hpb.up (fun h => hqb h.symm)) dy3) gX2_find_X2_lowBits rfl (by decide +kernel) (by decide) (Nat.le_of_ble_eq_true rfl) (by decide) rfl rfl dX2_find_120 (fun z7 f7 h7 => ?_)
          obtain ⟨rfl, rfl⟩ := h7
          rw [← s5]
          refine px_put (C := RX2) (T := TX2) (N := 6) (fs' := lF tp bt ot ob (lN (vl 4294967296 x3 21)) (lN (vl 4294967296 y3 21))) hC hq3.self rfl kkX2_find_X2 5 (by decide) tyX2 tyX2_ok nmX2 flX2_find_28 rfl rfl rfl (Nat.le_of_ble_eq_true rfl) rfl dX2_find_123 ?_
          rw [px_uu]
          refine px_iconst (v := nI 1) hC (by decide) dX2_find_126 ?_
          subst hQ
          exact px_zret hC rfl (by decide) (⟨_, rfl, rfl, ⟨hD, ⟨_, _, hq3.self⟩, ⟨_, hpt.up (fun h => hqt h.symm)⟩, ⟨_, hpb.up (fun h => hqb h.symm)⟩, (by obtain ⟨r, hr⟩ := hpo; exact ⟨r, hr.up (fun h => hqo h.symm)⟩), (by obtain ⟨r, hr⟩ := hpp; exact ⟨r, hr.up (fun h => hqp h.symm)⟩)⟩, fun c a1 a2 a3 a4 a5 => by rw [va_up_ne _ _ a1]; exact fr2 c a2 a3 a4 a5, Or.inl ⟨rfl, hfit, _, _, by rw [eN, if_pos rfl]; exact pk_lT (sml_of h4), by rw [eM]; exact pk_lT h5', hq3.self⟩⟩) dX2_find_127
        · subst q
          refine px_if_eq hC 105 dX2_find_91 (by decide) (fun q9 => absurd q9 (by decide)) (fun _ => ?_)
          refine px_aload_n hC 0 rfl dX2_find_94 ?_
          refine px_get (C := RX2) (T := TX2) (N := 6) hC hq3 rfl kkX2_find_X2 0 (by decide) flX2_find_9 rfl dX2_find_95 ?_
          refine px_callSl (st := [.ref lt]) (nn := 1) hC (c_lowB l E L _ tp x3 hpt dx3) gX2_find_X2_lowBits rfl (by decide +kernel) (by decide) (Nat.le_of_ble_eq_true rfl) (by decide) rfl rfl dX2_find_98 (fun z6 f6 h6 => ?_)
          obtain ⟨rfl, rfl⟩ := h6
          rw [← s4]
          refine px_lneg hC dX2_find_101 ?_
          refine px_goto hC 112 dX2_find_102 (by decide) ?_
          refine px_put (C := RX2) (T := TX2) (N := 6) (fs' := lF tp bt ot ob (-(lN (vl 4294967296 x3 21))) de0) hC hq3 rfl kkX2_find_X2 4 (by decide) tyX2 tyX2_ok nmX2 flX2_find_24 rfl rfl rfl (Nat.le_of_ble_eq_true rfl) rfl dX2_find_112 ?_
          refine px_aload_n hC 0 rfl dX2_find_115 ?_
          refine px_aload_n hC 0 rfl dX2_find_116 ?_
          refine px_get (C := RX2) (T := TX2) (N := 6) hC hq3.self rfl kkX2_find_X2 1 (by decide) flX2_find_15 rfl dX2_find_117 ?_
          refine px_callSl (st := [.ref lt]) (nn := 1) hC (c_lowB l E L _ bt y3 (hpb.up (fun h => hqb h.symm)) dy3) gX2_find_X2_lowBits rfl (by decide +kernel) (by decide) (Nat.le_of_ble_eq_true rfl) (by decide) rfl rfl dX2_find_120 (fun z7 f7 h7 => ?_)
          obtain ⟨rfl, rfl⟩ := h7
          rw [← s5]
          refine px_put (C := RX2) (T := TX2) (N := 6) (fs' := lF tp bt ot ob (-(lN (vl 4294967296 x3 21))) (lN (vl 4294967296 y3 21))) hC hq3.self rfl kkX2_find_X2 5 (by decide) tyX2 tyX2_ok nmX2 flX2_find_28 rfl rfl rfl (Nat.le_of_ble_eq_true rfl) rfl dX2_find_123 ?_
          rw [px_uu]
          refine px_iconst (v := nI 1) hC (by decide) dX2_find_126 ?_
          subst hQ
          exact px_zret hC rfl (by decide) (⟨_, rfl, rfl, ⟨hD, ⟨_, _, hq3.self⟩, ⟨_, hpt.up (fun h => hqt h.symm)⟩, ⟨_, hpb.up (fun h => hqb h.symm)⟩, (by obtain ⟨r, hr⟩ := hpo; exact ⟨r, hr.up (fun h => hqo h.symm)⟩), (by obtain ⟨r, hr⟩ := hpp; exact ⟨r, hr.up (fun h => hqp h.symm)⟩)⟩, fun c a1 a2 a3 a4 a5 => by rw [va_up_ne _ _ a1]; exact fr2 c a2 a3 a4 a5, Or.inl ⟨rfl, hfit, _, _, by rw [eN, if_neg (by decide)]; exact lN_neg (big_of h4), by rw [eM]; exact pk_lT h5', hq3.self⟩⟩) dX2_find_127
      · refine px_if_ne hC 88 dX2_find_83 (by decide) (fun q9 => (q9 (by decide)).elim) (fun _ => ?_)
        refine px_iconst (v := nI 0) hC (by decide) dX2_find_86 ?_
        subst hQ
        exact px_zret hC rfl (by decide) (⟨_, rfl, rfl, ok3, fun c a1 a2 a3 a4 a5 => fr2 c a2 a3 a4 a5, Or.inr ⟨rfl, fun h => h5 (Or.inl ((fit_iff eN eM hb2).mp h).2)⟩⟩) dX2_find_87
    · refine px_if_eq hC 86 dX2_find_72 (by decide) (fun _ => ?_) (fun q9 => (q9 (by decide)).elim)
      refine px_iconst (v := nI 0) hC (by decide) dX2_find_86 ?_
      subst hQ
      exact px_zret hC rfl (by decide) (⟨_, rfl, rfl, ok3, fun c a1 a2 a3 a4 a5 => fr2 c a2 a3 a4 a5, Or.inr ⟨rfl, fun h => h4 ((fit_iff eN eM hb2).mp h).1⟩⟩) dX2_find_87
  refine px_if_eq hC 19 dX2_find_4 (by decide) (fun _ => ?_) (fun q9 => (q9 (by decide)).elim)
  refine px_aload_n hC 1 rfl dX2_find_19 ?_
  refine px_callSi (st := []) (nn := 1) hC (c_isNeg l E L _ a xa hxa dxa) gX2_find_X1_isNegative rfl (by decide +kernel) (by decide) (Nat.le_of_ble_eq_true rfl) (by decide) rfl rfl dX2_find_20 (fun z8 f8 h8 => ?_)
  obtain ⟨rfl, h8⟩ := h8
  refine px_aload_n hC 2 rfl dX2_find_23 ?_
  refine px_callSi (st := [.int z8]) (nn := 1) hC (c_isNeg l E L _ b xb hxb dxb) gX2_find_X1_isNegative rfl (by decide +kernel) (by decide) (Nat.le_of_ble_eq_true rfl) (by decide) rfl rfl dX2_find_24 (fun z9 f9 h9 => ?_)
  obtain ⟨rfl, h9⟩ := h9
  have g1 := sg_neg dxa
  have g2 := sg_neg dxb
  rw [sxa] at g1
  rw [sxb] at g2
  rcases h8 with ⟨rfl, h8⟩ | ⟨rfl, h8⟩ <;> rcases h9 with ⟨rfl, h9⟩ | ⟨rfl, h9⟩
  · refine px_icmp_eq hC 34 dX2_find_27 (by decide) (fun _ => ?_) (fun q9 => (q9 (by decide)).elim)
    refine px_iconst (v := nI 0) hC (by decide) dX2_find_34 ?_
    exact rest 0 (by decide) ⟨fun _ => iff_a g1 g2 h8 h9, fun _ => rfl⟩
  · refine px_icmp_eq hC 34 dX2_find_27 (by decide) (fun q9 => absurd q9 (by decide)) (fun _ => ?_)
    refine px_iconst (v := nI 1) hC (by decide) dX2_find_30 ?_
    refine px_goto hC 35 dX2_find_31 (by decide) ?_
    exact rest 1 (by decide) ⟨fun h => absurd h (by decide), fun h => absurd h (iff_c g1 g2 h8 h9)⟩
  · refine px_icmp_eq hC 34 dX2_find_27 (by decide) (fun q9 => absurd q9 (by decide)) (fun _ => ?_)
    refine px_iconst (v := nI 1) hC (by decide) dX2_find_30 ?_
    refine px_goto hC 35 dX2_find_31 (by decide) ?_
    exact rest 1 (by decide) ⟨fun h => absurd h (by decide), fun h => absurd h.symm (iff_c g2 g1 h9 h8)⟩
  · refine px_icmp_eq hC 34 dX2_find_27 (by decide) (fun _ => ?_) (fun q9 => (q9 (by decide)).elim)
    refine px_iconst (v := nI 0) hC (by decide) dX2_find_34 ?_
    exact rest 0 (by decide) ⟨fun _ => iff_b g1 g2 h8 h9, fun _ => rfl⟩
end
section
/-! ===== RowReduction: its state ===== -/
abbrev xF (sy nm dn el lt : Nat) (sz td : Int32) : List Value := [.ref sy, .ref nm, .ref dn, .ref el, .ref lt, .int sz, .int td]
def fX (rr sy nm dn el lt cs np od wk tp bt ot ob : Nat) (ad0 ra : Nat → Nat) (b : Nat) : Prop := b = rr ∨ b = sy ∨ b = nm ∨ b = dn ∨ eA el cs np od wk ad0 b ∨ b = lt ∨ b = tp ∨ b = bt ∨ b = ot ∨ b = ob ∨ ∃ i, i < 10 ∧ b = ra i
def xG (rr sy nm dn el lt cs np od wk tp bt ot ob : Nat) (ad0 ra : Nat → Nat) : Prop := (∀ i j, i < 10 → j < 10 → ra i = ra j → i = j) ∧ nm ≠ dn ∧ ∀ b, (b = rr ∨ b = sy ∨ b = nm ∨ b = dn ∨ b = lt ∨ b = tp ∨ b = bt ∨ b = ot ∨ b = ob ∨ ∃ i, i < 10 ∧ b = ra i) → ¬ eA el cs np od wk ad0 b
def XS (E : px_E) (L : List Nat) (f : Nat → va_E) (rr sy nm dn el lt cs np od wk tp bt ot ob : Nat) (ad0 ra : Nat → Nat) (n : Nat) (w : Nat → Nat → Int32) (td : Nat) (nu de : Nat → Int64) : Prop := xG rr sy nm dn el lt cs np od wk tp bt ot ob ad0 ra ∧ 1 ≤ n ∧ n ≤ 10 ∧ td < 2 ∧ px_at L f rr (.inr (2, xF sy nm dn el lt (nI n) (nI td))) ∧ (∃ sr : Nat → Option Nat, px_at L f sy (aII E 10 sr) ∧ ∀ i, i < 10 → sr i = some (ra i)) ∧ (∀ i, i < 10 → px_at L f (ra i) (aI E 11 (w i))) ∧ px_at L f nm (aJ E 10 nu) ∧ px_at L f dn (aJ E 10 de) ∧ eOK E L f el cs np od wk ad0 ∧ lOK E L f lt tp bt ot ob
def inb (a b : Int32) (n : Nat) : Prop := ∃ i j, a = nI i ∧ b = nI j ∧ i < n ∧ j ≤ n
def ink (a : Int32) (n : Nat) : Prop := ∃ i, a = nI i ∧ i < n
theorem nI_inj2 {i j : Nat} (hi : i < 2 ^ 31) (hj : j < 2 ^ 31) (h : nI i = nI j) : i = j := (nI_eq hi hj).mp h
theorem flX3_hasNumber_35 : Cond.fieldLink RX3 35 "RowReduction" "size" "I" ∈ wsX3_hasNumber := by decide +kernel
theorem kkX3_hasNumber_X3 : ∀ w ∈ wsX30, w ∈ wsX3_hasNumber := fun _ h => List.mem_cons_of_mem _ (List.mem_append_right _ h)
theorem flX3_isTold_39 : Cond.fieldLink RX3 39 "RowReduction" "told" "Z" ∈ wsX3_isTold := by decide +kernel
theorem kkX3_isTold_X3 : ∀ w ∈ wsX30, w ∈ wsX3_isTold := fun _ h => List.mem_cons_of_mem _ (List.mem_append_right _ h)
theorem flX3_isTold_35 : Cond.fieldLink RX3 35 "RowReduction" "size" "I" ∈ wsX3_isTold := by decide +kernel
theorem flX3_above_14 : Cond.fieldLink RX3 14 "RowReduction" "numerators" "[J" ∈ wsX3_above := by decide +kernel
theorem kkX3_above_X3 : ∀ w ∈ wsX30, w ∈ wsX3_above := fun _ h => List.mem_cons_of_mem _ (List.mem_append_right _ h)
theorem flX3_under_18 : Cond.fieldLink RX3 18 "RowReduction" "denominators" "[J" ∈ wsX3_under := by decide +kernel
theorem kkX3_under_X3 : ∀ w ∈ wsX30, w ∈ wsX3_under := fun _ h => List.mem_cons_of_mem _ (List.mem_append_right _ h)
theorem flX3_get_11 : Cond.fieldLink RX3 11 "RowReduction" "system" "[[I" ∈ wsX3_get := by decide +kernel
theorem kkX3_get_X3 : ∀ w ∈ wsX30, w ∈ wsX3_get := fun _ h => List.mem_cons_of_mem _ (List.mem_append_right _ h)
theorem c_has (l : Launch) (E : px_E) (L : List Nat) (f : Nat → va_E) (rr n : Nat) (a b : Int32) {sy nm dn el lt : Nat} {td : Int32} (hq : px_at L f rr (.inr (2, xF sy nm dn el lt (nI n) td))) (hn : n ≤ 10) : px_M l yX3_hasNumber wsX3_hasNumber (px_rm 0 0) E L f [.ref rr, .int a, .int b] (px_i L (fun z f' => f' = f ∧ ((z = nI 1 ∧ inb a b n) ∨ (z = nI 0 ∧ ¬ inb a b n)))) := by
  refine px_M.of (cc := cX3_hasNumber) (maxL := 3) (ret := (some .boolean)) (lv := [(0, .ref rr), (1, .int a), (2, .int b)]) (by decide) rfl (Nat.le_of_ble_eq_true rfl) rfl ?_
  intro p e s m below meth c A hC hnm
  obtain ⟨Q, hQ⟩ : ∃ Q, Q = MQ below (px_Q E (px_i L (fun z f' => f' = f ∧ ((z = nI 1 ∧ inb a b n) ∨ (z = nI 0 ∧ ¬ inb a b n)))) A) [.ref rr, .int a, .int b].toArray s (px_rm 0 0).cells (px_rm 0 0).slots A := ⟨_, rfl⟩
  rw [← hQ]
  refine px_iload_n hC 1 rfl dX3_hasNumber_0 ?_
  by_cases h1 : a < 0
  · refine px_if_lt hC 28 dX3_hasNumber_1 (by decide) (fun _ => ?_) (fun q9 => (q9 (h1)).elim)
    refine px_iconst (v := nI 0) hC (by decide) dX3_hasNumber_28 ?_
    subst hQ
    exact px_zret hC rfl (by decide) (⟨_, rfl, rfl, rfl, Or.inr ⟨rfl, fun ⟨i, j, e1, _, h, _⟩ => nI_pos (n := i) (by omega) (by rw [← e1]; exact h1)⟩⟩) dX3_hasNumber_29
  · obtain ⟨i, hi, ei⟩ := nI_of h1
    subst ei
    refine px_if_lt hC 28 dX3_hasNumber_1 (by decide) (fun q9 => absurd q9 (h1)) (fun _ => ?_)
    refine px_iload_n hC 1 rfl dX3_hasNumber_4 ?_
    refine px_aload_n hC 0 rfl dX3_hasNumber_5 ?_
    refine px_get (C := RX3) (T := TX3) (N := 7) hC hq rfl kkX3_hasNumber_X3 5 (by decide) flX3_hasNumber_35 rfl dX3_hasNumber_6 ?_
    by_cases h2 : n ≤ i
    · refine px_icmp_ge hC 28 dX3_hasNumber_9 (by decide) (fun _ => ?_) (fun q9 => (q9 (nI_le h2 hi)).elim)
      refine px_iconst (v := nI 0) hC (by decide) dX3_hasNumber_28 ?_
      subst hQ
      exact px_zret hC rfl (by decide) (⟨_, rfl, rfl, rfl, Or.inr ⟨rfl, fun ⟨i', j, e1, _, h, _⟩ => by have := nI_inj2 hi (by omega) e1; omega⟩⟩) dX3_hasNumber_29
    · refine px_icmp_ge hC 28 dX3_hasNumber_9 (by decide) (fun q9 => absurd q9 (nI_ge (by omega) (by omega))) (fun _ => ?_)
      refine px_iload_n hC 2 rfl dX3_hasNumber_12 ?_
      by_cases h3 : b < 0
      · refine px_if_lt hC 28 dX3_hasNumber_13 (by decide) (fun _ => ?_) (fun q9 => (q9 (h3)).elim)
        refine px_iconst (v := nI 0) hC (by decide) dX3_hasNumber_28 ?_
        subst hQ
        exact px_zret hC rfl (by decide) (⟨_, rfl, rfl, rfl, Or.inr ⟨rfl, fun ⟨i', j, _, e2, _, h⟩ => nI_pos (n := j) (by omega) (by rw [← e2]; exact h3)⟩⟩) dX3_hasNumber_29
      · obtain ⟨j, hj, ej⟩ := nI_of h3
        subst ej
        refine px_if_lt hC 28 dX3_hasNumber_13 (by decide) (fun q9 => absurd q9 (h3)) (fun _ => ?_)
        refine px_iload_n hC 2 rfl dX3_hasNumber_16 ?_
        refine px_aload_n hC 0 rfl dX3_hasNumber_17 ?_
        refine px_get (C := RX3) (T := TX3) (N := 7) hC hq rfl kkX3_hasNumber_X3 5 (by decide) flX3_hasNumber_35 rfl dX3_hasNumber_18 ?_
        by_cases h4 : n < j
        · refine px_icmp_gt hC 28 dX3_hasNumber_21 (by decide) (fun _ => ?_) (fun q9 => (q9 (nI_lt h4 hj)).elim)
          refine px_iconst (v := nI 0) hC (by decide) dX3_hasNumber_28 ?_
          subst hQ
          exact px_zret hC rfl (by decide) (⟨_, rfl, rfl, rfl, Or.inr ⟨rfl, fun ⟨i', j', _, e2, _, h⟩ => by have := nI_inj2 hj (by omega) e2; omega⟩⟩) dX3_hasNumber_29
        · refine px_icmp_gt hC 28 dX3_hasNumber_21 (by decide) (fun q9 => absurd q9 (nI_nlt (by omega) (by omega))) (fun _ => ?_)
          refine px_iconst (v := nI 1) hC (by decide) dX3_hasNumber_24 ?_
          refine px_goto hC 29 dX3_hasNumber_25 (by decide) ?_
          subst hQ
          exact px_zret hC rfl (by decide) (⟨_, rfl, rfl, rfl, Or.inl ⟨rfl, i, j, rfl, rfl, by omega, by omega⟩⟩) dX3_hasNumber_29
theorem c_told (l : Launch) (E : px_E) (L : List Nat) (f : Nat → va_E) (rr n td : Nat) (a : Int32) {sy nm dn el lt : Nat} (hq : px_at L f rr (.inr (2, xF sy nm dn el lt (nI n) (nI td)))) (hn : n ≤ 10) (htd : td < 2) : px_M l yX3_isTold wsX3_isTold (px_rm 0 0) E L f [.ref rr, .int a] (px_i L (fun z f' => f' = f ∧ ((z = nI 1 ∧ td = 1 ∧ ink a n) ∨ (z = nI 0 ∧ ¬ (td = 1 ∧ ink a n))))) := by
  refine px_M.of (cc := cX3_isTold) (maxL := 2) (ret := (some .boolean)) (lv := [(0, .ref rr), (1, .int a)]) (by decide) rfl (Nat.le_of_ble_eq_true rfl) rfl ?_
  intro p e s m below meth c A hC hnm
  obtain ⟨Q, hQ⟩ : ∃ Q, Q = MQ below (px_Q E (px_i L (fun z f' => f' = f ∧ ((z = nI 1 ∧ td = 1 ∧ ink a n) ∨ (z = nI 0 ∧ ¬ (td = 1 ∧ ink a n))))) A) [.ref rr, .int a].toArray s (px_rm 0 0).cells (px_rm 0 0).slots A := ⟨_, rfl⟩
  rw [← hQ]
  refine px_aload_n hC 0 rfl dX3_isTold_0 ?_
  refine px_get (C := RX3) (T := TX3) (N := 7) hC hq rfl kkX3_isTold_X3 6 (by decide) flX3_isTold_39 rfl dX3_isTold_1 ?_
  by_cases h0 : td = 0
  · refine px_if_eq hC 23 dX3_isTold_4 (by decide) (fun _ => ?_) (fun q9 => (q9 (by rw [h0]; rfl)).elim)
    refine px_iconst (v := nI 0) hC (by decide) dX3_isTold_23 ?_
    subst hQ
    exact px_zret hC rfl (by decide) (⟨_, rfl, rfl, rfl, Or.inr ⟨rfl, fun h => by omega⟩⟩) dX3_isTold_24
  · refine px_if_eq hC 23 dX3_isTold_4 (by decide) (fun q9 => absurd q9 (nI_ne0 (by omega) (by omega))) (fun _ => ?_)
    refine px_iload_n hC 1 rfl dX3_isTold_7 ?_
    by_cases h1 : a < 0
    · refine px_if_lt hC 23 dX3_isTold_8 (by decide) (fun _ => ?_) (fun q9 => (q9 (h1)).elim)
      refine px_iconst (v := nI 0) hC (by decide) dX3_isTold_23 ?_
      subst hQ
      exact px_zret hC rfl (by decide) (⟨_, rfl, rfl, rfl, Or.inr ⟨rfl, fun ⟨_, i, e1, h⟩ => nI_pos (n := i) (by omega) (by rw [← e1]; exact h1)⟩⟩) dX3_isTold_24
    · obtain ⟨i, hi, ei⟩ := nI_of h1
      subst ei
      refine px_if_lt hC 23 dX3_isTold_8 (by decide) (fun q9 => absurd q9 (h1)) (fun _ => ?_)
      refine px_iload_n hC 1 rfl dX3_isTold_11 ?_
      refine px_aload_n hC 0 rfl dX3_isTold_12 ?_
      refine px_get (C := RX3) (T := TX3) (N := 7) hC hq rfl kkX3_isTold_X3 5 (by decide) flX3_isTold_35 rfl dX3_isTold_13 ?_
      by_cases h2 : n ≤ i
      · refine px_icmp_ge hC 23 dX3_isTold_16 (by decide) (fun _ => ?_) (fun q9 => (q9 (nI_le h2 hi)).elim)
        refine px_iconst (v := nI 0) hC (by decide) dX3_isTold_23 ?_
        subst hQ
        exact px_zret hC rfl (by decide) (⟨_, rfl, rfl, rfl, Or.inr ⟨rfl, fun ⟨_, i', e1, h⟩ => by have := nI_inj2 hi (by omega) e1; omega⟩⟩) dX3_isTold_24
      · refine px_icmp_ge hC 23 dX3_isTold_16 (by decide) (fun q9 => absurd q9 (nI_ge (by omega) (by omega))) (fun _ => ?_)
        refine px_iconst (v := nI 1) hC (by decide) dX3_isTold_19 ?_
        refine px_goto hC 24 dX3_isTold_20 (by decide) ?_
        subst hQ
        exact px_zret hC rfl (by decide) (⟨_, rfl, rfl, rfl, Or.inl ⟨rfl, by omega, i, rfl, by omega⟩⟩) dX3_isTold_24
section XX
variable {E : px_E} {L : List Nat} {f : Nat → va_E} {rr sy nm dn el lt cs np od wk tp bt ot ob : Nat} {ad0 ra : Nat → Nat} {n : Nat} {w : Nat → Nat → Int32} {td : Nat} {nu de : Nat → Int64}
theorem c_above (l : Launch) (a : Int32) (hX : XS E L f rr sy nm dn el lt cs np od wk tp bt ot ob ad0 ra n w td nu de) : px_M l yX3_above wsX3_above (px_rm 1 21) E L f [.ref rr, .int a] (px_l L (fun z f' => f' = f ∧ ((∃ i, td = 1 ∧ a = nI i ∧ i < n ∧ z = nu i) ∨ (¬ (td = 1 ∧ ink a n) ∧ z = lN 0)))) := by
  refine px_M.of (cc := cX3_above) (maxL := 2) (ret := (some .long)) (lv := [(0, .ref rr), (1, .int a)]) (by decide) rfl (Nat.le_of_ble_eq_true rfl) rfl ?_
  intro p e s m below meth c A hC hnm
  obtain ⟨Q, hQ⟩ : ∃ Q, Q = MQ below (px_Q E (px_l L (fun z f' => f' = f ∧ ((∃ i, td = 1 ∧ a = nI i ∧ i < n ∧ z = nu i) ∨ (¬ (td = 1 ∧ ink a n) ∧ z = lN 0)))) A) [.ref rr, .int a].toArray s (px_rm 1 21).cells (px_rm 1 21).slots A := ⟨_, rfl⟩
  rw [← hQ]
  obtain ⟨hG, h1n, hn, htd, hq, hsy, hra, hnm, hdn, hE, hL⟩ := hX
  refine px_aload_n hC 0 rfl dX3_above_0 ?_
  refine px_iload_n hC 1 rfl dX3_above_1 ?_
  refine px_callVi (C := RX3) (T := TX3) (N := 7) (st := []) (nn := 1) hC (c_told l E L f rr n td a hq hn htd) hq rfl gX3_above_X3_isTold rfl (by decide +kernel) (by decide) (Nat.le_of_ble_eq_true rfl) (by decide) rfl rfl dX3_above_2 (fun z f1 hz => ?_)
  obtain ⟨rfl, hz⟩ := hz
  rcases hz with ⟨rfl, h1, i, rfl, hi⟩ | ⟨rfl, h1⟩
  · refine px_if_eq hC 17 dX3_above_5 (by decide) (fun q9 => absurd q9 (by decide)) (fun _ => ?_)
    refine px_aload_n hC 0 rfl dX3_above_8 ?_
    refine px_get (C := RX3) (T := TX3) (N := 7) hC hq rfl kkX3_above_X3 1 (by decide) flX3_above_14 rfl dX3_above_9 ?_
    refine px_iload_n hC 1 rfl dX3_above_12 ?_
    refine px_lald hC hnm (by omega) (by first | decide | assumption | omega) dX3_above_13 ?_
    refine px_goto hC 18 dX3_above_14 (by decide) ?_
    subst hQ
    exact px_lret hC rfl (⟨_, rfl, rfl, rfl, Or.inl ⟨i, h1, rfl, hi, rfl⟩⟩) dX3_above_18
  · refine px_if_eq hC 17 dX3_above_5 (by decide) (fun _ => ?_) (fun q9 => (q9 (by decide)).elim)
    refine px_lconst (v := lN 0) hC (by decide) dX3_above_17 ?_
    subst hQ
    exact px_lret hC rfl (⟨_, rfl, rfl, rfl, Or.inr ⟨h1, rfl⟩⟩) dX3_above_18
theorem c_under (l : Launch) (a : Int32) (hX : XS E L f rr sy nm dn el lt cs np od wk tp bt ot ob ad0 ra n w td nu de) : px_M l yX3_under wsX3_under (px_rm 1 21) E L f [.ref rr, .int a] (px_l L (fun z f' => f' = f ∧ ((∃ i, td = 1 ∧ a = nI i ∧ i < n ∧ z = de i) ∨ (¬ (td = 1 ∧ ink a n) ∧ z = lN 0)))) := by
  refine px_M.of (cc := cX3_under) (maxL := 2) (ret := (some .long)) (lv := [(0, .ref rr), (1, .int a)]) (by decide) rfl (Nat.le_of_ble_eq_true rfl) rfl ?_
  intro p e s m below meth c A hC hnm
  obtain ⟨Q, hQ⟩ : ∃ Q, Q = MQ below (px_Q E (px_l L (fun z f' => f' = f ∧ ((∃ i, td = 1 ∧ a = nI i ∧ i < n ∧ z = de i) ∨ (¬ (td = 1 ∧ ink a n) ∧ z = lN 0)))) A) [.ref rr, .int a].toArray s (px_rm 1 21).cells (px_rm 1 21).slots A := ⟨_, rfl⟩
  rw [← hQ]
  obtain ⟨hG, h1n, hn, htd, hq, hsy, hra, hnm, hdn, hE, hL⟩ := hX
  refine px_aload_n hC 0 rfl dX3_under_0 ?_
  refine px_iload_n hC 1 rfl dX3_under_1 ?_
  refine px_callVi (C := RX3) (T := TX3) (N := 7) (st := []) (nn := 1) hC (c_told l E L f rr n td a hq hn htd) hq rfl gX3_under_X3_isTold rfl (by decide +kernel) (by decide) (Nat.le_of_ble_eq_true rfl) (by decide) rfl rfl dX3_under_2 (fun z f1 hz => ?_)
  obtain ⟨rfl, hz⟩ := hz
  rcases hz with ⟨rfl, h1, i, rfl, hi⟩ | ⟨rfl, h1⟩
  · refine px_if_eq hC 17 dX3_under_5 (by decide) (fun q9 => absurd q9 (by decide)) (fun _ => ?_)
    refine px_aload_n hC 0 rfl dX3_under_8 ?_
    refine px_get (C := RX3) (T := TX3) (N := 7) hC hq rfl kkX3_under_X3 2 (by decide) flX3_under_18 rfl dX3_under_9 ?_
    refine px_iload_n hC 1 rfl dX3_under_12 ?_
    refine px_lald hC hdn (by omega) (by first | decide | assumption | omega) dX3_under_13 ?_
    refine px_goto hC 18 dX3_under_14 (by decide) ?_
    subst hQ
    exact px_lret hC rfl (⟨_, rfl, rfl, rfl, Or.inl ⟨i, h1, rfl, hi, rfl⟩⟩) dX3_under_18
  · refine px_if_eq hC 17 dX3_under_5 (by decide) (fun _ => ?_) (fun q9 => (q9 (by decide)).elim)
    refine px_lconst (v := lN 0) hC (by decide) dX3_under_17 ?_
    subst hQ
    exact px_lret hC rfl (⟨_, rfl, rfl, rfl, Or.inr ⟨h1, rfl⟩⟩) dX3_under_18
theorem c_get (l : Launch) (a b : Int32) (hX : XS E L f rr sy nm dn el lt cs np od wk tp bt ot ob ad0 ra n w td nu de) : px_M l yX3_get wsX3_get (px_rm 1 22) E L f [.ref rr, .int a, .int b] (px_i L (fun z f' => f' = f ∧ ((∃ i j, a = nI i ∧ b = nI j ∧ i < n ∧ j ≤ n ∧ z = w i j) ∨ (¬ inb a b n ∧ z = nI 0)))) := by
  refine px_M.of (cc := cX3_get) (maxL := 3) (ret := (some .int)) (lv := [(0, .ref rr), (1, .int a), (2, .int b)]) (by decide) rfl (Nat.le_of_ble_eq_true rfl) rfl ?_
  intro p e s m below meth c A hC hnm
  obtain ⟨Q, hQ⟩ : ∃ Q, Q = MQ below (px_Q E (px_i L (fun z f' => f' = f ∧ ((∃ i j, a = nI i ∧ b = nI j ∧ i < n ∧ j ≤ n ∧ z = w i j) ∨ (¬ inb a b n ∧ z = nI 0)))) A) [.ref rr, .int a, .int b].toArray s (px_rm 1 22).cells (px_rm 1 22).slots A := ⟨_, rfl⟩
  rw [← hQ]
  obtain ⟨hG, h1n, hn, htd, hq, ⟨sr, hsy, hsr⟩, hra, hnm, hdn, hE, hL⟩ := hX
  refine px_aload_n hC 0 rfl dX3_get_0 ?_
  refine px_iload_n hC 1 rfl dX3_get_1 ?_
  refine px_iload_n hC 2 rfl dX3_get_2 ?_
  refine px_callVi (C := RX3) (T := TX3) (N := 7) (st := []) (nn := 2) hC (c_has l E L f rr n a b hq hn) hq rfl gX3_get_X3_hasNumber rfl (by decide +kernel) (by decide) (Nat.le_of_ble_eq_true rfl) (by decide) rfl rfl dX3_get_3 (fun z f1 hz => ?_)
  obtain ⟨rfl, hz⟩ := hz
  rcases hz with ⟨rfl, i, j, rfl, rfl, hi, hj⟩ | ⟨rfl, h1⟩
  · refine px_if_eq hC 20 dX3_get_6 (by decide) (fun q9 => absurd q9 (by decide)) (fun _ => ?_)
    refine px_aload_n hC 0 rfl dX3_get_9 ?_
    refine px_get (C := RX3) (T := TX3) (N := 7) hC hq rfl kkX3_get_X3 0 (by decide) flX3_get_11 rfl dX3_get_10 ?_
    refine px_iload_n hC 1 rfl dX3_get_13 ?_
    refine px_aald (t0 := 3) hC hsy rfl rfl (by omega) (by first | decide | assumption | omega) (hsr i (by omega)) dX3_get_14 ?_
    refine px_iload_n hC 2 rfl dX3_get_15 ?_
    refine px_iald hC (hra i (by omega)) (by omega) (by first | decide | assumption | omega) dX3_get_16 ?_
    refine px_goto hC 21 dX3_get_17 (by decide) ?_
    subst hQ
    exact px_iret hC rfl (⟨_, rfl, rfl, rfl, Or.inl ⟨i, j, rfl, rfl, hi, hj, rfl⟩⟩) dX3_get_21
  · refine px_if_eq hC 20 dX3_get_6 (by decide) (fun _ => ?_) (fun q9 => (q9 (by decide)).elim)
    refine px_iconst (v := nI 0) hC (by decide) dX3_get_20 ?_
    subst hQ
    exact px_iret hC rfl (⟨_, rfl, rfl, rfl, Or.inr ⟨h1, rfl⟩⟩) dX3_get_21
end XX
end
section
theorem eOK_fr {E : px_E} {L : List Nat} {f g : Nat → va_E} {q cs np od wk : Nat} {ad0 : Nat → Nat} (h : eOK E L f q cs np od wk ad0) (hf : ∀ b, eA q cs np od wk ad0 b → g b = f b) : eOK E L g q cs np od wk ad0 := by
  obtain ⟨cr, ad, sz, eb, tw, iv, mw, ww, h1, h2, h3, h4, h5, ⟨r1, h6⟩, ⟨r2, h7⟩, ⟨r3, h8⟩⟩ := h
  refine ⟨cr, ad, sz, eb, tw, iv, mw, ww, h1.fr (hf _ (Or.inl rfl)), h2.fr (hf _ (Or.inr (Or.inl rfl))), h3, h4, fun t ht => ?_, ⟨r1, h6.fr (hf _ (Or.inr (Or.inr (Or.inl rfl))))⟩, ⟨r2, h7.fr (hf _ (Or.inr (Or.inr (Or.inr (Or.inl rfl)))))⟩, ⟨r3, h8.fr (hf _ (Or.inr (Or.inr (Or.inr (Or.inr (Or.inl rfl))))))⟩⟩
  obtain ⟨r, hr⟩ := h5 t ht
  obtain ⟨u, hu, e⟩ := h4 t ht
  exact ⟨r, hr.fr (hf _ (Or.inr (Or.inr (Or.inr (Or.inr (Or.inr ⟨u, hu, e⟩))))))⟩
theorem lOK_fr {E : px_E} {L : List Nat} {f g : Nat → va_E} {lt tp bt ot ob : Nat} (h : lOK E L f lt tp bt ot ob) (h0 : g lt = f lt) (h1 : g tp = f tp) (h2 : g bt = f bt) (h3 : g ot = f ot) (h4 : g ob = f ob) : lOK E L g lt tp bt ot ob := by
  obtain ⟨a1, ⟨nu, de, a2⟩, ⟨r1, a3⟩, ⟨r2, a4⟩, ⟨r3, a5⟩, ⟨r4, a6⟩⟩ := h
  exact ⟨a1, ⟨nu, de, a2.fr h0⟩, ⟨r1, a3.fr h1⟩, ⟨r2, a4.fr h2⟩, ⟨r3, a5.fr h3⟩, ⟨r4, a6.fr h4⟩⟩
theorem eR_rng {E : px_E} {L : List Nat} {f : Nat → va_E} {q cs np od wk n : Nat} {ad0 : Nat → Nat} {d : Int} {M : Nat → Nat → Int} (h : eOK E L f q cs np od wk ad0) (h2 : eR E L f q cs np od wk n d M) : ∃ (cr : Nat → Option Nat) (ad : Nat → Nat) (eb : Nat) (tw : Int32) (iv : Int64) (mw ww : Int32), (∀ t, t < 110 → ∃ u, u < 110 ∧ ad t = ad0 u) ∧ eb ≤ 31 ∧ px_at L f q (.inr (0, eF cs np od wk (nI n) (nI eb) tw iv mw ww)) ∧ px_at L f cs (aJJ E 110 cr) ∧ eD np od wk cr ad ∧ (∀ i, i < n → cR E L f (ad (i * 11 + n)) (M i n) ∧ -((4294967296 ^ ((n * eb + 23) / 32 + 1) : Nat) : Int) < 2 * M i n ∧ 2 * M i n < ((4294967296 ^ ((n * eb + 23) / 32 + 1) : Nat) : Int)) ∧ cR E L f (ad ((n - 1) * 11 + (n - 1))) d ∧ d ≠ 0 ∧ -((4294967296 ^ ((n * eb + 23) / 32 + 1) : Nat) : Int) < 2 * d ∧ 2 * d < ((4294967296 ^ ((n * eb + 23) / 32 + 1) : Nat) : Int) := by
  obtain ⟨cr1, ad1, sz, eb1, tw1, iv1, mw1, ww1, -, a2, a3, a4, -⟩ := h
  obtain ⟨cr, ad, eb, tw, iv, mw, ww, b0, b1, b2, b3, b4⟩ := h2
  have e0 : aJJ E 110 cr1 = aJJ E 110 cr := a2.2.symm.trans b2.2
  have e1 : cr1 = cr := by
    have e2 := congrArg (fun z : va_E => match z with | .inl (_, _, .inr (.inr (.inr (.inr r)))) => r | _ => fun _ => none) e0
    exact e2
  refine ⟨cr, ad, eb, tw, iv, mw, ww, fun t ht => ?_, b0, b1, b2, b3, b4⟩
  obtain ⟨u, hu, e⟩ := a4 t ht
  have e3 := a3.1 t ht
  rw [e1, b3.1 t ht] at e3
  exact ⟨u, hu, (Option.some.inj e3).trans e⟩
def sR (n : Nat) (A : Nat → Nat → Int) (z : Int32) (td : Nat) (nu de : Nat → Int64) : Prop := (brun n n 0 1 A = none ∧ z = (-1) ∧ td = 0) ∨ ∃ d M, brun n n 0 1 A = some (d, M) ∧ ((∃ k, k < n ∧ (∀ j, j < k → fit (M j n) d) ∧ ¬ fit (M k n) d ∧ z = nI (1 + k) ∧ td = 0) ∨ ((∀ j, j < n → fit (M j n) d) ∧ z = nI 0 ∧ td = 1 ∧ ∀ j, j < n → (nu j).toInt = fN (M j n) d ∧ (de j).toInt = fM (M j n) d))
theorem neg_lt {a : Int32} {k : Nat} (h : a < 0) (hk : k < 2 ^ 31) : a < nI k := by
  rw [Int32.lt_iff_toInt_lt] at h ⊢
  rw [nI_toInt hk]
  have : (0 : Int32).toInt = 0 := by decide
  omega
section XX
variable {E : px_E} {L : List Nat} {f : Nat → va_E} {rr sy nm dn el lt cs np od wk tp bt ot ob : Nat} {ad0 ra : Nat → Nat} {n : Nat} {w : Nat → Nat → Int32} {td : Nat} {nu de : Nat → Int64}
theorem flX3_put_11 : Cond.fieldLink RX3 11 "RowReduction" "system" "[[I" ∈ wsX3_put := by decide +kernel
theorem kkX3_put_X3 : ∀ w ∈ wsX30, w ∈ wsX3_put := fun _ h => List.mem_cons_of_mem _ (List.mem_append_right _ h)
theorem flX3_begin_35 : Cond.fieldLink RX3 35 "RowReduction" "size" "I" ∈ wsX3_begin := by decide +kernel
theorem kkX3_begin_X3 : ∀ w ∈ wsX30, w ∈ wsX3_begin := fun _ h => List.mem_cons_of_mem _ (List.mem_append_right _ h)
theorem flX3_begin_39 : Cond.fieldLink RX3 39 "RowReduction" "told" "Z" ∈ wsX3_begin := by decide +kernel
theorem flX3_begin_11 : Cond.fieldLink RX3 11 "RowReduction" "system" "[[I" ∈ wsX3_begin := by decide +kernel
theorem flX3_solve_39 : Cond.fieldLink RX3 39 "RowReduction" "told" "Z" ∈ wsX3_solve := by decide +kernel
theorem kkX3_solve_X3 : ∀ w ∈ wsX30, w ∈ wsX3_solve := fun _ h => List.mem_cons_of_mem _ (List.mem_append_left _ (List.mem_append_left _ (List.mem_append_right _ h)))
theorem flX3_solve_24 : Cond.fieldLink RX3 24 "RowReduction" "elimination" "LRowReduction$Elimination;" ∈ wsX3_solve := by decide +kernel
theorem flX3_solve_11 : Cond.fieldLink RX3 11 "RowReduction" "system" "[[I" ∈ wsX3_solve := by decide +kernel
theorem flX3_solve_35 : Cond.fieldLink RX3 35 "RowReduction" "size" "I" ∈ wsX3_solve := by decide +kernel
theorem flX3_solve_31 : Cond.fieldLink RX3 31 "RowReduction" "lowestTerms" "LRowReduction$LowestTerms;" ∈ wsX3_solve := by decide +kernel
theorem flX3_solve_14 : Cond.fieldLink RX3 14 "RowReduction" "numerators" "[J" ∈ wsX3_solve := by decide +kernel
theorem kkX3_solve_X2 : ∀ w ∈ wsX20, w ∈ wsX3_solve := fun _ h => List.mem_cons_of_mem _ (List.mem_append_left _ (List.mem_append_right _ h))
theorem flX3_solve_18 : Cond.fieldLink RX3 18 "RowReduction" "denominators" "[J" ∈ wsX3_solve := by decide +kernel
theorem c_put (l : Launch) (a b v : Int32) (hX : XS E L f rr sy nm dn el lt cs np od wk tp bt ot ob ad0 ra n w td nu de) : px_M l yX3_put wsX3_put (px_rm 1 22) E L f [.ref rr, .int a, .int b, .int v] (px_i L (fun z f' => (∃ i j, a = nI i ∧ b = nI j ∧ i < n ∧ j ≤ n ∧ z = nI 1 ∧ XS E L f' rr sy nm dn el lt cs np od wk tp bt ot ob ad0 ra n (va_up w i (upd (w i) j v)) td nu de ∧ ∀ c, ¬ fX rr sy nm dn el lt cs np od wk tp bt ot ob ad0 ra c → f' c = f c) ∨ (¬ inb a b n ∧ z = nI 0 ∧ f' = f))) := by
  refine px_M.of (cc := cX3_put) (maxL := 4) (ret := (some .boolean)) (lv := [(0, .ref rr), (1, .int a), (2, .int b), (3, .int v)]) (by decide) rfl (Nat.le_of_ble_eq_true rfl) rfl ?_
  intro p e s m below meth c A hC hnm
  obtain ⟨Q, hQ⟩ : ∃ Q, Q = MQ below (px_Q E (px_i L (fun z f' => (∃ i j, a = nI i ∧ b = nI j ∧ i < n ∧ j ≤ n ∧ z = nI 1 ∧ XS E L f' rr sy nm dn el lt cs np od wk tp bt ot ob ad0 ra n (va_up w i (upd (w i) j v)) td nu de ∧ ∀ c, ¬ fX rr sy nm dn el lt cs np od wk tp bt ot ob ad0 ra c → f' c = f c) ∨ (¬ inb a b n ∧ z = nI 0 ∧ f' = f))) A) [.ref rr, .int a, .int b, .int v].toArray s (px_rm 1 22).cells (px_rm 1 22).slots A := ⟨_, rfl⟩
  rw [← hQ]
  obtain ⟨hG, h1n, hn, htd, hq, ⟨sr, hsy, hsr⟩, hra, hnm, hdn, hE, hL⟩ := hX
  refine px_aload_n hC 0 rfl dX3_put_0 ?_
  refine px_iload_n hC 1 rfl dX3_put_1 ?_
  refine px_iload_n hC 2 rfl dX3_put_2 ?_
  refine px_callVi (C := RX3) (T := TX3) (N := 7) (st := []) (nn := 2) hC (c_has l E L f rr n a b hq hn) hq rfl gX3_put_X3_hasNumber rfl (by decide +kernel) (by decide) (Nat.le_of_ble_eq_true rfl) (by decide) rfl rfl dX3_put_3 (fun z f1 hz => ?_)
  obtain ⟨rfl, hz⟩ := hz
  rcases hz with ⟨rfl, i, j, rfl, rfl, hi, hj⟩ | ⟨rfl, h1⟩
  · have hri := hra i (by omega)
    have hE2 := hG.2.2 (ra i) (Or.inr (Or.inr (Or.inr (Or.inr (Or.inr (Or.inr (Or.inr (Or.inr (Or.inr ⟨i, by omega, rfl⟩)))))))))
    obtain ⟨g1, ⟨nu0, de0, g2⟩, ⟨r1, g3⟩, ⟨r2, g4⟩, ⟨r3, g5⟩, ⟨r4, g6⟩⟩ := id hL
    refine px_if_ne hC 11 dX3_put_6 (by decide) (fun _ => ?_) (fun q9 => absurd q9 (by decide))
    refine px_aload_n hC 0 rfl dX3_put_11 ?_
    refine px_get (C := RX3) (T := TX3) (N := 7) hC hq rfl kkX3_put_X3 0 (by decide) flX3_put_11 rfl dX3_put_12 ?_
    refine px_iload_n hC 1 rfl dX3_put_15 ?_
    refine px_aald (t0 := 3) hC hsy rfl rfl (by omega) (by first | decide | assumption | omega) (hsr i (by omega)) dX3_put_16 ?_
    refine px_iload_n hC 2 rfl dX3_put_17 ?_
    refine px_iload_n hC 3 rfl dX3_put_18 ?_
    refine px_iast hC hri (by omega) (by first | decide | assumption | omega) dX3_put_19 ?_
    refine px_iconst (v := nI 1) hC (by decide) dX3_put_20 ?_
    subst hQ
    exact px_zret hC rfl (by decide) (⟨_, rfl, rfl, Or.inl ⟨i, j, rfl, rfl, hi, hj, rfl, ⟨hG, h1n, hn, htd, hq.up (fun h => hri.nk hq rfl h.symm), ⟨sr, hsy.up (fun h => hri.nk hsy rfl h.symm), hsr⟩, fun k hk => by by_cases q : k = i; (subst q; rw [va_up_self]; exact hri.self); (rw [va_up_ne _ _ q]; exact (hra k hk).up (fun h => q (hG.1 _ _ hk (by omega) h))), hnm.up (fun h => hri.nk hnm rfl h.symm), hdn.up (fun h => hri.nk hdn rfl h.symm), eOK_fr hE (fun c hc => va_up_ne _ _ (fun h => hE2 (h ▸ hc))), lOK_fr hL (va_up_ne _ _ (fun h => hri.nk g2 rfl h.symm)) (va_up_ne _ _ (fun h => hri.nk g3 rfl h.symm)) (va_up_ne _ _ (fun h => hri.nk g4 rfl h.symm)) (va_up_ne _ _ (fun h => hri.nk g5 rfl h.symm)) (va_up_ne _ _ (fun h => hri.nk g6 rfl h.symm))⟩, fun c hc => va_up_ne _ _ (fun h => hc (Or.inr (Or.inr (Or.inr (Or.inr (Or.inr (Or.inr (Or.inr (Or.inr (Or.inr (Or.inr ⟨i, by omega, h⟩)))))))))))⟩⟩) dX3_put_21
  · refine px_if_ne hC 11 dX3_put_6 (by decide) (fun q9 => (q9 (by decide)).elim) (fun _ => ?_)
    refine px_iconst (v := nI 0) hC (by decide) dX3_put_9 ?_
    subst hQ
    exact px_zret hC rfl (by decide) (⟨_, rfl, rfl, Or.inr ⟨h1, rfl, rfl⟩⟩) dX3_put_10
theorem c_begin (l : Launch) (a : Int32) (hX : XS E L f rr sy nm dn el lt cs np od wk tp bt ot ob ad0 ra n w td nu de) : px_M l yX3_begin wsX3_begin (px_rm 1 23) E L f [.ref rr, .int a] (px_i L (fun z f' => (∃ n', a = nI n' ∧ 1 ≤ n' ∧ n' ≤ 10 ∧ z = nI 1 ∧ XS E L f' rr sy nm dn el lt cs np od wk tp bt ot ob ad0 ra n' (fun _ _ => nI 0) 0 nu de ∧ ∀ c, ¬ fX rr sy nm dn el lt cs np od wk tp bt ot ob ad0 ra c → f' c = f c) ∨ ((¬ ∃ n', a = nI n' ∧ 1 ≤ n' ∧ n' ≤ 10) ∧ z = nI 0 ∧ f' = f))) := by
  refine px_M.of (cc := cX3_begin) (maxL := 3) (ret := (some .boolean)) (lv := [(0, .ref rr), (1, .int a)]) (by decide) rfl (Nat.le_of_ble_eq_true rfl) rfl ?_
  intro p e s m below meth c A hC hnm
  obtain ⟨Q, hQ⟩ : ∃ Q, Q = MQ below (px_Q E (px_i L (fun z f' => (∃ n', a = nI n' ∧ 1 ≤ n' ∧ n' ≤ 10 ∧ z = nI 1 ∧ XS E L f' rr sy nm dn el lt cs np od wk tp bt ot ob ad0 ra n' (fun _ _ => nI 0) 0 nu de ∧ ∀ c, ¬ fX rr sy nm dn el lt cs np od wk tp bt ot ob ad0 ra c → f' c = f c) ∨ ((¬ ∃ n', a = nI n' ∧ 1 ≤ n' ∧ n' ≤ 10) ∧ z = nI 0 ∧ f' = f))) A) [.ref rr, .int a].toArray s (px_rm 1 23).cells (px_rm 1 23).slots A := ⟨_, rfl⟩
  rw [← hQ]
  obtain ⟨hG, h1n, hn, htd, hq, ⟨sr, hsy, hsr⟩, hra, hnm, hdn, hE, hL⟩ := hX
  obtain ⟨g1, ⟨nu0, de0, g2⟩, ⟨r1, g3⟩, ⟨r2, g4⟩, ⟨r3, g5⟩, ⟨r4, g6⟩⟩ := id hL
  refine px_iload_n hC 1 rfl dX3_begin_0 ?_
  refine px_iconst (v := nI 1) hC (by decide) dX3_begin_1 ?_
  by_cases h1 : a < 0
  · refine px_icmp_lt hC 11 dX3_begin_2 (by decide) (fun _ => ?_) (fun q9 => (q9 (neg_lt h1 (by decide))).elim)
    refine px_iconst (v := nI 0) hC (by decide) dX3_begin_11 ?_
    subst hQ
    exact px_zret hC rfl (by decide) (⟨_, rfl, rfl, Or.inr ⟨fun ⟨i, e1, _, h⟩ => nI_pos (n := i) (by omega) (by rw [← e1]; exact h1), rfl, rfl⟩⟩) dX3_begin_12
  obtain ⟨n', hn', ei⟩ := nI_of h1
  subst ei
  by_cases h2 : n' < 1
  · refine px_icmp_lt hC 11 dX3_begin_2 (by decide) (fun _ => ?_) (fun q9 => (q9 (nI_lt h2 (by decide))).elim)
    refine px_iconst (v := nI 0) hC (by decide) dX3_begin_11 ?_
    subst hQ
    exact px_zret hC rfl (by decide) (⟨_, rfl, rfl, Or.inr ⟨fun ⟨i, e1, h, h3⟩ => by have := nI_inj2 hn' (by omega) e1; omega, rfl, rfl⟩⟩) dX3_begin_12
  refine px_icmp_lt hC 11 dX3_begin_2 (by decide) (fun q9 => absurd q9 (nI_nlt (by omega) hn')) (fun _ => ?_)
  refine px_iload_n hC 1 rfl dX3_begin_5 ?_
  refine px_bipush (v := nI 10) hC (by decide) dX3_begin_6 ?_
  by_cases h3 : 10 < n'
  · refine px_icmp_le hC 13 dX3_begin_8 (by decide) (fun q9 => absurd q9 (nI_ge h3 hn')) (fun _ => ?_)
    refine px_iconst (v := nI 0) hC (by decide) dX3_begin_11 ?_
    subst hQ
    exact px_zret hC rfl (by decide) (⟨_, rfl, rfl, Or.inr ⟨fun ⟨i, e1, h, h3⟩ => by have := nI_inj2 hn' (by omega) e1; omega, rfl, rfl⟩⟩) dX3_begin_12
  refine px_icmp_le hC 13 dX3_begin_8 (by decide) (fun _ => ?_) (fun q9 => (q9 (nI_le (by omega) (by decide))).elim)
  have loop : ∀ (d i : Nat) (g : Nat → va_E), i + d = 10 → (∀ j, j < i → px_at L g (ra j) (aI E 11 (fun _ => nI 0))) → (∀ c, (∀ j, j < i → c ≠ ra j) → g c = f c) → px p l e (px_rm 1 23) s m [.ref rr, .int (nI n')].toArray below meth c 3 E A s.heap L (g) 0 0 Q 15 [(0, .ref rr), (1, .int (nI n')), (2, .int (nI i))] [] := by
    intro d
    induction d with
    | zero =>
      intro i g hi hz hf
      have e1 : i = 10 := by omega
      subst e1
      have kq : ∀ {c x}, px_at L f c x → (knd x == 0) = false → px_at L g c x := fun h hk => h.fr (hf _ (fun j hj => h.nk (hra j hj) hk))
      have hq2 := kq hq rfl
      have hra2 := hz
      have hnr : ∀ j, j < 10 → ra j ≠ rr := fun j hj => (hz j hj).nk hq2 rfl
      refine px_iload_n hC 2 rfl dX3_begin_15 ?_
      refine px_bipush (v := nI 10) hC (by decide) dX3_begin_16 ?_
      refine px_icmp_ge hC 37 dX3_begin_18 (by decide) (fun _ => ?_) (fun q9 => (q9 (by decide)).elim)
      refine px_aload_n hC 0 rfl dX3_begin_37 ?_
      refine px_iload_n hC 1 rfl dX3_begin_38 ?_
      refine px_put (C := RX3) (T := TX3) (N := 7) (fs' := xF sy nm dn el lt (nI n') (nI td)) hC hq2 rfl kkX3_begin_X3 5 (by decide) tyX3 tyX3_ok nmX3 flX3_begin_35 rfl rfl rfl (Nat.le_of_ble_eq_true rfl) rfl dX3_begin_39 ?_
      refine px_aload_n hC 0 rfl dX3_begin_42 ?_
      refine px_iconst (v := nI 0) hC (by decide) dX3_begin_43 ?_
      refine px_put (C := RX3) (T := TX3) (N := 7) (fs' := xF sy nm dn el lt (nI n') (nI 0)) hC hq2.self rfl kkX3_begin_X3 6 (by decide) tyX3 tyX3_ok nmX3 flX3_begin_39 rfl (by decide) (by decide) (Nat.le_of_ble_eq_true rfl) rfl dX3_begin_44 ?_
      rw [px_uu]
      refine px_iconst (v := nI 1) hC (by decide) dX3_begin_47 ?_
      have hEr := hG.2.2 rr (Or.inl rfl)
      have hEa : ∀ c, eA el cs np od wk ad0 c → (va_up g rr (.inr (2, xF sy nm dn el lt (nI n') (nI 0)))) c = f c := fun c hc => by
        rw [va_up_ne _ _ (show c ≠ rr from fun h => hEr (h ▸ hc))]
        exact hf c (fun j hj h => hG.2.2 (ra j) (Or.inr (Or.inr (Or.inr (Or.inr (Or.inr (Or.inr (Or.inr (Or.inr (Or.inr ⟨j, hj, rfl⟩))))))))) (h ▸ hc))
      have kk : ∀ {c x}, px_at L f c x → (knd x == 0) = false → c ≠ rr → (va_up g rr (.inr (2, xF sy nm dn el lt (nI n') (nI 0)))) c = f c := fun h hk hc => by
        rw [va_up_ne _ _ hc]
        exact hf _ (fun j hj => h.nk (hra j hj) hk)
      subst hQ
      exact px_zret hC rfl (by decide) (⟨_, rfl, rfl, Or.inl ⟨n', rfl, by omega, by omega, rfl, ⟨hG, by omega, by omega, by decide, hq2.self, ⟨sr, hsy.fr (kk hsy rfl (hsy.nk hq rfl)), hsr⟩, fun j hj => (hz j hj).up (hnr j hj), hnm.fr (kk hnm rfl (hnm.nk hq rfl)), hdn.fr (kk hdn rfl (hdn.nk hq rfl)), eOK_fr hE hEa, lOK_fr hL (kk g2 rfl (g2.nk hq rfl)) (kk g3 rfl (g3.nk hq rfl)) (kk g4 rfl (g4.nk hq rfl)) (kk g5 rfl (g5.nk hq rfl)) (kk g6 rfl (g6.nk hq rfl))⟩, fun c hc => by rw [va_up_ne _ _ (fun h => hc (Or.inl h))]; exact hf c (fun j hj h => hc (Or.inr (Or.inr (Or.inr (Or.inr (Or.inr (Or.inr (Or.inr (Or.inr (Or.inr (Or.inr ⟨j, hj, h⟩)))))))))))⟩⟩) dX3_begin_48
    | succ d ih =>
      intro i g hi hz hf
      have kq : ∀ {c x}, px_at L f c x → (knd x == 0) = false → px_at L g c x := fun h hk => h.fr (hf _ (fun j hj => h.nk (hra j (by omega)) hk))
      have hri : px_at L g (ra i) (aI E 11 (w i)) := (hra i (by omega)).fr (hf _ (fun j hj h => by have := hG.1 _ _ (by omega) (by omega) h; omega))
      refine px_iload_n hC 2 rfl dX3_begin_15 ?_
      refine px_bipush (v := nI 10) hC (by decide) dX3_begin_16 ?_
      refine px_icmp_ge hC 37 dX3_begin_18 (by decide) (fun q9 => absurd q9 (nI_ge (by omega) (by omega))) (fun _ => ?_)
      refine px_aload_n hC 0 rfl dX3_begin_21 ?_
      refine px_get (C := RX3) (T := TX3) (N := 7) hC (kq hq rfl) rfl kkX3_begin_X3 0 (by decide) flX3_begin_11 rfl dX3_begin_22 ?_
      refine px_iload_n hC 2 rfl dX3_begin_25 ?_
      refine px_aald (t0 := 3) hC (kq hsy rfl) rfl rfl (by omega) (by first | decide | assumption | omega) (hsr i (by omega)) dX3_begin_26 ?_
      refine px_iconst (v := nI 0) hC (by decide) dX3_begin_27 ?_
      refine px_callSv (st := []) (nn := 2) hC (c_fillI l E L g (ra i) 11 (w i) (nI 0) hri (by decide)) gX3_begin_J7_fill_53178 rfl (by decide +kernel) (by decide) (Nat.le_of_ble_eq_true rfl) (by decide) rfl rfl dX3_begin_28 (fun f2 h4 => ?_)
      subst h4
      refine px_iinc (v := nI (i + 1)) (lv' := [(0, .ref rr), (1, .int (nI n')), (2, .int (nI (i + 1)))]) hC 2 [1, 2, 0] dX3_begin_31 rfl (nI_1 i) (by decide) rfl ?_
      refine px_goto hC 15 dX3_begin_34 (by decide) ?_
      refine ih (i + 1) _ (by omega) (fun j hj => ?_) (fun c hc => ?_)
      · by_cases q : j = i
        · subst q; exact hri.self
        · exact (hz j (by omega)).up (fun h => q (hG.1 _ _ (by omega) (by omega) h))
      · rw [va_up_ne _ _ (hc i (by omega))]
        exact hf c (fun j hj => hc j (by omega))
  refine px_iconst (v := nI 0) hC (by decide) dX3_begin_13 ?_
  refine px_istore_n (lv' := [(0, .ref rr), (1, .int (nI n')), (2, .int (nI 0))]) hC [1, 2, 0] dX3_begin_14 (by decide) rfl ?_
  exact loop 10 0 f (by omega) (fun j hj => absurd hj (by omega)) (fun c _ => rfl)
theorem c_solve (l : Launch) (hX : XS E L f rr sy nm dn el lt cs np od wk tp bt ot ob ad0 ra n w td nu de) : px_M l yX3_solve wsX3_solve (px_rm 6 147) E L f [.ref rr] (px_i L (fun z f' => ∃ td' nu' de', XS E L f' rr sy nm dn el lt cs np od wk tp bt ot ob ad0 ra n w td' nu' de' ∧ (∀ c, ¬ fX rr sy nm dn el lt cs np od wk tp bt ot ob ad0 ra c → f' c = f c) ∧ sR n (mA w n) z td' nu' de')) := by
  refine px_M.of (cc := cX3_solve) (maxL := 2) (ret := (some .int)) (lv := [(0, .ref rr)]) (by decide) rfl (Nat.le_of_ble_eq_true rfl) rfl ?_
  intro p e s m below meth c A hC hnm
  obtain ⟨Q, hQ⟩ : ∃ Q, Q = MQ below (px_Q E (px_i L (fun z f' => ∃ td' nu' de', XS E L f' rr sy nm dn el lt cs np od wk tp bt ot ob ad0 ra n w td' nu' de' ∧ (∀ c, ¬ fX rr sy nm dn el lt cs np od wk tp bt ot ob ad0 ra c → f' c = f c) ∧ sR n (mA w n) z td' nu' de')) A) [.ref rr].toArray s (px_rm 6 147).cells (px_rm 6 147).slots A := ⟨_, rfl⟩
  rw [← hQ]
  obtain ⟨hG, h1n, hn, htd, hq, ⟨sr, hsy, hsr⟩, hra, hnm, hdn, hE, hL⟩ := hX
  obtain ⟨g1, ⟨nu0, de0, g2⟩, ⟨r1, g3⟩, ⟨r2, g4⟩, ⟨r3, g5⟩, ⟨r4, g6⟩⟩ := id hL
  have nE := hG.2.2
  have nErr := nE rr (Or.inl rfl)
  have nEsy := nE sy (Or.inr (Or.inl rfl))
  have nEnm := nE nm (Or.inr (Or.inr (Or.inl rfl)))
  have nEdn := nE dn (Or.inr (Or.inr (Or.inr (Or.inl rfl))))
  have nElt := nE lt (Or.inr (Or.inr (Or.inr (Or.inr (Or.inl rfl)))))
  have nEtp := nE tp (Or.inr (Or.inr (Or.inr (Or.inr (Or.inr (Or.inl rfl))))))
  have nEbt := nE bt (Or.inr (Or.inr (Or.inr (Or.inr (Or.inr (Or.inr (Or.inl rfl)))))))
  have nEot := nE ot (Or.inr (Or.inr (Or.inr (Or.inr (Or.inr (Or.inr (Or.inr (Or.inl rfl))))))))
  have nEob := nE ob (Or.inr (Or.inr (Or.inr (Or.inr (Or.inr (Or.inr (Or.inr (Or.inr (Or.inl rfl)))))))))
  have nEra : ∀ i, i < 10 → ¬ eA el cs np od wk ad0 (ra i) := fun i hi => nE (ra i) (Or.inr (Or.inr (Or.inr (Or.inr (Or.inr (Or.inr (Or.inr (Or.inr (Or.inr ⟨i, hi, rfl⟩)))))))))
  have hfE : ∀ c, ¬ fX rr sy nm dn el lt cs np od wk tp bt ot ob ad0 ra c → c ≠ rr ∧ c ≠ nm ∧ c ≠ dn ∧ ¬ eA el cs np od wk ad0 c ∧ c ≠ lt ∧ c ≠ tp ∧ c ≠ bt ∧ c ≠ ot ∧ c ≠ ob := fun c hc => ⟨fun h => hc (Or.inl h), fun h => hc (Or.inr (Or.inr (Or.inl h))), fun h => hc (Or.inr (Or.inr (Or.inr (Or.inl h)))), fun h => hc (Or.inr (Or.inr (Or.inr (Or.inr (Or.inl h))))), fun h => hc (Or.inr (Or.inr (Or.inr (Or.inr (Or.inr (Or.inl h)))))), fun h => hc (Or.inr (Or.inr (Or.inr (Or.inr (Or.inr (Or.inr (Or.inl h))))))), fun h => hc (Or.inr (Or.inr (Or.inr (Or.inr (Or.inr (Or.inr (Or.inr (Or.inl h)))))))), fun h => hc (Or.inr (Or.inr (Or.inr (Or.inr (Or.inr (Or.inr (Or.inr (Or.inr (Or.inl h))))))))), fun h => hc (Or.inr (Or.inr (Or.inr (Or.inr (Or.inr (Or.inr (Or.inr (Or.inr (Or.inr (Or.inl h))))))))))⟩
  -- the rows nm, dn are of another length than the limbs
  have len : ∀ {c r z r2}, px_at L f c (aJ E 10 r) → px_at L f z (aJ E 21 r2) → c ≠ z := fun h1 h2 => h1.ne h2 (fun e => by
    have := congrArg (fun z : va_E => match z with | .inl (_, k, _) => k | _ => 0) e
    exact absurd (show (10 : Nat) = 21 from this) (by decide))
  have nmL : nm ≠ lt ∧ nm ≠ tp ∧ nm ≠ bt ∧ nm ≠ ot ∧ nm ≠ ob := ⟨hnm.nk g2 rfl, len hnm g3, len hnm g4, len hnm g5, len hnm g6⟩
  have dnL : dn ≠ lt ∧ dn ≠ tp ∧ dn ≠ bt ∧ dn ≠ ot ∧ dn ≠ ob := ⟨hdn.nk g2 rfl, len hdn g3, len hdn g4, len hdn g5, len hdn g6⟩
  have rrL : rr ≠ lt ∧ rr ≠ tp ∧ rr ≠ bt ∧ rr ≠ ot ∧ rr ≠ ob := ⟨hq.nk g2 rfl, hq.nk g3 rfl, hq.nk g4 rfl, hq.nk g5 rfl, hq.nk g6 rfl⟩
  have syL : sy ≠ lt ∧ sy ≠ tp ∧ sy ≠ bt ∧ sy ≠ ot ∧ sy ≠ ob := ⟨hsy.nk g2 rfl, hsy.nk g3 rfl, hsy.nk g4 rfl, hsy.nk g5 rfl, hsy.nk g6 rfl⟩
  have raL : ∀ i, i < 10 → ra i ≠ lt ∧ ra i ≠ tp ∧ ra i ≠ bt ∧ ra i ≠ ot ∧ ra i ≠ ob := fun i hi => ⟨(hra i hi).nk g2 rfl, (hra i hi).nk g3 rfl, (hra i hi).nk g4 rfl, (hra i hi).nk g5 rfl, (hra i hi).nk g6 rfl⟩
  have nmr : nm ≠ rr := hnm.nk hq rfl
  have dnr : dn ≠ rr := hdn.nk hq rfl
  have syr : sy ≠ rr := hsy.nk hq rfl
  have rar : ∀ i, i < 10 → ra i ≠ rr := fun i hi => (hra i hi).nk hq rfl
  refine px_aload_n hC 0 rfl dX3_solve_0 ?_
  refine px_iconst (v := nI 0) hC (by decide) dX3_solve_1 ?_
  refine px_put (C := RX3) (T := TX3) (N := 7) (fs' := xF sy nm dn el lt (nI n) (nI 0)) hC hq rfl kkX3_solve_X3 6 (by decide) tyX3 tyX3_ok nmX3 flX3_solve_39 rfl (by decide) (by decide) (Nat.le_of_ble_eq_true rfl) rfl dX3_solve_2 ?_
  refine px_aload_n hC 0 rfl dX3_solve_5 ?_
  refine px_get (C := RX3) (T := TX3) (N := 7) hC hq.self rfl kkX3_solve_X3 3 (by decide) flX3_solve_24 rfl dX3_solve_6 ?_
  refine px_aload_n hC 0 rfl dX3_solve_9 ?_
  refine px_get (C := RX3) (T := TX3) (N := 7) hC hq.self rfl kkX3_solve_X3 0 (by decide) flX3_solve_11 rfl dX3_solve_10 ?_
  refine px_aload_n hC 0 rfl dX3_solve_13 ?_
  refine px_get (C := RX3) (T := TX3) (N := 7) hC hq.self rfl kkX3_solve_X3 5 (by decide) flX3_solve_35 rfl dX3_solve_14 ?_
  obtain ⟨crx, adx, szx, ebx, twx, ivx, mwx, wwx, hqe0, -⟩ := id hE
  have hqe := hqe0.up (y := .inr (2, xF sy nm dn el lt (nI n) (nI 0))) (fun h => hq.nk hqe0 rfl h.symm)
  refine px_callVi (C := RX0) (T := TX0) (N := 10) (st := []) (nn := 2) hC (c_reduce l E L _ el n sy (ra := ra) (w := w) (eOK_fr hE (fun c hc => va_up_ne _ _ (fun h => nErr (h ▸ hc)))) h1n hn (hsy.up syr) (fun i hi => ⟨hsr i hi, (hra i hi).up (rar i hi)⟩)) hqe rfl gX3_solve_X0_reduce rfl (by decide +kernel) (by decide) (Nat.le_of_ble_eq_true rfl) (by decide) rfl rfl dX3_solve_17 (fun z f2 h2 => ?_)
  obtain ⟨hE2, hf2, h2⟩ := h2
  have k2 : ∀ {c x}, px_at L f c x → c ≠ rr → ¬ eA el cs np od wk ad0 c → px_at L f2 c x := fun h a1 a2 => h.fr (by rw [hf2 _ a2, va_up_ne _ _ a1])
  have hq2 : px_at L f2 rr (.inr (2, xF sy nm dn el lt (nI n) (nI 0))) := hq.self.fr (hf2 rr nErr)
  have hsy2 := k2 hsy syr nEsy
  have hra2 := fun i hi => k2 (hra i hi) (rar i hi) (nEra i hi)
  have hnm2 := k2 hnm nmr nEnm
  have hdn2 := k2 hdn dnr nEdn
  have hL2 : lOK E L f2 lt tp bt ot ob := lOK_fr hL (by rw [hf2 _ nElt, va_up_ne _ _ (fun h => rrL.1 h.symm)]) (by rw [hf2 _ nEtp, va_up_ne _ _ (fun h => rrL.2.1 h.symm)]) (by rw [hf2 _ nEbt, va_up_ne _ _ (fun h => rrL.2.2.1 h.symm)]) (by rw [hf2 _ nEot, va_up_ne _ _ (fun h => rrL.2.2.2.1 h.symm)]) (by rw [hf2 _ nEob, va_up_ne _ _ (fun h => rrL.2.2.2.2 h.symm)])
  have fr2 : ∀ c, ¬ fX rr sy nm dn el lt cs np od wk tp bt ot ob ad0 ra c → f2 c = f c := fun c hc => by rw [hf2 c (hfE c hc).2.2.2.1, va_up_ne _ _ (hfE c hc).1]
  rcases h2 with ⟨hb, rfl⟩ | ⟨d, M, hb, rfl, hR⟩
  · refine px_if_ne hC 25 dX3_solve_20 (by decide) (fun q9 => (q9 (by decide)).elim) (fun _ => ?_)
    refine px_iconst (v := (-1)) hC (by decide) dX3_solve_23 ?_
    subst hQ
    exact px_iret hC rfl (⟨_, rfl, rfl, 0, nu, de, ⟨hG, h1n, hn, by decide, hq2, ⟨sr, hsy2, hsr⟩, hra2, hnm2, hdn2, hE2, hL2⟩, fr2, Or.inl ⟨hb, rfl, rfl⟩⟩) dX3_solve_24
  obtain ⟨cr, ad, eb, tw, iv, mw, ww, hrg, heb, qq, qc, qD, qM, qd, hd0, hdw⟩ := eR_rng hE2 hR
  have inA : ∀ t, t < 110 → eA el cs np od wk ad0 (ad t) := fun t ht => by
    obtain ⟨u, hu, e⟩ := hrg t ht
    exact Or.inr (Or.inr (Or.inr (Or.inr (Or.inr ⟨u, hu, e⟩))))
  have hw1 : (n * eb + 23) / 32 + 1 ≤ 21 := by
    have : n * eb ≤ 10 * 31 := Nat.mul_le_mul hn heb
    omega
  have loop : ∀ (u k : Nat) (g : Nat → va_E) (nu' de' : Nat → Int64), k + u = n → (∀ c, c ≠ lt → c ≠ tp → c ≠ bt → c ≠ ot → c ≠ ob → c ≠ nm → c ≠ dn → g c = f2 c) → lOK E L g lt tp bt ot ob → px_at L g nm (aJ E 10 nu') → px_at L g dn (aJ E 10 de') → (∀ j, j < k → fit (M j n) d ∧ (nu' j).toInt = fN (M j n) d ∧ (de' j).toInt = fM (M j n) d) → px p l e (px_rm 6 147) s m [.ref rr].toArray below meth c 2 E A s.heap L (g) 0 0 Q 27 [(0, .ref rr), (1, .int (nI k))] [] := by
    intro u
    induction u with
    | zero =>
      intro k g nu' de' hk hg hLg hng hdg hj
      have e1 : k = n := by omega
      subst e1
      have hqg : px_at L g rr (.inr (2, xF sy nm dn el lt (nI k) (nI 0))) := hq2.fr (hg rr rrL.1 rrL.2.1 rrL.2.2.1 rrL.2.2.2.1 rrL.2.2.2.2 (fun h => nmr h.symm) (fun h => dnr h.symm))
      obtain ⟨-, ⟨nu9, de9, c2⟩, ⟨t1, c3⟩, ⟨t2, c4⟩, ⟨t3, c5⟩, ⟨t4, c6⟩⟩ := id hLg
      refine px_iload_n hC 1 rfl dX3_solve_27 ?_
      refine px_aload_n hC 0 rfl dX3_solve_28 ?_
      refine px_get (C := RX3) (T := TX3) (N := 7) hC hqg rfl kkX3_solve_X3 5 (by decide) flX3_solve_35 rfl dX3_solve_29 ?_
      refine px_icmp_ge hC 103 dX3_solve_32 (by decide) (fun _ => ?_) (fun q9 => (q9 (nI_le (Nat.le_refl k) (by omega))).elim)
      refine px_aload_n hC 0 rfl dX3_solve_103 ?_
      refine px_iconst (v := nI 1) hC (by decide) dX3_solve_104 ?_
      refine px_put (C := RX3) (T := TX3) (N := 7) (fs' := xF sy nm dn el lt (nI k) (nI 1)) hC hqg rfl kkX3_solve_X3 6 (by decide) tyX3 tyX3_ok nmX3 flX3_solve_39 rfl (by decide) (by decide) (Nat.le_of_ble_eq_true rfl) rfl dX3_solve_105 ?_
      refine px_iconst (v := nI 0) hC (by decide) dX3_solve_108 ?_
      subst hQ
      exact px_iret hC rfl (⟨_, rfl, rfl, 1, nu', de', ⟨hG, h1n, hn, by decide, hqg.self, ⟨sr, (hsy2.fr (hg sy syL.1 syL.2.1 syL.2.2.1 syL.2.2.2.1 syL.2.2.2.2 (hsy.nk hnm rfl) (hsy.nk hdn rfl))).up syr, hsr⟩, fun i hi => ((hra2 i hi).fr (hg (ra i) (raL i hi).1 (raL i hi).2.1 (raL i hi).2.2.1 (raL i hi).2.2.2.1 (raL i hi).2.2.2.2 ((hra i hi).nk hnm rfl) ((hra i hi).nk hdn rfl))).up (rar i hi), hng.up nmr, hdg.up dnr, eOK_fr hE2 (fun c hc => by rw [va_up_ne _ _ (show c ≠ rr from fun h => nErr (h ▸ hc))]; exact hg c (fun h => nElt (h ▸ hc)) (fun h => nEtp (h ▸ hc)) (fun h => nEbt (h ▸ hc)) (fun h => nEot (h ▸ hc)) (fun h => nEob (h ▸ hc)) (fun h => nEnm (h ▸ hc)) (fun h => nEdn (h ▸ hc))), lOK_fr hLg (va_up_ne _ _ (fun h => rrL.1 h.symm)) (va_up_ne _ _ (fun h => rrL.2.1 h.symm)) (va_up_ne _ _ (fun h => rrL.2.2.1 h.symm)) (va_up_ne _ _ (fun h => rrL.2.2.2.1 h.symm)) (va_up_ne _ _ (fun h => rrL.2.2.2.2 h.symm))⟩, fun c hc => by obtain ⟨b1, b2, b3, b4, b5, b6, b7, b8, b9⟩ := hfE c hc; rw [va_up_ne _ _ b1, hg c b5 b6 b7 b8 b9 b2 b3]; exact fr2 c hc, Or.inr ⟨d, M, hb, Or.inr ⟨fun j hj2 => (hj j hj2).1, rfl, rfl, fun j hj2 => (hj j hj2).2⟩⟩⟩) dX3_solve_109
    | succ u ih =>
      intro k g nu' de' hk hg hLg hng hdg hj
      have gA : ∀ c, eA el cs np od wk ad0 c → g c = f2 c := fun c hc => hg c (fun h => nElt (h ▸ hc)) (fun h => nEtp (h ▸ hc)) (fun h => nEbt (h ▸ hc)) (fun h => nEot (h ▸ hc)) (fun h => nEob (h ▸ hc)) (fun h => nEnm (h ▸ hc)) (fun h => nEdn (h ▸ hc))
      have hqg : px_at L g rr (.inr (2, xF sy nm dn el lt (nI n) (nI 0))) := hq2.fr (hg rr rrL.1 rrL.2.1 rrL.2.2.1 rrL.2.2.2.1 rrL.2.2.2.2 (fun h => nmr h.symm) (fun h => dnr h.symm))
      have qqg := qq.fr (gA el (Or.inl rfl))
      have qcg := qc.fr (gA cs (Or.inr (Or.inl rfl)))
      have qMg := (qM k (by omega)).1.fr (gA _ (inA (k * 11 + n) (by omega)))
      have qdg := qd.fr (gA _ (inA ((n - 1) * 11 + (n - 1)) (by omega)))
      have ane : ∀ t, t < 110 → ad t ≠ tp ∧ ad t ≠ bt ∧ ad t ≠ ot ∧ ad t ≠ ob := fun t ht => ⟨fun h => nEtp (h ▸ inA t ht), fun h => nEbt (h ▸ inA t ht), fun h => nEot (h ▸ inA t ht), fun h => nEob (h ▸ inA t ht)⟩
      obtain ⟨-, ⟨nu9, de9, c2⟩, -⟩ := id hLg
      refine px_iload_n hC 1 rfl dX3_solve_27 ?_
      refine px_aload_n hC 0 rfl dX3_solve_28 ?_
      refine px_get (C := RX3) (T := TX3) (N := 7) hC hqg rfl kkX3_solve_X3 5 (by decide) flX3_solve_35 rfl dX3_solve_29 ?_
      refine px_icmp_ge hC 103 dX3_solve_32 (by decide) (fun q9 => absurd q9 (nI_ge (by omega) (by omega))) (fun _ => ?_)
      refine px_aload_n hC 0 rfl dX3_solve_35 ?_
      refine px_get (C := RX3) (T := TX3) (N := 7) hC hqg rfl kkX3_solve_X3 4 (by decide) flX3_solve_31 rfl dX3_solve_36 ?_
      refine px_aload_n hC 0 rfl dX3_solve_39 ?_
      refine px_get (C := RX3) (T := TX3) (N := 7) hC hqg rfl kkX3_solve_X3 3 (by decide) flX3_solve_24 rfl dX3_solve_40 ?_
      refine px_iload_n hC 1 rfl dX3_solve_43 ?_
      refine px_callVr (C := RX0) (T := TX0) (N := 10) (st := [.ref lt]) (nn := 1) hC (c_dividend l E L g el k n qqg qcg (qD.1 _ (by omega)) (by omega)) qqg rfl gX3_solve_X0_dividend rfl (by decide +kernel) (by decide) (Nat.le_of_ble_eq_true rfl) (by decide) rfl rfl dX3_solve_44 (fun z1 f3 h3 => ?_)
      obtain ⟨rfl, rfl⟩ := h3
      refine px_aload_n hC 0 rfl dX3_solve_47 ?_
      refine px_get (C := RX3) (T := TX3) (N := 7) hC hqg rfl kkX3_solve_X3 3 (by decide) flX3_solve_24 rfl dX3_solve_48 ?_
      refine px_callVr (C := RX0) (T := TX0) (N := 10) (st := [.ref (ad (k * 11 + n)), .ref lt]) (nn := 0) hC (c_divisor l E L _ el n qqg qcg h1n (qD.1 _ (by omega)) (by omega)) qqg rfl gX3_solve_X0_divisor rfl (by decide +kernel) (by decide) (Nat.le_of_ble_eq_true rfl) (by decide) rfl rfl dX3_solve_51 (fun z2 f4 h4 => ?_)
      obtain ⟨rfl, rfl⟩ := h4
      refine px_aload_n hC 0 rfl dX3_solve_54 ?_
      refine px_get (C := RX3) (T := TX3) (N := 7) hC hqg rfl kkX3_solve_X3 3 (by decide) flX3_solve_24 rfl dX3_solve_55 ?_
      refine px_callVi (C := RX0) (T := TX0) (N := 10) (st := [.ref (ad ((n - 1) * 11 + (n - 1))), .ref (ad (k * 11 + n)), .ref lt]) (nn := 0) hC (c_width l E L _ el n qqg hn heb) qqg rfl gX3_solve_X0_width rfl (by decide +kernel) (by decide) (Nat.le_of_ble_eq_true rfl) (by decide) rfl rfl dX3_solve_58 (fun z3 f5 h5 => ?_)
      obtain ⟨rfl, rfl⟩ := h5
      refine px_callVi (C := RX2) (T := TX2) (N := 6) (st := []) (nn := 3) hC (c_find l E L _ lt (ad (k * 11 + n)) (ad ((n - 1) * 11 + (n - 1))) ((n * eb + 23) / 32 + 1) hLg qMg qdg hd0 (ane _ (by omega)) (ane _ (by omega)) (by omega) hw1 (by have := (qM k (by omega)).2; omega) (by omega)) c2 rfl gX3_solve_X2_find rfl (by decide +kernel) (by decide) (Nat.le_of_ble_eq_true rfl) (by decide) rfl rfl dX3_solve_61 (fun z4 f6 h6 => ?_)
      obtain ⟨hL6, hf6, h6⟩ := h6
      have hq6 : px_at L f6 rr (.inr (2, xF sy nm dn el lt (nI n) (nI 0))) := hqg.fr (hf6 rr rrL.1 rrL.2.1 rrL.2.2.1 rrL.2.2.2.1 rrL.2.2.2.2)
      have hn6 := hng.fr (hf6 nm nmL.1 nmL.2.1 nmL.2.2.1 nmL.2.2.2.1 nmL.2.2.2.2)
      have hd6 := hdg.fr (hf6 dn dnL.1 dnL.2.1 dnL.2.2.1 dnL.2.2.2.1 dnL.2.2.2.2)
      have hg6 : ∀ c, c ≠ lt → c ≠ tp → c ≠ bt → c ≠ ot → c ≠ ob → c ≠ nm → c ≠ dn → f6 c = f2 c := fun c a1 a2 a3 a4 a5 a6 a7 => by rw [hf6 c a1 a2 a3 a4 a5]; exact hg c a1 a2 a3 a4 a5 a6 a7
      rcases h6 with ⟨rfl, hfit, nu1, de1, e1, e2, h6⟩ | ⟨rfl, hfit⟩
      · have nuU : ∀ j, j < k + 1 → fit (M j n) d ∧ (vp_updL nu' k nu1 j).toInt = fN (M j n) d ∧ (vp_updL de' k de1 j).toInt = fM (M j n) d := fun j hj2 => by
          by_cases q : j = k
          · subst q; rw [pk_uLs, pk_uLs]; exact ⟨hfit, e1, e2⟩
          · rw [pk_uLn q, pk_uLn q]; exact hj j (by omega)
        refine px_if_ne hC 71 dX3_solve_64 (by decide) (fun _ => ?_) (fun q9 => absurd q9 (by decide))
        refine px_aload_n hC 0 rfl dX3_solve_71 ?_
        refine px_get (C := RX3) (T := TX3) (N := 7) hC hq6 rfl kkX3_solve_X3 1 (by decide) flX3_solve_14 rfl dX3_solve_72 ?_
        refine px_iload_n hC 1 rfl dX3_solve_75 ?_
        refine px_aload_n hC 0 rfl dX3_solve_76 ?_
        refine px_get (C := RX3) (T := TX3) (N := 7) hC hq6 rfl kkX3_solve_X3 4 (by decide) flX3_solve_31 rfl dX3_solve_77 ?_
        refine px_getN (C := RX2) (T := TX2) (N := 6) hC h6 rfl kkX3_solve_X2 4 (by decide) (va_Nw.use rfl hC.2.2.2.2.2.2.2.1.2.2.2.1) rfl dX3_solve_80 ?_
        refine px_last hC hn6 (by omega) (by first | decide | assumption | omega) dX3_solve_83 ?_
        refine px_aload_n hC 0 rfl dX3_solve_84 ?_
        refine px_get (C := RX3) (T := TX3) (N := 7) hC (hq6.up (fun h => nmr h.symm)) rfl kkX3_solve_X3 2 (by decide) flX3_solve_18 rfl dX3_solve_85 ?_
        refine px_iload_n hC 1 rfl dX3_solve_88 ?_
        refine px_aload_n hC 0 rfl dX3_solve_89 ?_
        refine px_get (C := RX3) (T := TX3) (N := 7) hC (hq6.up (fun h => nmr h.symm)) rfl kkX3_solve_X3 4 (by decide) flX3_solve_31 rfl dX3_solve_90 ?_
        refine px_getN (C := RX2) (T := TX2) (N := 6) hC (h6.up (fun h => nmL.1 h.symm)) rfl kkX3_solve_X2 5 (by decide) (va_Nw.use rfl hC.2.2.2.2.2.2.2.1.2.2.2.2.1) rfl dX3_solve_93 ?_
        refine px_last hC (hd6.up (fun h => hG.2.1 h.symm)) (by omega) (by first | decide | assumption | omega) dX3_solve_96 ?_
        refine px_iinc (v := nI (k + 1)) (lv' := [(0, .ref rr), (1, .int (nI (k + 1)))]) hC 1 [1, 0] dX3_solve_97 rfl (nI_1 k) (by decide) rfl ?_
        refine px_goto hC 27 dX3_solve_100 (by decide) ?_
        have up2 : ∀ c, c ≠ nm → c ≠ dn → va_up (va_up f6 nm (aJ E 10 (vp_updL nu' k nu1))) dn (aJ E 10 (vp_updL de' k de1)) c = f6 c := fun c a1 a2 => by rw [va_up_ne _ _ a2, va_up_ne _ _ a1]
        exact ih (k + 1) _ (vp_updL nu' k nu1) (vp_updL de' k de1) (by omega) (fun c a1 a2 a3 a4 a5 a6 a7 => by rw [up2 c a6 a7]; exact hg6 c a1 a2 a3 a4 a5 a6 a7) (lOK_fr hL6 (up2 lt (fun h => nmL.1 h.symm) (fun h => dnL.1 h.symm)) (up2 tp (fun h => nmL.2.1 h.symm) (fun h => dnL.2.1 h.symm)) (up2 bt (fun h => nmL.2.2.1 h.symm) (fun h => dnL.2.2.1 h.symm)) (up2 ot (fun h => nmL.2.2.2.1 h.symm) (fun h => dnL.2.2.2.1 h.symm)) (up2 ob (fun h => nmL.2.2.2.2 h.symm) (fun h => dnL.2.2.2.2 h.symm))) (hn6.self.up hG.2.1) ((hd6.up (fun h => hG.2.1 h.symm)).self) nuU
      · refine px_if_ne hC 71 dX3_solve_64 (by decide) (fun q9 => (q9 (by decide)).elim) (fun _ => ?_)
        refine px_iconst (v := nI 1) hC (by decide) dX3_solve_67 ?_
        refine px_iload_n hC 1 rfl dX3_solve_68 ?_
        refine px_iadd hC dX3_solve_69 ?_
        refine px_ei (y := nI (1 + k)) (nI_add _ _) ?_
        subst hQ
        exact px_iret hC rfl (⟨_, rfl, rfl, 0, nu', de', ⟨hG, h1n, hn, by decide, hq6, ⟨sr, hsy2.fr (hg6 sy syL.1 syL.2.1 syL.2.2.1 syL.2.2.2.1 syL.2.2.2.2 (hsy.nk hnm rfl) (hsy.nk hdn rfl)), hsr⟩, fun i hi => (hra2 i hi).fr (hg6 (ra i) (raL i hi).1 (raL i hi).2.1 (raL i hi).2.2.1 (raL i hi).2.2.2.1 (raL i hi).2.2.2.2 ((hra i hi).nk hnm rfl) ((hra i hi).nk hdn rfl)), hn6, hd6, eOK_fr hE2 (fun c hc => hg6 c (fun h => nElt (h ▸ hc)) (fun h => nEtp (h ▸ hc)) (fun h => nEbt (h ▸ hc)) (fun h => nEot (h ▸ hc)) (fun h => nEob (h ▸ hc)) (fun h => nEnm (h ▸ hc)) (fun h => nEdn (h ▸ hc))), hL6⟩, fun c hc => by obtain ⟨b1, b2, b3, b4, b5, b6, b7, b8, b9⟩ := hfE c hc; rw [hg6 c b5 b6 b7 b8 b9 b2 b3]; exact fr2 c hc, Or.inr ⟨d, M, hb, Or.inl ⟨k, by omega, fun j hj2 => (hj j hj2).1, hfit, rfl, rfl⟩⟩⟩) dX3_solve_70
  refine px_if_ne hC 25 dX3_solve_20 (by decide) (fun _ => ?_) (fun q9 => absurd q9 (by decide))
  refine px_iconst (v := nI 0) hC (by decide) dX3_solve_25 ?_
  refine px_istore_n (lv' := [(0, .ref rr), (1, .int (nI 0))]) hC [1, 0] dX3_solve_26 (by decide) rfl ?_
  exact loop n 0 f2 nu de (by omega) (fun c _ _ _ _ _ _ _ => rfl) hL2 hnm2 hdn2 (fun j hj => absurd hj (by omega))
end XX
end
section
/-! ===== the reference's numbers ===== -/
abbrev gF (pa : Nat) (n mi : Int32) (vv : Int64) : List Value := [.ref pa, .int n, .int mi, .long vv]
def gS (E : px_E) (L : List Nat) (f : Nat → va_E) (g pa n mi : Nat) (x : Nat → Nat) (vv : Int64) : Prop := px_at L f g (.inr (3, gF pa (nI n) (nI mi) vv)) ∧ px_at L f pa (aI E 40 (iw x))
/-- n limbs of 28 bits, none too many, and a sign: the whole number v -/
def gC (n mi : Nat) (x : Nat → Nat) (v : Int) : Prop := n ≤ 40 ∧ (∀ i, i < n → x i < 268435456) ∧ (n ≠ 0 → x (n - 1) ≠ 0) ∧ mi < 2 ∧ v.natAbs = vl 268435456 x n ∧ (mi = 1 ↔ v < 0)
def gR (E : px_E) (L : List Nat) (f : Nat → va_E) (g pa : Nat) (v : Int) : Prop := ∃ n mi x vv, gS E L f g pa n mi x vv ∧ gC n mi x v
theorem gS.fr {E : px_E} {L : List Nat} {f h : Nat → va_E} {g pa n mi : Nat} {x : Nat → Nat} {vv : Int64} (hS : gS E L f g pa n mi x vv) (h1 : h g = f g) (h2 : h pa = f pa) : gS E L h g pa n mi x vv := ⟨hS.1.fr h1, hS.2.fr h2⟩
theorem gR.fr {E : px_E} {L : List Nat} {f h : Nat → va_E} {g pa : Nat} {v : Int} (hR : gR E L f g pa v) (h1 : h g = f g) (h2 : h pa = f pa) : gR E L h g pa v := by
  obtain ⟨n, mi, x, vv, hS, hC⟩ := hR
  exact ⟨n, mi, x, vv, hS.fr h1 h2, hC⟩
theorem gS.ne {E : px_E} {L : List Nat} {f : Nat → va_E} {g pa n mi : Nat} {x : Nat → Nat} {vv : Int64} (hS : gS E L f g pa n mi x vv) : g ≠ pa := hS.1.nk hS.2 rfl
theorem gC_top {n : Nat} {x : Nat → Nat} (h : n ≠ 0 → x (n - 1) ≠ 0) (hn : n ≠ 0) : 268435456 ^ (n - 1) ≤ vl 268435456 x n := by
  have h1 := vl_ge (B := 268435456) (x := x) (n := n) (i := n - 1) (by omega)
  have h2 : 1 * 268435456 ^ (n - 1) ≤ x (n - 1) * 268435456 ^ (n - 1) := Nat.mul_le_mul_right _ (Nat.pos_of_ne_zero (h hn))
  omega
theorem gC_len {n k : Nat} {x : Nat → Nat} (h : n ≠ 0 → x (n - 1) ≠ 0) (hv : vl 268435456 x n < 268435456 ^ k) : n ≤ k := by
  rcases Nat.lt_or_ge k n with q | q
  · have h1 := gC_top h (by omega)
    have h2 : 268435456 ^ k ≤ 268435456 ^ (n - 1) := Nat.pow_le_pow_right (by decide) (by omega)
    omega
  · exact q
theorem gC_0 {n mi : Nat} {x : Nat → Nat} {v : Int} (h : gC n mi x v) : n = 0 ↔ v = 0 := by
  obtain ⟨h1, h2, h3, h4, h5, h6⟩ := h
  constructor
  · intro q; subst q
    have : v.natAbs = 0 := h5
    omega
  · intro q; subst q
    rcases Nat.eq_zero_or_pos n with r | r
    · exact r
    · have h7 := gC_top h3 (by omega)
      have h8 : 0 < 268435456 ^ (n - 1) := Nat.pow_pos (by decide)
      have h9 : (0 : Nat) = vl 268435456 x n := h5
      omega
theorem c28 {i : Nat} {x : Nat → Nat} {n : Nat} (h : ∀ i, i < n → x i < 268435456) (hi : i < n) : x i < 2 ^ 31 := by
  have := h i hi
  omega
theorem flX4_isZero_15 : Cond.fieldLink RX4 15 "RowReductionModel$Great" "n" "I" ∈ wsX4_isZero := by decide +kernel
theorem kkX4_isZero_X4 : ∀ w ∈ wsX40, w ∈ wsX4_isZero := fun _ h => List.mem_cons_of_mem _ (List.mem_append_right _ h)
theorem flX4_trim_15 : Cond.fieldLink RX4 15 "RowReductionModel$Great" "n" "I" ∈ wsX4_trim := by decide +kernel
theorem kkX4_trim_X4 : ∀ w ∈ wsX40, w ∈ wsX4_trim := fun _ h => List.mem_cons_of_mem _ (List.mem_append_right _ h)
theorem flX4_trim_19 : Cond.fieldLink RX4 19 "RowReductionModel$Great" "minus" "Z" ∈ wsX4_trim := by decide +kernel
theorem flX4_trim_9 : Cond.fieldLink RX4 9 "RowReductionModel$Great" "parts" "[I" ∈ wsX4_trim := by decide +kernel
theorem flX4_compare_15 : Cond.fieldLink RX4 15 "RowReductionModel$Great" "n" "I" ∈ wsX4_compare := by decide +kernel
theorem kkX4_compare_X4 : ∀ w ∈ wsX40, w ∈ wsX4_compare := fun _ h => List.mem_cons_of_mem _ (List.mem_append_right _ h)
theorem flX4_compare_9 : Cond.fieldLink RX4 9 "RowReductionModel$Great" "parts" "[I" ∈ wsX4_compare := by decide +kernel
theorem flX4_set__15 : Cond.fieldLink RX4 15 "RowReductionModel$Great" "n" "I" ∈ wsX4_set_ := by decide +kernel
theorem kkX4_set__X4 : ∀ w ∈ wsX40, w ∈ wsX4_set_ := fun _ h => List.mem_cons_of_mem _ (List.mem_append_right _ h)
theorem flX4_set__9 : Cond.fieldLink RX4 9 "RowReductionModel$Great" "parts" "[I" ∈ wsX4_set_ := by decide +kernel
theorem flX4_set__19 : Cond.fieldLink RX4 19 "RowReductionModel$Great" "minus" "Z" ∈ wsX4_set_ := by decide +kernel
theorem c_gZero (l : Launch) (E : px_E) (L : List Nat) (f : Nat → va_E) (g pa n mi : Nat) (x : Nat → Nat) (vv : Int64) (hS : gS E L f g pa n mi x vv) (hn : n ≤ 40) : px_M l yX4_isZero wsX4_isZero (px_rm 0 0) E L f [.ref g] (px_i L (fun z f' => f' = f ∧ ((z = nI 1 ∧ n = 0) ∨ (z = nI 0 ∧ n ≠ 0)))) := by
  refine px_M.of (cc := cX4_isZero) (maxL := 1) (ret := (some .boolean)) (lv := [(0, .ref g)]) (by decide) rfl (Nat.le_of_ble_eq_true rfl) rfl ?_
  intro p e s m below meth c A hC hnm
  obtain ⟨Q, hQ⟩ : ∃ Q, Q = MQ below (px_Q E (px_i L (fun z f' => f' = f ∧ ((z = nI 1 ∧ n = 0) ∨ (z = nI 0 ∧ n ≠ 0)))) A) [.ref g].toArray s (px_rm 0 0).cells (px_rm 0 0).slots A := ⟨_, rfl⟩
  rw [← hQ]
  refine px_aload_n hC 0 rfl dX4_isZero_0 ?_
  refine px_get (C := RX4) (T := TX4) (N := 4) hC hS.1 rfl kkX4_isZero_X4 1 (by decide) flX4_isZero_15 rfl dX4_isZero_1 ?_
  by_cases h : n = 0
  · refine px_if_ne hC 11 dX4_isZero_4 (by decide) (fun q9 => (q9 (by rw [h]; rfl)).elim) (fun _ => ?_)
    refine px_iconst (v := nI 1) hC (by decide) dX4_isZero_7 ?_
    refine px_goto hC 12 dX4_isZero_8 (by decide) ?_
    subst hQ
    exact px_zret hC rfl (by decide) (⟨_, rfl, rfl, rfl, Or.inl ⟨rfl, h⟩⟩) dX4_isZero_12
  · refine px_if_ne hC 11 dX4_isZero_4 (by decide) (fun _ => ?_) (fun q9 => absurd q9 (nI_ne0 (by omega) (by omega)))
    refine px_iconst (v := nI 0) hC (by decide) dX4_isZero_11 ?_
    subst hQ
    exact px_zret hC rfl (by decide) (⟨_, rfl, rfl, rfl, Or.inr ⟨rfl, h⟩⟩) dX4_isZero_12
theorem c_trim (l : Launch) (E : px_E) (L : List Nat) (f : Nat → va_E) (g pa to mi : Nat) (n0 : Int32) (x : Nat → Nat) (vv : Int64) (h1 : px_at L f g (.inr (3, gF pa n0 (nI mi) vv))) (h2 : px_at L f pa (aI E 40 (iw x))) (hto : to ≤ 40) (hx : ∀ i, i < to → x i < 268435456) : px_M l yX4_trim wsX4_trim (px_rm 0 0) E L f [.ref g, .int (nI to)] (px_v L (fun f' => ∃ n', n' ≤ to ∧ vl 268435456 x n' = vl 268435456 x to ∧ (n' ≠ 0 → x (n' - 1) ≠ 0) ∧ f' = va_up f g (.inr (3, gF pa (nI n') (nI (if n' = 0 then 0 else mi)) vv)))) := by
  refine px_M.of (cc := cX4_trim) (maxL := 2) (ret := none) (lv := [(0, .ref g), (1, .int (nI to))]) (by decide) rfl (Nat.le_of_ble_eq_true rfl) rfl ?_
  intro p e s m below meth c A hC hnm
  obtain ⟨Q, hQ⟩ : ∃ Q, Q = MQ below (px_Q E (px_v L (fun f' => ∃ n', n' ≤ to ∧ vl 268435456 x n' = vl 268435456 x to ∧ (n' ≠ 0 → x (n' - 1) ≠ 0) ∧ f' = va_up f g (.inr (3, gF pa (nI n') (nI (if n' = 0 then 0 else mi)) vv)))) A) [.ref g, .int (nI to)].toArray s (px_rm 0 0).cells (px_rm 0 0).slots A := ⟨_, rfl⟩
  rw [← hQ]
  have hgp : pa ≠ g := fun h => h1.nk h2 rfl h.symm
  have last : ∀ k, k ≤ to → vl 268435456 x k = vl 268435456 x to → (k ≠ 0 → x (k - 1) ≠ 0) → px p l e (px_rm 0 0) s m [.ref g, .int (nI to)].toArray below meth c 2 E A s.heap L (va_up f g (.inr (3, gF pa (nI k) (nI mi) vv))) 0 0 Q 39 [(0, .ref g), (1, .int (nI to))] [] := by
    intro k hk hv hz
    refine px_aload_n hC 0 rfl dX4_trim_39 ?_
    refine px_get (C := RX4) (T := TX4) (N := 4) hC h1.self rfl kkX4_trim_X4 1 (by decide) flX4_trim_15 rfl dX4_trim_40 ?_
    by_cases h : k = 0
    · subst h
      refine px_if_ne hC 51 dX4_trim_43 (by decide) (fun q9 => (q9 (rfl)).elim) (fun _ => ?_)
      refine px_aload_n hC 0 rfl dX4_trim_46 ?_
      refine px_iconst (v := nI 0) hC (by decide) dX4_trim_47 ?_
      refine px_put (C := RX4) (T := TX4) (N := 4) (fs' := gF pa (nI 0) (nI 0) vv) hC h1.self rfl kkX4_trim_X4 2 (by decide) tyX4 tyX4_ok nmX4 flX4_trim_19 rfl (by decide) (by decide) (Nat.le_of_ble_eq_true rfl) rfl dX4_trim_48 ?_
      rw [px_uu]
      subst hQ
      exact px_vret hC rfl (⟨rfl, rfl, 0, hk, hv, hz, rfl⟩) dX4_trim_51
    · refine px_if_ne hC 51 dX4_trim_43 (by decide) (fun _ => ?_) (fun q9 => absurd q9 (nI_ne0 (by omega) (by omega)))
      subst hQ
      exact px_vret hC rfl (⟨rfl, rfl, k, hk, hv, hz, by rw [if_neg h]⟩) dX4_trim_51
  have loop : ∀ k, k ≤ to → vl 268435456 x k = vl 268435456 x to → px p l e (px_rm 0 0) s m [.ref g, .int (nI to)].toArray below meth c 2 E A s.heap L (va_up f g (.inr (3, gF pa (nI k) (nI mi) vv))) 0 0 Q 5 [(0, .ref g), (1, .int (nI to))] [] := by
    intro k
    induction k with
    | zero =>
      intro hk hv
      refine px_aload_n hC 0 rfl dX4_trim_5 ?_
      refine px_get (C := RX4) (T := TX4) (N := 4) hC h1.self rfl kkX4_trim_X4 1 (by decide) flX4_trim_15 rfl dX4_trim_6 ?_
      refine px_if_le hC 39 dX4_trim_9 (by decide) (fun _ => ?_) (fun q9 => (q9 (by decide)).elim)
      exact last 0 hk hv (fun h => absurd rfl h)
    | succ k ih =>
      intro hk hv
      have hxk := hx k (by omega)
      refine px_aload_n hC 0 rfl dX4_trim_5 ?_
      refine px_get (C := RX4) (T := TX4) (N := 4) hC h1.self rfl kkX4_trim_X4 1 (by decide) flX4_trim_15 rfl dX4_trim_6 ?_
      refine px_if_le hC 39 dX4_trim_9 (by decide) (fun q9 => absurd q9 (nI_nle (by omega) (by omega))) (fun _ => ?_)
      refine px_aload_n hC 0 rfl dX4_trim_12 ?_
      refine px_get (C := RX4) (T := TX4) (N := 4) hC h1.self rfl kkX4_trim_X4 0 (by decide) flX4_trim_9 rfl dX4_trim_13 ?_
      refine px_aload_n hC 0 rfl dX4_trim_16 ?_
      refine px_get (C := RX4) (T := TX4) (N := 4) hC h1.self rfl kkX4_trim_X4 1 (by decide) flX4_trim_15 rfl dX4_trim_17 ?_
      refine px_iconst (v := nI 1) hC (by decide) dX4_trim_20 ?_
      refine px_isub hC dX4_trim_21 ?_
      refine px_ei (y := nI k) (nI_pred k) ?_
      refine px_iald hC (h2.up hgp) (by omega) (by first | decide | assumption | omega) dX4_trim_22 ?_
      by_cases h : x k = 0
      · refine px_if_ne hC 39 dX4_trim_23 (by decide) (fun q9 => (q9 (by show nI (x k) = 0; rw [h]; rfl)).elim) (fun _ => ?_)
        refine px_aload_n hC 0 rfl dX4_trim_26 ?_
        refine px_dup hC rfl dX4_trim_27 ?_
        refine px_get (C := RX4) (T := TX4) (N := 4) hC h1.self rfl kkX4_trim_X4 1 (by decide) flX4_trim_15 rfl dX4_trim_28 ?_
        refine px_iconst (v := nI 1) hC (by decide) dX4_trim_31 ?_
        refine px_isub hC dX4_trim_32 ?_
        refine px_ei (y := nI k) (nI_pred k) ?_
        refine px_put (C := RX4) (T := TX4) (N := 4) (fs' := gF pa (nI k) (nI mi) vv) hC h1.self rfl kkX4_trim_X4 1 (by decide) tyX4 tyX4_ok nmX4 flX4_trim_15 rfl rfl rfl (Nat.le_of_ble_eq_true rfl) rfl dX4_trim_33 ?_
        rw [px_uu]
        refine px_goto hC 5 dX4_trim_36 (by decide) ?_
        exact ih (by omega) (by rw [← hv]; show vl 268435456 x k = vl 268435456 x k + x k * 268435456 ^ k; rw [h]; omega)
      · refine px_if_ne hC 39 dX4_trim_23 (by decide) (fun _ => ?_) (fun q9 => absurd q9 (nI_ne0 (n := x k) (by omega) (by omega)))
        exact last (k + 1) hk hv (fun _ => h)
  refine px_aload_n hC 0 rfl dX4_trim_0 ?_
  refine px_iload_n hC 1 rfl dX4_trim_1 ?_
  refine px_put (C := RX4) (T := TX4) (N := 4) (fs' := gF pa (nI to) (nI mi) vv) hC h1 rfl kkX4_trim_X4 1 (by decide) tyX4 tyX4_ok nmX4 flX4_trim_15 rfl rfl rfl (Nat.le_of_ble_eq_true rfl) rfl dX4_trim_2 ?_
  exact loop to (Nat.le_refl to) rfl
theorem c_gCmp (l : Launch) (E : px_E) (L : List Nat) (f : Nat → va_E) (g pa g2 pa2 n mi n2 mi2 : Nat) (x y : Nat → Nat) (vv vv2 : Int64) (hS : gS E L f g pa n mi x vv) (hT : gS E L f g2 pa2 n2 mi2 y vv2) (hn : n ≤ 40) (hn2 : n2 ≤ 40) (hx : ∀ i, i < n → x i < 268435456) (hy : ∀ i, i < n2 → y i < 268435456) (tx : n ≠ 0 → x (n - 1) ≠ 0) (ty : n2 ≠ 0 → y (n2 - 1) ≠ 0) : px_M l yX4_compare wsX4_compare (px_rm 0 0) E L f [.ref g, .ref g2] (px_i L (fun z f' => f' = f ∧ ((z = nI 0 ∧ vl 268435456 x n = vl 268435456 y n2) ∨ (z = nI 1 ∧ vl 268435456 y n2 < vl 268435456 x n) ∨ (z = (-1) ∧ vl 268435456 x n < vl 268435456 y n2)))) := by
  refine px_M.of (cc := cX4_compare) (maxL := 3) (ret := (some .int)) (lv := [(0, .ref g), (1, .ref g2)]) (by decide) rfl (Nat.le_of_ble_eq_true rfl) rfl ?_
  intro p e s m below meth c A hC hnm
  obtain ⟨Q, hQ⟩ : ∃ Q, Q = MQ below (px_Q E (px_i L (fun z f' => f' = f ∧ ((z = nI 0 ∧ vl 268435456 x n = vl 268435456 y n2) ∨ (z = nI 1 ∧ vl 268435456 y n2 < vl 268435456 x n) ∨ (z = (-1) ∧ vl 268435456 x n < vl 268435456 y n2)))) A) [.ref g, .ref g2].toArray s (px_rm 0 0).cells (px_rm 0 0).slots A := ⟨_, rfl⟩
  rw [← hQ]
  have small : ∀ {a b : Nat} {u w : Nat → Nat}, (∀ i, i < a → u i < 268435456) → (b ≠ 0 → w (b - 1) ≠ 0) → a < b → vl 268435456 u a < vl 268435456 w b := fun {a b u w} h1 h2 h3 => by
    have q1 := vl_lt h1
    have q2 := gC_top h2 (by omega)
    have q3 : 268435456 ^ a ≤ 268435456 ^ (b - 1) := Nat.pow_le_pow_right (by decide) (by omega)
    omega
  refine px_aload_n hC 0 rfl dX4_compare_0 ?_
  refine px_get (C := RX4) (T := TX4) (N := 4) hC hS.1 rfl kkX4_compare_X4 1 (by decide) flX4_compare_15 rfl dX4_compare_1 ?_
  refine px_aload_n hC 1 rfl dX4_compare_4 ?_
  refine px_get (C := RX4) (T := TX4) (N := 4) hC hT.1 rfl kkX4_compare_X4 1 (by decide) flX4_compare_15 rfl dX4_compare_5 ?_
  by_cases h : n = n2
  · subst h
    refine px_icmp_eq hC 28 dX4_compare_8 (by decide) (fun _ => ?_) (fun q9 => (q9 (rfl)).elim)
    have loop : ∀ (d : Nat), d ≤ n → (∀ j, d ≤ j → j < n → x j = y j) → px p l e (px_rm 0 0) s m [.ref g, .ref g2].toArray below meth c 3 E A s.heap L (f) 0 0 Q 35 [(0, .ref g), (1, .ref g2), (2, .int (nI d - nI 1))] [] := by
      intro d
      induction d with
      | zero =>
        intro hd he
        refine px_iload_n hC 2 rfl dX4_compare_35 ?_
        refine px_if_lt hC 81 dX4_compare_36 (by decide) (fun _ => ?_) (fun q9 => (q9 (by decide)).elim)
        refine px_iconst (v := nI 0) hC (by decide) dX4_compare_81 ?_
        subst hQ
        exact px_iret hC rfl (⟨_, rfl, rfl, rfl, Or.inl ⟨rfl, vl_c (fun j hj => he j (by omega) hj)⟩⟩) dX4_compare_82
      | succ d ih =>
        intro hd he
        rw [show nI (d + 1) - nI 1 = nI d from nI_pred d]
        have hxd := hx d (by omega)
        have hyd := hy d (by omega)
        refine px_iload_n hC 2 rfl dX4_compare_35 ?_
        refine px_if_lt hC 81 dX4_compare_36 (by decide) (fun q9 => absurd q9 (nI_pos (by omega))) (fun _ => ?_)
        refine px_aload_n hC 0 rfl dX4_compare_39 ?_
        refine px_get (C := RX4) (T := TX4) (N := 4) hC hS.1 rfl kkX4_compare_X4 0 (by decide) flX4_compare_9 rfl dX4_compare_40 ?_
        refine px_iload_n hC 2 rfl dX4_compare_43 ?_
        refine px_iald hC hS.2 (by omega) (by first | decide | assumption | omega) dX4_compare_44 ?_
        refine px_aload_n hC 1 rfl dX4_compare_45 ?_
        refine px_get (C := RX4) (T := TX4) (N := 4) hC hT.1 rfl kkX4_compare_X4 0 (by decide) flX4_compare_9 rfl dX4_compare_46 ?_
        refine px_iload_n hC 2 rfl dX4_compare_49 ?_
        refine px_iald hC hT.2 (by omega) (by first | decide | assumption | omega) dX4_compare_50 ?_
        by_cases h : x d = y d
        · refine px_icmp_eq hC 75 dX4_compare_51 (by decide) (fun _ => ?_) (fun q9 => (q9 (by show nI (x d) = nI (y d); rw [h])).elim)
          refine px_iinc (v := (nI d - nI 1)) (lv' := [(0, .ref g), (1, .ref g2), (2, .int (nI d - nI 1))]) hC 2 [1, 2, 0] dX4_compare_75 rfl (by rw [Int32.sub_eq_add_neg]; rfl) (by decide) rfl ?_
          refine px_goto hC 35 dX4_compare_78 (by decide) ?_
          exact ih (by omega) (fun j h1 h2 => by
            by_cases q : j = d
            · subst q; exact h
            · exact he j (by omega) h2)
        · refine px_icmp_eq hC 75 dX4_compare_51 (by decide) (fun q9 => absurd q9 (fun q => h (nI_inj2 (by omega) (by omega) q))) (fun _ => ?_)
          refine px_aload_n hC 0 rfl dX4_compare_54 ?_
          refine px_get (C := RX4) (T := TX4) (N := 4) hC hS.1 rfl kkX4_compare_X4 0 (by decide) flX4_compare_9 rfl dX4_compare_55 ?_
          refine px_iload_n hC 2 rfl dX4_compare_58 ?_
          refine px_iald hC hS.2 (by omega) (by first | decide | assumption | omega) dX4_compare_59 ?_
          refine px_aload_n hC 1 rfl dX4_compare_60 ?_
          refine px_get (C := RX4) (T := TX4) (N := 4) hC hT.1 rfl kkX4_compare_X4 0 (by decide) flX4_compare_9 rfl dX4_compare_61 ?_
          refine px_iload_n hC 2 rfl dX4_compare_64 ?_
          refine px_iald hC hT.2 (by omega) (by first | decide | assumption | omega) dX4_compare_65 ?_
          by_cases h2 : y d ≤ x d
          · refine px_icmp_ge hC 73 dX4_compare_66 (by decide) (fun _ => ?_) (fun q9 => (q9 (nI_le h2 (by omega))).elim)
            refine px_iconst (v := nI 1) hC (by decide) dX4_compare_73 ?_
            subst hQ
            exact px_iret hC rfl (⟨_, rfl, rfl, rfl, Or.inr (Or.inl ⟨rfl, vl_cmp hy hx (by omega) (fun j h3 h4 => (he j h3 h4).symm) (by omega)⟩)⟩) dX4_compare_74
          · refine px_icmp_ge hC 73 dX4_compare_66 (by decide) (fun q9 => absurd q9 (nI_ge (by omega) (by omega))) (fun _ => ?_)
            refine px_iconst (v := (-1)) hC (by decide) dX4_compare_69 ?_
            refine px_goto hC 74 dX4_compare_70 (by decide) ?_
            subst hQ
            exact px_iret hC rfl (⟨_, rfl, rfl, rfl, Or.inr (Or.inr ⟨rfl, vl_cmp hx hy (by omega) (fun j h3 h4 => he j h3 h4) (by omega)⟩)⟩) dX4_compare_74
    refine px_aload_n hC 0 rfl dX4_compare_28 ?_
    refine px_get (C := RX4) (T := TX4) (N := 4) hC hS.1 rfl kkX4_compare_X4 1 (by decide) flX4_compare_15 rfl dX4_compare_29 ?_
    refine px_iconst (v := nI 1) hC (by decide) dX4_compare_32 ?_
    refine px_isub hC dX4_compare_33 ?_
    refine px_istore_n (lv' := [(0, .ref g), (1, .ref g2), (2, .int ((nI n) - nI 1))]) hC [1, 2, 0] dX4_compare_34 (by decide) rfl ?_
    exact loop n (Nat.le_refl n) (fun j h1 h2 => absurd h1 (by omega))
  · refine px_icmp_eq hC 28 dX4_compare_8 (by decide) (fun q9 => absurd q9 (fun q => h (nI_inj2 (by omega) (by omega) q))) (fun _ => ?_)
    refine px_aload_n hC 0 rfl dX4_compare_11 ?_
    refine px_get (C := RX4) (T := TX4) (N := 4) hC hS.1 rfl kkX4_compare_X4 1 (by decide) flX4_compare_15 rfl dX4_compare_12 ?_
    refine px_aload_n hC 1 rfl dX4_compare_15 ?_
    refine px_get (C := RX4) (T := TX4) (N := 4) hC hT.1 rfl kkX4_compare_X4 1 (by decide) flX4_compare_15 rfl dX4_compare_16 ?_
    by_cases h2 : n2 ≤ n
    · refine px_icmp_ge hC 26 dX4_compare_19 (by decide) (fun _ => ?_) (fun q9 => (q9 (nI_le h2 (by omega))).elim)
      refine px_iconst (v := nI 1) hC (by decide) dX4_compare_26 ?_
      subst hQ
      exact px_iret hC rfl (⟨_, rfl, rfl, rfl, Or.inr (Or.inl ⟨rfl, small hy tx (by omega)⟩)⟩) dX4_compare_27
    · refine px_icmp_ge hC 26 dX4_compare_19 (by decide) (fun q9 => absurd q9 (nI_ge (by omega) (by omega))) (fun _ => ?_)
      refine px_iconst (v := (-1)) hC (by decide) dX4_compare_22 ?_
      refine px_goto hC 27 dX4_compare_23 (by decide) ?_
      subst hQ
      exact px_iret hC rfl (⟨_, rfl, rfl, rfl, Or.inr (Or.inr ⟨rfl, small hx ty (by omega)⟩)⟩) dX4_compare_27
theorem c_gSet2 (l : Launch) (E : px_E) (L : List Nat) (f : Nat → va_E) (g pa g2 pa2 n mi n2 mi2 : Nat) (x y : Nat → Nat) (vv vv2 : Int64) (hS : gS E L f g pa n mi x vv) (hT : gS E L f g2 pa2 n2 mi2 y vv2) (hg : g ≠ g2) (hp : pa ≠ pa2) (hn2 : n2 ≤ 40) (hmi : mi2 < 2) : px_M l yX4_set_ wsX4_set_ (px_rm 0 0) E L f [.ref g, .ref g2] (px_v L (fun f' => ∃ u, (∀ i, i < n2 → u i = y i) ∧ f' = va_up (va_up f g (.inr (3, gF pa (nI n2) (nI mi2) vv))) pa (aI E 40 (iw u)))) := by
  refine px_M.of (cc := cX4_set_) (maxL := 3) (ret := none) (lv := [(0, .ref g), (1, .ref g2)]) (by decide) rfl (Nat.le_of_ble_eq_true rfl) rfl ?_
  intro p e s m below meth c A hC hnm
  obtain ⟨Q, hQ⟩ : ∃ Q, Q = MQ below (px_Q E (px_v L (fun f' => ∃ u, (∀ i, i < n2 → u i = y i) ∧ f' = va_up (va_up f g (.inr (3, gF pa (nI n2) (nI mi2) vv))) pa (aI E 40 (iw u)))) A) [.ref g, .ref g2].toArray s (px_rm 0 0).cells (px_rm 0 0).slots A := ⟨_, rfl⟩
  rw [← hQ]
  have n1 := hS.ne
  have n3 : g2 ≠ pa := hT.1.nk hS.2 rfl
  have n4 : pa2 ≠ g := fun h => hS.1.nk hT.2 rfl h.symm
  have loop : ∀ (d i : Nat) (u : Nat → Nat), i + d = n2 → (∀ j, j < i → u j = y j) → px p l e (px_rm 0 0) s m [.ref g, .ref g2].toArray below meth c 3 E A s.heap L (va_up (va_up f g (.inr (3, gF pa (nI n2) (nI mi2) vv))) pa (aI E 40 (iw u))) 0 0 Q 18 [(0, .ref g), (1, .ref g2), (2, .int (nI i))] [] := by
    intro d
    induction d with
    | zero =>
      intro i u hi hu
      have e1 : i = n2 := by omega
      subst e1
      refine px_iload_n hC 2 rfl dX4_set__18 ?_
      refine px_aload_n hC 0 rfl dX4_set__19 ?_
      refine px_get (C := RX4) (T := TX4) (N := 4) hC (hS.1.self.up n1) rfl kkX4_set__X4 1 (by decide) flX4_set__15 rfl dX4_set__20 ?_
      refine px_icmp_ge hC 44 dX4_set__23 (by decide) (fun _ => ?_) (fun q9 => (q9 (nI_le (Nat.le_refl i) (by omega))).elim)
      subst hQ
      exact px_vret hC rfl (⟨rfl, rfl, u, hu, rfl⟩) dX4_set__44
    | succ d ih =>
      intro i u hi hu
      refine px_iload_n hC 2 rfl dX4_set__18 ?_
      refine px_aload_n hC 0 rfl dX4_set__19 ?_
      refine px_get (C := RX4) (T := TX4) (N := 4) hC (hS.1.self.up n1) rfl kkX4_set__X4 1 (by decide) flX4_set__15 rfl dX4_set__20 ?_
      refine px_icmp_ge hC 44 dX4_set__23 (by decide) (fun q9 => absurd q9 (nI_ge (by omega) (by omega))) (fun _ => ?_)
      refine px_aload_n hC 0 rfl dX4_set__26 ?_
      refine px_get (C := RX4) (T := TX4) (N := 4) hC (hS.1.self.up n1) rfl kkX4_set__X4 0 (by decide) flX4_set__9 rfl dX4_set__27 ?_
      refine px_iload_n hC 2 rfl dX4_set__30 ?_
      refine px_aload_n hC 1 rfl dX4_set__31 ?_
      refine px_get (C := RX4) (T := TX4) (N := 4) hC ((hT.1.up (fun h => hg h.symm)).up n3) rfl kkX4_set__X4 0 (by decide) flX4_set__9 rfl dX4_set__32 ?_
      refine px_iload_n hC 2 rfl dX4_set__35 ?_
      refine px_iald hC ((hT.2.up n4).up (fun h => hp h.symm)) (by omega) (by first | decide | assumption | omega) dX4_set__36 ?_
      refine px_iast hC ((hS.2.up (fun h => n1 h.symm)).self) (by omega) (by first | decide | assumption | omega) dX4_set__37 ?_
      rw [px_uu, show upd (iw u) i (iw y i) = iw (un u i (y i)) from iw_up u i (y i)]
      refine px_iinc (v := nI (i + 1)) (lv' := [(0, .ref g), (1, .ref g2), (2, .int (nI (i + 1)))]) hC 2 [1, 2, 0] dX4_set__38 rfl (nI_1 i) (by decide) rfl ?_
      refine px_goto hC 18 dX4_set__41 (by decide) ?_
      refine ih (i + 1) _ (by omega) (fun j hj => ?_)
      by_cases q : j = i
      · subst q; rw [un_s]
      · rw [un_n _ _ q]; exact hu j (by omega)
  refine px_aload_n hC 0 rfl dX4_set__0 ?_
  refine px_aload_n hC 1 rfl dX4_set__1 ?_
  refine px_get (C := RX4) (T := TX4) (N := 4) hC hT.1 rfl kkX4_set__X4 2 (by decide) flX4_set__19 rfl dX4_set__2 ?_
  refine px_put (C := RX4) (T := TX4) (N := 4) (fs' := gF pa (nI n) (nI mi2) vv) hC hS.1 rfl kkX4_set__X4 2 (by decide) tyX4 tyX4_ok nmX4 flX4_set__19 rfl (by rcases (show mi2 = 0 ∨ mi2 = 1 by omega) with rfl | rfl <;> rfl) (by rcases (show mi2 = 0 ∨ mi2 = 1 by omega) with rfl | rfl <;> rfl) (Nat.le_of_ble_eq_true rfl) rfl dX4_set__5 ?_
  refine px_aload_n hC 0 rfl dX4_set__8 ?_
  refine px_aload_n hC 1 rfl dX4_set__9 ?_
  refine px_get (C := RX4) (T := TX4) (N := 4) hC (hT.1.up (fun h => hg h.symm)) rfl kkX4_set__X4 1 (by decide) flX4_set__15 rfl dX4_set__10 ?_
  refine px_put (C := RX4) (T := TX4) (N := 4) (fs' := gF pa (nI n2) (nI mi2) vv) hC hS.1.self rfl kkX4_set__X4 1 (by decide) tyX4 tyX4_ok nmX4 flX4_set__15 rfl rfl rfl (Nat.le_of_ble_eq_true rfl) rfl dX4_set__13 ?_
  rw [px_uu]
  refine px_iconst (v := nI 0) hC (by decide) dX4_set__16 ?_
  refine px_istore_n (lv' := [(0, .ref g), (1, .ref g2), (2, .int (nI 0))]) hC [1, 2, 0] dX4_set__17 (by decide) rfl ?_
  have h0 := loop n2 0 x (by omega) (fun j hj => absurd hj (by omega))
  rw [px_us (hS.2.up (fun h => n1 h.symm)).2] at h0
  exact h0
end
section
/-! ===== set(long) ===== -/
def lS (b m : Nat) : Int64 := if b = 1 then -(lN m) else lN m
theorem lS_toInt {b m : Nat} (hb : b < 2) (hm : m < 2 ^ 62) : (lS b m).toInt = if b = 1 then -(m : Int) else m := by
  unfold lS
  rcases two_of hb with q | q
  · subst q; rw [if_neg (by decide), if_neg (by decide)]; exact pk_lT (by omega)
  · subst q; rw [if_pos rfl, if_pos rfl]; exact lN_neg (by omega)
theorem lS_ge {b m : Nat} (hb : b < 2) (hm : m < 2 ^ 62) : 0 ≤ lg_cmp (lS b m) (lN 0) ↔ (b = 0 ∨ m = 0) := by
  rw [lg_cmp_ge, Int64.le_iff_toInt_le, lS_toInt hb hm, show (lN 0).toInt = 0 from by decide]
  rcases two_of hb with q | q
  · subst q; rw [if_neg (by decide)]; omega
  · subst q; rw [if_pos rfl]; omega
theorem lS_0 {b m : Nat} (hb : b < 2) (hm : m < 2 ^ 62) : lg_cmp (lS b m) (lN 0) = 0 ↔ m = 0 := by
  have h1 := lS_toInt hb hm
  have h2 : lS b m = lN 0 ↔ m = 0 := by
    rw [← Int64.toInt_inj, h1, show (lN 0).toInt = 0 from by decide]
    rcases two_of hb with q | q
    · subst q; rw [if_neg (by decide)]; omega
    · subst q; rw [if_pos rfl]; omega
  rw [← h2]
  unfold lg_cmp
  by_cases q1 : lS b m > lN 0
  · rw [if_pos q1]
    constructor
    · intro h; exact absurd h (by decide)
    · intro h; rw [h] at q1; exact absurd q1 (by decide)
  · rw [if_neg q1]
    by_cases q2 : lS b m = lN 0
    · rw [if_pos q2]; exact ⟨fun _ => q2, fun _ => rfl⟩
    · rw [if_neg q2]
      constructor
      · intro h; exact absurd h (by decide)
      · intro h; exact absurd h q2
theorem lS_div {b m : Nat} (hb : b < 2) (hm : m < 2 ^ 62) : lS b m / lN 268435456 = lS b (m / 268435456) := by
  have hq : m / 268435456 < 2 ^ 62 := Nat.lt_of_le_of_lt (Nat.div_le_self _ _) hm
  apply Int64.toInt_inj.mp
  have e : (lN 268435456).toInt = 268435456 := by decide
  rw [Int64.toInt_div_of_ne_right _ _ (by decide), lS_toInt hb hm, lS_toInt hb hq, e]
  rcases two_of hb with q | q
  · subst q; rw [if_neg (by decide), if_neg (by decide)]; rfl
  · subst q; rw [if_pos rfl, if_pos rfl, Int.neg_tdiv]; rfl
theorem lS_rem {b m : Nat} (hb : b < 2) (hm : m < 2 ^ 62) : lS b m - lS b m / lN 268435456 * lN 268435456 = lS b (m % 268435456) := by
  rw [lS_div hb hm]
  have h1 : lN m - lN (m / 268435456) * lN 268435456 = lN (m % 268435456) := by
    have := pk_lRem (a := m) (b := 268435456) (by omega) (by decide) (by decide)
    rw [pk_lDiv (by omega) (by decide) (by decide)] at this
    exact this
  unfold lS
  rcases two_of hb with q | q
  · subst q; rw [if_neg (by decide), if_neg (by decide), if_neg (by decide)]; exact h1
  · subst q; rw [if_pos rfl, if_pos rfl, if_pos rfl, ← h1]; grind
def vS (b m : Nat) : Int := if b = 1 then -(m : Int) else m
theorem flX4_set_15 : Cond.fieldLink RX4 15 "RowReductionModel$Great" "n" "I" ∈ wsX4_set := by decide +kernel
theorem kkX4_set_X4 : ∀ w ∈ wsX40, w ∈ wsX4_set := fun _ h => List.mem_cons_of_mem _ (List.mem_append_right _ h)
theorem flX4_set_9 : Cond.fieldLink RX4 9 "RowReductionModel$Great" "parts" "[I" ∈ wsX4_set := by decide +kernel
theorem flX4_set_19 : Cond.fieldLink RX4 19 "RowReductionModel$Great" "minus" "Z" ∈ wsX4_set := by decide +kernel
theorem c_gSet (l : Launch) (E : px_E) (L : List Nat) (f : Nat → va_E) (g pa n0 mi0 b m0 : Nat) (x0 : Nat → Nat) (vv : Int64) (hS : gS E L f g pa n0 mi0 x0 vv) (hb : b < 2) (hm : m0 < 2 ^ 62) (hbm : b = 1 → m0 ≠ 0) : px_M l yX4_set wsX4_set (px_rm 0 0) E L f [.ref g, .long (lS b m0)] (px_v L (fun f' => ∃ n x, gC n b x (vS b m0) ∧ f' = va_up (va_up f g (.inr (3, gF pa (nI n) (nI b) vv))) pa (aI E 40 (iw x)))) := by
  refine px_M.of (cc := cX4_set) (maxL := 7) (ret := none) (lv := [(0, .ref g), (1, .long (lS b m0))]) (by decide) rfl (Nat.le_of_ble_eq_true rfl) rfl ?_
  intro p e s m below meth c A hC hnm
  obtain ⟨Q, hQ⟩ : ∃ Q, Q = MQ below (px_Q E (px_v L (fun f' => ∃ n x, gC n b x (vS b m0) ∧ f' = va_up (va_up f g (.inr (3, gF pa (nI n) (nI b) vv))) pa (aI E 40 (iw x)))) A) [.ref g, .long (lS b m0)].toArray s (px_rm 0 0).cells (px_rm 0 0).slots A := ⟨_, rfl⟩
  rw [← hQ]
  have n1 := hS.ne
  have loop : ∀ (d k q : Nat) (x : Nat → Nat), q < 268435456 ^ d → vl 268435456 x k + 268435456 ^ k * q = m0 → (∀ i, i < k → x i < 268435456) → (q = 0 → k ≠ 0 → x (k - 1) ≠ 0) → q < 2 ^ 62 → k ≤ 3 → px p l e (px_rm 0 0) s m [.ref g, .long (lS b m0)].toArray below meth c 7 E A s.heap L (va_up (va_up f g (.inr (3, gF pa (nI k) (nI b) vv))) pa (aI E 40 (iw x))) 0 0 Q 22 [(0, .ref g), (1, .long (lS b m0)), (3, .long (lS b q))] [] := by
    intro d
    have fin : ∀ (k : Nat) (x : Nat → Nat), vl 268435456 x k + 268435456 ^ k * 0 = m0 → (∀ i, i < k → x i < 268435456) → (k ≠ 0 → x (k - 1) ≠ 0) → k ≤ 3 → px p l e (px_rm 0 0) s m [.ref g, .long (lS b m0)].toArray below meth c 7 E A s.heap L (va_up (va_up f g (.inr (3, gF pa (nI k) (nI b) vv))) pa (aI E 40 (iw x))) 0 0 Q 22 [(0, .ref g), (1, .long (lS b m0)), (3, .long (lS b 0))] [] := by
      intro k x hv hx ht hk
      refine px_lload_n hC 2 rfl dX4_set_22 ?_
      refine px_lconst (v := lN 0) hC (by decide) dX4_set_23 ?_
      refine px_lcmp hC dX4_set_24 ?_
      refine px_if_eq hC 79 dX4_set_25 (by decide) (fun _ => ?_) (fun q9 => (q9 ((lS_0 hb (by decide)).mpr rfl)).elim)
      subst hQ
      exact px_vret hC rfl (⟨rfl, rfl, k, x, ⟨by omega, hx, ht, hb, by unfold vS; rcases two_of hb with q9 | q9; (rw [if_neg (by omega)]; omega); (rw [if_pos q9]; omega), by unfold vS; rcases two_of hb with q9 | q9; (rw [if_neg (by omega)]; omega); (rw [if_pos q9]; have := hbm q9; omega)⟩, rfl⟩) dX4_set_79
    induction d with
    | zero =>
      intro k q x h0 hv hx ht hq hk
      have e0 : q = 0 := by rw [Nat.pow_zero] at h0; omega
      subst e0
      exact fin k x hv hx (ht rfl) hk
    | succ d ih =>
      intro k q x h0 hv hx ht hq hk
      by_cases hq0 : q = 0
      · subst hq0
        exact fin k x hv hx (ht rfl) hk
      have hk2 : k ≤ 2 := by
        rcases Nat.lt_or_ge 2 k with r | r
        · have h3 : 268435456 ^ 3 ≤ 268435456 ^ k := Nat.pow_le_pow_right (by decide) r
          have h4 : 268435456 ^ k * 1 ≤ 268435456 ^ k * q := Nat.mul_le_mul_left _ (by omega)
          have h5 : (268435456 : Nat) ^ 3 = 19342813113834066795298816 := by decide
          omega
        · exact r
      have hr : q % 268435456 < 268435456 := Nat.mod_lt _ (by decide)
      have next : px p l e (px_rm 0 0) s m [.ref g, .long (lS b m0)].toArray below meth c 7 E A s.heap L (va_up (va_up f g (.inr (3, gF pa (nI k) (nI b) vv))) pa (aI E 40 (iw (un x k (q % 268435456))))) 0 0 Q 60 [(0, .ref g), (1, .long (lS b m0)), (3, .long (lS b q)), (5, .long (lS b (q % 268435456)))] [] := by
        refine px_lload_n hC 2 rfl dX4_set_60 ?_
        refine px_ldc2 (v := 268435456) hC dX4_set_61 (by decide +kernel) ?_
        refine px_el (y := lN 268435456) (by decide) ?_
        refine px_ldiv hC (by decide) dX4_set_64 ?_
        refine px_el (y := lS b (q / 268435456)) (lS_div hb hq) ?_
        refine px_lstore_n (lv' := [(0, .ref g), (1, .long (lS b m0)), (3, .long (lS b (q / 268435456))), (5, .long (lS b (q % 268435456)))]) hC [1, 2, 0, 3] dX4_set_65 (by decide) rfl ?_
        refine px_aload_n hC 0 rfl dX4_set_66 ?_
        refine px_dup hC rfl dX4_set_67 ?_
        refine px_get (C := RX4) (T := TX4) (N := 4) hC (hS.1.self.up n1) rfl kkX4_set_X4 1 (by decide) flX4_set_15 rfl dX4_set_68 ?_
        refine px_iconst (v := nI 1) hC (by decide) dX4_set_71 ?_
        refine px_iadd hC dX4_set_72 ?_
        refine px_ei (y := nI (k + 1)) (nI_add _ _) ?_
        refine px_put (C := RX4) (T := TX4) (N := 4) (fs' := gF pa (nI (k + 1)) (nI b) vv) hC (hS.1.self.up n1) rfl kkX4_set_X4 1 (by decide) tyX4 tyX4_ok nmX4 flX4_set_15 rfl rfl rfl (Nat.le_of_ble_eq_true rfl) rfl dX4_set_73 ?_
        rw [px_uc _ _ _ (fun h => n1 h.symm), px_uu]
        refine px_goto hC 22 dX4_set_76 (by decide) ?_
        refine px_lv (lv2 := [(0, .ref g), (1, .long (lS b m0)), (3, .long (lS b (q / 268435456)))]) [0, 1, 2] rfl ?_
        refine ih (k + 1) (q / 268435456) _ ?_ ?_ (fun i hi => ?_) (fun h5 _ => ?_) (Nat.lt_of_le_of_lt (Nat.div_le_self _ _) hq) (by omega)
        · rw [Nat.pow_succ] at h0
          exact Nat.div_lt_of_lt_mul (by rw [Nat.mul_comm]; exact h0)
        · show vl 268435456 (un x k (q % 268435456)) k + un x k (q % 268435456) k * 268435456 ^ k + 268435456 ^ (k + 1) * (q / 268435456) = m0
          rw [vl_ug (Nat.le_refl k), un_s, ← hv, Nat.pow_succ, Nat.mul_assoc, show 268435456 ^ k * q = 268435456 ^ k * (268435456 * (q / 268435456) + q % 268435456) from by rw [Nat.div_add_mod], Nat.mul_add]
          have := Nat.mul_comm (q % 268435456) (268435456 ^ k)
          omega
        · by_cases r : i = k
          · subst r; rw [un_s]; exact hr
          · rw [un_n _ _ r]; exact hx i (by omega)
        · rw [show k + 1 - 1 = k by omega, un_s]
          have := Nat.div_add_mod q 268435456
          rw [h5] at this
          omega
      refine px_lload_n hC 2 rfl dX4_set_22 ?_
      refine px_lconst (v := lN 0) hC (by decide) dX4_set_23 ?_
      refine px_lcmp hC dX4_set_24 ?_
      refine px_if_eq hC 79 dX4_set_25 (by decide) (fun q9 => absurd q9 (fun h => hq0 ((lS_0 hb hq).mp h))) (fun _ => ?_)
      refine px_lload_n hC 2 rfl dX4_set_28 ?_
      refine px_ldc2 (v := 268435456) hC dX4_set_29 (by decide +kernel) ?_
      refine px_el (y := lN 268435456) (by decide) ?_
      refine px_lrem hC (by decide) dX4_set_32 ?_
      refine px_el (y := lS b (q % 268435456)) (lS_rem hb hq) ?_
      refine px_lstore (lv' := [(0, .ref g), (1, .long (lS b m0)), (3, .long (lS b q)), (5, .long (lS b (q % 268435456)))]) hC [1, 2, 3, 0] dX4_set_33 (by decide) rfl ?_
      refine px_aload_n hC 0 rfl dX4_set_35 ?_
      refine px_get (C := RX4) (T := TX4) (N := 4) hC (hS.1.self.up n1) rfl kkX4_set_X4 0 (by decide) flX4_set_9 rfl dX4_set_36 ?_
      refine px_aload_n hC 0 rfl dX4_set_39 ?_
      refine px_get (C := RX4) (T := TX4) (N := 4) hC (hS.1.self.up n1) rfl kkX4_set_X4 1 (by decide) flX4_set_15 rfl dX4_set_40 ?_
      refine px_lload hC 3 rfl dX4_set_43 ?_
      refine px_lconst (v := lN 0) hC (by decide) dX4_set_45 ?_
      refine px_lcmp hC dX4_set_46 ?_
      by_cases hs : b = 0 ∨ q % 268435456 = 0
      · refine px_if_ge hC 56 dX4_set_47 (by decide) (fun _ => ?_) (fun q9 => (q9 ((lS_ge hb (by omega)).mpr hs)).elim)
        refine px_lload hC 3 rfl dX4_set_56 ?_
        refine px_l2i hC dX4_set_58 ?_
        refine px_ei (y := nI (q % 268435456)) (by rw [show lS b (q % 268435456) = lN (q % 268435456) from by unfold lS; rcases two_of hb with q9 | q9; (rw [if_neg (by omega)]); (rw [if_pos q9, hs.resolve_left (by omega)]; decide)]; exact lN_i _) ?_
        refine px_iast hC ((hS.2.up (fun h => n1 h.symm)).self) (by omega) (by first | decide | assumption | omega) dX4_set_59 ?_
        rw [px_uu, iw_up]
        exact next
      · refine px_if_ge hC 56 dX4_set_47 (by decide) (fun q9 => absurd q9 (fun h => hs ((lS_ge hb (by omega)).mp h))) (fun _ => ?_)
        refine px_lload hC 3 rfl dX4_set_50 ?_
        refine px_lneg hC dX4_set_52 ?_
        refine px_goto hC 58 dX4_set_53 (by decide) ?_
        refine px_l2i hC dX4_set_58 ?_
        refine px_ei (y := nI (q % 268435456)) (by rw [show -(lS b (q % 268435456)) = lN (q % 268435456) from by unfold lS; rw [if_pos (by omega), Int64.neg_neg]]; exact lN_i _) ?_
        refine px_iast hC ((hS.2.up (fun h => n1 h.symm)).self) (by omega) (by first | decide | assumption | omega) dX4_set_59 ?_
        rw [px_uu, iw_up]
        exact next
  have main : px p l e (px_rm 0 0) s m [.ref g, .long (lS b m0)].toArray below meth c 7 E A s.heap L (va_up f g (.inr (3, gF pa (nI n0) (nI b) vv))) 0 0 Q 15 [(0, .ref g), (1, .long (lS b m0))] [] := by
    refine px_aload_n hC 0 rfl dX4_set_15 ?_
    refine px_iconst (v := nI 0) hC (by decide) dX4_set_16 ?_
    refine px_put (C := RX4) (T := TX4) (N := 4) (fs' := gF pa (nI 0) (nI b) vv) hC hS.1.self rfl kkX4_set_X4 1 (by decide) tyX4 tyX4_ok nmX4 flX4_set_15 rfl rfl rfl (Nat.le_of_ble_eq_true rfl) rfl dX4_set_17 ?_
    rw [px_uu]
    refine px_lload_n hC 1 rfl dX4_set_20 ?_
    refine px_lstore_n (lv' := [(0, .ref g), (1, .long (lS b m0)), (3, .long (lS b m0))]) hC [1, 2, 0] dX4_set_21 (by decide) rfl ?_
    have h0 := loop 4 0 m0 x0 (by have : (2 : Nat) ^ 62 < 268435456 ^ 4 := by decide
                                  omega) (by simp [vl]) (fun i hi => absurd hi (by omega)) (fun _ h => absurd rfl h) hm (by omega)
    rw [px_us (hS.2.up (fun h => n1 h.symm)).2] at h0
    exact h0
  refine px_aload_n hC 0 rfl dX4_set_0 ?_
  refine px_lload_n hC 1 rfl dX4_set_1 ?_
  refine px_lconst (v := lN 0) hC (by decide) dX4_set_2 ?_
  refine px_lcmp hC dX4_set_3 ?_
  by_cases hs : b = 0
  · subst hs
    refine px_if_ge hC 11 dX4_set_4 (by decide) (fun _ => ?_) (fun q9 => (q9 ((lS_ge (by decide) hm).mpr (Or.inl rfl))).elim)
    refine px_iconst (v := nI 0) hC (by decide) dX4_set_11 ?_
    refine px_put (C := RX4) (T := TX4) (N := 4) (fs' := gF pa (nI n0) (nI 0) vv) hC hS.1 rfl kkX4_set_X4 2 (by decide) tyX4 tyX4_ok nmX4 flX4_set_19 rfl (by decide) (by decide) (Nat.le_of_ble_eq_true rfl) rfl dX4_set_12 ?_
    exact main
  · have e1 : b = 1 := by omega
    subst e1
    refine px_if_ge hC 11 dX4_set_4 (by decide) (fun q9 => absurd q9 (fun h => by have := (lS_ge (by decide) hm).mp h; have := hbm rfl; omega)) (fun _ => ?_)
    refine px_iconst (v := nI 1) hC (by decide) dX4_set_7 ?_
    refine px_goto hC 12 dX4_set_8 (by decide) ?_
    refine px_put (C := RX4) (T := TX4) (N := 4) (fs' := gF pa (nI n0) (nI 1) vv) hC hS.1 rfl kkX4_set_X4 2 (by decide) tyX4 tyX4_ok nmX4 flX4_set_19 rfl (by decide) (by decide) (Nat.le_of_ble_eq_true rfl) rfl dX4_set_12 ?_
    exact main
end
section
/-! ===== sums and differences ===== -/
def pad (x : Nat → Nat) (n : Nat) : Nat → Nat := fun i => if i < n then x i else 0
theorem pad_vl {x : Nat → Nat} {n k : Nat} (h : n ≤ k) : vl 268435456 (pad x n) k = vl 268435456 x n := by
  have e : vl 268435456 (pad x n) (n + (k - n)) = vl 268435456 (pad x n) n + 268435456 ^ n * vl 268435456 (fun i => pad x n (n + i)) (k - n) := vl_a _ _ _ _
  rw [show n + (k - n) = k by omega, vl_c (x := fun i => pad x n (n + i)) (y := fun _ => 0) (fun i _ => by show pad x n (n + i) = 0; unfold pad; rw [if_neg (by omega)]), vl_0, vl_c (x := pad x n) (y := x) (n := n) (fun i hi => by unfold pad; rw [if_pos hi])] at e
  rw [e]; omega
theorem pad_lt {x : Nat → Nat} {n : Nat} (h : ∀ i, i < n → x i < 268435456) (i : Nat) : pad x n i < 268435456 := by
  unfold pad
  by_cases q : i < n
  · rw [if_pos q]; exact h i q
  · rw [if_neg q]; decide
theorem pad_in {x : Nat → Nat} {n i : Nat} (h : i < n) : pad x n i = x i := by unfold pad; rw [if_pos h]
theorem pad_out {x : Nat → Nat} {n i : Nat} (h : ¬ i < n) : pad x n i = 0 := by unfold pad; rw [if_neg h]
theorem nz_sub {a b : Nat} (h : b ≤ a + 2 ^ 32) : nI a - nI b = nI (a + 2 ^ 32 - b) := by
  have h1 : nI (a + 2 ^ 32 - b) + nI b = nI a := by
    rw [nI_add, Nat.sub_add_cancel h]
    apply Int32.toBitVec_inj.mp
    show BitVec.ofNat 32 (a + 2 ^ 32) = BitVec.ofNat 32 a
    apply BitVec.eq_of_toNat_eq
    rw [BitVec.toNat_ofNat, BitVec.toNat_ofNat, Nat.add_mod_right]
  rw [← h1, Int32.add_sub_cancel]
theorem nz_mod (a : Nat) : nI a = nI (a % 2 ^ 32) := by
  apply Int32.toBitVec_inj.mp
  show BitVec.ofNat 32 a = BitVec.ofNat 32 (a % 2 ^ 32)
  apply BitVec.eq_of_toNat_eq
  rw [BitVec.toNat_ofNat, BitVec.toNat_ofNat, Nat.mod_mod]
theorem nz_neg {r : Nat} (h : r < 2 ^ 32) : 0 ≤ nI r ↔ r < 2147483648 := by
  rw [Int32.le_iff_toInt_le, i32_n (nI r), pk_tn h, show (0 : Int32).toInt = 0 from by decide]
  by_cases q : 2147483648 ≤ r
  · rw [if_pos q]; omega
  · rw [if_neg q]; omega
theorem s28 : (((nI 28 : Int32) &&& 31).toBitVec.smod 32).toNat = 28 := by decide
theorem aa_step {a1 a2 P b1 b2 b3 X Y ca : Nat} (hv : b1 + ca * P = b2 + b3) (e1 : (X + Y + ca) * P = (268435456 * a1 + a2) * P) : b1 + a2 * P + a1 * (P * 268435456) = b2 + X * P + (b3 + Y * P) := by
  grind
theorem flX4_addAmount_9 : Cond.fieldLink RX4 9 "RowReductionModel$Great" "parts" "[I" ∈ wsX4_addAmount := by decide +kernel
theorem kkX4_addAmount_X4 : ∀ w ∈ wsX40, w ∈ wsX4_addAmount := fun _ h => List.mem_cons_of_mem _ (List.mem_append_right _ h)
theorem flX4_addAmount_15 : Cond.fieldLink RX4 15 "RowReductionModel$Great" "n" "I" ∈ wsX4_addAmount := by decide +kernel
theorem flX4_addAmount_19 : Cond.fieldLink RX4 19 "RowReductionModel$Great" "minus" "Z" ∈ wsX4_addAmount := by decide +kernel
theorem c_gAdd (l : Launch) (E : px_E) (L : List Nat) (f : Nat → va_E) (g pa g2 pa2 n mi n2 mi2 : Nat) (x y : Nat → Nat) (vv vv2 : Int64) (hS : gS E L f g pa n mi x vv) (hT : gS E L f g2 pa2 n2 mi2 y vv2) (hg : g ≠ g2) (hp : pa ≠ pa2) (hn : n ≤ 39) (hn2 : n2 ≤ 39) (hmi : mi < 2) (hmi2 : mi2 < 2) (hx : ∀ i, i < n → x i < 268435456) (hy : ∀ i, i < n2 → y i < 268435456) : px_M l yX4_addAmount wsX4_addAmount (px_rm 1 21) E L f [.ref g, .ref g2] (px_v L (fun f' => ∃ n' u, n' ≤ 40 ∧ (∀ i, i < n' → u i < 268435456) ∧ (n' ≠ 0 → u (n' - 1) ≠ 0) ∧ vl 268435456 u n' = vl 268435456 x n + vl 268435456 y n2 ∧ f' = va_up (va_up f g (.inr (3, gF pa (nI n') (nI (if n' = 0 then 0 else if n = 0 then 1 - mi2 else mi)) vv))) pa (aI E 40 (iw u)))) := by
  refine px_M.of (cc := cX4_addAmount) (maxL := 6) (ret := none) (lv := [(0, .ref g), (1, .ref g2)]) (by decide) rfl (Nat.le_of_ble_eq_true rfl) rfl ?_
  intro p e s m below meth c A hC hnm
  obtain ⟨Q, hQ⟩ : ∃ Q, Q = MQ below (px_Q E (px_v L (fun f' => ∃ n' u, n' ≤ 40 ∧ (∀ i, i < n' → u i < 268435456) ∧ (n' ≠ 0 → u (n' - 1) ≠ 0) ∧ vl 268435456 u n' = vl 268435456 x n + vl 268435456 y n2 ∧ f' = va_up (va_up f g (.inr (3, gF pa (nI n') (nI (if n' = 0 then 0 else if n = 0 then 1 - mi2 else mi)) vv))) pa (aI E 40 (iw u)))) A) [.ref g, .ref g2].toArray s (px_rm 1 21).cells (px_rm 1 21).slots A := ⟨_, rfl⟩
  rw [← hQ]
  have n1 := hS.ne
  have n3 : g2 ≠ pa := hT.1.nk hS.2 rfl
  have n4 : pa2 ≠ g := fun h => hS.1.nk hT.2 rfl h.symm
  have loop : ∀ (mi' : Nat), mi' = (if n = 0 then 1 - mi2 else mi) → ∀ (d k ca : Nat) (u : Nat → Nat), k + d = max n n2 + 1 → ca < 2 → (k = max n n2 + 1 → ca = 0) → (∀ i, i < k → u i < 268435456) → (∀ i, k ≤ i → u i = x i) → vl 268435456 u k + ca * 268435456 ^ k = vl 268435456 (pad x n) k + vl 268435456 (pad y n2) k → px p l e (px_rm 1 21) s m [.ref g, .ref g2].toArray below meth c 6 E A s.heap L (va_up (va_up f g (.inr (3, gF pa (nI n) (nI mi') vv))) pa (aI E 40 (iw u))) 0 0 Q 40 [(0, .ref g), (1, .ref g2), (2, .int (nI (max n n2))), (3, .int (nI ca)), (4, .int (nI k))] [] := by
    intro mi' hmi' d
    induction d with
    | zero =>
      intro k ca u hk hca hc0 hu hux hv
      have e1 : k = max n n2 + 1 := by omega
      rw [hc0 e1, Nat.zero_mul, Nat.add_zero, pad_vl (by omega), pad_vl (by omega)] at hv
      subst e1
      refine px_iload hC 4 rfl dX4_addAmount_40 ?_
      refine px_iload_n hC 2 rfl dX4_addAmount_42 ?_
      refine px_icmp_gt hC 115 dX4_addAmount_43 (by decide) (fun _ => ?_) (fun q9 => (q9 (nI_lt (by omega) (by omega))).elim)
      refine px_aload_n hC 0 rfl dX4_addAmount_115 ?_
      refine px_iload_n hC 2 rfl dX4_addAmount_116 ?_
      refine px_iconst (v := nI 1) hC (by decide) dX4_addAmount_117 ?_
      refine px_iadd hC dX4_addAmount_118 ?_
      refine px_ei (y := nI (max n n2 + 1)) (nI_add _ _) ?_
      refine px_callVv (C := RX4) (T := TX4) (N := 4) (st := []) (nn := 1) hC (c_trim l E L _ g pa (max n n2 + 1) mi' (nI n) u vv (hS.1.self.up n1) ((hS.2.up (fun h => n1 h.symm)).self) (by omega) hu) (hS.1.self.up n1) rfl gX4_addAmount_X4_trim rfl (by decide +kernel) (by decide) (Nat.le_of_ble_eq_true rfl) (by decide) rfl rfl dX4_addAmount_119 (fun f2 h2 => ?_)
      obtain ⟨n', b1, b2, b3, rfl⟩ := h2
      rw [px_uc _ _ _ (fun h => n1 h.symm), px_uu]
      subst hmi'
      subst hQ
      exact px_vret hC rfl (⟨rfl, rfl, n', u, by omega, fun i hi => hu i (by omega), b3, by rw [b2]; exact hv, rfl⟩) dX4_addAmount_122
    | succ d ih =>
      intro k ca u hk hca hc0 hu hux hv
      have px1 := pad_lt hx k
      have py1 := pad_lt hy k
      have st3 : px p l e (px_rm 1 21) s m [.ref g, .ref g2].toArray below meth c 6 E A s.heap L (va_up (va_up f g (.inr (3, gF pa (nI n) (nI mi') vv))) pa (aI E 40 (iw u))) 0 0 Q 86 [(0, .ref g), (1, .ref g2), (2, .int (nI (max n n2))), (3, .int (nI ca)), (4, .int (nI k))] [.int (nI (pad y n2 k)), .int (nI (pad x n k))] := by
        refine px_iadd hC dX4_addAmount_86 ?_
        refine px_iload_n hC 3 rfl dX4_addAmount_87 ?_
        refine px_iadd hC dX4_addAmount_88 ?_
        refine px_ei (y := nI (pad x n k + pad y n2 k + ca)) (by rw [nI_add, nI_add]) ?_
        generalize hV : pad x n k + pad y n2 k + ca = V
        have hV2 : V < 2 * 268435456 := by omega
        refine px_istore (lv' := [(0, .ref g), (1, .ref g2), (2, .int (nI (max n n2))), (3, .int (nI ca)), (4, .int (nI k)), (5, .int (nI (V)))]) hC [1, 2, 3, 4, 5, 0] dX4_addAmount_89 (by decide) rfl ?_
        refine px_aload_n hC 0 rfl dX4_addAmount_91 ?_
        refine px_get (C := RX4) (T := TX4) (N := 4) hC (hS.1.self.up n1) rfl kkX4_addAmount_X4 0 (by decide) flX4_addAmount_9 rfl dX4_addAmount_92 ?_
        refine px_iload hC 4 rfl dX4_addAmount_95 ?_
        refine px_iload hC 5 rfl dX4_addAmount_97 ?_
        refine px_ldc (v := 268435455) hC dX4_addAmount_99 (by decide +kernel) ?_
        refine px_ei (y := nI 268435455) (by decide) ?_
        refine px_iand hC dX4_addAmount_101 ?_
        refine px_ei (y := nI (V % 268435456)) (pk_andN (by omega) 28 (by decide)) ?_
        refine px_iast hC ((hS.2.up (fun h => n1 h.symm)).self) (by omega) (by first | decide | assumption | omega) dX4_addAmount_102 ?_
        rw [px_uu, iw_up]
        refine px_iload hC 5 rfl dX4_addAmount_103 ?_
        refine px_bipush (v := nI 28) hC (by decide) dX4_addAmount_105 ?_
        refine px_ishr hC dX4_addAmount_107 ?_
        refine px_ei (y := nI (V / 2 ^ 28)) (pk_shrN (by omega) _ 28 s28) ?_
        refine px_istore_n (lv' := [(0, .ref g), (1, .ref g2), (2, .int (nI (max n n2))), (3, .int (nI (V / 2 ^ 28))), (4, .int (nI k)), (5, .int (nI (V)))]) hC [1, 2, 3, 0, 4, 5] dX4_addAmount_108 (by decide) rfl ?_
        refine px_iinc (v := nI (k + 1)) (lv' := [(0, .ref g), (1, .ref g2), (2, .int (nI (max n n2))), (3, .int (nI (V / 2 ^ 28))), (4, .int (nI (k + 1))), (5, .int (nI (V)))]) hC 4 [1, 2, 3, 4, 0, 5] dX4_addAmount_109 rfl (nI_1 k) (by decide) rfl ?_
        refine px_goto hC 40 dX4_addAmount_112 (by decide) ?_
        refine px_lv (lv2 := [(0, .ref g), (1, .ref g2), (2, .int (nI (max n n2))), (3, .int (nI (V / 2 ^ 28))), (4, .int (nI (k + 1)))]) [0, 1, 2, 3, 4] rfl ?_
        refine ih (k + 1) (V / 2 ^ 28) (un u k (V % 268435456)) (by omega) (by omega) (fun h => ?_) (fun i hi => ?_) (fun i hi => ?_) ?_
        · rw [pad_out (show ¬ k < n by omega), pad_out (show ¬ k < n2 by omega)] at hV
          omega
        · by_cases q : i = k
          · subst q; rw [un_s]; exact Nat.mod_lt _ (by decide)
          · rw [un_n _ _ q]; exact hu i (by omega)
        · rw [un_n _ _ (by omega)]; exact hux i (by omega)
        · show vl 268435456 (un u k (V % 268435456)) k + un u k (V % 268435456) k * 268435456 ^ k + V / 2 ^ 28 * 268435456 ^ (k + 1) = vl 268435456 (pad x n) k + pad x n k * 268435456 ^ k + (vl 268435456 (pad y n2) k + pad y n2 k * 268435456 ^ k)
          rw [vl_ug (Nat.le_refl k), un_s, Nat.pow_succ]
          have e1 : (pad x n k + pad y n2 k + ca) * 268435456 ^ k = (268435456 * (V / 268435456) + V % 268435456) * 268435456 ^ k := by rw [hV, Nat.div_add_mod]
          have e2 : V / 2 ^ 28 = V / 268435456 := rfl
          rw [e2]
          exact aa_step hv e1
      have st2 : px p l e (px_rm 1 21) s m [.ref g, .ref g2].toArray below meth c 6 E A s.heap L (va_up (va_up f g (.inr (3, gF pa (nI n) (nI mi') vv))) pa (aI E 40 (iw u))) 0 0 Q 66 [(0, .ref g), (1, .ref g2), (2, .int (nI (max n n2))), (3, .int (nI ca)), (4, .int (nI k))] [.int (nI (pad x n k))] := by
        refine px_iload hC 4 rfl dX4_addAmount_66 ?_
        refine px_aload_n hC 1 rfl dX4_addAmount_68 ?_
        refine px_get (C := RX4) (T := TX4) (N := 4) hC ((hT.1.up (fun h => hg h.symm)).up n3) rfl kkX4_addAmount_X4 1 (by decide) flX4_addAmount_15 rfl dX4_addAmount_69 ?_
        by_cases h2 : k < n2
        · refine px_icmp_ge hC 85 dX4_addAmount_72 (by decide) (fun q9 => absurd q9 (nI_ge h2 (by omega))) (fun _ => ?_)
          refine px_aload_n hC 1 rfl dX4_addAmount_75 ?_
          refine px_get (C := RX4) (T := TX4) (N := 4) hC ((hT.1.up (fun h => hg h.symm)).up n3) rfl kkX4_addAmount_X4 0 (by decide) flX4_addAmount_9 rfl dX4_addAmount_76 ?_
          refine px_iload hC 4 rfl dX4_addAmount_79 ?_
          refine px_iald hC ((hT.2.up n4).up (fun h => hp h.symm)) (by omega) (by first | decide | assumption | omega) dX4_addAmount_81 ?_
          refine px_ei (y := nI (pad y n2 k)) (by rw [pad_in h2]; rfl) ?_
          refine px_goto hC 86 dX4_addAmount_82 (by decide) ?_
          exact st3
        · refine px_icmp_ge hC 85 dX4_addAmount_72 (by decide) (fun _ => ?_) (fun q9 => (q9 (nI_le (by omega) (by omega))).elim)
          refine px_iconst (v := nI 0) hC (by decide) dX4_addAmount_85 ?_
          refine px_ei (y := nI (pad y n2 k)) (by rw [pad_out h2]) ?_
          exact st3
      refine px_iload hC 4 rfl dX4_addAmount_40 ?_
      refine px_iload_n hC 2 rfl dX4_addAmount_42 ?_
      refine px_icmp_gt hC 115 dX4_addAmount_43 (by decide) (fun q9 => absurd q9 (nI_nlt (by omega) (by omega))) (fun _ => ?_)
      refine px_iload hC 4 rfl dX4_addAmount_46 ?_
      refine px_aload_n hC 0 rfl dX4_addAmount_48 ?_
      refine px_get (C := RX4) (T := TX4) (N := 4) hC (hS.1.self.up n1) rfl kkX4_addAmount_X4 1 (by decide) flX4_addAmount_15 rfl dX4_addAmount_49 ?_
      by_cases h2 : k < n
      · refine px_icmp_ge hC 65 dX4_addAmount_52 (by decide) (fun q9 => absurd q9 (nI_ge h2 (by omega))) (fun _ => ?_)
        refine px_aload_n hC 0 rfl dX4_addAmount_55 ?_
        refine px_get (C := RX4) (T := TX4) (N := 4) hC (hS.1.self.up n1) rfl kkX4_addAmount_X4 0 (by decide) flX4_addAmount_9 rfl dX4_addAmount_56 ?_
        refine px_iload hC 4 rfl dX4_addAmount_59 ?_
        refine px_iald hC ((hS.2.up (fun h => n1 h.symm)).self) (by omega) (by first | decide | assumption | omega) dX4_addAmount_61 ?_
        refine px_ei (y := nI (pad x n k)) (by rw [pad_in h2, ← hux k (Nat.le_refl k)]; rfl) ?_
        refine px_goto hC 66 dX4_addAmount_62 (by decide) ?_
        exact st2
      · refine px_icmp_ge hC 65 dX4_addAmount_52 (by decide) (fun _ => ?_) (fun q9 => (q9 (nI_le (by omega) (by omega))).elim)
        refine px_iconst (v := nI 0) hC (by decide) dX4_addAmount_65 ?_
        refine px_ei (y := nI (pad x n k)) (by rw [pad_out h2]) ?_
        exact st2
  have main : ∀ mi' : Nat, mi' = (if n = 0 then 1 - mi2 else mi) → px p l e (px_rm 1 21) s m [.ref g, .ref g2].toArray below meth c 6 E A s.heap L (va_up f g (.inr (3, gF pa (nI n) (nI mi') vv))) 0 0 Q 23 [(0, .ref g), (1, .ref g2)] [] := by
    intro mi' hmi'
    refine px_aload_n hC 0 rfl dX4_addAmount_23 ?_
    refine px_get (C := RX4) (T := TX4) (N := 4) hC hS.1.self rfl kkX4_addAmount_X4 1 (by decide) flX4_addAmount_15 rfl dX4_addAmount_24 ?_
    refine px_aload_n hC 1 rfl dX4_addAmount_27 ?_
    refine px_get (C := RX4) (T := TX4) (N := 4) hC (hT.1.up (fun h => hg h.symm)) rfl kkX4_addAmount_X4 1 (by decide) flX4_addAmount_15 rfl dX4_addAmount_28 ?_
    refine px_mmax hC (by decide +kernel) (by decide +kernel) (by decide +kernel) (by decide +kernel) (by decide) (Nat.le_of_ble_eq_true rfl) (by decide) dX4_addAmount_31 ?_
    refine px_ei (y := nI (max n n2)) (by by_cases h : n < n2; (rw [if_pos ((nI_ltI (by omega) (by omega)).mpr h), Nat.max_eq_right (by omega)]); (rw [if_neg (fun h2 => h ((nI_ltI (by omega) (by omega)).mp h2)), Nat.max_eq_left (by omega)])) ?_
    refine px_istore_n (lv' := [(0, .ref g), (1, .ref g2), (2, .int (nI (max n n2)))]) hC [1, 2, 0] dX4_addAmount_34 (by decide) rfl ?_
    refine px_iconst (v := nI 0) hC (by decide) dX4_addAmount_35 ?_
    refine px_istore_n (lv' := [(0, .ref g), (1, .ref g2), (2, .int (nI (max n n2))), (3, .int (nI 0))]) hC [1, 2, 3, 0] dX4_addAmount_36 (by decide) rfl ?_
    refine px_iconst (v := nI 0) hC (by decide) dX4_addAmount_37 ?_
    refine px_istore (lv' := [(0, .ref g), (1, .ref g2), (2, .int (nI (max n n2))), (3, .int (nI 0)), (4, .int (nI 0))]) hC [1, 2, 3, 4, 0] dX4_addAmount_38 (by decide) rfl ?_
    have h0 := loop mi' hmi' (max n n2 + 1) 0 0 x (by omega) (by decide) (fun h => absurd h (by omega)) (fun i hi => absurd hi (by omega)) (fun i _ => rfl) rfl
    rw [px_us (hS.2.up (fun h => n1 h.symm)).2] at h0
    exact h0
  refine px_aload_n hC 0 rfl dX4_addAmount_0 ?_
  refine px_get (C := RX4) (T := TX4) (N := 4) hC hS.1 rfl kkX4_addAmount_X4 1 (by decide) flX4_addAmount_15 rfl dX4_addAmount_1 ?_
  by_cases h0 : n = 0
  · refine px_if_ne hC 23 dX4_addAmount_4 (by decide) (fun q9 => (q9 (by rw [h0]; rfl)).elim) (fun _ => ?_)
    refine px_aload_n hC 0 rfl dX4_addAmount_7 ?_
    refine px_aload_n hC 1 rfl dX4_addAmount_8 ?_
    refine px_get (C := RX4) (T := TX4) (N := 4) hC hT.1 rfl kkX4_addAmount_X4 2 (by decide) flX4_addAmount_19 rfl dX4_addAmount_9 ?_
    rcases two_of hmi2 with q | q
    · subst q
      refine px_if_ne hC 19 dX4_addAmount_12 (by decide) (fun q9 => (q9 (rfl)).elim) (fun _ => ?_)
      refine px_iconst (v := nI 1) hC (by decide) dX4_addAmount_15 ?_
      refine px_goto hC 20 dX4_addAmount_16 (by decide) ?_
      refine px_put (C := RX4) (T := TX4) (N := 4) (fs' := gF pa (nI n) (nI 1) vv) hC hS.1 rfl kkX4_addAmount_X4 2 (by decide) tyX4 tyX4_ok nmX4 flX4_addAmount_19 rfl (by decide) (by decide) (Nat.le_of_ble_eq_true rfl) rfl dX4_addAmount_20 ?_
      exact main 1 (by rw [if_pos h0])
    · subst q
      refine px_if_ne hC 19 dX4_addAmount_12 (by decide) (fun _ => ?_) (fun q9 => absurd q9 (by decide))
      refine px_iconst (v := nI 0) hC (by decide) dX4_addAmount_19 ?_
      refine px_put (C := RX4) (T := TX4) (N := 4) (fs' := gF pa (nI n) (nI 0) vv) hC hS.1 rfl kkX4_addAmount_X4 2 (by decide) tyX4 tyX4_ok nmX4 flX4_addAmount_19 rfl (by decide) (by decide) (Nat.le_of_ble_eq_true rfl) rfl dX4_addAmount_20 ?_
      exact main 0 (by rw [if_pos h0])
  · refine px_if_ne hC 23 dX4_addAmount_4 (by decide) (fun _ => ?_) (fun q9 => absurd q9 (nI_ne0 (by omega) (by omega)))
    have h9 := main mi (by rw [if_neg h0])
    rw [px_us hS.1.2] at h9
    exact h9
theorem ta_step {a b c ub : Nat} {P b1 b2 b3 : Nat} (hab : b1 + b3 = b2 + ub * P) (h : c * 1 + (b + ub) = a + (if c + b + ub = a then 0 else 268435456)) : (b1 + c * P) + (b3 + b * P) = (b2 + a * P) + (if c + b + ub = a then 0 else 1) * (P * 268435456) := by
  by_cases q : c + b + ub = a
  · rw [if_pos q] at h ⊢
    subst q
    grind
  · rw [if_neg q] at h ⊢
    have e : a + 268435456 = c + b + ub := by omega
    have e2 : (a + 268435456) * P = (c + b + ub) * P := by rw [e]
    grind
theorem ta_dig {a b ub : Nat} (ha : a < 268435456) (hb : b < 268435456) (hu : ub < 2) : (a + 2 ^ 32 - (b + ub)) % 2 ^ 32 < 2 ^ 32 ∧ ((a + 2 ^ 32 - (b + ub)) % 2 ^ 32 < 2147483648 ↔ b + ub ≤ a) ∧ (a + 2 ^ 32 - (b + ub)) % 2 ^ 32 % 268435456 = (if b + ub ≤ a then a - (b + ub) else a + 268435456 - (b + ub)) := by
  by_cases q : b + ub ≤ a
  · rw [if_pos q]; omega
  · rw [if_neg q]; omega
end
section
theorem n0_of {n' : Nat} {u : Nat → Nat} (c3 : n' ≠ 0 → u (n' - 1) ≠ 0) (h : vl 268435456 u n' = 0) : n' = 0 := by
  rcases Nat.eq_zero_or_pos n' with q | q
  · exact q
  · have h7 := gC_top c3 (by omega)
    have h8 : 0 < 268435456 ^ (n' - 1) := Nat.pow_pos (by decide)
    omega
theorem tk_a {v w : Int} {mi mi2 n' X Y : Nat} {u : Nat → Nat} (a4 : mi < 2) (hm : mi = mi2) (a5 : v.natAbs = X) (a6 : mi = 1 ↔ v < 0) (b5 : w.natAbs = Y) (b6 : mi2 = 1 ↔ w < 0) (c1 : n' ≤ 40) (c2 : ∀ i, i < n' → u i < 268435456) (c3 : n' ≠ 0 → u (n' - 1) ≠ 0) (c4 : vl 268435456 u n' + Y = X) : gC n' (if n' = 0 then 0 else mi) u (v - w) := by
  have h0 := n0_of c3
  have h1 : n' = 0 → vl 268435456 u n' = 0 := fun h => by subst h; rfl
  generalize hU : vl 268435456 u n' = U at c4 h0 h1
  subst hm
  refine ⟨c1, c2, c3, ?_, ?_, ?_⟩
  · by_cases q : n' = 0
    · rw [if_pos q]; decide
    · rw [if_neg q]; exact a4
  · rw [hU]; rcases two_of a4 with q | q <;> omega
  · by_cases q : n' = 0
    · rw [if_pos q]; have := h1 q; rcases two_of a4 with q2 | q2 <;> omega
    · rw [if_neg q]; have : U ≠ 0 := fun h => q (h0 h); rcases two_of a4 with q2 | q2 <;> omega
theorem tk_b {v w : Int} {mi mi2 mi' n' X Y : Nat} {u : Nat → Nat} (a4 : mi < 2) (hm : mi = mi2) (hmi' : mi' = 1 - mi) (hn : n' ≠ 0) (a5 : v.natAbs = X) (a6 : mi = 1 ↔ v < 0) (b5 : w.natAbs = Y) (b6 : mi2 = 1 ↔ w < 0) (c1 : n' ≤ 40) (c2 : ∀ i, i < n' → u i < 268435456) (c3 : n' ≠ 0 → u (n' - 1) ≠ 0) (c4 : vl 268435456 u n' + X = Y) : gC n' mi' u (v - w) := by
  have h0 : vl 268435456 u n' ≠ 0 := fun h => hn (n0_of c3 h)
  generalize hU : vl 268435456 u n' = U at c4 h0
  subst hm
  refine ⟨c1, c2, c3, by omega, ?_, ?_⟩
  · rw [hU]; rcases two_of a4 with q | q <;> omega
  · rcases two_of a4 with q | q <;> omega
theorem tk_c {v w : Int} {n mi mi2 n' X Y : Nat} {u : Nat → Nat} (a4 : mi < 2) (b4 : mi2 < 2) (hm : mi ≠ mi2) (z1 : n = 0 ↔ v = 0) (a5 : v.natAbs = X) (a6 : mi = 1 ↔ v < 0) (b5 : w.natAbs = Y) (b6 : mi2 = 1 ↔ w < 0) (c1 : n' ≤ 40) (c2 : ∀ i, i < n' → u i < 268435456) (c3 : n' ≠ 0 → u (n' - 1) ≠ 0) (c4 : vl 268435456 u n' = X + Y) : gC n' (if n' = 0 then 0 else if n = 0 then 1 - mi2 else mi) u (v - w) := by
  have h0 := n0_of c3
  have h1 : n' = 0 → vl 268435456 u n' = 0 := fun h => by subst h; rfl
  generalize hU : vl 268435456 u n' = U at c4 h0 h1
  refine ⟨c1, c2, c3, ?_, ?_, ?_⟩
  · by_cases q : n' = 0
    · rw [if_pos q]; decide
    · rw [if_neg q]
      by_cases q2 : n = 0
      · rw [if_pos q2]; omega
      · rw [if_neg q2]; exact a4
  · rw [hU]; rcases two_of a4 with q | q <;> rcases two_of b4 with r | r <;> omega
  · by_cases q : n' = 0
    · rw [if_pos q]; have := h1 q; rcases two_of a4 with q2 | q2 <;> rcases two_of b4 with r | r <;> omega
    · rw [if_neg q]
      have hU0 : U ≠ 0 := fun h => q (h0 h)
      by_cases q2 : n = 0
      · rw [if_pos q2]; rcases two_of a4 with q3 | q3 <;> rcases two_of b4 with r | r <;> omega
      · rw [if_neg q2]; rcases two_of a4 with q3 | q3 <;> rcases two_of b4 with r | r <;> omega
theorem tb_step {c b ub ub' a P b1 b2 b3 : Nat} (h1 : b1 + b3 = b2 + ub * P) (h2 : c + (b + ub) = a + ub' * 268435456) : b1 + c * P + (b3 + b * P) = b2 + a * P + ub' * (P * 268435456) := by
  have e : (c + (b + ub)) * P = (a + ub' * 268435456) * P := by rw [h2]
  grind
theorem flX4_takeAmount_9 : Cond.fieldLink RX4 9 "RowReductionModel$Great" "parts" "[I" ∈ wsX4_takeAmount := by decide +kernel
theorem kkX4_takeAmount_X4 : ∀ w ∈ wsX40, w ∈ wsX4_takeAmount := fun _ h => List.mem_cons_of_mem _ (List.mem_append_right _ h)
theorem flX4_takeAmount_15 : Cond.fieldLink RX4 15 "RowReductionModel$Great" "n" "I" ∈ wsX4_takeAmount := by decide +kernel
theorem flX4_take_19 : Cond.fieldLink RX4 19 "RowReductionModel$Great" "minus" "Z" ∈ wsX4_take := by decide +kernel
theorem kkX4_take_X4 : ∀ w ∈ wsX40, w ∈ wsX4_take := fun _ h => List.mem_cons_of_mem _ (List.mem_append_right _ h)
theorem flX4_take_15 : Cond.fieldLink RX4 15 "RowReductionModel$Great" "n" "I" ∈ wsX4_take := by decide +kernel
/-- this := this - other -/
theorem c_gTakA (l : Launch) (E : px_E) (L : List Nat) (f : Nat → va_E) (g pa o pa2 n mi n2 mi2 : Nat) (x y : Nat → Nat) (vv vv2 : Int64) (hS : gS E L f g pa n mi x vv) (hT : gS E L f o pa2 n2 mi2 y vv2) (hp : pa ≠ pa2) (hn : n ≤ 40) (hn2 : n2 ≤ 40) (hx : ∀ i, i < n → x i < 268435456) (hy : ∀ i, i < n2 → y i < 268435456) (hnn : n2 ≤ n) (hle : vl 268435456 y n2 ≤ vl 268435456 x n) : px_M l yX4_takeAmount wsX4_takeAmount (px_rm 1 21) E L f [.ref g, .ref g, .ref o] (px_v L (fun f' => ∃ n' u, n' ≤ 40 ∧ (∀ i, i < n' → u i < 268435456) ∧ (n' ≠ 0 → u (n' - 1) ≠ 0) ∧ vl 268435456 u n' + vl 268435456 y n2 = vl 268435456 x n ∧ f' = va_up (va_up f g (.inr (3, gF pa (nI n') (nI (if n' = 0 then 0 else mi)) vv))) pa (aI E 40 (iw u)))) := by
  refine px_M.of (cc := cX4_takeAmount) (maxL := 7) (ret := none) (lv := [(0, .ref g), (1, .ref g), (2, .ref o)]) (by decide) rfl (Nat.le_of_ble_eq_true rfl) rfl ?_
  intro p e s m below meth c A hC hnm
  obtain ⟨Q, hQ⟩ : ∃ Q, Q = MQ below (px_Q E (px_v L (fun f' => ∃ n' u, n' ≤ 40 ∧ (∀ i, i < n' → u i < 268435456) ∧ (n' ≠ 0 → u (n' - 1) ≠ 0) ∧ vl 268435456 u n' + vl 268435456 y n2 = vl 268435456 x n ∧ f' = va_up (va_up f g (.inr (3, gF pa (nI n') (nI (if n' = 0 then 0 else mi)) vv))) pa (aI E 40 (iw u)))) A) [.ref g, .ref g, .ref o].toArray s (px_rm 1 21).cells (px_rm 1 21).slots A := ⟨_, rfl⟩
  rw [← hQ]
  have n1 := hS.ne
  have n3 : o ≠ pa := hT.1.nk hS.2 rfl
  have loop : ∀ (d k ub : Nat) (u : Nat → Nat), k + d = n → ub < 2 → (∀ i, i < k → u i < 268435456) → (∀ i, k ≤ i → u i = x i) → vl 268435456 u k + vl 268435456 (pad y n2) k = vl 268435456 x k + ub * 268435456 ^ k → px p l e (px_rm 1 21) s m [.ref g, .ref g, .ref o].toArray below meth c 7 E A s.heap L (va_up f pa (aI E 40 (iw u))) 0 0 Q 11 [(0, .ref g), (1, .ref g), (2, .ref o), (3, .int (nI n)), (4, .int (nI ub)), (5, .int (nI k))] [] := by
    intro d
    induction d with
    | zero =>
      intro k ub u hk hub hu hux hv
      have e1 : k = n := by omega
      subst e1
      have l1 := vl_lt hu
      rw [pad_vl hnn] at hv
      have e2 : ub = 0 := by
        rcases two_of hub with q | q
        · exact q
        · subst q; omega
      rw [e2, Nat.zero_mul, Nat.add_zero] at hv
      refine px_iload hC 5 rfl dX4_takeAmount_11 ?_
      refine px_iload_n hC 3 rfl dX4_takeAmount_13 ?_
      refine px_icmp_ge hC 80 dX4_takeAmount_14 (by decide) (fun _ => ?_) (fun q9 => (q9 (nI_le (Nat.le_refl k) (by omega))).elim)
      refine px_aload_n hC 0 rfl dX4_takeAmount_80 ?_
      refine px_iload_n hC 3 rfl dX4_takeAmount_81 ?_
      refine px_callVv (C := RX4) (T := TX4) (N := 4) (st := []) (nn := 1) hC (c_trim l E L _ g pa k mi (nI k) u vv (hS.1.up n1) hS.2.self (by omega) hu) (hS.1.up n1) rfl gX4_takeAmount_X4_trim rfl (by decide +kernel) (by decide) (Nat.le_of_ble_eq_true rfl) (by decide) rfl rfl dX4_takeAmount_82 (fun f2 h2 => ?_)
      obtain ⟨n', b1, b2, b3, rfl⟩ := h2
      rw [px_uc _ _ _ (fun h => n1 h.symm)]
      subst hQ
      exact px_vret hC rfl (⟨rfl, rfl, n', u, by omega, fun i hi => hu i (by omega), b3, by rw [b2]; exact hv, rfl⟩) dX4_takeAmount_85
    | succ d ih =>
      intro k ub u hk hub hu hux hv
      have pG := hx k (by omega)
      have pH := pad_lt hy k
      obtain ⟨t1, t2, t3⟩ := ta_dig pG pH hub
      have st2 : px p l e (px_rm 1 21) s m [.ref g, .ref g, .ref o].toArray below meth c 7 E A s.heap L (va_up f pa (aI E 40 (iw u))) 0 0 Q 44 [(0, .ref g), (1, .ref g), (2, .ref o), (3, .int (nI n)), (4, .int (nI ub)), (5, .int (nI k))] [.int (nI (pad y n2 k)), .int (nI (x k))] := by
        refine px_isub hC dX4_takeAmount_44 ?_
        refine px_iload hC 4 rfl dX4_takeAmount_45 ?_
        refine px_isub hC dX4_takeAmount_47 ?_
        refine px_ei (y := nI ((x k + 2 ^ 32 - (pad y n2 k + ub)) % 2 ^ 32)) (by rw [nz_sub (by omega), nz_sub (by omega), nz_mod]; exact congrArg nI (by omega)) ?_
        generalize hV : (x k + 2 ^ 32 - (pad y n2 k + ub)) % 2 ^ 32 = V at t1 t2 t3 ⊢
        have fin : ∀ ub' : Nat, ub' = (if pad y n2 k + ub ≤ x k then 0 else 1) → px p l e (px_rm 1 21) s m [.ref g, .ref g, .ref o].toArray below meth c 7 E A s.heap L (va_up f pa (aI E 40 (iw u))) 0 0 Q 60 [(0, .ref g), (1, .ref g), (2, .ref o), (3, .int (nI n)), (4, .int (nI ub)), (5, .int (nI k)), (6, .int (nI V))] [.int (nI ub')] := by
          intro ub' hub'
          refine px_istore (lv' := [(0, .ref g), (1, .ref g), (2, .ref o), (3, .int (nI n)), (4, .int (nI ub')), (5, .int (nI k)), (6, .int (nI V))]) hC [1, 2, 3, 4, 0, 5, 6] dX4_takeAmount_60 (by decide) rfl ?_
          refine px_aload_n hC 0 rfl dX4_takeAmount_62 ?_
          refine px_get (C := RX4) (T := TX4) (N := 4) hC (hS.1.up n1) rfl kkX4_takeAmount_X4 0 (by decide) flX4_takeAmount_9 rfl dX4_takeAmount_63 ?_
          refine px_iload hC 5 rfl dX4_takeAmount_66 ?_
          refine px_iload hC 6 rfl dX4_takeAmount_68 ?_
          refine px_ldc (v := 268435455) hC dX4_takeAmount_70 (by decide +kernel) ?_
          refine px_ei (y := nI 268435455) (by decide) ?_
          refine px_iand hC dX4_takeAmount_72 ?_
          refine px_ei (y := nI (V % 268435456)) (pk_andN (by omega) 28 (by decide)) ?_
          refine px_iast hC hS.2.self (by omega) (by first | decide | assumption | omega) dX4_takeAmount_73 ?_
          rw [px_uu, iw_up]
          refine px_iinc (v := nI (k + 1)) (lv' := [(0, .ref g), (1, .ref g), (2, .ref o), (3, .int (nI n)), (4, .int (nI ub')), (5, .int (nI (k + 1))), (6, .int (nI V))]) hC 5 [1, 2, 3, 4, 5, 0, 6] dX4_takeAmount_74 rfl (nI_1 k) (by decide) rfl ?_
          refine px_goto hC 11 dX4_takeAmount_77 (by decide) ?_
          refine px_lv (lv2 := [(0, .ref g), (1, .ref g), (2, .ref o), (3, .int (nI n)), (4, .int (nI ub')), (5, .int (nI (k + 1)))]) [0, 1, 2, 3, 4, 5] rfl ?_
          have hc : V % 268435456 + (pad y n2 k + ub) = x k + ub' * 268435456 := by
            rw [t3, hub']
            by_cases q : pad y n2 k + ub ≤ x k
            · rw [if_pos q, if_pos q]; omega
            · rw [if_neg q, if_neg q]; omega
          refine ih (k + 1) ub' (un u k (V % 268435456)) (by omega) (by rw [hub']; by_cases q : pad y n2 k + ub ≤ x k; (rw [if_pos q]; decide); (rw [if_neg q]; decide)) (fun i hi => ?_) (fun i hi => ?_) ?_
          · by_cases q : i = k
            · subst q; rw [un_s]; exact Nat.mod_lt _ (by decide)
            · rw [un_n _ _ q]; exact hu i (by omega)
          · rw [un_n _ _ (by omega)]; exact hux i (by omega)
          · show vl 268435456 (un u k (V % 268435456)) k + un u k (V % 268435456) k * 268435456 ^ k + (vl 268435456 (pad y n2) k + pad y n2 k * 268435456 ^ k) = vl 268435456 x k + x k * 268435456 ^ k + ub' * 268435456 ^ (k + 1)
            rw [vl_ug (Nat.le_refl k), un_s, Nat.pow_succ]
            exact tb_step hv hc
        refine px_istore (lv' := [(0, .ref g), (1, .ref g), (2, .ref o), (3, .int (nI n)), (4, .int (nI ub)), (5, .int (nI k)), (6, .int (nI (V)))]) hC [1, 2, 3, 4, 5, 6, 0] dX4_takeAmount_48 (by decide) rfl ?_
        refine px_iload hC 6 rfl dX4_takeAmount_50 ?_
        by_cases q : pad y n2 k + ub ≤ x k
        · refine px_if_ge hC 59 dX4_takeAmount_52 (by decide) (fun _ => ?_) (fun q9 => (q9 ((nz_neg t1).mpr (t2.mpr q))).elim)
          refine px_iconst (v := nI 0) hC (by decide) dX4_takeAmount_59 ?_
          exact fin 0 (by rw [if_pos q])
        · refine px_if_ge hC 59 dX4_takeAmount_52 (by decide) (fun q9 => absurd q9 (fun h => q (t2.mp ((nz_neg t1).mp h)))) (fun _ => ?_)
          refine px_iconst (v := nI 1) hC (by decide) dX4_takeAmount_55 ?_
          refine px_goto hC 60 dX4_takeAmount_56 (by decide) ?_
          exact fin 1 (by rw [if_neg q])
      refine px_iload hC 5 rfl dX4_takeAmount_11 ?_
      refine px_iload_n hC 3 rfl dX4_takeAmount_13 ?_
      refine px_icmp_ge hC 80 dX4_takeAmount_14 (by decide) (fun q9 => absurd q9 (nI_ge (by omega) (by omega))) (fun _ => ?_)
      refine px_aload_n hC 1 rfl dX4_takeAmount_17 ?_
      refine px_get (C := RX4) (T := TX4) (N := 4) hC (hS.1.up n1) rfl kkX4_takeAmount_X4 0 (by decide) flX4_takeAmount_9 rfl dX4_takeAmount_18 ?_
      refine px_iload hC 5 rfl dX4_takeAmount_21 ?_
      refine px_iald hC hS.2.self (by omega) (by first | decide | assumption | omega) dX4_takeAmount_23 ?_
      refine px_ei (y := nI (x k)) (by rw [← hux k (Nat.le_refl k)]; rfl) ?_
      refine px_iload hC 5 rfl dX4_takeAmount_24 ?_
      refine px_aload_n hC 2 rfl dX4_takeAmount_26 ?_
      refine px_get (C := RX4) (T := TX4) (N := 4) hC (hT.1.up n3) rfl kkX4_takeAmount_X4 1 (by decide) flX4_takeAmount_15 rfl dX4_takeAmount_27 ?_
      by_cases h2 : k < n2
      · refine px_icmp_ge hC 43 dX4_takeAmount_30 (by decide) (fun q9 => absurd q9 (nI_ge h2 (by omega))) (fun _ => ?_)
        refine px_aload_n hC 2 rfl dX4_takeAmount_33 ?_
        refine px_get (C := RX4) (T := TX4) (N := 4) hC (hT.1.up n3) rfl kkX4_takeAmount_X4 0 (by decide) flX4_takeAmount_9 rfl dX4_takeAmount_34 ?_
        refine px_iload hC 5 rfl dX4_takeAmount_37 ?_
        refine px_iald hC (hT.2.up (fun h => hp h.symm)) (by omega) (by first | decide | assumption | omega) dX4_takeAmount_39 ?_
        refine px_ei (y := nI (pad y n2 k)) (by rw [pad_in h2]; rfl) ?_
        refine px_goto hC 44 dX4_takeAmount_40 (by decide) ?_
        exact st2
      · refine px_icmp_ge hC 43 dX4_takeAmount_30 (by decide) (fun _ => ?_) (fun q9 => (q9 (nI_le (by omega) (by omega))).elim)
        refine px_iconst (v := nI 0) hC (by decide) dX4_takeAmount_43 ?_
        refine px_ei (y := nI (pad y n2 k)) (by rw [pad_out h2]) ?_
        exact st2
  refine px_aload_n hC 1 rfl dX4_takeAmount_0 ?_
  refine px_get (C := RX4) (T := TX4) (N := 4) hC hS.1 rfl kkX4_takeAmount_X4 1 (by decide) flX4_takeAmount_15 rfl dX4_takeAmount_1 ?_
  refine px_istore_n (lv' := [(0, .ref g), (1, .ref g), (2, .ref o), (3, .int (nI n))]) hC [1, 2, 3, 0] dX4_takeAmount_4 (by decide) rfl ?_
  refine px_iconst (v := nI 0) hC (by decide) dX4_takeAmount_5 ?_
  refine px_istore (lv' := [(0, .ref g), (1, .ref g), (2, .ref o), (3, .int (nI n)), (4, .int (nI 0))]) hC [1, 2, 3, 4, 0] dX4_takeAmount_6 (by decide) rfl ?_
  refine px_iconst (v := nI 0) hC (by decide) dX4_takeAmount_8 ?_
  refine px_istore (lv' := [(0, .ref g), (1, .ref g), (2, .ref o), (3, .int (nI n)), (4, .int (nI 0)), (5, .int (nI 0))]) hC [1, 2, 3, 4, 5, 0] dX4_takeAmount_9 (by decide) rfl ?_
  have h0 := loop n 0 0 x (by omega) (by decide) (fun i hi => absurd hi (by omega)) (fun i _ => rfl) rfl
  rw [px_us hS.2.2] at h0
  exact h0
/-- this := other - this -/
theorem c_gTakB (l : Launch) (E : px_E) (L : List Nat) (f : Nat → va_E) (g pa o pa2 n mi n2 mi2 : Nat) (x y : Nat → Nat) (vv vv2 : Int64) (hS : gS E L f g pa n mi x vv) (hT : gS E L f o pa2 n2 mi2 y vv2) (hp : pa ≠ pa2) (hn : n ≤ 40) (hn2 : n2 ≤ 40) (hx : ∀ i, i < n → x i < 268435456) (hy : ∀ i, i < n2 → y i < 268435456) (hnn : n ≤ n2) (hle : vl 268435456 x n ≤ vl 268435456 y n2) : px_M l yX4_takeAmount wsX4_takeAmount (px_rm 1 21) E L f [.ref g, .ref o, .ref g] (px_v L (fun f' => ∃ n' u, n' ≤ 40 ∧ (∀ i, i < n' → u i < 268435456) ∧ (n' ≠ 0 → u (n' - 1) ≠ 0) ∧ vl 268435456 u n' + vl 268435456 x n = vl 268435456 y n2 ∧ f' = va_up (va_up f g (.inr (3, gF pa (nI n') (nI (if n' = 0 then 0 else mi)) vv))) pa (aI E 40 (iw u)))) := by
  refine px_M.of (cc := cX4_takeAmount) (maxL := 7) (ret := none) (lv := [(0, .ref g), (1, .ref o), (2, .ref g)]) (by decide) rfl (Nat.le_of_ble_eq_true rfl) rfl ?_
  intro p e s m below meth c A hC hnm
  obtain ⟨Q, hQ⟩ : ∃ Q, Q = MQ below (px_Q E (px_v L (fun f' => ∃ n' u, n' ≤ 40 ∧ (∀ i, i < n' → u i < 268435456) ∧ (n' ≠ 0 → u (n' - 1) ≠ 0) ∧ vl 268435456 u n' + vl 268435456 x n = vl 268435456 y n2 ∧ f' = va_up (va_up f g (.inr (3, gF pa (nI n') (nI (if n' = 0 then 0 else mi)) vv))) pa (aI E 40 (iw u)))) A) [.ref g, .ref o, .ref g].toArray s (px_rm 1 21).cells (px_rm 1 21).slots A := ⟨_, rfl⟩
  rw [← hQ]
  have n1 := hS.ne
  have n3 : o ≠ pa := hT.1.nk hS.2 rfl
  have loop : ∀ (d k ub : Nat) (u : Nat → Nat), k + d = n2 → ub < 2 → (∀ i, i < k → u i < 268435456) → (∀ i, k ≤ i → u i = x i) → vl 268435456 u k + vl 268435456 (pad x n) k = vl 268435456 y k + ub * 268435456 ^ k → px p l e (px_rm 1 21) s m [.ref g, .ref o, .ref g].toArray below meth c 7 E A s.heap L (va_up f pa (aI E 40 (iw u))) 0 0 Q 11 [(0, .ref g), (1, .ref o), (2, .ref g), (3, .int (nI n2)), (4, .int (nI ub)), (5, .int (nI k))] [] := by
    intro d
    induction d with
    | zero =>
      intro k ub u hk hub hu hux hv
      have e1 : k = n2 := by omega
      subst e1
      have l1 := vl_lt hu
      rw [pad_vl hnn] at hv
      have e2 : ub = 0 := by
        rcases two_of hub with q | q
        · exact q
        · subst q; omega
      rw [e2, Nat.zero_mul, Nat.add_zero] at hv
      refine px_iload hC 5 rfl dX4_takeAmount_11 ?_
      refine px_iload_n hC 3 rfl dX4_takeAmount_13 ?_
      refine px_icmp_ge hC 80 dX4_takeAmount_14 (by decide) (fun _ => ?_) (fun q9 => (q9 (nI_le (Nat.le_refl k) (by omega))).elim)
      refine px_aload_n hC 0 rfl dX4_takeAmount_80 ?_
      refine px_iload_n hC 3 rfl dX4_takeAmount_81 ?_
      refine px_callVv (C := RX4) (T := TX4) (N := 4) (st := []) (nn := 1) hC (c_trim l E L _ g pa k mi (nI n) u vv (hS.1.up n1) hS.2.self (by omega) hu) (hS.1.up n1) rfl gX4_takeAmount_X4_trim rfl (by decide +kernel) (by decide) (Nat.le_of_ble_eq_true rfl) (by decide) rfl rfl dX4_takeAmount_82 (fun f2 h2 => ?_)
      obtain ⟨n', b1, b2, b3, rfl⟩ := h2
      rw [px_uc _ _ _ (fun h => n1 h.symm)]
      subst hQ
      exact px_vret hC rfl (⟨rfl, rfl, n', u, by omega, fun i hi => hu i (by omega), b3, by rw [b2]; exact hv, rfl⟩) dX4_takeAmount_85
    | succ d ih =>
      intro k ub u hk hub hu hux hv
      have pG := hy k (by omega)
      have pH := pad_lt hx k
      obtain ⟨t1, t2, t3⟩ := ta_dig pG pH hub
      have st2 : px p l e (px_rm 1 21) s m [.ref g, .ref o, .ref g].toArray below meth c 7 E A s.heap L (va_up f pa (aI E 40 (iw u))) 0 0 Q 44 [(0, .ref g), (1, .ref o), (2, .ref g), (3, .int (nI n2)), (4, .int (nI ub)), (5, .int (nI k))] [.int (nI (pad x n k)), .int (nI (y k))] := by
        refine px_isub hC dX4_takeAmount_44 ?_
        refine px_iload hC 4 rfl dX4_takeAmount_45 ?_
        refine px_isub hC dX4_takeAmount_47 ?_
        refine px_ei (y := nI ((y k + 2 ^ 32 - (pad x n k + ub)) % 2 ^ 32)) (by rw [nz_sub (by omega), nz_sub (by omega), nz_mod]; exact congrArg nI (by omega)) ?_
        generalize hV : (y k + 2 ^ 32 - (pad x n k + ub)) % 2 ^ 32 = V at t1 t2 t3 ⊢
        have fin : ∀ ub' : Nat, ub' = (if pad x n k + ub ≤ y k then 0 else 1) → px p l e (px_rm 1 21) s m [.ref g, .ref o, .ref g].toArray below meth c 7 E A s.heap L (va_up f pa (aI E 40 (iw u))) 0 0 Q 60 [(0, .ref g), (1, .ref o), (2, .ref g), (3, .int (nI n2)), (4, .int (nI ub)), (5, .int (nI k)), (6, .int (nI V))] [.int (nI ub')] := by
          intro ub' hub'
          refine px_istore (lv' := [(0, .ref g), (1, .ref o), (2, .ref g), (3, .int (nI n2)), (4, .int (nI ub')), (5, .int (nI k)), (6, .int (nI V))]) hC [1, 2, 3, 4, 0, 5, 6] dX4_takeAmount_60 (by decide) rfl ?_
          refine px_aload_n hC 0 rfl dX4_takeAmount_62 ?_
          refine px_get (C := RX4) (T := TX4) (N := 4) hC (hS.1.up n1) rfl kkX4_takeAmount_X4 0 (by decide) flX4_takeAmount_9 rfl dX4_takeAmount_63 ?_
          refine px_iload hC 5 rfl dX4_takeAmount_66 ?_
          refine px_iload hC 6 rfl dX4_takeAmount_68 ?_
          refine px_ldc (v := 268435455) hC dX4_takeAmount_70 (by decide +kernel) ?_
          refine px_ei (y := nI 268435455) (by decide) ?_
          refine px_iand hC dX4_takeAmount_72 ?_
          refine px_ei (y := nI (V % 268435456)) (pk_andN (by omega) 28 (by decide)) ?_
          refine px_iast hC hS.2.self (by omega) (by first | decide | assumption | omega) dX4_takeAmount_73 ?_
          rw [px_uu, iw_up]
          refine px_iinc (v := nI (k + 1)) (lv' := [(0, .ref g), (1, .ref o), (2, .ref g), (3, .int (nI n2)), (4, .int (nI ub')), (5, .int (nI (k + 1))), (6, .int (nI V))]) hC 5 [1, 2, 3, 4, 5, 0, 6] dX4_takeAmount_74 rfl (nI_1 k) (by decide) rfl ?_
          refine px_goto hC 11 dX4_takeAmount_77 (by decide) ?_
          refine px_lv (lv2 := [(0, .ref g), (1, .ref o), (2, .ref g), (3, .int (nI n2)), (4, .int (nI ub')), (5, .int (nI (k + 1)))]) [0, 1, 2, 3, 4, 5] rfl ?_
          have hc : V % 268435456 + (pad x n k + ub) = y k + ub' * 268435456 := by
            rw [t3, hub']
            by_cases q : pad x n k + ub ≤ y k
            · rw [if_pos q, if_pos q]; omega
            · rw [if_neg q, if_neg q]; omega
          refine ih (k + 1) ub' (un u k (V % 268435456)) (by omega) (by rw [hub']; by_cases q : pad x n k + ub ≤ y k; (rw [if_pos q]; decide); (rw [if_neg q]; decide)) (fun i hi => ?_) (fun i hi => ?_) ?_
          · by_cases q : i = k
            · subst q; rw [un_s]; exact Nat.mod_lt _ (by decide)
            · rw [un_n _ _ q]; exact hu i (by omega)
          · rw [un_n _ _ (by omega)]; exact hux i (by omega)
          · show vl 268435456 (un u k (V % 268435456)) k + un u k (V % 268435456) k * 268435456 ^ k + (vl 268435456 (pad x n) k + pad x n k * 268435456 ^ k) = vl 268435456 y k + y k * 268435456 ^ k + ub' * 268435456 ^ (k + 1)
            rw [vl_ug (Nat.le_refl k), un_s, Nat.pow_succ]
            exact tb_step hv hc
        refine px_istore (lv' := [(0, .ref g), (1, .ref o), (2, .ref g), (3, .int (nI n2)), (4, .int (nI ub)), (5, .int (nI k)), (6, .int (nI (V)))]) hC [1, 2, 3, 4, 5, 6, 0] dX4_takeAmount_48 (by decide) rfl ?_
        refine px_iload hC 6 rfl dX4_takeAmount_50 ?_
        by_cases q : pad x n k + ub ≤ y k
        · refine px_if_ge hC 59 dX4_takeAmount_52 (by decide) (fun _ => ?_) (fun q9 => (q9 ((nz_neg t1).mpr (t2.mpr q))).elim)
          refine px_iconst (v := nI 0) hC (by decide) dX4_takeAmount_59 ?_
          exact fin 0 (by rw [if_pos q])
        · refine px_if_ge hC 59 dX4_takeAmount_52 (by decide) (fun q9 => absurd q9 (fun h => q (t2.mp ((nz_neg t1).mp h)))) (fun _ => ?_)
          refine px_iconst (v := nI 1) hC (by decide) dX4_takeAmount_55 ?_
          refine px_goto hC 60 dX4_takeAmount_56 (by decide) ?_
          exact fin 1 (by rw [if_neg q])
      refine px_iload hC 5 rfl dX4_takeAmount_11 ?_
      refine px_iload_n hC 3 rfl dX4_takeAmount_13 ?_
      refine px_icmp_ge hC 80 dX4_takeAmount_14 (by decide) (fun q9 => absurd q9 (nI_ge (by omega) (by omega))) (fun _ => ?_)
      refine px_aload_n hC 1 rfl dX4_takeAmount_17 ?_
      refine px_get (C := RX4) (T := TX4) (N := 4) hC (hT.1.up n3) rfl kkX4_takeAmount_X4 0 (by decide) flX4_takeAmount_9 rfl dX4_takeAmount_18 ?_
      refine px_iload hC 5 rfl dX4_takeAmount_21 ?_
      refine px_iald hC (hT.2.up (fun h => hp h.symm)) (by omega) (by first | decide | assumption | omega) dX4_takeAmount_23 ?_
      refine px_ei (y := nI (y k)) (rfl) ?_
      refine px_iload hC 5 rfl dX4_takeAmount_24 ?_
      refine px_aload_n hC 2 rfl dX4_takeAmount_26 ?_
      refine px_get (C := RX4) (T := TX4) (N := 4) hC (hS.1.up n1) rfl kkX4_takeAmount_X4 1 (by decide) flX4_takeAmount_15 rfl dX4_takeAmount_27 ?_
      by_cases h2 : k < n
      · refine px_icmp_ge hC 43 dX4_takeAmount_30 (by decide) (fun q9 => absurd q9 (nI_ge h2 (by omega))) (fun _ => ?_)
        refine px_aload_n hC 2 rfl dX4_takeAmount_33 ?_
        refine px_get (C := RX4) (T := TX4) (N := 4) hC (hS.1.up n1) rfl kkX4_takeAmount_X4 0 (by decide) flX4_takeAmount_9 rfl dX4_takeAmount_34 ?_
        refine px_iload hC 5 rfl dX4_takeAmount_37 ?_
        refine px_iald hC hS.2.self (by omega) (by first | decide | assumption | omega) dX4_takeAmount_39 ?_
        refine px_ei (y := nI (pad x n k)) (by rw [pad_in h2, ← hux k (Nat.le_refl k)]; rfl) ?_
        refine px_goto hC 44 dX4_takeAmount_40 (by decide) ?_
        exact st2
      · refine px_icmp_ge hC 43 dX4_takeAmount_30 (by decide) (fun _ => ?_) (fun q9 => (q9 (nI_le (by omega) (by omega))).elim)
        refine px_iconst (v := nI 0) hC (by decide) dX4_takeAmount_43 ?_
        refine px_ei (y := nI (pad x n k)) (by rw [pad_out h2]) ?_
        exact st2
  refine px_aload_n hC 1 rfl dX4_takeAmount_0 ?_
  refine px_get (C := RX4) (T := TX4) (N := 4) hC hT.1 rfl kkX4_takeAmount_X4 1 (by decide) flX4_takeAmount_15 rfl dX4_takeAmount_1 ?_
  refine px_istore_n (lv' := [(0, .ref g), (1, .ref o), (2, .ref g), (3, .int (nI n2))]) hC [1, 2, 3, 0] dX4_takeAmount_4 (by decide) rfl ?_
  refine px_iconst (v := nI 0) hC (by decide) dX4_takeAmount_5 ?_
  refine px_istore (lv' := [(0, .ref g), (1, .ref o), (2, .ref g), (3, .int (nI n2)), (4, .int (nI 0))]) hC [1, 2, 3, 4, 0] dX4_takeAmount_6 (by decide) rfl ?_
  refine px_iconst (v := nI 0) hC (by decide) dX4_takeAmount_8 ?_
  refine px_istore (lv' := [(0, .ref g), (1, .ref o), (2, .ref g), (3, .int (nI n2)), (4, .int (nI 0)), (5, .int (nI 0))]) hC [1, 2, 3, 4, 5, 0] dX4_takeAmount_9 (by decide) rfl ?_
  have h0 := loop n2 0 0 x (by omega) (by decide) (fun i hi => absurd hi (by omega)) (fun i _ => rfl) rfl
  rw [px_us hS.2.2] at h0
  exact h0
theorem c_gTake (l : Launch) (E : px_E) (L : List Nat) (f : Nat → va_E) (g pa g2 pa2 : Nat) {v w : Int} {n mi n2 mi2 : Nat} {x y : Nat → Nat} {vv vv2 : Int64} (hS : gS E L f g pa n mi x vv) (hC1 : gC n mi x v) (hT : gS E L f g2 pa2 n2 mi2 y vv2) (hC2 : gC n2 mi2 y w) (hg : g ≠ g2) (hp : pa ≠ pa2) (hn : n ≤ 39) (hn2 : n2 ≤ 39) : px_M l yX4_take wsX4_take (px_rm 2 47) E L f [.ref g, .ref g2] (px_v L (fun f' => ∃ n' mi' u, gC n' mi' u (v - w) ∧ f' = va_up (va_up f g (.inr (3, gF pa (nI n') (nI mi') vv))) pa (aI E 40 (iw u)))) := by
  refine px_M.of (cc := cX4_take) (maxL := 2) (ret := none) (lv := [(0, .ref g), (1, .ref g2)]) (by decide) rfl (Nat.le_of_ble_eq_true rfl) rfl ?_
  intro p e s m below meth c A hC hnm
  obtain ⟨Q, hQ⟩ : ∃ Q, Q = MQ below (px_Q E (px_v L (fun f' => ∃ n' mi' u, gC n' mi' u (v - w) ∧ f' = va_up (va_up f g (.inr (3, gF pa (nI n') (nI mi') vv))) pa (aI E 40 (iw u)))) A) [.ref g, .ref g2].toArray s (px_rm 2 47).cells (px_rm 2 47).slots A := ⟨_, rfl⟩
  rw [← hQ]
  have n1 := hS.ne
  obtain ⟨a1, a2, a3, a4, a5, a6⟩ := id hC1
  obtain ⟨b1, b2, b3, b4, b5, b6⟩ := id hC2
  have z1 := gC_0 hC1
  have z2 := gC_0 hC2
  refine px_aload_n hC 0 rfl dX4_take_0 ?_
  refine px_get (C := RX4) (T := TX4) (N := 4) hC hS.1 rfl kkX4_take_X4 2 (by decide) flX4_take_19 rfl dX4_take_1 ?_
  refine px_aload_n hC 1 rfl dX4_take_4 ?_
  refine px_get (C := RX4) (T := TX4) (N := 4) hC hT.1 rfl kkX4_take_X4 2 (by decide) flX4_take_19 rfl dX4_take_5 ?_
  by_cases hm : mi = mi2
  · refine px_icmp_eq hC 17 dX4_take_8 (by decide) (fun _ => ?_) (fun q9 => (q9 (by rw [hm])).elim)
    refine px_aload_n hC 0 rfl dX4_take_17 ?_
    refine px_aload_n hC 1 rfl dX4_take_18 ?_
    refine px_callVi (C := RX4) (T := TX4) (N := 4) (st := []) (nn := 1) hC (c_gCmp l E L f g pa g2 pa2 n mi n2 mi2 x y vv vv2 hS hT a1 b1 a2 b2 a3 b3) hS.1 rfl gX4_take_X4_compare rfl (by decide +kernel) (by decide) (Nat.le_of_ble_eq_true rfl) (by decide) rfl rfl dX4_take_19 (fun z f1 hz => ?_)
    obtain ⟨rfl, hz⟩ := hz
    have big : (0 ≤ z ∧ vl 268435456 y n2 ≤ vl 268435456 x n) ∨ (z = (-1) ∧ vl 268435456 x n < vl 268435456 y n2) := by
      rcases hz with ⟨rfl, h⟩ | ⟨rfl, h⟩ | ⟨rfl, h⟩
      · exact Or.inl ⟨by decide, by omega⟩
      · exact Or.inl ⟨by decide, by omega⟩
      · exact Or.inr ⟨rfl, h⟩
    rcases big with ⟨h0, h⟩ | ⟨h0, h⟩
    · have hnn : n2 ≤ n := gC_len b3 (Nat.lt_of_le_of_lt h (vl_lt a2))
      refine px_if_lt hC 32 dX4_take_22 (by decide) (fun q9 => absurd q9 (Int32.not_lt.mpr h0)) (fun _ => ?_)
      refine px_aload_n hC 0 rfl dX4_take_25 ?_
      refine px_aload_n hC 0 rfl dX4_take_26 ?_
      refine px_aload_n hC 1 rfl dX4_take_27 ?_
      refine px_callVv (C := RX4) (T := TX4) (N := 4) (st := []) (nn := 2) hC (c_gTakA l E L _ g pa g2 pa2 n mi n2 mi2 x y vv vv2 hS hT hp a1 b1 a2 b2 hnn h) hS.1 rfl gX4_take_X4_takeAmount rfl (by decide +kernel) (by decide) (Nat.le_of_ble_eq_true rfl) (by decide) rfl rfl dX4_take_28 (fun f2 h2 => ?_)
      obtain ⟨n', u, c1, c2, c3, c4, rfl⟩ := h2
      subst hQ
      exact px_vret hC rfl (⟨rfl, rfl, n', _, u, tk_a a4 hm a5 a6 b5 b6 c1 c2 c3 c4, rfl⟩) dX4_take_31
    · have hnn : n ≤ n2 := gC_len a3 (Nat.lt_trans h (vl_lt b2))
      subst h0
      refine px_if_lt hC 32 dX4_take_22 (by decide) (fun _ => ?_) (fun q9 => (q9 (by decide)).elim)
      refine px_aload_n hC 0 rfl dX4_take_32 ?_
      refine px_aload_n hC 1 rfl dX4_take_33 ?_
      refine px_aload_n hC 0 rfl dX4_take_34 ?_
      refine px_callVv (C := RX4) (T := TX4) (N := 4) (st := []) (nn := 2) hC (c_gTakB l E L _ g pa g2 pa2 n mi n2 mi2 x y vv vv2 hS hT hp a1 b1 a2 b2 hnn (by omega)) hS.1 rfl gX4_take_X4_takeAmount rfl (by decide +kernel) (by decide) (Nat.le_of_ble_eq_true rfl) (by decide) rfl rfl dX4_take_35 (fun f2 h2 => ?_)
      obtain ⟨n', u, c1, c2, c3, c4, rfl⟩ := h2
      have hn'0 : n' ≠ 0 := fun q => by subst q; have c5 : 0 + vl 268435456 x n = vl 268435456 y n2 := c4; omega
      rw [if_neg hn'0]
      have hf := hS.1.self (y := .inr (3, gF pa (nI n') (nI mi) vv)) |>.up (y := aI E 40 (iw u)) n1
      have key : ∀ mi' : Nat, mi' = 1 - mi → px p l e (px_rm 2 47) s m [.ref g, .ref g2].toArray below meth c 2 E A s.heap L (va_up (va_up f1 g (.inr (3, gF pa (nI n') (nI mi') vv))) pa (aI E 40 (iw u))) 0 0 Q 54 [(0, .ref g), (1, .ref g2)] [] := by
        intro mi' hmi'
        have hf2 := hS.1.self (y := .inr (3, gF pa (nI n') (nI mi') vv)) |>.up (y := aI E 40 (iw u)) n1
        refine px_aload_n hC 0 rfl dX4_take_54 ?_
        refine px_get (C := RX4) (T := TX4) (N := 4) hC hf2 rfl kkX4_take_X4 1 (by decide) flX4_take_15 rfl dX4_take_55 ?_
        refine px_if_ne hC 66 dX4_take_58 (by decide) (fun _ => ?_) (fun q9 => absurd q9 (nI_ne0 (by omega) (by omega)))
        subst hQ
        exact px_vret hC rfl (⟨rfl, rfl, n', mi', u, tk_b a4 hm hmi' hn'0 a5 a6 b5 b6 c1 c2 c3 c4, rfl⟩) dX4_take_66
      refine px_aload_n hC 0 rfl dX4_take_38 ?_
      refine px_aload_n hC 0 rfl dX4_take_39 ?_
      refine px_get (C := RX4) (T := TX4) (N := 4) hC hf rfl kkX4_take_X4 2 (by decide) flX4_take_19 rfl dX4_take_40 ?_
      rcases two_of a4 with q | q
      · subst q
        refine px_if_ne hC 50 dX4_take_43 (by decide) (fun q9 => (q9 (rfl)).elim) (fun _ => ?_)
        refine px_iconst (v := nI 1) hC (by decide) dX4_take_46 ?_
        refine px_goto hC 51 dX4_take_47 (by decide) ?_
        refine px_put (C := RX4) (T := TX4) (N := 4) (fs' := gF pa (nI n') (nI 1) vv) hC hf rfl kkX4_take_X4 2 (by decide) tyX4 tyX4_ok nmX4 flX4_take_19 rfl (by decide) (by decide) (Nat.le_of_ble_eq_true rfl) rfl dX4_take_51 ?_
        rw [px_uc _ _ _ (fun h => n1 h.symm), px_uu]
        exact key 1 rfl
      · subst q
        refine px_if_ne hC 50 dX4_take_43 (by decide) (fun _ => ?_) (fun q9 => absurd q9 (by decide))
        refine px_iconst (v := nI 0) hC (by decide) dX4_take_50 ?_
        refine px_put (C := RX4) (T := TX4) (N := 4) (fs' := gF pa (nI n') (nI 0) vv) hC hf rfl kkX4_take_X4 2 (by decide) tyX4 tyX4_ok nmX4 flX4_take_19 rfl (by decide) (by decide) (Nat.le_of_ble_eq_true rfl) rfl dX4_take_51 ?_
        rw [px_uc _ _ _ (fun h => n1 h.symm), px_uu]
        exact key 0 rfl
  · refine px_icmp_eq hC 17 dX4_take_8 (by decide) (fun q9 => absurd q9 (fun h => hm (nI_inj2 (by omega) (by omega) h))) (fun _ => ?_)
    refine px_aload_n hC 0 rfl dX4_take_11 ?_
    refine px_aload_n hC 1 rfl dX4_take_12 ?_
    refine px_callVv (C := RX4) (T := TX4) (N := 4) (st := []) (nn := 1) hC (c_gAdd l E L f g pa g2 pa2 n mi n2 mi2 x y vv vv2 hS hT hg hp hn hn2 a4 b4 a2 b2) hS.1 rfl gX4_take_X4_addAmount rfl (by decide +kernel) (by decide) (Nat.le_of_ble_eq_true rfl) (by decide) rfl rfl dX4_take_13 (fun f2 h2 => ?_)
    obtain ⟨n', u, c1, c2, c3, c4, rfl⟩ := h2
    subst hQ
    exact px_vret hC rfl (⟨rfl, rfl, n', _, u, tk_c a4 b4 hm z1 a5 a6 b5 b6 c1 c2 c3 c4, rfl⟩) dX4_take_16
end
section
/-! ===== lN to 2^62 under >> and >>> ===== -/
theorem pf_lI {a : Nat} (h : a < 2 ^ 63) : (lN a).toInt = (a : Int) := lg_ofNat_toInt h
theorem pf_shr {a d : Nat} {D : Int64} (hD : (D.toBitVec.smod 64).toNat = d) (h : a < 2 ^ 62) : lN a >>> D = lN (a / 2 ^ d) := by
  have hd : a / 2 ^ d ≤ a := Nat.div_le_self _ _
  apply Int64.toInt_inj.mp
  have e : (lN a >>> D).toInt = (lN a).toInt >>> d := by
    rw [← hD]
    exact BitVec.toInt_sshiftRight ..
  rw [e, Int.shiftRight_eq_div_pow, pf_lI (by omega), pf_lI (by omega)]
  rfl
theorem pf_ushr {a d : Nat} {D : UInt64} (hD : D.toNat % 64 = d) (h : a < 2 ^ 62) : ((lN a).toUInt64 >>> D).toInt64 = lN (a / 2 ^ d) := by
  have hd : a / 2 ^ d ≤ a := Nat.div_le_self _ _
  have e : (lN a).toUInt64 >>> D = UInt64.ofNat (a / 2 ^ d) := UInt64.toNat_inj.mp (by
    rw [UInt64.toNat_shiftRight, hD, Nat.shiftRight_eq_div_pow, UInt64.toNat_ofNat']
    show (UInt64.ofNat a).toNat / 2 ^ d = _
    rw [UInt64.toNat_ofNat', Nat.mod_eq_of_lt (by omega), Nat.mod_eq_of_lt (by omega)])
  rw [e]
  rfl
theorem pf_andw (x : Int64) : ∃ m, m < 2 ^ 32 ∧ x &&& 4294967295 = lN m := ⟨x.toBitVec.toNat % 2 ^ 32, Nat.mod_lt _ (by decide), Int64.toBitVec_inj.mp (BitVec.eq_of_toNat_eq (by
  show (x.toBitVec &&& 4294967295#64).toNat = (BitVec.ofNat 64 (x.toBitVec.toNat % 2 ^ 32)).toNat
  rw [BitVec.toNat_and, show (4294967295#64).toNat = 2 ^ 32 - 1 from by decide, Nat.and_two_pow_sub_one_eq_mod, BitVec.toNat_ofNat]
  omega))⟩
/-! ===== products ===== -/
theorem sl28 : (((nI 28).toInt64 &&& 63).toBitVec.smod 64).toNat = 28 := by decide
theorem vl_cut {u : Nat → Nat} {k w : Nat} (hk : k ≤ w) (h : vl 268435456 u w < 268435456 ^ k) : vl 268435456 u k = vl 268435456 u w := by
  have e : vl 268435456 u w = vl 268435456 u k + 268435456 ^ k * vl 268435456 (fun i => u (k + i)) (w - k) := by rw [← vl_a, show k + (w - k) = w by omega]
  generalize vl 268435456 (fun i => u (k + i)) (w - k) = T at e
  rcases Nat.eq_zero_or_pos T with q | q
  · subst q; rw [Nat.mul_zero] at e; omega
  · have : 268435456 ^ k * 1 ≤ 268435456 ^ k * T := Nat.mul_le_mul_left _ q
    omega
theorem pr_v {a ca p q : Nat} (ha : a < 268435456) (hc : ca < 268435456) (hp : p < 268435456) (hq : q < 268435456) : a + ca + p * q < 2 ^ 62 ∧ (a + ca + p * q) / 268435456 < 268435456 := by
  have h1 : p * q ≤ 268435455 * 268435455 := Nat.mul_le_mul (by omega) (by omega)
  generalize p * q = P at h1 ⊢
  omega
theorem pr_step {U U' ca ca' P u a2 R xi yj S : Nat} (h0 : U + ca * P = R + xi * S) (hu : U' + u * P = U + a2 * P) (hv : u + ca + xi * yj = 268435456 * ca' + a2) : U' + ca' * (P * 268435456) = R + xi * S + xi * yj * P := by
  have e : (u + ca + xi * yj) * P = (268435456 * ca' + a2) * P := by rw [hv]
  grind
theorem pr_sg {v w : Int} {n' X Y mi1 mi2 : Nat} {u : Nat → Nat} (a4 : mi1 < 2) (b4 : mi2 < 2) (a5 : v.natAbs = X) (a6 : mi1 = 1 ↔ v < 0) (b5 : w.natAbs = Y) (b6 : mi2 = 1 ↔ w < 0) (c1 : n' ≤ 40) (c2 : ∀ i, i < n' → u i < 268435456) (c3 : n' ≠ 0 → u (n' - 1) ≠ 0) (c4 : vl 268435456 u n' = X * Y) : gC n' (if n' = 0 then 0 else if mi1 = mi2 then 0 else 1) u (v * w) := by
  have h0 := n0_of c3
  have h1 : n' = 0 → vl 268435456 u n' = 0 := fun h => by subst h; rfl
  refine ⟨c1, c2, c3, ?_, ?_, ?_⟩
  · by_cases q : n' = 0
    · rw [if_pos q]; decide
    · rw [if_neg q]
      by_cases q2 : mi1 = mi2
      · rw [if_pos q2]; decide
      · rw [if_neg q2]; decide
  · rw [c4, Int.natAbs_mul, a5, b5]
  · by_cases q : n' = 0
    · have e : X * Y = 0 := by rw [← c4]; exact h1 q
      have e2 : v * w = 0 := by
        have : (v * w).natAbs = 0 := by rw [Int.natAbs_mul, a5, b5]; exact e
        omega
      rw [if_pos q, e2]; omega
    · have e : X * Y ≠ 0 := fun h => q (h0 (by rw [c4]; exact h))
      have hX : X ≠ 0 := fun h => e (by rw [h, Nat.zero_mul])
      have hY : Y ≠ 0 := fun h => e (by rw [h, Nat.mul_zero])
      rw [if_neg q]
      have hv : v ≠ 0 := by omega
      have hw : w ≠ 0 := by omega
      rcases two_of a4 with q1 | q1 <;> rcases two_of b4 with q2 | q2
      · rw [if_pos (by omega)]
        have := Int.mul_nonneg (show 0 ≤ v by omega) (show 0 ≤ w by omega)
        omega
      · rw [if_neg (by omega)]
        have := Int.mul_neg_of_pos_of_neg (show 0 < v by omega) (show w < 0 by omega)
        omega
      · rw [if_neg (by omega)]
        have := Int.mul_neg_of_neg_of_pos (show v < 0 by omega) (show 0 < w by omega)
        omega
      · rw [if_pos (by omega)]
        have := Int.mul_pos_of_neg_of_neg (show v < 0 by omega) (show w < 0 by omega)
        omega
theorem flX4_product_15 : Cond.fieldLink RX4 15 "RowReductionModel$Great" "n" "I" ∈ wsX4_product := by decide +kernel
theorem kkX4_product_X4 : ∀ w ∈ wsX40, w ∈ wsX4_product := fun _ h => List.mem_cons_of_mem _ (List.mem_append_right _ h)
theorem flX4_product_19 : Cond.fieldLink RX4 19 "RowReductionModel$Great" "minus" "Z" ∈ wsX4_product := by decide +kernel
theorem flX4_product_9 : Cond.fieldLink RX4 9 "RowReductionModel$Great" "parts" "[I" ∈ wsX4_product := by decide +kernel
theorem c_gProd (l : Launch) (E : px_E) (L : List Nat) (f : Nat → va_E) (g pa g1 pa1 g2 pa2 : Nat) {v w : Int} {n0 mi0 n1 mi1 n2 mi2 : Nat} {x0 x y : Nat → Nat} {vv vv1 vv2 : Int64} (hS : gS E L f g pa n0 mi0 x0 vv) (hA : gS E L f g1 pa1 n1 mi1 x vv1) (hC1 : gC n1 mi1 x v) (hB : gS E L f g2 pa2 n2 mi2 y vv2) (hC2 : gC n2 mi2 y w) (hg1 : g ≠ g1) (hg2 : g ≠ g2) (hp1 : pa ≠ pa1) (hp2 : pa ≠ pa2) (hn : n1 + n2 + 1 ≤ 40) (hmi0 : mi0 < 2) : px_M l yX4_product wsX4_product (px_rm 1 21) E L f [.ref g, .ref g1, .ref g2] (px_v L (fun f' => ∃ n' mi' u, gC n' mi' u (v * w) ∧ f' = va_up (va_up f g (.inr (3, gF pa (nI n') (nI mi') vv))) pa (aI E 40 (iw u)))) := by
  refine px_M.of (cc := cX4_product) (maxL := 9) (ret := none) (lv := [(0, .ref g), (1, .ref g1), (2, .ref g2)]) (by decide) rfl (Nat.le_of_ble_eq_true rfl) rfl ?_
  intro p e s m below meth c A hC hnm
  obtain ⟨Q, hQ⟩ : ∃ Q, Q = MQ below (px_Q E (px_v L (fun f' => ∃ n' mi' u, gC n' mi' u (v * w) ∧ f' = va_up (va_up f g (.inr (3, gF pa (nI n') (nI mi') vv))) pa (aI E 40 (iw u)))) A) [.ref g, .ref g1, .ref g2].toArray s (px_rm 1 21).cells (px_rm 1 21).slots A := ⟨_, rfl⟩
  rw [← hQ]
  have e1 := hS.ne
  have e2 : g1 ≠ pa := hA.1.nk hS.2 rfl
  have e3 : g2 ≠ pa := hB.1.nk hS.2 rfl
  obtain ⟨a1, a2, a3, a4, a5, a6⟩ := id hC1
  obtain ⟨b1, b2, b3, b4, b5, b6⟩ := id hC2
  have lx := vl_lt a2
  have ly := vl_lt b2
  have hSu := fun u : Nat → Nat => hS.1.up (y := aI E 40 (iw u)) e1
  have hAu := fun u : Nat → Nat => hA.1.up (y := aI E 40 (iw u)) e2
  have hBu := fun u : Nat → Nat => hB.1.up (y := aI E 40 (iw u)) e3
  have hAp := fun u : Nat → Nat => hA.2.up (y := aI E 40 (iw u)) (fun h => hp1 h.symm)
  have hBp := fun u : Nat → Nat => hB.2.up (y := aI E 40 (iw u)) (fun h => hp2 h.symm)
  -- the rows' end
  have fin : ∀ u : Nat → Nat, (∀ i, i < 40 → u i < 268435456) → vl 268435456 u 40 = vl 268435456 x n1 * vl 268435456 y n2 → px p l e (px_rm 1 21) s m [.ref g, .ref g1, .ref g2].toArray below meth c 9 E A s.heap L (va_up f pa (aI E 40 (iw u))) 0 0 Q 133 [(0, .ref g), (1, .ref g1), (2, .ref g2), (3, .int (nI n1))] [] := by
    intro u hu hv
    have hlt : vl 268435456 x n1 * vl 268435456 y n2 < 268435456 ^ (n1 + n2 + 1) := by
      have q1 : vl 268435456 x n1 * vl 268435456 y n2 ≤ 268435456 ^ n1 * 268435456 ^ n2 := Nat.mul_le_mul (by omega) (by omega)
      rw [← Nat.pow_add] at q1
      have q2 : 268435456 ^ (n1 + n2) < 268435456 ^ (n1 + n2 + 1) := Nat.pow_lt_pow_right (by decide) (by omega)
      omega
    have hcut := vl_cut (u := u) (k := n1 + n2 + 1) (w := 40) hn (by rw [hv]; exact hlt)
    have tail : ∀ mi' : Nat, mi' = (if mi1 = mi2 then 0 else 1) → px p l e (px_rm 1 21) s m [.ref g, .ref g1, .ref g2].toArray below meth c 9 E A s.heap L (va_up (va_up f g (.inr (3, gF pa (nI n0) (nI mi') vv))) pa (aI E 40 (iw u))) 0 0 Q 153 [(0, .ref g), (1, .ref g1), (2, .ref g2), (3, .int (nI n1))] [] := by
      intro mi' hmi'
      have k1 := (hA.1.up (y := .inr (3, gF pa (nI n0) (nI mi') vv)) (fun h => hg1 h.symm)).up (y := aI E 40 (iw u)) e2
      have k2 := (hB.1.up (y := .inr (3, gF pa (nI n0) (nI mi') vv)) (fun h => hg2 h.symm)).up (y := aI E 40 (iw u)) e3
      have k0 := (hS.1.self (y := .inr (3, gF pa (nI n0) (nI mi') vv))).up (y := aI E 40 (iw u)) e1
      refine px_aload_n hC 0 rfl dX4_product_153 ?_
      refine px_bipush (v := nI 40) hC (by decide) dX4_product_154 ?_
      refine px_aload_n hC 1 rfl dX4_product_156 ?_
      refine px_get (C := RX4) (T := TX4) (N := 4) hC k1 rfl kkX4_product_X4 1 (by decide) flX4_product_15 rfl dX4_product_157 ?_
      refine px_aload_n hC 2 rfl dX4_product_160 ?_
      refine px_get (C := RX4) (T := TX4) (N := 4) hC k2 rfl kkX4_product_X4 1 (by decide) flX4_product_15 rfl dX4_product_161 ?_
      refine px_iadd hC dX4_product_164 ?_
      refine px_iconst (v := nI 1) hC (by decide) dX4_product_165 ?_
      refine px_iadd hC dX4_product_166 ?_
      refine px_ei (y := nI (n1 + n2 + 1)) (by rw [nI_add, nI_add]) ?_
      refine px_mmin hC (by decide +kernel) (by decide +kernel) (by decide +kernel) (by decide +kernel) (by decide) (Nat.le_of_ble_eq_true rfl) (by decide) dX4_product_167 ?_
      refine px_ei (y := nI (n1 + n2 + 1)) (by rw [mn_I (by omega) (by omega), Nat.min_eq_right (by omega)]) ?_
      refine px_callVv (C := RX4) (T := TX4) (N := 4) (st := []) (nn := 1) hC (c_trim l E L _ g pa (n1 + n2 + 1) mi' (nI n0) u vv k0 ((hS.2.up (fun h => e1 h.symm)).self) hn (fun i hi => hu i (by omega))) k0 rfl gX4_product_X4_trim rfl (by decide +kernel) (by decide) (Nat.le_of_ble_eq_true rfl) (by decide) rfl rfl dX4_product_170 (fun f2 h2 => ?_)
      obtain ⟨n', c1, c2, c3, rfl⟩ := h2
      rw [px_uc _ _ _ (fun h => e1 h.symm), px_uu]
      subst hmi'
      subst hQ
      exact px_vret hC rfl (⟨rfl, rfl, n', _, u, pr_sg a4 b4 a5 a6 b5 b6 (by omega) (fun i hi => hu i (by omega)) c3 (by rw [c2, hcut, hv]), rfl⟩) dX4_product_173
    refine px_aload_n hC 0 rfl dX4_product_133 ?_
    refine px_aload_n hC 1 rfl dX4_product_134 ?_
    refine px_get (C := RX4) (T := TX4) (N := 4) hC (hAu u) rfl kkX4_product_X4 2 (by decide) flX4_product_19 rfl dX4_product_135 ?_
    refine px_aload_n hC 2 rfl dX4_product_138 ?_
    refine px_get (C := RX4) (T := TX4) (N := 4) hC (hBu u) rfl kkX4_product_X4 2 (by decide) flX4_product_19 rfl dX4_product_139 ?_
    by_cases hm : mi1 = mi2
    · refine px_icmp_eq hC 149 dX4_product_142 (by decide) (fun _ => ?_) (fun q9 => (q9 (by rw [hm])).elim)
      refine px_iconst (v := nI 0) hC (by decide) dX4_product_149 ?_
      refine px_put (C := RX4) (T := TX4) (N := 4) (fs' := gF pa (nI n0) (nI 0) vv) hC (hSu u) rfl kkX4_product_X4 2 (by decide) tyX4 tyX4_ok nmX4 flX4_product_19 rfl (by decide) (by decide) (Nat.le_of_ble_eq_true rfl) rfl dX4_product_150 ?_
      rw [px_uc _ _ _ (fun h => e1 h.symm)]
      exact tail 0 (by rw [if_pos hm])
    · refine px_icmp_eq hC 149 dX4_product_142 (by decide) (fun q9 => absurd q9 (fun h => hm (nI_inj2 (by omega) (by omega) h))) (fun _ => ?_)
      refine px_iconst (v := nI 1) hC (by decide) dX4_product_145 ?_
      refine px_goto hC 150 dX4_product_146 (by decide) ?_
      refine px_put (C := RX4) (T := TX4) (N := 4) (fs' := gF pa (nI n0) (nI 1) vv) hC (hSu u) rfl kkX4_product_X4 2 (by decide) tyX4 tyX4_ok nmX4 flX4_product_19 rfl (by decide) (by decide) (Nat.le_of_ble_eq_true rfl) rfl dX4_product_150 ?_
      rw [px_uc _ _ _ (fun h => e1 h.symm)]
      exact tail 1 (by rw [if_neg hm])
  have outer : ∀ (d i : Nat) (u : Nat → Nat), i + d = n1 → (∀ i, i < 40 → u i < 268435456) → vl 268435456 u 40 = vl 268435456 x i * vl 268435456 y n2 → px p l e (px_rm 1 21) s m [.ref g, .ref g1, .ref g2].toArray below meth c 9 E A s.heap L (va_up f pa (aI E 40 (iw u))) 0 0 Q 23 [(0, .ref g), (1, .ref g1), (2, .ref g2), (3, .int (nI i))] [] := by
    intro d
    induction d with
    | zero =>
      intro i u hi hu hv
      have ei : i = n1 := by omega
      subst ei
      refine px_iload_n hC 3 rfl dX4_product_23 ?_
      refine px_aload_n hC 1 rfl dX4_product_24 ?_
      refine px_get (C := RX4) (T := TX4) (N := 4) hC (hAu u) rfl kkX4_product_X4 1 (by decide) flX4_product_15 rfl dX4_product_25 ?_
      refine px_icmp_ge hC 133 dX4_product_28 (by decide) (fun _ => ?_) (fun q9 => (q9 (nI_le (Nat.le_refl i) (by omega))).elim)
      exact fin u hu hv
    | succ d ih =>
      intro i u hi hu hv
      have hxi := a2 i (by omega)
      have inner : ∀ (t j ca : Nat) (u : Nat → Nat), j + t = n2 + 1 → ca < 268435456 → (∀ i, i < 40 → u i < 268435456) → vl 268435456 u 40 + ca * 268435456 ^ (i + j) = vl 268435456 x i * vl 268435456 y n2 + x i * (268435456 ^ i * vl 268435456 (pad y n2) j) → px p l e (px_rm 1 21) s m [.ref g, .ref g1, .ref g2].toArray below meth c 9 E A s.heap L (va_up f pa (aI E 40 (iw u))) 0 0 Q 37 [(0, .ref g), (1, .ref g1), (2, .ref g2), (3, .int (nI i)), (4, .long (lN ca)), (6, .int (nI j))] [] := by
        intro t
        have done : ∀ (j : Nat) (u : Nat → Nat), n2 ≤ j → j ≤ n2 + 1 → (∀ i, i < 40 → u i < 268435456) → vl 268435456 u 40 + 0 * 268435456 ^ (i + j) = vl 268435456 x i * vl 268435456 y n2 + x i * (268435456 ^ i * vl 268435456 (pad y n2) j) → px p l e (px_rm 1 21) s m [.ref g, .ref g1, .ref g2].toArray below meth c 9 E A s.heap L (va_up f pa (aI E 40 (iw u))) 0 0 Q 37 [(0, .ref g), (1, .ref g1), (2, .ref g2), (3, .int (nI i)), (4, .long (lN 0)), (6, .int (nI j))] [] := by
          intro j u hj hj2 hu hv
          refine px_iload hC 5 rfl dX4_product_37 ?_
          refine px_aload_n hC 2 rfl dX4_product_39 ?_
          refine px_get (C := RX4) (T := TX4) (N := 4) hC (hBu u) rfl kkX4_product_X4 1 (by decide) flX4_product_15 rfl dX4_product_40 ?_
          refine px_icmp_lt hC 53 dX4_product_43 (by decide) (fun q9 => absurd q9 (nI_nlt hj (by omega))) (fun _ => ?_)
          refine px_lload hC 4 rfl dX4_product_46 ?_
          refine px_lconst (v := lN 0) hC (by decide) dX4_product_48 ?_
          refine px_lcmp hC dX4_product_49 ?_
          refine px_if_le hC 127 dX4_product_50 (by decide) (fun _ => ?_) (fun q9 => (q9 (by decide)).elim)
          refine px_iinc (v := nI (i + 1)) (lv' := [(0, .ref g), (1, .ref g1), (2, .ref g2), (3, .int (nI (i + 1))), (4, .long (lN 0)), (6, .int (nI j))]) hC 3 [1, 2, 3, 0, 4, 5] dX4_product_127 rfl (nI_1 i) (by decide) rfl ?_
          refine px_goto hC 23 dX4_product_130 (by decide) ?_
          refine px_lv (lv2 := [(0, .ref g), (1, .ref g1), (2, .ref g2), (3, .int (nI (i + 1)))]) [0, 1, 2, 3] rfl ?_
          refine ih (i + 1) u (by omega) hu ?_
          rw [Nat.zero_mul, Nat.add_zero, pad_vl hj] at hv
          rw [hv]
          show _ = (vl 268435456 x i + x i * 268435456 ^ i) * vl 268435456 y n2
          grind
        induction t with
        | zero =>
          intro j ca u hj hca hu hv
          have ej : j = n2 + 1 := by omega
          subst ej
          have hca0 : ca = 0 := by
            rcases Nat.eq_zero_or_pos ca with q | q
            · exact q
            · have q1 : 1 * 268435456 ^ (i + (n2 + 1)) ≤ ca * 268435456 ^ (i + (n2 + 1)) := Nat.mul_le_mul_right _ q
              rw [pad_vl (by omega)] at hv
              have q2 : vl 268435456 x i * vl 268435456 y n2 + x i * (268435456 ^ i * vl 268435456 y n2) = (vl 268435456 x i + x i * 268435456 ^ i) * vl 268435456 y n2 := by grind
              have q3 : vl 268435456 x (i + 1) < 268435456 ^ (i + 1) := vl_lt (fun k hk => a2 k (by omega))
              have q4 : vl 268435456 x (i + 1) = vl 268435456 x i + x i * 268435456 ^ i := rfl
              have q5 : (vl 268435456 x i + x i * 268435456 ^ i) * vl 268435456 y n2 ≤ 268435456 ^ (i + 1) * vl 268435456 y n2 := Nat.mul_le_mul_right _ (by omega)
              have q6 : 268435456 ^ (i + 1) * (vl 268435456 y n2 + 1) ≤ 268435456 ^ (i + 1) * 268435456 ^ n2 := Nat.mul_le_mul_left _ (by omega)
              rw [← Nat.pow_add, show i + 1 + n2 = i + (n2 + 1) by omega, Nat.mul_add, Nat.mul_one] at q6
              have q7 : 0 < 268435456 ^ (i + 1) := Nat.pow_pos (by decide)
              omega
          subst hca0
          exact done (n2 + 1) u (by omega) (by omega) hu hv
        | succ t iht =>
          intro j ca u hj hca hu hv
          by_cases hex : n2 ≤ j ∧ ca = 0
          · obtain ⟨h1, rfl⟩ := hex
            exact done j u h1 (by omega) hu hv
          have hyj := pad_lt b2 j
          have huij := hu (i + j) (by omega)
          obtain ⟨v1, v2⟩ := pr_v huij hca hxi hyj
          have step : px p l e (px_rm 1 21) s m [.ref g, .ref g1, .ref g2].toArray below meth c 9 E A s.heap L (va_up f pa (aI E 40 (iw u))) 0 0 Q 95 [(0, .ref g), (1, .ref g1), (2, .ref g2), (3, .int (nI i)), (4, .long (lN ca)), (6, .int (nI j))] [.long (lN (x i * pad y n2 j)), .long (lN (u (i + j) + ca))] := by
            refine px_ladd hC dX4_product_95 ?_
            refine px_el (y := lN (u (i + j) + ca + x i * pad y n2 j)) (lN_add _ _) ?_
            generalize hV : u (i + j) + ca + x i * pad y n2 j = V at v1 v2 ⊢
            refine px_lstore (lv' := [(0, .ref g), (1, .ref g1), (2, .ref g2), (3, .int (nI i)), (4, .long (lN ca)), (6, .int (nI j)), (7, .long (lN (V)))]) hC [1, 2, 3, 4, 5, 6, 0] dX4_product_96 (by decide) rfl ?_
            refine px_aload_n hC 0 rfl dX4_product_98 ?_
            refine px_get (C := RX4) (T := TX4) (N := 4) hC (hSu u) rfl kkX4_product_X4 0 (by decide) flX4_product_9 rfl dX4_product_99 ?_
            refine px_iload_n hC 3 rfl dX4_product_102 ?_
            refine px_iload hC 5 rfl dX4_product_103 ?_
            refine px_iadd hC dX4_product_105 ?_
            refine px_ei (y := nI (i + j)) (nI_add _ _) ?_
            refine px_lload hC 6 rfl dX4_product_106 ?_
            refine px_ldc2 (v := 268435455) hC dX4_product_108 (by decide +kernel) ?_
            refine px_el (y := lN 268435455) (by decide) ?_
            refine px_land hC dX4_product_111 ?_
            refine px_el (y := lN (V % 268435456)) (wb_mask (k := 28) (by omega) (by decide)) ?_
            refine px_l2i hC dX4_product_112 ?_
            refine px_ei (y := nI (V % 268435456)) (lN_i _) ?_
            refine px_iast hC hS.2.self (by omega) (by first | decide | assumption | omega) dX4_product_113 ?_
            rw [px_uu, iw_up]
            refine px_lload hC 6 rfl dX4_product_114 ?_
            refine px_bipush (v := nI 28) hC (by decide) dX4_product_116 ?_
            refine px_lshr hC dX4_product_118 ?_
            refine px_el (y := lN (V / 268435456)) (pf_shr sl28 v1) ?_
            refine px_lstore (lv' := [(0, .ref g), (1, .ref g1), (2, .ref g2), (3, .int (nI i)), (4, .long (lN (V / 268435456))), (6, .int (nI j)), (7, .long (lN (V)))]) hC [1, 2, 3, 4, 0, 5, 6] dX4_product_119 (by decide) rfl ?_
            refine px_iinc (v := nI (j + 1)) (lv' := [(0, .ref g), (1, .ref g1), (2, .ref g2), (3, .int (nI i)), (4, .long (lN (V / 268435456))), (6, .int (nI (j + 1))), (7, .long (lN (V)))]) hC 5 [1, 2, 3, 4, 5, 0, 6] dX4_product_121 rfl (nI_1 j) (by decide) rfl ?_
            refine px_goto hC 37 dX4_product_124 (by decide) ?_
            refine px_lv (lv2 := [(0, .ref g), (1, .ref g1), (2, .ref g2), (3, .int (nI i)), (4, .long (lN (V / 268435456))), (6, .int (nI (j + 1)))]) [0, 1, 2, 3, 4, 5] rfl ?_
            refine iht (j + 1) (V / 268435456) (un u (i + j) (V % 268435456)) (by omega) v2 (fun k hk => ?_) ?_
            · by_cases q : k = i + j
              · subst q; rw [un_s]; exact Nat.mod_lt _ (by decide)
              · rw [un_n _ _ q]; exact hu k hk
            · have hu2 := vl_u (B := 268435456) (x := u) (n := 40) (j := i + j) (z := V % 268435456) (by omega)
              show _ + V / 268435456 * 268435456 ^ (i + (j + 1)) = vl 268435456 x i * vl 268435456 y n2 + x i * (268435456 ^ i * (vl 268435456 (pad y n2) j + pad y n2 j * 268435456 ^ j))
              have hP : 268435456 ^ (i + j) = 268435456 ^ i * 268435456 ^ j := Nat.pow_add _ _ _
              rw [show i + (j + 1) = (i + j) + 1 by omega, Nat.pow_succ, pr_step hv hu2 (by rw [hV]; exact (Nat.div_add_mod V 268435456).symm), hP]
              grind
          have go : px p l e (px_rm 1 21) s m [.ref g, .ref g1, .ref g2].toArray below meth c 9 E A s.heap L (va_up f pa (aI E 40 (iw u))) 0 0 Q 53 [(0, .ref g), (1, .ref g1), (2, .ref g2), (3, .int (nI i)), (4, .long (lN ca)), (6, .int (nI j))] [] := by
            refine px_aload_n hC 0 rfl dX4_product_53 ?_
            refine px_get (C := RX4) (T := TX4) (N := 4) hC (hSu u) rfl kkX4_product_X4 0 (by decide) flX4_product_9 rfl dX4_product_54 ?_
            refine px_iload_n hC 3 rfl dX4_product_57 ?_
            refine px_iload hC 5 rfl dX4_product_58 ?_
            refine px_iadd hC dX4_product_60 ?_
            refine px_ei (y := nI (i + j)) (nI_add _ _) ?_
            refine px_iald hC hS.2.self (by omega) (by first | decide | assumption | omega) dX4_product_61 ?_
            refine px_i2l hC dX4_product_62 ?_
            refine px_el (y := lN (u (i + j))) (nI_l (by omega)) ?_
            refine px_lload hC 4 rfl dX4_product_63 ?_
            refine px_ladd hC dX4_product_65 ?_
            refine px_el (y := lN (u (i + j) + ca)) (lN_add _ _) ?_
            refine px_iload hC 5 rfl dX4_product_66 ?_
            refine px_aload_n hC 2 rfl dX4_product_68 ?_
            refine px_get (C := RX4) (T := TX4) (N := 4) hC (hBu u) rfl kkX4_product_X4 1 (by decide) flX4_product_15 rfl dX4_product_69 ?_
            by_cases hj2 : j < n2
            · refine px_icmp_ge hC 94 dX4_product_72 (by decide) (fun q9 => absurd q9 (nI_ge hj2 (by omega))) (fun _ => ?_)
              refine px_aload_n hC 1 rfl dX4_product_75 ?_
              refine px_get (C := RX4) (T := TX4) (N := 4) hC (hAu u) rfl kkX4_product_X4 0 (by decide) flX4_product_9 rfl dX4_product_76 ?_
              refine px_iload_n hC 3 rfl dX4_product_79 ?_
              refine px_iald hC (hAp u) (by omega) (by first | decide | assumption | omega) dX4_product_80 ?_
              refine px_i2l hC dX4_product_81 ?_
              refine px_el (y := lN (x i)) (nI_l (by omega)) ?_
              refine px_aload_n hC 2 rfl dX4_product_82 ?_
              refine px_get (C := RX4) (T := TX4) (N := 4) hC (hBu u) rfl kkX4_product_X4 0 (by decide) flX4_product_9 rfl dX4_product_83 ?_
              refine px_iload hC 5 rfl dX4_product_86 ?_
              refine px_iald hC (hBp u) (by omega) (by first | decide | assumption | omega) dX4_product_88 ?_
              refine px_i2l hC dX4_product_89 ?_
              refine px_el (y := lN (y j)) (nI_l (by have := b2 j hj2; omega)) ?_
              refine px_lmul hC dX4_product_90 ?_
              refine px_el (y := lN (x i * pad y n2 j)) (by rw [lN_mul, pad_in hj2]) ?_
              refine px_goto hC 95 dX4_product_91 (by decide) ?_
              exact step
            · refine px_icmp_ge hC 94 dX4_product_72 (by decide) (fun _ => ?_) (fun q9 => (q9 (nI_le (by omega) (by omega))).elim)
              refine px_lconst (v := lN 0) hC (by decide) dX4_product_94 ?_
              refine px_el (y := lN (x i * pad y n2 j)) (by rw [pad_out hj2, Nat.mul_zero]) ?_
              exact step
          refine px_iload hC 5 rfl dX4_product_37 ?_
          refine px_aload_n hC 2 rfl dX4_product_39 ?_
          refine px_get (C := RX4) (T := TX4) (N := 4) hC (hBu u) rfl kkX4_product_X4 1 (by decide) flX4_product_15 rfl dX4_product_40 ?_
          by_cases hj2 : j < n2
          · refine px_icmp_lt hC 53 dX4_product_43 (by decide) (fun _ => ?_) (fun q9 => (q9 (nI_lt hj2 (by omega))).elim)
            exact go
          · have hca1 : ca ≠ 0 := fun h => hex ⟨by omega, h⟩
            have hgt : ¬ lg_cmp (lN ca) (lN 0) ≤ 0 := by
              intro q
              have q1 : lN ca > lN 0 := (pk_lLT (by decide) (by omega)).mpr (by omega)
              unfold lg_cmp at q
              rw [if_pos q1] at q
              exact absurd q (by decide)
            refine px_icmp_lt hC 53 dX4_product_43 (by decide) (fun q9 => absurd q9 (nI_nlt (by omega) (by omega))) (fun _ => ?_)
            refine px_lload hC 4 rfl dX4_product_46 ?_
            refine px_lconst (v := lN 0) hC (by decide) dX4_product_48 ?_
            refine px_lcmp hC dX4_product_49 ?_
            refine px_if_le hC 127 dX4_product_50 (by decide) (fun q9 => absurd q9 (hgt)) (fun _ => ?_)
            exact go
      refine px_iload_n hC 3 rfl dX4_product_23 ?_
      refine px_aload_n hC 1 rfl dX4_product_24 ?_
      refine px_get (C := RX4) (T := TX4) (N := 4) hC (hAu u) rfl kkX4_product_X4 1 (by decide) flX4_product_15 rfl dX4_product_25 ?_
      refine px_icmp_ge hC 133 dX4_product_28 (by decide) (fun q9 => absurd q9 (nI_ge (by omega) (by omega))) (fun _ => ?_)
      refine px_lconst (v := lN 0) hC (by decide) dX4_product_31 ?_
      refine px_lstore (lv' := [(0, .ref g), (1, .ref g1), (2, .ref g2), (3, .int (nI i)), (4, .long (lN 0))]) hC [1, 2, 3, 4, 0] dX4_product_32 (by decide) rfl ?_
      refine px_iconst (v := nI 0) hC (by decide) dX4_product_34 ?_
      refine px_istore (lv' := [(0, .ref g), (1, .ref g1), (2, .ref g2), (3, .int (nI i)), (4, .long (lN 0)), (6, .int (nI 0))]) hC [1, 2, 3, 4, 5, 0] dX4_product_35 (by decide) rfl ?_
      exact inner (n2 + 1) 0 0 u (by omega) (by decide) hu (by rw [hv]; simp [vl])
  have zero : ∀ (d k : Nat) (u : Nat → Nat), k + d = 40 → (∀ i, i < k → u i = 0) → px p l e (px_rm 1 21) s m [.ref g, .ref g1, .ref g2].toArray below meth c 9 E A s.heap L (va_up f pa (aI E 40 (iw u))) 0 0 Q 2 [(0, .ref g), (1, .ref g1), (2, .ref g2), (3, .int (nI k))] [] := by
    intro d
    induction d with
    | zero =>
      intro k u hk hu
      have ek : k = 40 := by omega
      subst ek
      refine px_iload_n hC 3 rfl dX4_product_2 ?_
      refine px_bipush (v := nI 40) hC (by decide) dX4_product_3 ?_
      refine px_icmp_ge hC 21 dX4_product_5 (by decide) (fun _ => ?_) (fun q9 => (q9 (by decide)).elim)
      refine px_iconst (v := nI 0) hC (by decide) dX4_product_21 ?_
      refine px_istore_n (lv' := [(0, .ref g), (1, .ref g1), (2, .ref g2), (3, .int (nI 0))]) hC [1, 2, 3, 0] dX4_product_22 (by decide) rfl ?_
      exact outer n1 0 u (by omega) (fun i hi => by rw [hu i hi]; decide) (by rw [vl_c (y := fun _ => 0) hu, vl_0]; simp [vl])
    | succ d ih =>
      intro k u hk hu
      refine px_iload_n hC 3 rfl dX4_product_2 ?_
      refine px_bipush (v := nI 40) hC (by decide) dX4_product_3 ?_
      refine px_icmp_ge hC 21 dX4_product_5 (by decide) (fun q9 => absurd q9 (nI_ge (by omega) (by omega))) (fun _ => ?_)
      refine px_aload_n hC 0 rfl dX4_product_8 ?_
      refine px_get (C := RX4) (T := TX4) (N := 4) hC (hSu u) rfl kkX4_product_X4 0 (by decide) flX4_product_9 rfl dX4_product_9 ?_
      refine px_iload_n hC 3 rfl dX4_product_12 ?_
      refine px_iconst (v := nI 0) hC (by decide) dX4_product_13 ?_
      refine px_iast hC hS.2.self (by omega) (by first | decide | assumption | omega) dX4_product_14 ?_
      rw [px_uu, iw_up]
      refine px_iinc (v := nI (k + 1)) (lv' := [(0, .ref g), (1, .ref g1), (2, .ref g2), (3, .int (nI (k + 1)))]) hC 3 [1, 2, 3, 0] dX4_product_15 rfl (nI_1 k) (by decide) rfl ?_
      refine px_goto hC 2 dX4_product_18 (by decide) ?_
      refine ih (k + 1) _ (by omega) (fun i hi => ?_)
      by_cases q : i = k
      · subst q; rw [un_s]
      · rw [un_n _ _ q]; exact hu i (by omega)
  refine px_iconst (v := nI 0) hC (by decide) dX4_product_0 ?_
  refine px_istore_n (lv' := [(0, .ref g), (1, .ref g1), (2, .ref g2), (3, .int (nI 0))]) hC [1, 2, 3, 0] dX4_product_1 (by decide) rfl ?_
  have h0 := zero 40 0 x0 (by omega) (fun i hi => absurd hi (by omega))
  rw [px_us hS.2.2] at h0
  exact h0
end
section
/-! ===== bits and quotients ===== -/
theorem bt_lo {Z lo hi r : Nat} (hr : r < 28) (hZ : Z = lo + 268435456 * hi) : Z / 2 ^ r % 2 = lo / 2 ^ r % 2 := by
  have e : 2 ^ r * (2 * 2 ^ (27 - r)) = 268435456 := by rw [Nat.mul_comm 2, ← Nat.pow_succ, ← Nat.pow_add, show r + (27 - r).succ = 28 by omega]
  have hp : 0 < 2 ^ r := Nat.pow_pos (by decide)
  rw [hZ, ← e, Nat.mul_assoc, Nat.add_mul_div_left _ _ hp, Nat.mul_assoc, Nat.add_mul_mod_self_left]
theorem bt_vl {x : Nat → Nat} {n b : Nat} (hx : ∀ i, i < n → x i < 268435456) : vl 268435456 x n / 2 ^ b % 2 = (if b / 28 < n then x (b / 28) / 2 ^ (b % 28) % 2 else 0) := by
  have e : 2 ^ b = 268435456 ^ (b / 28) * 2 ^ (b % 28) := by
    rw [show (268435456 : Nat) = 2 ^ 28 from rfl, ← Nat.pow_mul, ← Nat.pow_add]; congr 1; omega
  rw [e, ← Nat.div_div_eq_div_mul]
  by_cases h : b / 28 < n
  · rw [if_pos h, vl_div hx (by omega), show n - b / 28 = (n - b / 28 - 1) + 1 by omega, vl_s1]
    exact bt_lo (hi := vl 268435456 (fun i => x (b / 28 + (1 + i))) (n - b / 28 - 1)) (by omega) rfl
  · have h1 := vl_lt hx
    have h2 : 268435456 ^ n ≤ 268435456 ^ (b / 28) := Nat.pow_le_pow_right (by decide) (by omega)
    rw [if_neg h, Nat.div_eq_of_lt (a := vl 268435456 x n) (b := 268435456 ^ (b / 28)) (by omega), Nat.zero_div]
theorem sm_31 : ∀ n, n < 32 → ((nI n &&& 31).toBitVec.smod 32).toNat = n := by decide +kernel
theorem flX4_isSet_15 : Cond.fieldLink RX4 15 "RowReductionModel$Great" "n" "I" ∈ wsX4_isSet := by decide +kernel
theorem kkX4_isSet_X4 : ∀ w ∈ wsX40, w ∈ wsX4_isSet := fun _ h => List.mem_cons_of_mem _ (List.mem_append_right _ h)
theorem flX4_isSet_9 : Cond.fieldLink RX4 9 "RowReductionModel$Great" "parts" "[I" ∈ wsX4_isSet := by decide +kernel
theorem flX4_twice_15 : Cond.fieldLink RX4 15 "RowReductionModel$Great" "n" "I" ∈ wsX4_twice := by decide +kernel
theorem kkX4_twice_X4 : ∀ w ∈ wsX40, w ∈ wsX4_twice := fun _ h => List.mem_cons_of_mem _ (List.mem_append_right _ h)
theorem flX4_twice_9 : Cond.fieldLink RX4 9 "RowReductionModel$Great" "parts" "[I" ∈ wsX4_twice := by decide +kernel
theorem c_gBit (l : Launch) (E : px_E) (L : List Nat) (f : Nat → va_E) (g pa n mi b : Nat) (x : Nat → Nat) (vv : Int64) (hS : gS E L f g pa n mi x vv) (hn : n ≤ 40) (hx : ∀ i, i < n → x i < 268435456) (hb : b < 2 ^ 30) : px_M l yX4_isSet wsX4_isSet (px_rm 0 0) E L f [.ref g, .int (nI b)] (px_i L (fun z f' => f' = f ∧ z = nI (vl 268435456 x n / 2 ^ b % 2))) := by
  refine px_M.of (cc := cX4_isSet) (maxL := 2) (ret := (some .boolean)) (lv := [(0, .ref g), (1, .int (nI b))]) (by decide) rfl (Nat.le_of_ble_eq_true rfl) rfl ?_
  intro p e s m below meth c A hC hnm
  obtain ⟨Q, hQ⟩ : ∃ Q, Q = MQ below (px_Q E (px_i L (fun z f' => f' = f ∧ z = nI (vl 268435456 x n / 2 ^ b % 2))) A) [.ref g, .int (nI b)].toArray s (px_rm 0 0).cells (px_rm 0 0).slots A := ⟨_, rfl⟩
  rw [← hQ]
  have hbt := bt_vl (b := b) hx
  refine px_iload_n hC 1 rfl dX4_isSet_0 ?_
  refine px_bipush (v := nI 28) hC (by decide) dX4_isSet_1 ?_
  refine px_idiv hC (by decide) dX4_isSet_3 ?_
  refine px_ei (y := nI (b / 28)) (pk_div (by omega) (by decide) (by decide)) ?_
  refine px_aload_n hC 0 rfl dX4_isSet_4 ?_
  refine px_get (C := RX4) (T := TX4) (N := 4) hC hS.1 rfl kkX4_isSet_X4 1 (by decide) flX4_isSet_15 rfl dX4_isSet_5 ?_
  by_cases h : b / 28 < n
  · have hxb := hx _ h
    rw [if_pos h] at hbt
    have hdl : x (b / 28) / 2 ^ (b % 28) ≤ x (b / 28) := Nat.div_le_self _ _
    refine px_icmp_ge hC 35 dX4_isSet_8 (by decide) (fun q9 => absurd q9 (nI_ge h (by omega))) (fun _ => ?_)
    refine px_aload_n hC 0 rfl dX4_isSet_11 ?_
    refine px_get (C := RX4) (T := TX4) (N := 4) hC hS.1 rfl kkX4_isSet_X4 0 (by decide) flX4_isSet_9 rfl dX4_isSet_12 ?_
    refine px_iload_n hC 1 rfl dX4_isSet_15 ?_
    refine px_bipush (v := nI 28) hC (by decide) dX4_isSet_16 ?_
    refine px_idiv hC (by decide) dX4_isSet_18 ?_
    refine px_ei (y := nI (b / 28)) (pk_div (by omega) (by decide) (by decide)) ?_
    refine px_iald hC hS.2 (by omega) (by first | decide | assumption | omega) dX4_isSet_19 ?_
    refine px_iload_n hC 1 rfl dX4_isSet_20 ?_
    refine px_bipush (v := nI 28) hC (by decide) dX4_isSet_21 ?_
    refine px_irem hC (by decide) dX4_isSet_23 ?_
    refine px_ei (y := nI (b % 28)) (pk_rem (by omega) (by decide) (by decide)) ?_
    refine px_ishr hC dX4_isSet_24 ?_
    refine px_ei (y := nI (x (b / 28) / 2 ^ (b % 28))) (pk_shrN (n := x (b / 28)) (by omega) _ (b % 28) (sm_31 _ (by omega))) ?_
    refine px_iconst (v := nI 1) hC (by decide) dX4_isSet_25 ?_
    refine px_iand hC dX4_isSet_26 ?_
    refine px_ei (y := nI (x (b / 28) / 2 ^ (b % 28) % 2)) (pk_andN (by omega) 1 (by decide)) ?_
    refine px_iconst (v := nI 1) hC (by decide) dX4_isSet_27 ?_
    by_cases h2 : x (b / 28) / 2 ^ (b % 28) % 2 = 1
    · refine px_icmp_ne hC 35 dX4_isSet_28 (by decide) (fun q9 => (q9 (by rw [h2])).elim) (fun _ => ?_)
      refine px_iconst (v := nI 1) hC (by decide) dX4_isSet_31 ?_
      refine px_goto hC 36 dX4_isSet_32 (by decide) ?_
      subst hQ
      exact px_zret hC rfl (by decide) (⟨_, rfl, rfl, rfl, by rw [hbt, h2]⟩) dX4_isSet_36
    · refine px_icmp_ne hC 35 dX4_isSet_28 (by decide) (fun _ => ?_) (fun q9 => absurd q9 (fun q => h2 (nI_inj2 (by omega) (by decide) q)))
      refine px_iconst (v := nI 0) hC (by decide) dX4_isSet_35 ?_
      subst hQ
      exact px_zret hC rfl (by decide) (⟨_, rfl, rfl, rfl, by rw [hbt]; exact congrArg nI (by omega)⟩) dX4_isSet_36
  · rw [if_neg h] at hbt
    refine px_icmp_ge hC 35 dX4_isSet_8 (by decide) (fun _ => ?_) (fun q9 => (q9 (nI_le (by omega) (by omega))).elim)
    refine px_iconst (v := nI 0) hC (by decide) dX4_isSet_35 ?_
    subst hQ
    exact px_zret hC rfl (by decide) (⟨_, rfl, rfl, rfl, by rw [hbt]⟩) dX4_isSet_36
theorem tw_step {U ca ca' P u a2 X b0 : Nat} (h0 : U + ca * P = 2 * X + b0) (hv : 2 * u + ca = 268435456 * ca' + a2) : (U + a2 * P) + ca' * (P * 268435456) = 2 * (X + u * P) + b0 := by
  have e : (2 * u + ca) * P = (268435456 * ca' + a2) * P := by rw [hv]
  grind
theorem sh_or {a c : Nat} (hc : c < 2) : a * 2 ||| c = 2 * a + c := by
  have h := Nat.shiftLeft_add_eq_or_of_lt (i := 1) (b := c) (by omega) a
  rw [Nat.shiftLeft_eq, Nat.pow_one] at h
  omega
theorem c_gTwice (l : Launch) (E : px_E) (L : List Nat) (f : Nat → va_E) (g pa n mi b : Nat) (x : Nat → Nat) (vv : Int64) (hS : gS E L f g pa n mi x vv) (hn : n ≤ 39) (hx : ∀ i, i < n → x i < 268435456) (ht : n ≠ 0 → x (n - 1) ≠ 0) (hb : b < 2) : px_M l yX4_twice wsX4_twice (px_rm 0 0) E L f [.ref g, .int (nI b)] (px_v L (fun f' => ∃ n' u, n' ≤ 40 ∧ (∀ i, i < n' → u i < 268435456) ∧ (n' ≠ 0 → u (n' - 1) ≠ 0) ∧ vl 268435456 u n' = 2 * vl 268435456 x n + b ∧ f' = va_up (va_up f g (.inr (3, gF pa (nI n') (nI mi) vv))) pa (aI E 40 (iw u)))) := by
  refine px_M.of (cc := cX4_twice) (maxL := 5) (ret := none) (lv := [(0, .ref g), (1, .int (nI b))]) (by decide) rfl (Nat.le_of_ble_eq_true rfl) rfl ?_
  intro p e s m below meth c A hC hnm
  obtain ⟨Q, hQ⟩ : ∃ Q, Q = MQ below (px_Q E (px_v L (fun f' => ∃ n' u, n' ≤ 40 ∧ (∀ i, i < n' → u i < 268435456) ∧ (n' ≠ 0 → u (n' - 1) ≠ 0) ∧ vl 268435456 u n' = 2 * vl 268435456 x n + b ∧ f' = va_up (va_up f g (.inr (3, gF pa (nI n') (nI mi) vv))) pa (aI E 40 (iw u)))) A) [.ref g, .int (nI b)].toArray s (px_rm 0 0).cells (px_rm 0 0).slots A := ⟨_, rfl⟩
  rw [← hQ]
  have n1 := hS.ne
  have hSu := fun u : Nat → Nat => hS.1.up (y := aI E 40 (iw u)) n1
  have loop : ∀ (d k ca : Nat) (u : Nat → Nat), k + d = n → ca < 2 → (∀ i, i < k → u i < 268435456) → (∀ i, k ≤ i → u i = x i) → (ca = 0 → k ≠ 0 → k = n → u (k - 1) ≠ 0) → vl 268435456 u k + ca * 268435456 ^ k = 2 * vl 268435456 x k + b → px p l e (px_rm 0 0) s m [.ref g, .int (nI b)].toArray below meth c 5 E A s.heap L (va_up f pa (aI E 40 (iw u))) 0 0 Q 12 [(0, .ref g), (1, .int (nI b)), (2, .int (nI ca)), (3, .int (nI k))] [] := by
    intro d
    induction d with
    | zero =>
      intro k ca u hk hca hu hux htop hv
      have ek : k = n := by omega
      subst ek
      refine px_iload_n hC 3 rfl dX4_twice_12 ?_
      refine px_aload_n hC 0 rfl dX4_twice_13 ?_
      refine px_get (C := RX4) (T := TX4) (N := 4) hC (hSu u) rfl kkX4_twice_X4 1 (by decide) flX4_twice_15 rfl dX4_twice_14 ?_
      refine px_icmp_ge hC 55 dX4_twice_17 (by decide) (fun _ => ?_) (fun q9 => (q9 (nI_le (Nat.le_refl k) (by omega))).elim)
      refine px_iload_n hC 2 rfl dX4_twice_55 ?_
      rcases two_of hca with q | q
      · subst q
        refine px_if_le hC 79 dX4_twice_56 (by decide) (fun _ => ?_) (fun q9 => (q9 (by decide)).elim)
        rw [show va_up f pa (aI E 40 (iw u)) = va_up (va_up f g (.inr (3, gF pa (nI k) (nI mi) vv))) pa (aI E 40 (iw u)) from by rw [px_us hS.1.2]]
        subst hQ
        exact px_vret hC rfl (⟨rfl, rfl, k, u, by omega, hu, fun h => htop rfl h rfl, by rw [Nat.zero_mul, Nat.add_zero] at hv; exact hv, rfl⟩) dX4_twice_79
      · subst q
        refine px_if_le hC 79 dX4_twice_56 (by decide) (fun q9 => absurd q9 (by decide)) (fun _ => ?_)
        refine px_aload_n hC 0 rfl dX4_twice_59 ?_
        refine px_get (C := RX4) (T := TX4) (N := 4) hC (hSu u) rfl kkX4_twice_X4 0 (by decide) flX4_twice_9 rfl dX4_twice_60 ?_
        refine px_aload_n hC 0 rfl dX4_twice_63 ?_
        refine px_get (C := RX4) (T := TX4) (N := 4) hC (hSu u) rfl kkX4_twice_X4 1 (by decide) flX4_twice_15 rfl dX4_twice_64 ?_
        refine px_iload_n hC 2 rfl dX4_twice_67 ?_
        refine px_iast hC hS.2.self (by omega) (by first | decide | assumption | omega) dX4_twice_68 ?_
        rw [px_uu, iw_up]
        refine px_aload_n hC 0 rfl dX4_twice_69 ?_
        refine px_dup hC rfl dX4_twice_70 ?_
        refine px_get (C := RX4) (T := TX4) (N := 4) hC (hSu (un u k 1)) rfl kkX4_twice_X4 1 (by decide) flX4_twice_15 rfl dX4_twice_71 ?_
        refine px_iconst (v := nI 1) hC (by decide) dX4_twice_74 ?_
        refine px_iadd hC dX4_twice_75 ?_
        refine px_ei (y := nI (k + 1)) (nI_add _ _) ?_
        refine px_put (C := RX4) (T := TX4) (N := 4) (fs' := gF pa (nI (k + 1)) (nI mi) vv) hC (hSu (un u k 1)) rfl kkX4_twice_X4 1 (by decide) tyX4 tyX4_ok nmX4 flX4_twice_15 rfl rfl rfl (Nat.le_of_ble_eq_true rfl) rfl dX4_twice_76 ?_
        rw [px_uc _ _ _ (fun h => n1 h.symm)]
        subst hQ
        exact px_vret hC rfl (⟨rfl, rfl, k + 1, un u k 1, by omega, fun i hi => by by_cases q2 : i = k; (subst q2; rw [un_s]; decide); (rw [un_n _ _ q2]; exact hu i (by omega)), fun _ => by rw [show k + 1 - 1 = k by omega, un_s]; decide, by show vl 268435456 (un u k 1) k + un u k 1 k * 268435456 ^ k = _; rw [vl_ug (Nat.le_refl k), un_s]; exact hv, rfl⟩) dX4_twice_79
    | succ d ih =>
      intro k ca u hk hca hu hux htop hv
      have hxk := hx k (by omega)
      refine px_iload_n hC 3 rfl dX4_twice_12 ?_
      refine px_aload_n hC 0 rfl dX4_twice_13 ?_
      refine px_get (C := RX4) (T := TX4) (N := 4) hC (hSu u) rfl kkX4_twice_X4 1 (by decide) flX4_twice_15 rfl dX4_twice_14 ?_
      refine px_icmp_ge hC 55 dX4_twice_17 (by decide) (fun q9 => absurd q9 (nI_ge (by omega) (by omega))) (fun _ => ?_)
      refine px_aload_n hC 0 rfl dX4_twice_20 ?_
      refine px_get (C := RX4) (T := TX4) (N := 4) hC (hSu u) rfl kkX4_twice_X4 0 (by decide) flX4_twice_9 rfl dX4_twice_21 ?_
      refine px_iload_n hC 3 rfl dX4_twice_24 ?_
      refine px_iald hC hS.2.self (by omega) (by first | decide | assumption | omega) dX4_twice_25 ?_
      refine px_ei (y := nI (x k)) (by rw [← hux k (Nat.le_refl k)]; rfl) ?_
      refine px_iconst (v := nI 1) hC (by decide) dX4_twice_26 ?_
      refine px_ishl hC dX4_twice_27 ?_
      refine px_ei (y := nI (x k * 2)) (pk_shlN (n := x k) _ 1 (sm_31 1 (by decide)) (by omega)) ?_
      refine px_iload_n hC 2 rfl dX4_twice_28 ?_
      refine px_ior hC dX4_twice_29 ?_
      refine px_ei (y := nI (2 * x k + ca)) (by rw [nI_or (by omega) (by omega), sh_or hca]) ?_
      generalize hV : 2 * x k + ca = V
      refine px_istore (lv' := [(0, .ref g), (1, .int (nI b)), (2, .int (nI ca)), (3, .int (nI k)), (4, .int (nI (V)))]) hC [1, 2, 3, 4, 0] dX4_twice_30 (by decide) rfl ?_
      refine px_aload_n hC 0 rfl dX4_twice_32 ?_
      refine px_get (C := RX4) (T := TX4) (N := 4) hC (hSu u) rfl kkX4_twice_X4 0 (by decide) flX4_twice_9 rfl dX4_twice_33 ?_
      refine px_iload_n hC 3 rfl dX4_twice_36 ?_
      refine px_iload hC 4 rfl dX4_twice_37 ?_
      refine px_ldc (v := 268435455) hC dX4_twice_39 (by decide +kernel) ?_
      refine px_ei (y := nI 268435455) (by decide) ?_
      refine px_iand hC dX4_twice_41 ?_
      refine px_ei (y := nI (V % 268435456)) (pk_andN (by omega) 28 (by decide)) ?_
      refine px_iast hC hS.2.self (by omega) (by first | decide | assumption | omega) dX4_twice_42 ?_
      rw [px_uu, iw_up]
      refine px_iload hC 4 rfl dX4_twice_43 ?_
      refine px_bipush (v := nI 28) hC (by decide) dX4_twice_45 ?_
      refine px_ishr hC dX4_twice_47 ?_
      refine px_ei (y := nI (V / 268435456)) (pk_shrN (by omega) _ 28 s28) ?_
      refine px_istore_n (lv' := [(0, .ref g), (1, .int (nI b)), (2, .int (nI (V / 268435456))), (3, .int (nI k)), (4, .int (nI (V)))]) hC [1, 2, 0, 3, 4] dX4_twice_48 (by decide) rfl ?_
      refine px_iinc (v := nI (k + 1)) (lv' := [(0, .ref g), (1, .int (nI b)), (2, .int (nI (V / 268435456))), (3, .int (nI (k + 1))), (4, .int (nI (V)))]) hC 3 [1, 2, 3, 0, 4] dX4_twice_49 rfl (nI_1 k) (by decide) rfl ?_
      refine px_goto hC 12 dX4_twice_52 (by decide) ?_
      refine px_lv (lv2 := [(0, .ref g), (1, .int (nI b)), (2, .int (nI (V / 268435456))), (3, .int (nI (k + 1)))]) [0, 1, 2, 3] rfl ?_
      refine ih (k + 1) (V / 268435456) (un u k (V % 268435456)) (by omega) (by omega) (fun i hi => ?_) (fun i hi => ?_) (fun h5 _ h6 => ?_) ?_
      · by_cases q : i = k
        · subst q; rw [un_s]; exact Nat.mod_lt _ (by decide)
        · rw [un_n _ _ q]; exact hu i (by omega)
      · rw [un_n _ _ (by omega)]; exact hux i (by omega)
      · have hk0 : x k ≠ 0 := by have := ht (by omega); rw [show n - 1 = k by omega] at this; exact this
        rw [show k + 1 - 1 = k by omega, un_s]
        omega
      · show vl 268435456 (un u k (V % 268435456)) k + un u k (V % 268435456) k * 268435456 ^ k + V / 268435456 * 268435456 ^ (k + 1) = 2 * (vl 268435456 x k + x k * 268435456 ^ k) + b
        rw [vl_ug (Nat.le_refl k), un_s, Nat.pow_succ]
        exact tw_step hv (by rw [hV]; exact (Nat.div_add_mod V 268435456).symm)
  have start : px p l e (px_rm 0 0) s m [.ref g, .int (nI b)].toArray below meth c 5 E A s.heap L (f) 0 0 Q 9 [(0, .ref g), (1, .int (nI b))] [.int (nI b)] := by
    refine px_istore_n (lv' := [(0, .ref g), (1, .int (nI b)), (2, .int (nI b))]) hC [1, 2, 0] dX4_twice_9 (by decide) rfl ?_
    refine px_iconst (v := nI 0) hC (by decide) dX4_twice_10 ?_
    refine px_istore_n (lv' := [(0, .ref g), (1, .int (nI b)), (2, .int (nI b)), (3, .int (nI 0))]) hC [1, 2, 3, 0] dX4_twice_11 (by decide) rfl ?_
    have h0 := loop n 0 b x (by omega) hb (fun i hi => absurd hi (by omega)) (fun i _ => rfl) (fun _ h => absurd rfl h) (by simp [vl])
    rw [px_us hS.2.2] at h0
    exact h0
  refine px_iload_n hC 1 rfl dX4_twice_0 ?_
  rcases two_of hb with q | q
  · subst q
    refine px_if_eq hC 8 dX4_twice_1 (by decide) (fun _ => ?_) (fun q9 => (q9 (rfl)).elim)
    refine px_iconst (v := nI 0) hC (by decide) dX4_twice_8 ?_
    exact start
  · subst q
    refine px_if_eq hC 8 dX4_twice_1 (by decide) (fun q9 => absurd q9 (by decide)) (fun _ => ?_)
    refine px_iconst (v := nI 1) hC (by decide) dX4_twice_4 ?_
    refine px_goto hC 9 dX4_twice_5 (by decide) ?_
    exact start
end
