-- ===== PART A: goes FIRST, ahead of the names: the tables' words, and 'selects' of the private methods out of them =====
/-- a private method of a class that the tables say can be made, by its rows of tables_1 -/
def lw_okq (q : MethodName × Nat) : Prop := (q.1.cls ≠ "java/lang/invoke/MethodHandle" ∧ q.1.cls ≠ "java/lang/invoke/VarHandle") ∧ Cond.instantiable q.1.cls q.2 ∈ tables_1 ∧ Cond.privateMethod q.1 ∈ tables_1 ∧ Cond.instanceMethod q.1 ∈ tables_1
theorem lw_p0 : lw_okq (⟨"ExactFloats", "refusalOf", "(IIII)I"⟩, 3) := ⟨⟨by decide +kernel, by decide +kernel⟩, List.mem_of_getElem? (i := 6) (by decide +kernel), List.mem_of_getElem? (i := 44) (by decide +kernel), List.mem_of_getElem? (i := 45) (by decide +kernel)⟩
theorem lw_p1 : lw_okq (⟨"ExactFloats", "isReserved", "(I)Z"⟩, 3) := ⟨⟨by decide +kernel, by decide +kernel⟩, List.mem_of_getElem? (i := 6) (by decide +kernel), List.mem_of_getElem? (i := 51) (by decide +kernel), List.mem_of_getElem? (i := 52) (by decide +kernel)⟩
theorem lw_p2 : lw_okq (⟨"ExactFloats", "valueIn", "(II)J"⟩, 3) := ⟨⟨by decide +kernel, by decide +kernel⟩, List.mem_of_getElem? (i := 6) (by decide +kernel), List.mem_of_getElem? (i := 57) (by decide +kernel), List.mem_of_getElem? (i := 58) (by decide +kernel)⟩
theorem lw_p3 : lw_okq (⟨"ExactFloats", "storeSum", "(IIJJ)I"⟩, 3) := ⟨⟨by decide +kernel, by decide +kernel⟩, List.mem_of_getElem? (i := 6) (by decide +kernel), List.mem_of_getElem? (i := 65) (by decide +kernel), List.mem_of_getElem? (i := 66) (by decide +kernel)⟩
theorem lw_p4 : lw_okq (⟨"ExactFloats", "storeValue", "(IIJ)I"⟩, 3) := ⟨⟨by decide +kernel, by decide +kernel⟩, List.mem_of_getElem? (i := 6) (by decide +kernel), List.mem_of_getElem? (i := 69) (by decide +kernel), List.mem_of_getElem? (i := 70) (by decide +kernel)⟩
theorem lw_p5 : lw_okq (⟨"ExactFloats", "storeZero", "(IZ)I"⟩, 3) := ⟨⟨by decide +kernel, by decide +kernel⟩, List.mem_of_getElem? (i := 6) (by decide +kernel), List.mem_of_getElem? (i := 73) (by decide +kernel), List.mem_of_getElem? (i := 74) (by decide +kernel)⟩
theorem lw_p6 : lw_okq (⟨"ExactFloats", "storeRounded", "(IIZIJ)I"⟩, 3) := ⟨⟨by decide +kernel, by decide +kernel⟩, List.mem_of_getElem? (i := 6) (by decide +kernel), List.mem_of_getElem? (i := 88) (by decide +kernel), List.mem_of_getElem? (i := 89) (by decide +kernel)⟩
theorem lw_p7 : lw_okq (⟨"ExactFloats", "storeProduct", "(IIJJ)I"⟩, 3) := ⟨⟨by decide +kernel, by decide +kernel⟩, List.mem_of_getElem? (i := 6) (by decide +kernel), List.mem_of_getElem? (i := 108) (by decide +kernel), List.mem_of_getElem? (i := 109) (by decide +kernel)⟩
theorem lw_p8 : lw_okq (⟨"ExactFloats", "storeQuotient", "(IIJJ)I"⟩, 3) := ⟨⟨by decide +kernel, by decide +kernel⟩, List.mem_of_getElem? (i := 6) (by decide +kernel), List.mem_of_getElem? (i := 121) (by decide +kernel), List.mem_of_getElem? (i := 122) (by decide +kernel)⟩
theorem lw_p9 : lw_okq (⟨"ExactFloatsModel", "two", "(IIII)I"⟩, 8) := ⟨⟨by decide +kernel, by decide +kernel⟩, List.mem_of_getElem? (i := 164) (by decide +kernel), List.mem_of_getElem? (i := 211) (by decide +kernel), List.mem_of_getElem? (i := 212) (by decide +kernel)⟩
theorem lw_p10 : lw_okq (⟨"ExactFloatsModel", "in", "(II)J"⟩, 8) := ⟨⟨by decide +kernel, by decide +kernel⟩, List.mem_of_getElem? (i := 164) (by decide +kernel), List.mem_of_getElem? (i := 221) (by decide +kernel), List.mem_of_getElem? (i := 222) (by decide +kernel)⟩
theorem lw_p11 : lw_okq (⟨"ExactFloatsModel", "added", "(IJJ)J"⟩, 8) := ⟨⟨by decide +kernel, by decide +kernel⟩, List.mem_of_getElem? (i := 164) (by decide +kernel), List.mem_of_getElem? (i := 231) (by decide +kernel), List.mem_of_getElem? (i := 232) (by decide +kernel)⟩
theorem lw_p12 : lw_okq (⟨"ExactFloatsModel", "take", "(IJ)V"⟩, 8) := ⟨⟨by decide +kernel, by decide +kernel⟩, List.mem_of_getElem? (i := 164) (by decide +kernel), List.mem_of_getElem? (i := 242) (by decide +kernel), List.mem_of_getElem? (i := 243) (by decide +kernel)⟩
theorem lw_p13 : lw_okq (⟨"ExactFloatsModel", "rounds", "(IZJIZ)J"⟩, 8) := ⟨⟨by decide +kernel, by decide +kernel⟩, List.mem_of_getElem? (i := 164) (by decide +kernel), List.mem_of_getElem? (i := 253) (by decide +kernel), List.mem_of_getElem? (i := 254) (by decide +kernel)⟩
theorem lw_p14 : lw_okq (⟨"ExactFloatsModel", "gives", "(JI)I"⟩, 8) := ⟨⟨by decide +kernel, by decide +kernel⟩, List.mem_of_getElem? (i := 164) (by decide +kernel), List.mem_of_getElem? (i := 258) (by decide +kernel), List.mem_of_getElem? (i := 259) (by decide +kernel)⟩
theorem lw_p15 : lw_okq (⟨"ExactFloatsModel", "one", "(III)I"⟩, 8) := ⟨⟨by decide +kernel, by decide +kernel⟩, List.mem_of_getElem? (i := 164) (by decide +kernel), List.mem_of_getElem? (i := 286) (by decide +kernel), List.mem_of_getElem? (i := 287) (by decide +kernel)⟩
def lw_privs_1 : List (MethodName × Nat) := [(⟨"ExactFloats", "refusalOf", "(IIII)I"⟩, 3), (⟨"ExactFloats", "isReserved", "(I)Z"⟩, 3), (⟨"ExactFloats", "valueIn", "(II)J"⟩, 3), (⟨"ExactFloats", "storeSum", "(IIJJ)I"⟩, 3), (⟨"ExactFloats", "storeValue", "(IIJ)I"⟩, 3), (⟨"ExactFloats", "storeZero", "(IZ)I"⟩, 3), (⟨"ExactFloats", "storeRounded", "(IIZIJ)I"⟩, 3), (⟨"ExactFloats", "storeProduct", "(IIJJ)I"⟩, 3), (⟨"ExactFloats", "storeQuotient", "(IIJJ)I"⟩, 3), (⟨"ExactFloatsModel", "two", "(IIII)I"⟩, 8), (⟨"ExactFloatsModel", "in", "(II)J"⟩, 8), (⟨"ExactFloatsModel", "added", "(IJJ)J"⟩, 8), (⟨"ExactFloatsModel", "take", "(IJ)V"⟩, 8), (⟨"ExactFloatsModel", "rounds", "(IZJIZ)J"⟩, 8), (⟨"ExactFloatsModel", "gives", "(JI)I"⟩, 8), (⟨"ExactFloatsModel", "one", "(III)I"⟩, 8)]
theorem lw_r1 : ∀ q ∈ lw_privs_1, lw_okq q := List.forall_mem_cons.mpr ⟨lw_p0, List.forall_mem_cons.mpr ⟨lw_p1, List.forall_mem_cons.mpr ⟨lw_p2, List.forall_mem_cons.mpr ⟨lw_p3, List.forall_mem_cons.mpr ⟨lw_p4, List.forall_mem_cons.mpr ⟨lw_p5, List.forall_mem_cons.mpr ⟨lw_p6, List.forall_mem_cons.mpr ⟨lw_p7, List.forall_mem_cons.mpr ⟨lw_p8, List.forall_mem_cons.mpr ⟨lw_p9, List.forall_mem_cons.mpr ⟨lw_p10, List.forall_mem_cons.mpr ⟨lw_p11, List.forall_mem_cons.mpr ⟨lw_p12, List.forall_mem_cons.mpr ⟨lw_p13, List.forall_mem_cons.mpr ⟨lw_p14, List.forall_mem_cons.mpr ⟨lw_p15, fun _ h => absurd h List.not_mem_nil⟩⟩⟩⟩⟩⟩⟩⟩⟩⟩⟩⟩⟩⟩⟩⟩
def lw_privs : List (MethodName × Nat) := lw_privs_1
def lw_tbl : List Cond := k2_sels lw_privs ++ tables_1
theorem lw_privs_ok : ∀ q ∈ lw_privs, lw_okq q := lw_r1

/-! ===== BEGIN words of one list among another's, by their places ===== -/
theorem goodIn_r {big : List Cond} (ws : List Cond) (ps : List Nat) (hp : ws = ps.filterMap (fun i => big[i]?)) (h : ws.all goodWord = true) : GoodIn big ws := by
  intro w hw
  have h1 := List.all_eq_true.mp h w hw
  rw [hp] at hw
  obtain ⟨i, -, hi⟩ := List.mem_filterMap.mp hw
  have hm : w ∈ big := by first | exact List.mem_of_getElem? hi | exact List.getElem?_mem hi
  exact ⟨hm, good_of_word h1⟩
theorem goodIn_app {big a b : List Cond} (ha : GoodIn big a) (hb : GoodIn big b) : GoodIn big (a ++ b) := fun w h => (List.mem_append.mp h).elim (ha w) (hb w)
theorem goodIn_ca {big a b : List Cond} {c : Cond} (ha : GoodIn big (c :: a)) (hb : GoodIn big b) : GoodIn big (c :: (a ++ b)) := fun w h => (List.mem_cons.mp h).elim (fun e => ha w (List.mem_cons.mpr (Or.inl e))) (fun h => (List.mem_append.mp h).elim (fun h => ha w (List.mem_cons.mpr (Or.inr h))) (hb w))
theorem goodIn_sub {big ws : List Cond} (hm : ∀ w ∈ ws, w ∈ big) (h : ws.all goodWord = true) : GoodIn big ws := fun w hw => ⟨hm w hw, good_of_word (List.all_eq_true.mp h w hw)⟩
/-! ===== END ===== -/

/-! ===== BEGIN printed: names, fields, word lists, decode rows ===== -/
def RX0 : String := "ExactFloats"
def TX0 : u_T := fun k => match k with
  | 0 => ("ExactFloats", "registers", "[J", true)
  | 1 => ("ExactFloats", "underflowAsked", "Z", false)
  | _ => ("ExactFloats", "lastWasInexact", "Z", false)
def tyX0 : Nat → FieldType := fun k => match k with
  | 0 => .array .long
  | 1 => .boolean
  | _ => .boolean
abbrev wsX00 : List Cond := u_ws RX0 TX0 3
theorem nmX0 : ∀ a, a < 3 → ∀ b, b < 3 → a ≠ b → (TX0 a).2.1 ≠ (TX0 b).2.1 := by decide +kernel
theorem tyX0_ok : ∀ k, k < 3 → parseFieldDescriptor (TX0 k).2.2.1 = some (tyX0 k) := by decide +kernel
abbrev cX0_init : ByteArray := prog_1_method_1_code
def yX0_init : MethodName := ⟨RX0, "<init>", "()V"⟩
abbrev cX0_set : ByteArray := prog_1_method_2_code
def yX0_set : MethodName := ⟨RX0, "set", "(IJ)Z"⟩
abbrev cX0_get : ByteArray := prog_1_method_3_code
def yX0_get : MethodName := ⟨RX0, "get", "(I)J"⟩
abbrev cX0_under : ByteArray := prog_1_method_4_code
def yX0_under : MethodName := ⟨RX0, "under", "(Z)V"⟩
abbrev cX0_sum : ByteArray := prog_1_method_5_code
def yX0_sum : MethodName := ⟨RX0, "sum", "(IIII)I"⟩
abbrev cX0_less : ByteArray := prog_1_method_6_code
def yX0_less : MethodName := ⟨RX0, "less", "(IIII)I"⟩
abbrev cX0_product : ByteArray := prog_1_method_7_code
def yX0_product : MethodName := ⟨RX0, "product", "(IIII)I"⟩
abbrev cX0_quotient : ByteArray := prog_1_method_8_code
def yX0_quotient : MethodName := ⟨RX0, "quotient", "(IIII)I"⟩
abbrev cX0_negative : ByteArray := prog_1_method_9_code
def yX0_negative : MethodName := ⟨RX0, "negative", "(III)I"⟩
abbrev cX0_compare : ByteArray := prog_1_method_10_code
def yX0_compare : MethodName := ⟨RX0, "compare", "(III)I"⟩
abbrev cX0_change : ByteArray := prog_1_method_11_code
def yX0_change : MethodName := ⟨RX0, "change", "(III)I"⟩
abbrev cX0_whole : ByteArray := prog_1_method_12_code
def yX0_whole : MethodName := ⟨RX0, "whole", "(IIIZI)I"⟩
abbrev cX0_number : ByteArray := prog_1_method_13_code
def yX0_number : MethodName := ⟨RX0, "number", "(III)I"⟩
abbrev cX0_lost : ByteArray := prog_1_method_14_code
def yX0_lost : MethodName := ⟨RX0, "lost", "()Z"⟩
abbrev cX0_isRegister : ByteArray := prog_1_method_15_code
def yX0_isRegister : MethodName := ⟨RX0, "isRegister", "(I)Z"⟩
abbrev cX0_isSize : ByteArray := prog_1_method_16_code
def yX0_isSize : MethodName := ⟨RX0, "isSize", "(I)Z"⟩
abbrev cX0_isReserved : ByteArray := prog_1_method_17_code
def yX0_isReserved : MethodName := ⟨RX0, "isReserved", "(I)Z"⟩
abbrev cX0_refusalOf : ByteArray := prog_1_method_18_code
def yX0_refusalOf : MethodName := ⟨RX0, "refusalOf", "(IIII)I"⟩
abbrev cX0_flagsOf : ByteArray := prog_1_method_19_code
def yX0_flagsOf : MethodName := ⟨RX0, "flagsOf", "(J)I"⟩
abbrev cX0_valueIn : ByteArray := prog_1_method_20_code
def yX0_valueIn : MethodName := ⟨RX0, "valueIn", "(II)J"⟩
abbrev cX0_bitsOf : ByteArray := prog_1_method_21_code
def yX0_bitsOf : MethodName := ⟨RX0, "bitsOf", "(ZIJ)J"⟩
abbrev cX0_exponentOf : ByteArray := prog_1_method_22_code
def yX0_exponentOf : MethodName := ⟨RX0, "exponentOf", "(J)I"⟩
abbrev cX0_significandOf : ByteArray := prog_1_method_23_code
def yX0_significandOf : MethodName := ⟨RX0, "significandOf", "(J)J"⟩
abbrev cX0_storeZero : ByteArray := prog_1_method_24_code
def yX0_storeZero : MethodName := ⟨RX0, "storeZero", "(IZ)I"⟩
abbrev cX0_storeValue : ByteArray := prog_1_method_25_code
def yX0_storeValue : MethodName := ⟨RX0, "storeValue", "(IIJ)I"⟩
abbrev cX0_storeRounded : ByteArray := prog_1_method_26_code
def yX0_storeRounded : MethodName := ⟨RX0, "storeRounded", "(IIZIJ)I"⟩
abbrev cX0_storeSum : ByteArray := prog_1_method_27_code
def yX0_storeSum : MethodName := ⟨RX0, "storeSum", "(IIJJ)I"⟩
abbrev cX0_shiftedDown : ByteArray := prog_1_method_28_code
def yX0_shiftedDown : MethodName := ⟨RX0, "shiftedDown", "(JI)J"⟩
abbrev cX0_storeProduct : ByteArray := prog_1_method_29_code
def yX0_storeProduct : MethodName := ⟨RX0, "storeProduct", "(IIJJ)I"⟩
abbrev cX0_wideProduct : ByteArray := prog_1_method_30_code
def yX0_wideProduct : MethodName := ⟨RX0, "wideProduct", "(JJ)J"⟩
abbrev cX0_storeQuotient : ByteArray := prog_1_method_31_code
def yX0_storeQuotient : MethodName := ⟨RX0, "storeQuotient", "(IIJJ)I"⟩
abbrev cX0_wideQuotient : ByteArray := prog_1_method_32_code
def yX0_wideQuotient : MethodName := ⟨RX0, "wideQuotient", "(JJ)J"⟩
abbrev cX0_wholeOf : ByteArray := prog_1_method_33_code
def yX0_wholeOf : MethodName := ⟨RX0, "wholeOf", "(JZ)J"⟩
abbrev cX0_wholeSize : ByteArray := prog_1_method_34_code
def yX0_wholeSize : MethodName := ⟨RX0, "wholeSize", "(JIZ)J"⟩
def RX1 : String := "ExactFloatsModel"
def TX1 : u_T := fun k => match k with
  | 0 => ("ExactFloatsModel", "register", "[J", true)
  | 1 => ("ExactFloatsModel", "asked", "Z", false)
  | 2 => ("ExactFloatsModel", "isLost", "Z", false)
  | 3 => ("ExactFloatsModel", "minus", "Z", false)
  | 4 => ("ExactFloatsModel", "exponent", "I", false)
  | 5 => ("ExactFloatsModel", "bits", "J", false)
  | 6 => ("ExactFloatsModel", "fault", "I", false)
  | _ => ("ExactFloatsModel", "cut", "Z", false)
def tyX1 : Nat → FieldType := fun k => match k with
  | 0 => .array .long
  | 1 => .boolean
  | 2 => .boolean
  | 3 => .boolean
  | 4 => .int
  | 5 => .long
  | 6 => .int
  | _ => .boolean
abbrev wsX10 : List Cond := u_ws RX1 TX1 8
theorem nmX1 : ∀ a, a < 8 → ∀ b, b < 8 → a ≠ b → (TX1 a).2.1 ≠ (TX1 b).2.1 := by decide +kernel
theorem tyX1_ok : ∀ k, k < 8 → parseFieldDescriptor (TX1 k).2.2.1 = some (tyX1 k) := by decide +kernel
abbrev cX1_init : ByteArray := prog_3_method_1_code
def yX1_init : MethodName := ⟨RX1, "<init>", "()V"⟩
abbrev cX1_set : ByteArray := prog_3_method_2_code
def yX1_set : MethodName := ⟨RX1, "set", "(IJ)Z"⟩
abbrev cX1_get : ByteArray := prog_3_method_3_code
def yX1_get : MethodName := ⟨RX1, "get", "(I)J"⟩
abbrev cX1_under : ByteArray := prog_3_method_4_code
def yX1_under : MethodName := ⟨RX1, "under", "(Z)V"⟩
abbrev cX1_isSize : ByteArray := prog_3_method_5_code
def yX1_isSize : MethodName := ⟨RX1, "isSize", "(I)Z"⟩
abbrev cX1_isRegister : ByteArray := prog_3_method_6_code
def yX1_isRegister : MethodName := ⟨RX1, "isRegister", "(I)Z"⟩
abbrev cX1_in : ByteArray := prog_3_method_8_code
def yX1_in : MethodName := ⟨RX1, "in", "(II)J"⟩
abbrev cX1_isReserved : ByteArray := prog_3_method_9_code
def yX1_isReserved : MethodName := ⟨RX1, "isReserved", "(J)Z"⟩
abbrev cX1_isZero : ByteArray := prog_3_method_10_code
def yX1_isZero : MethodName := ⟨RX1, "isZero", "(J)Z"⟩
abbrev cX1_added : ByteArray := prog_3_method_17_code
def yX1_added : MethodName := ⟨RX1, "added", "(IJJ)J"⟩
abbrev cX1_two : ByteArray := prog_3_method_18_code
def yX1_two : MethodName := ⟨RX1, "two", "(IIII)I"⟩
abbrev cX1_sum : ByteArray := prog_3_method_19_code
def yX1_sum : MethodName := ⟨RX1, "sum", "(IIII)I"⟩
def RJ13 : String := "java/lang/Long"
def TJ13 : u_T := fun k => match k with
  | _ => ("", "", "", false)
def tyJ13 : Nat → FieldType := fun k => match k with
  | _ => .int
abbrev wsJ130 : List Cond := u_ws RJ13 TJ13 0
theorem nmJ13 : ∀ a, a < 0 → ∀ b, b < 0 → a ≠ b → (TJ13 a).2.1 ≠ (TJ13 b).2.1 := by decide +kernel
theorem tyJ13_ok : ∀ k, k < 0 → parseFieldDescriptor (TJ13 k).2.2.1 = some (tyJ13 k) := by decide +kernel
abbrev cJ13_compare_74951 : ByteArray := prog_4_method_42_code
def yJ13_compare_74951 : MethodName := ⟨RJ13, "compare", "(JJ)I"⟩
def RJ9 : String := "java/lang/Math"
def TJ9 : u_T := fun k => match k with
  | _ => ("", "", "", false)
def tyJ9 : Nat → FieldType := fun k => match k with
  | _ => .int
abbrev wsJ90 : List Cond := u_ws RJ9 TJ9 0
theorem nmJ9 : ∀ a, a < 0 → ∀ b, b < 0 → a ≠ b → (TJ9 a).2.1 ≠ (TJ9 b).2.1 := by decide +kernel
theorem tyJ9_ok : ∀ k, k < 0 → parseFieldDescriptor (TJ9 k).2.2.1 = some (tyJ9 k) := by decide +kernel
abbrev cJ9_abs_067f4 : ByteArray := prog_5_method_61_code
def yJ9_abs_067f4 : MethodName := ⟨RJ9, "abs", "(J)J"⟩
def RL : String := "ExactFloatsLaw"
abbrev cL_law : ByteArray := code
def yL_law : MethodName := ⟨RL, "law", "([I)Z"⟩
def wsX0_init : List Cond := .code yX0_init cX0_init 1 none :: ([.methodLink RX0 3 objectInit, .instanceMethod objectInit, .code objectInit ⟨#[0xb1]⟩ 1 none, .arrayClass .long, .fieldLink RX0 9 "ExactFloats" "registers" "[J", .fieldLink RX0 13 "ExactFloats" "underflowAsked" "Z", .fieldLink RX0 17 "ExactFloats" "lastWasInexact" "Z"] ++ wsX00)
def wsX0_isRegister : List Cond := .code yX0_isRegister cX0_isRegister 1 (some .boolean) :: ([])
def wsX0_set : List Cond := .code yX0_set cX0_set 4 (some .boolean) :: ([.fieldLink RX0 9 "ExactFloats" "registers" "[J", .methodLink RX0 20 yX0_isRegister, .static yX0_isRegister, .initialized RX0, .code yX0_isRegister cX0_isRegister 1 (some .boolean)] ++ wsX00)
def wsX0_get : List Cond := .code yX0_get cX0_get 2 (some .long) :: ([.fieldLink RX0 9 "ExactFloats" "registers" "[J", .methodLink RX0 20 yX0_isRegister, .static yX0_isRegister, .initialized RX0, .code yX0_isRegister cX0_isRegister 1 (some .boolean)] ++ wsX00)
def wsX0_under : List Cond := .code yX0_under cX0_under 2 none :: ([.fieldLink RX0 13 "ExactFloats" "underflowAsked" "Z"] ++ wsX00)
def wsX0_isSize : List Cond := .code yX0_isSize cX0_isSize 1 (some .boolean) :: ([])
def wsX0_isReserved : List Cond := .code yX0_isReserved cX0_isReserved 2 (some .boolean) :: ([.fieldLink RX0 9 "ExactFloats" "registers" "[J", .constantLong RX0 73 (65408), .constantLong RX0 75 (32768)] ++ wsX00)
def wsX0_refusalOf : List Cond := .code yX0_refusalOf cX0_refusalOf 5 (some .int) :: ([.methodLink RX0 60 yX0_isSize, .static yX0_isSize, .initialized RX0, .code yX0_isSize cX0_isSize 1 (some .boolean), .methodLink RX0 20 yX0_isRegister, .static yX0_isRegister, .code yX0_isRegister cX0_isRegister 1 (some .boolean), .methodLink RX0 77 yX0_isReserved, .instanceMethod yX0_isReserved, .selects RX0 yX0_isReserved yX0_isReserved, .code yX0_isReserved cX0_isReserved 2 (some .boolean), .fieldLink RX0 9 "ExactFloats" "registers" "[J", .constantLong RX0 73 (65408), .constantLong RX0 75 (32768)] ++ wsX00)
def wsX0_valueIn : List Cond := .code yX0_valueIn cX0_valueIn 11 (some .long) :: ([.fieldLink RX0 9 "ExactFloats" "registers" "[J", .constantLong RX0 80 (4294967295), .constantLong RX0 82 (255), .constantLong RX0 84 (127), .constantLong RX0 86 (65535), .constantLong RX0 75 (32768)] ++ wsX00)
def wsX0_storeZero : List Cond := .code yX0_storeZero cX0_storeZero 3 (some .int) :: ([.fieldLink RX0 9 "ExactFloats" "registers" "[J", .fieldLink RX0 17 "ExactFloats" "lastWasInexact" "Z"] ++ wsX00)
def wsX0_exponentOf : List Cond := .code yX0_exponentOf cX0_exponentOf 2 (some .int) :: ([.methodLink RX0 63 Lib.MathLoose.abs_long.x, .static Lib.MathLoose.abs_long.x, .initialized "java/lang/Math", .code Lib.MathLoose.abs_long.x Lib.MathLoose.abs_long.code 2 (some .long)])
def wsX0_significandOf : List Cond := .code yX0_significandOf cX0_significandOf 2 (some .long) :: ([.methodLink RX0 63 Lib.MathLoose.abs_long.x, .static Lib.MathLoose.abs_long.x, .initialized "java/lang/Math", .code Lib.MathLoose.abs_long.x Lib.MathLoose.abs_long.code 2 (some .long), .constantLong RX0 89 (36028797018963967), .constantLong RX0 91 (36028797018963968)])
def wsX0_bitsOf : List Cond := .code yX0_bitsOf cX0_bitsOf 4 (some .long) :: ([.constant RX0 88 (32768), .constantLong RX0 86 (65535)])
def wsX0_storeRounded : List Cond := .code yX0_storeRounded cX0_storeRounded 12 (some .int) :: ([.constantLong RX0 103 (4611686018427387904), .fieldLink RX0 13 "ExactFloats" "underflowAsked" "Z", .fieldLink RX0 9 "ExactFloats" "registers" "[J", .constantLong RX0 89 (36028797018963967), .fieldLink RX0 17 "ExactFloats" "lastWasInexact" "Z", .methodLink RX0 93 yX0_storeZero, .instanceMethod yX0_storeZero, .selects RX0 yX0_storeZero yX0_storeZero, .initialized RX0, .code yX0_storeZero cX0_storeZero 3 (some .int), .methodLink RX0 105 yX0_bitsOf, .static yX0_bitsOf, .code yX0_bitsOf cX0_bitsOf 4 (some .long), .constant RX0 88 (32768), .constantLong RX0 86 (65535)] ++ wsX00)
def wsX0_storeValue_r1 : List Cond := [Cond.methodLink RX0 93 yX0_storeZero, Cond.instanceMethod yX0_storeZero, Cond.selects RX0 yX0_storeZero yX0_storeZero, Cond.initialized RX0, Cond.code yX0_storeZero cX0_storeZero 3 (some .int), Cond.fieldLink RX0 9 "ExactFloats" "registers" "[J", Cond.fieldLink RX0 17 "ExactFloats" "lastWasInexact" "Z", Cond.methodLink RX0 97 yX0_exponentOf, Cond.static yX0_exponentOf, Cond.code yX0_exponentOf cX0_exponentOf 2 (some .int), Cond.methodLink RX0 63 Lib.MathLoose.abs_long.x, Cond.static Lib.MathLoose.abs_long.x, Cond.initialized "java/lang/Math", Cond.code Lib.MathLoose.abs_long.x Lib.MathLoose.abs_long.code 2 (some .long), Cond.methodLink RX0 100 yX0_significandOf, Cond.static yX0_significandOf, Cond.code yX0_significandOf cX0_significandOf 2 (some .long), Cond.constantLong RX0 89 (36028797018963967), Cond.constantLong RX0 91 (36028797018963968), Cond.methodLink RX0 69 yX0_storeRounded, Cond.instanceMethod yX0_storeRounded, Cond.selects RX0 yX0_storeRounded yX0_storeRounded, Cond.code yX0_storeRounded cX0_storeRounded 12 (some .int), Cond.constantLong RX0 103 (4611686018427387904)]
def wsX0_storeValue_r2 : List Cond := [Cond.fieldLink RX0 13 "ExactFloats" "underflowAsked" "Z", Cond.methodLink RX0 105 yX0_bitsOf, Cond.static yX0_bitsOf, Cond.code yX0_bitsOf cX0_bitsOf 4 (some .long), Cond.constant RX0 88 (32768), Cond.constantLong RX0 86 (65535)]
def wsX0_storeValue : List Cond := .code yX0_storeValue cX0_storeValue 5 (some .int) :: ((wsX0_storeValue_r1 ++ wsX0_storeValue_r2) ++ wsX00)
def wsX0_shiftedDown : List Cond := .code yX0_shiftedDown cX0_shiftedDown 5 (some .long) :: ([])
def wsX0_storeSum_r1 : List Cond := [Cond.methodLink RX0 63 Lib.MathLoose.abs_long.x, Cond.static Lib.MathLoose.abs_long.x, Cond.initialized "java/lang/Math", Cond.code Lib.MathLoose.abs_long.x Lib.MathLoose.abs_long.code 2 (some .long), Cond.methodLink RX0 42 yX0_storeValue, Cond.instanceMethod yX0_storeValue, Cond.selects RX0 yX0_storeValue yX0_storeValue, Cond.initialized RX0, Cond.code yX0_storeValue cX0_storeValue 5 (some .int), Cond.methodLink RX0 93 yX0_storeZero, Cond.instanceMethod yX0_storeZero, Cond.selects RX0 yX0_storeZero yX0_storeZero, Cond.code yX0_storeZero cX0_storeZero 3 (some .int), Cond.fieldLink RX0 9 "ExactFloats" "registers" "[J", Cond.fieldLink RX0 17 "ExactFloats" "lastWasInexact" "Z", Cond.methodLink RX0 97 yX0_exponentOf, Cond.static yX0_exponentOf, Cond.code yX0_exponentOf cX0_exponentOf 2 (some .int), Cond.methodLink RX0 100 yX0_significandOf, Cond.static yX0_significandOf, Cond.code yX0_significandOf cX0_significandOf 2 (some .long), Cond.constantLong RX0 89 (36028797018963967), Cond.constantLong RX0 91 (36028797018963968), Cond.methodLink RX0 69 yX0_storeRounded]
def wsX0_storeSum_r2 : List Cond := [Cond.instanceMethod yX0_storeRounded, Cond.selects RX0 yX0_storeRounded yX0_storeRounded, Cond.code yX0_storeRounded cX0_storeRounded 12 (some .int), Cond.constantLong RX0 103 (4611686018427387904), Cond.fieldLink RX0 13 "ExactFloats" "underflowAsked" "Z", Cond.methodLink RX0 105 yX0_bitsOf, Cond.static yX0_bitsOf, Cond.code yX0_bitsOf cX0_bitsOf 4 (some .long), Cond.constant RX0 88 (32768), Cond.constantLong RX0 86 (65535), Cond.methodLink RX0 109 yX0_shiftedDown, Cond.static yX0_shiftedDown, Cond.code yX0_shiftedDown cX0_shiftedDown 5 (some .long)]
def wsX0_storeSum : List Cond := .code yX0_storeSum cX0_storeSum 21 (some .int) :: ((wsX0_storeSum_r1 ++ wsX0_storeSum_r2) ++ wsX00)
def wsX0_sum_r1 : List Cond := [Cond.methodLink RX0 24 yX0_refusalOf, Cond.instanceMethod yX0_refusalOf, Cond.selects RX0 yX0_refusalOf yX0_refusalOf, Cond.initialized RX0, Cond.code yX0_refusalOf cX0_refusalOf 5 (some .int), Cond.methodLink RX0 60 yX0_isSize, Cond.static yX0_isSize, Cond.code yX0_isSize cX0_isSize 1 (some .boolean), Cond.methodLink RX0 20 yX0_isRegister, Cond.static yX0_isRegister, Cond.code yX0_isRegister cX0_isRegister 1 (some .boolean), Cond.methodLink RX0 77 yX0_isReserved, Cond.instanceMethod yX0_isReserved, Cond.selects RX0 yX0_isReserved yX0_isReserved, Cond.code yX0_isReserved cX0_isReserved 2 (some .boolean), Cond.fieldLink RX0 9 "ExactFloats" "registers" "[J", Cond.constantLong RX0 73 (65408), Cond.constantLong RX0 75 (32768), Cond.methodLink RX0 28 yX0_valueIn, Cond.instanceMethod yX0_valueIn, Cond.selects RX0 yX0_valueIn yX0_valueIn, Cond.code yX0_valueIn cX0_valueIn 11 (some .long), Cond.constantLong RX0 80 (4294967295), Cond.constantLong RX0 82 (255)]
def wsX0_sum_r2 : List Cond := [Cond.constantLong RX0 84 (127), Cond.constantLong RX0 86 (65535), Cond.methodLink RX0 32 yX0_storeSum, Cond.instanceMethod yX0_storeSum, Cond.selects RX0 yX0_storeSum yX0_storeSum, Cond.code yX0_storeSum cX0_storeSum 21 (some .int), Cond.methodLink RX0 63 Lib.MathLoose.abs_long.x, Cond.static Lib.MathLoose.abs_long.x, Cond.initialized "java/lang/Math", Cond.code Lib.MathLoose.abs_long.x Lib.MathLoose.abs_long.code 2 (some .long), Cond.methodLink RX0 42 yX0_storeValue, Cond.instanceMethod yX0_storeValue, Cond.selects RX0 yX0_storeValue yX0_storeValue, Cond.code yX0_storeValue cX0_storeValue 5 (some .int), Cond.methodLink RX0 93 yX0_storeZero, Cond.instanceMethod yX0_storeZero, Cond.selects RX0 yX0_storeZero yX0_storeZero, Cond.code yX0_storeZero cX0_storeZero 3 (some .int), Cond.fieldLink RX0 17 "ExactFloats" "lastWasInexact" "Z", Cond.methodLink RX0 97 yX0_exponentOf, Cond.static yX0_exponentOf, Cond.code yX0_exponentOf cX0_exponentOf 2 (some .int), Cond.methodLink RX0 100 yX0_significandOf, Cond.static yX0_significandOf]
def wsX0_sum_r3 : List Cond := [Cond.code yX0_significandOf cX0_significandOf 2 (some .long), Cond.constantLong RX0 89 (36028797018963967), Cond.constantLong RX0 91 (36028797018963968), Cond.methodLink RX0 69 yX0_storeRounded, Cond.instanceMethod yX0_storeRounded, Cond.selects RX0 yX0_storeRounded yX0_storeRounded, Cond.code yX0_storeRounded cX0_storeRounded 12 (some .int), Cond.constantLong RX0 103 (4611686018427387904), Cond.fieldLink RX0 13 "ExactFloats" "underflowAsked" "Z", Cond.methodLink RX0 105 yX0_bitsOf, Cond.static yX0_bitsOf, Cond.code yX0_bitsOf cX0_bitsOf 4 (some .long), Cond.constant RX0 88 (32768), Cond.methodLink RX0 109 yX0_shiftedDown, Cond.static yX0_shiftedDown, Cond.code yX0_shiftedDown cX0_shiftedDown 5 (some .long)]
def wsX0_sum : List Cond := .code yX0_sum cX0_sum 6 (some .int) :: ((wsX0_sum_r1 ++ (wsX0_sum_r2 ++ wsX0_sum_r3)) ++ wsX00)
def wsX0_less_r1 : List Cond := [Cond.methodLink RX0 24 yX0_refusalOf, Cond.instanceMethod yX0_refusalOf, Cond.selects RX0 yX0_refusalOf yX0_refusalOf, Cond.initialized RX0, Cond.code yX0_refusalOf cX0_refusalOf 5 (some .int), Cond.methodLink RX0 60 yX0_isSize, Cond.static yX0_isSize, Cond.code yX0_isSize cX0_isSize 1 (some .boolean), Cond.methodLink RX0 20 yX0_isRegister, Cond.static yX0_isRegister, Cond.code yX0_isRegister cX0_isRegister 1 (some .boolean), Cond.methodLink RX0 77 yX0_isReserved, Cond.instanceMethod yX0_isReserved, Cond.selects RX0 yX0_isReserved yX0_isReserved, Cond.code yX0_isReserved cX0_isReserved 2 (some .boolean), Cond.fieldLink RX0 9 "ExactFloats" "registers" "[J", Cond.constantLong RX0 73 (65408), Cond.constantLong RX0 75 (32768), Cond.methodLink RX0 28 yX0_valueIn, Cond.instanceMethod yX0_valueIn, Cond.selects RX0 yX0_valueIn yX0_valueIn, Cond.code yX0_valueIn cX0_valueIn 11 (some .long), Cond.constantLong RX0 80 (4294967295), Cond.constantLong RX0 82 (255)]
def wsX0_less_r2 : List Cond := [Cond.constantLong RX0 84 (127), Cond.constantLong RX0 86 (65535), Cond.methodLink RX0 32 yX0_storeSum, Cond.instanceMethod yX0_storeSum, Cond.selects RX0 yX0_storeSum yX0_storeSum, Cond.code yX0_storeSum cX0_storeSum 21 (some .int), Cond.methodLink RX0 63 Lib.MathLoose.abs_long.x, Cond.static Lib.MathLoose.abs_long.x, Cond.initialized "java/lang/Math", Cond.code Lib.MathLoose.abs_long.x Lib.MathLoose.abs_long.code 2 (some .long), Cond.methodLink RX0 42 yX0_storeValue, Cond.instanceMethod yX0_storeValue, Cond.selects RX0 yX0_storeValue yX0_storeValue, Cond.code yX0_storeValue cX0_storeValue 5 (some .int), Cond.methodLink RX0 93 yX0_storeZero, Cond.instanceMethod yX0_storeZero, Cond.selects RX0 yX0_storeZero yX0_storeZero, Cond.code yX0_storeZero cX0_storeZero 3 (some .int), Cond.fieldLink RX0 17 "ExactFloats" "lastWasInexact" "Z", Cond.methodLink RX0 97 yX0_exponentOf, Cond.static yX0_exponentOf, Cond.code yX0_exponentOf cX0_exponentOf 2 (some .int), Cond.methodLink RX0 100 yX0_significandOf, Cond.static yX0_significandOf]
def wsX0_less_r3 : List Cond := [Cond.code yX0_significandOf cX0_significandOf 2 (some .long), Cond.constantLong RX0 89 (36028797018963967), Cond.constantLong RX0 91 (36028797018963968), Cond.methodLink RX0 69 yX0_storeRounded, Cond.instanceMethod yX0_storeRounded, Cond.selects RX0 yX0_storeRounded yX0_storeRounded, Cond.code yX0_storeRounded cX0_storeRounded 12 (some .int), Cond.constantLong RX0 103 (4611686018427387904), Cond.fieldLink RX0 13 "ExactFloats" "underflowAsked" "Z", Cond.methodLink RX0 105 yX0_bitsOf, Cond.static yX0_bitsOf, Cond.code yX0_bitsOf cX0_bitsOf 4 (some .long), Cond.constant RX0 88 (32768), Cond.methodLink RX0 109 yX0_shiftedDown, Cond.static yX0_shiftedDown, Cond.code yX0_shiftedDown cX0_shiftedDown 5 (some .long)]
def wsX0_less : List Cond := .code yX0_less cX0_less 6 (some .int) :: ((wsX0_less_r1 ++ (wsX0_less_r2 ++ wsX0_less_r3)) ++ wsX00)
def wsX0_wideProduct : List Cond := .code yX0_wideProduct cX0_wideProduct 23 (some .long) :: ([.constantLong RX0 117 (268435455), .constantLong RX0 119 (72057594037927935)])
def wsX0_storeProduct_r1 : List Cond := [Cond.methodLink RX0 93 yX0_storeZero, Cond.instanceMethod yX0_storeZero, Cond.selects RX0 yX0_storeZero yX0_storeZero, Cond.initialized RX0, Cond.code yX0_storeZero cX0_storeZero 3 (some .int), Cond.fieldLink RX0 9 "ExactFloats" "registers" "[J", Cond.fieldLink RX0 17 "ExactFloats" "lastWasInexact" "Z", Cond.methodLink RX0 100 yX0_significandOf, Cond.static yX0_significandOf, Cond.code yX0_significandOf cX0_significandOf 2 (some .long), Cond.methodLink RX0 63 Lib.MathLoose.abs_long.x, Cond.static Lib.MathLoose.abs_long.x, Cond.initialized "java/lang/Math", Cond.code Lib.MathLoose.abs_long.x Lib.MathLoose.abs_long.code 2 (some .long), Cond.constantLong RX0 89 (36028797018963967), Cond.constantLong RX0 91 (36028797018963968), Cond.methodLink RX0 113 yX0_wideProduct, Cond.static yX0_wideProduct, Cond.code yX0_wideProduct cX0_wideProduct 23 (some .long), Cond.constantLong RX0 117 (268435455), Cond.constantLong RX0 119 (72057594037927935), Cond.methodLink RX0 97 yX0_exponentOf, Cond.static yX0_exponentOf, Cond.code yX0_exponentOf cX0_exponentOf 2 (some .int)]
def wsX0_storeProduct_r2 : List Cond := [Cond.methodLink RX0 69 yX0_storeRounded, Cond.instanceMethod yX0_storeRounded, Cond.selects RX0 yX0_storeRounded yX0_storeRounded, Cond.code yX0_storeRounded cX0_storeRounded 12 (some .int), Cond.constantLong RX0 103 (4611686018427387904), Cond.fieldLink RX0 13 "ExactFloats" "underflowAsked" "Z", Cond.methodLink RX0 105 yX0_bitsOf, Cond.static yX0_bitsOf, Cond.code yX0_bitsOf cX0_bitsOf 4 (some .long), Cond.constant RX0 88 (32768), Cond.constantLong RX0 86 (65535)]
def wsX0_storeProduct : List Cond := .code yX0_storeProduct cX0_storeProduct 9 (some .int) :: ((wsX0_storeProduct_r1 ++ wsX0_storeProduct_r2) ++ wsX00)
def wsX0_product_r1 : List Cond := [Cond.methodLink RX0 24 yX0_refusalOf, Cond.instanceMethod yX0_refusalOf, Cond.selects RX0 yX0_refusalOf yX0_refusalOf, Cond.initialized RX0, Cond.code yX0_refusalOf cX0_refusalOf 5 (some .int), Cond.methodLink RX0 60 yX0_isSize, Cond.static yX0_isSize, Cond.code yX0_isSize cX0_isSize 1 (some .boolean), Cond.methodLink RX0 20 yX0_isRegister, Cond.static yX0_isRegister, Cond.code yX0_isRegister cX0_isRegister 1 (some .boolean), Cond.methodLink RX0 77 yX0_isReserved, Cond.instanceMethod yX0_isReserved, Cond.selects RX0 yX0_isReserved yX0_isReserved, Cond.code yX0_isReserved cX0_isReserved 2 (some .boolean), Cond.fieldLink RX0 9 "ExactFloats" "registers" "[J", Cond.constantLong RX0 73 (65408), Cond.constantLong RX0 75 (32768), Cond.methodLink RX0 28 yX0_valueIn, Cond.instanceMethod yX0_valueIn, Cond.selects RX0 yX0_valueIn yX0_valueIn, Cond.code yX0_valueIn cX0_valueIn 11 (some .long), Cond.constantLong RX0 80 (4294967295), Cond.constantLong RX0 82 (255)]
def wsX0_product_r2 : List Cond := [Cond.constantLong RX0 84 (127), Cond.constantLong RX0 86 (65535), Cond.methodLink RX0 36 yX0_storeProduct, Cond.instanceMethod yX0_storeProduct, Cond.selects RX0 yX0_storeProduct yX0_storeProduct, Cond.code yX0_storeProduct cX0_storeProduct 9 (some .int), Cond.methodLink RX0 93 yX0_storeZero, Cond.instanceMethod yX0_storeZero, Cond.selects RX0 yX0_storeZero yX0_storeZero, Cond.code yX0_storeZero cX0_storeZero 3 (some .int), Cond.fieldLink RX0 17 "ExactFloats" "lastWasInexact" "Z", Cond.methodLink RX0 100 yX0_significandOf, Cond.static yX0_significandOf, Cond.code yX0_significandOf cX0_significandOf 2 (some .long), Cond.methodLink RX0 63 Lib.MathLoose.abs_long.x, Cond.static Lib.MathLoose.abs_long.x, Cond.initialized "java/lang/Math", Cond.code Lib.MathLoose.abs_long.x Lib.MathLoose.abs_long.code 2 (some .long), Cond.constantLong RX0 89 (36028797018963967), Cond.constantLong RX0 91 (36028797018963968), Cond.methodLink RX0 113 yX0_wideProduct, Cond.static yX0_wideProduct, Cond.code yX0_wideProduct cX0_wideProduct 23 (some .long), Cond.constantLong RX0 117 (268435455)]
def wsX0_product_r3 : List Cond := [Cond.constantLong RX0 119 (72057594037927935), Cond.methodLink RX0 97 yX0_exponentOf, Cond.static yX0_exponentOf, Cond.code yX0_exponentOf cX0_exponentOf 2 (some .int), Cond.methodLink RX0 69 yX0_storeRounded, Cond.instanceMethod yX0_storeRounded, Cond.selects RX0 yX0_storeRounded yX0_storeRounded, Cond.code yX0_storeRounded cX0_storeRounded 12 (some .int), Cond.constantLong RX0 103 (4611686018427387904), Cond.fieldLink RX0 13 "ExactFloats" "underflowAsked" "Z", Cond.methodLink RX0 105 yX0_bitsOf, Cond.static yX0_bitsOf, Cond.code yX0_bitsOf cX0_bitsOf 4 (some .long), Cond.constant RX0 88 (32768)]
def wsX0_product : List Cond := .code yX0_product cX0_product 6 (some .int) :: ((wsX0_product_r1 ++ (wsX0_product_r2 ++ wsX0_product_r3)) ++ wsX00)
def wsX0_wideQuotient : List Cond := .code yX0_wideQuotient cX0_wideQuotient 9 (some .long) :: ([])
def wsX0_storeQuotient_r1 : List Cond := [Cond.methodLink RX0 93 yX0_storeZero, Cond.instanceMethod yX0_storeZero, Cond.selects RX0 yX0_storeZero yX0_storeZero, Cond.initialized RX0, Cond.code yX0_storeZero cX0_storeZero 3 (some .int), Cond.fieldLink RX0 9 "ExactFloats" "registers" "[J", Cond.fieldLink RX0 17 "ExactFloats" "lastWasInexact" "Z", Cond.methodLink RX0 100 yX0_significandOf, Cond.static yX0_significandOf, Cond.code yX0_significandOf cX0_significandOf 2 (some .long), Cond.methodLink RX0 63 Lib.MathLoose.abs_long.x, Cond.static Lib.MathLoose.abs_long.x, Cond.initialized "java/lang/Math", Cond.code Lib.MathLoose.abs_long.x Lib.MathLoose.abs_long.code 2 (some .long), Cond.constantLong RX0 89 (36028797018963967), Cond.constantLong RX0 91 (36028797018963968), Cond.methodLink RX0 121 yX0_wideQuotient, Cond.static yX0_wideQuotient, Cond.code yX0_wideQuotient cX0_wideQuotient 9 (some .long), Cond.methodLink RX0 97 yX0_exponentOf, Cond.static yX0_exponentOf, Cond.code yX0_exponentOf cX0_exponentOf 2 (some .int), Cond.methodLink RX0 69 yX0_storeRounded, Cond.instanceMethod yX0_storeRounded]
def wsX0_storeQuotient_r2 : List Cond := [Cond.selects RX0 yX0_storeRounded yX0_storeRounded, Cond.code yX0_storeRounded cX0_storeRounded 12 (some .int), Cond.constantLong RX0 103 (4611686018427387904), Cond.fieldLink RX0 13 "ExactFloats" "underflowAsked" "Z", Cond.methodLink RX0 105 yX0_bitsOf, Cond.static yX0_bitsOf, Cond.code yX0_bitsOf cX0_bitsOf 4 (some .long), Cond.constant RX0 88 (32768), Cond.constantLong RX0 86 (65535)]
def wsX0_storeQuotient : List Cond := .code yX0_storeQuotient cX0_storeQuotient 10 (some .int) :: ((wsX0_storeQuotient_r1 ++ wsX0_storeQuotient_r2) ++ wsX00)
def wsX0_quotient_r1 : List Cond := [Cond.methodLink RX0 24 yX0_refusalOf, Cond.instanceMethod yX0_refusalOf, Cond.selects RX0 yX0_refusalOf yX0_refusalOf, Cond.initialized RX0, Cond.code yX0_refusalOf cX0_refusalOf 5 (some .int), Cond.methodLink RX0 60 yX0_isSize, Cond.static yX0_isSize, Cond.code yX0_isSize cX0_isSize 1 (some .boolean), Cond.methodLink RX0 20 yX0_isRegister, Cond.static yX0_isRegister, Cond.code yX0_isRegister cX0_isRegister 1 (some .boolean), Cond.methodLink RX0 77 yX0_isReserved, Cond.instanceMethod yX0_isReserved, Cond.selects RX0 yX0_isReserved yX0_isReserved, Cond.code yX0_isReserved cX0_isReserved 2 (some .boolean), Cond.fieldLink RX0 9 "ExactFloats" "registers" "[J", Cond.constantLong RX0 73 (65408), Cond.constantLong RX0 75 (32768), Cond.methodLink RX0 28 yX0_valueIn, Cond.instanceMethod yX0_valueIn, Cond.selects RX0 yX0_valueIn yX0_valueIn, Cond.code yX0_valueIn cX0_valueIn 11 (some .long), Cond.constantLong RX0 80 (4294967295), Cond.constantLong RX0 82 (255)]
def wsX0_quotient_r2 : List Cond := [Cond.constantLong RX0 84 (127), Cond.constantLong RX0 86 (65535), Cond.methodLink RX0 39 yX0_storeQuotient, Cond.instanceMethod yX0_storeQuotient, Cond.selects RX0 yX0_storeQuotient yX0_storeQuotient, Cond.code yX0_storeQuotient cX0_storeQuotient 10 (some .int), Cond.methodLink RX0 93 yX0_storeZero, Cond.instanceMethod yX0_storeZero, Cond.selects RX0 yX0_storeZero yX0_storeZero, Cond.code yX0_storeZero cX0_storeZero 3 (some .int), Cond.fieldLink RX0 17 "ExactFloats" "lastWasInexact" "Z", Cond.methodLink RX0 100 yX0_significandOf, Cond.static yX0_significandOf, Cond.code yX0_significandOf cX0_significandOf 2 (some .long), Cond.methodLink RX0 63 Lib.MathLoose.abs_long.x, Cond.static Lib.MathLoose.abs_long.x, Cond.initialized "java/lang/Math", Cond.code Lib.MathLoose.abs_long.x Lib.MathLoose.abs_long.code 2 (some .long), Cond.constantLong RX0 89 (36028797018963967), Cond.constantLong RX0 91 (36028797018963968), Cond.methodLink RX0 121 yX0_wideQuotient, Cond.static yX0_wideQuotient, Cond.code yX0_wideQuotient cX0_wideQuotient 9 (some .long), Cond.methodLink RX0 97 yX0_exponentOf]
def wsX0_quotient_r3 : List Cond := [Cond.static yX0_exponentOf, Cond.code yX0_exponentOf cX0_exponentOf 2 (some .int), Cond.methodLink RX0 69 yX0_storeRounded, Cond.instanceMethod yX0_storeRounded, Cond.selects RX0 yX0_storeRounded yX0_storeRounded, Cond.code yX0_storeRounded cX0_storeRounded 12 (some .int), Cond.constantLong RX0 103 (4611686018427387904), Cond.fieldLink RX0 13 "ExactFloats" "underflowAsked" "Z", Cond.methodLink RX0 105 yX0_bitsOf, Cond.static yX0_bitsOf, Cond.code yX0_bitsOf cX0_bitsOf 4 (some .long), Cond.constant RX0 88 (32768)]
def wsX0_quotient : List Cond := .code yX0_quotient cX0_quotient 8 (some .int) :: ((wsX0_quotient_r1 ++ (wsX0_quotient_r2 ++ wsX0_quotient_r3)) ++ wsX00)
def wsX0_negative_r1 : List Cond := [Cond.methodLink RX0 24 yX0_refusalOf, Cond.instanceMethod yX0_refusalOf, Cond.selects RX0 yX0_refusalOf yX0_refusalOf, Cond.initialized RX0, Cond.code yX0_refusalOf cX0_refusalOf 5 (some .int), Cond.methodLink RX0 60 yX0_isSize, Cond.static yX0_isSize, Cond.code yX0_isSize cX0_isSize 1 (some .boolean), Cond.methodLink RX0 20 yX0_isRegister, Cond.static yX0_isRegister, Cond.code yX0_isRegister cX0_isRegister 1 (some .boolean), Cond.methodLink RX0 77 yX0_isReserved, Cond.instanceMethod yX0_isReserved, Cond.selects RX0 yX0_isReserved yX0_isReserved, Cond.code yX0_isReserved cX0_isReserved 2 (some .boolean), Cond.fieldLink RX0 9 "ExactFloats" "registers" "[J", Cond.constantLong RX0 73 (65408), Cond.constantLong RX0 75 (32768), Cond.methodLink RX0 28 yX0_valueIn, Cond.instanceMethod yX0_valueIn, Cond.selects RX0 yX0_valueIn yX0_valueIn, Cond.code yX0_valueIn cX0_valueIn 11 (some .long), Cond.constantLong RX0 80 (4294967295), Cond.constantLong RX0 82 (255)]
def wsX0_negative_r2 : List Cond := [Cond.constantLong RX0 84 (127), Cond.constantLong RX0 86 (65535), Cond.methodLink RX0 42 yX0_storeValue, Cond.instanceMethod yX0_storeValue, Cond.selects RX0 yX0_storeValue yX0_storeValue, Cond.code yX0_storeValue cX0_storeValue 5 (some .int), Cond.methodLink RX0 93 yX0_storeZero, Cond.instanceMethod yX0_storeZero, Cond.selects RX0 yX0_storeZero yX0_storeZero, Cond.code yX0_storeZero cX0_storeZero 3 (some .int), Cond.fieldLink RX0 17 "ExactFloats" "lastWasInexact" "Z", Cond.methodLink RX0 97 yX0_exponentOf, Cond.static yX0_exponentOf, Cond.code yX0_exponentOf cX0_exponentOf 2 (some .int), Cond.methodLink RX0 63 Lib.MathLoose.abs_long.x, Cond.static Lib.MathLoose.abs_long.x, Cond.initialized "java/lang/Math", Cond.code Lib.MathLoose.abs_long.x Lib.MathLoose.abs_long.code 2 (some .long), Cond.methodLink RX0 100 yX0_significandOf, Cond.static yX0_significandOf, Cond.code yX0_significandOf cX0_significandOf 2 (some .long), Cond.constantLong RX0 89 (36028797018963967), Cond.constantLong RX0 91 (36028797018963968), Cond.methodLink RX0 69 yX0_storeRounded]
def wsX0_negative_r3 : List Cond := [Cond.instanceMethod yX0_storeRounded, Cond.selects RX0 yX0_storeRounded yX0_storeRounded, Cond.code yX0_storeRounded cX0_storeRounded 12 (some .int), Cond.constantLong RX0 103 (4611686018427387904), Cond.fieldLink RX0 13 "ExactFloats" "underflowAsked" "Z", Cond.methodLink RX0 105 yX0_bitsOf, Cond.static yX0_bitsOf, Cond.code yX0_bitsOf cX0_bitsOf 4 (some .long), Cond.constant RX0 88 (32768)]
def wsX0_negative : List Cond := .code yX0_negative cX0_negative 5 (some .int) :: ((wsX0_negative_r1 ++ (wsX0_negative_r2 ++ wsX0_negative_r3)) ++ wsX00)
def wsJ13_compare_74951 : List Cond := .code yJ13_compare_74951 cJ13_compare_74951 4 (some .int) :: ([])
def wsX0_flagsOf : List Cond := .code yX0_flagsOf cX0_flagsOf 2 (some .int) :: ([])
def wsX0_compare_r1 : List Cond := [Cond.methodLink RX0 24 yX0_refusalOf, Cond.instanceMethod yX0_refusalOf, Cond.selects RX0 yX0_refusalOf yX0_refusalOf, Cond.initialized RX0, Cond.code yX0_refusalOf cX0_refusalOf 5 (some .int), Cond.methodLink RX0 60 yX0_isSize, Cond.static yX0_isSize, Cond.code yX0_isSize cX0_isSize 1 (some .boolean), Cond.methodLink RX0 20 yX0_isRegister, Cond.static yX0_isRegister, Cond.code yX0_isRegister cX0_isRegister 1 (some .boolean), Cond.methodLink RX0 77 yX0_isReserved, Cond.instanceMethod yX0_isReserved, Cond.selects RX0 yX0_isReserved yX0_isReserved, Cond.code yX0_isReserved cX0_isReserved 2 (some .boolean), Cond.fieldLink RX0 9 "ExactFloats" "registers" "[J", Cond.constantLong RX0 73 (65408), Cond.constantLong RX0 75 (32768), Cond.methodLink RX0 28 yX0_valueIn, Cond.instanceMethod yX0_valueIn, Cond.selects RX0 yX0_valueIn yX0_valueIn, Cond.code yX0_valueIn cX0_valueIn 11 (some .long), Cond.constantLong RX0 80 (4294967295), Cond.constantLong RX0 82 (255)]
def wsX0_compare_r2 : List Cond := [Cond.constantLong RX0 84 (127), Cond.constantLong RX0 86 (65535), Cond.methodLink RX0 46 yJ13_compare_74951, Cond.static yJ13_compare_74951, Cond.initialized RJ13, Cond.code yJ13_compare_74951 cJ13_compare_74951 4 (some .int), Cond.methodLink RX0 52 yX0_flagsOf, Cond.static yX0_flagsOf, Cond.code yX0_flagsOf cX0_flagsOf 2 (some .int)]
def wsX0_compare : List Cond := .code yX0_compare cX0_compare 5 (some .int) :: ((wsX0_compare_r1 ++ wsX0_compare_r2) ++ wsX00)
def wsX0_change_r1 : List Cond := [Cond.methodLink RX0 24 yX0_refusalOf, Cond.instanceMethod yX0_refusalOf, Cond.selects RX0 yX0_refusalOf yX0_refusalOf, Cond.initialized RX0, Cond.code yX0_refusalOf cX0_refusalOf 5 (some .int), Cond.methodLink RX0 60 yX0_isSize, Cond.static yX0_isSize, Cond.code yX0_isSize cX0_isSize 1 (some .boolean), Cond.methodLink RX0 20 yX0_isRegister, Cond.static yX0_isRegister, Cond.code yX0_isRegister cX0_isRegister 1 (some .boolean), Cond.methodLink RX0 77 yX0_isReserved, Cond.instanceMethod yX0_isReserved, Cond.selects RX0 yX0_isReserved yX0_isReserved, Cond.code yX0_isReserved cX0_isReserved 2 (some .boolean), Cond.fieldLink RX0 9 "ExactFloats" "registers" "[J", Cond.constantLong RX0 73 (65408), Cond.constantLong RX0 75 (32768), Cond.methodLink RX0 28 yX0_valueIn, Cond.instanceMethod yX0_valueIn, Cond.selects RX0 yX0_valueIn yX0_valueIn, Cond.code yX0_valueIn cX0_valueIn 11 (some .long), Cond.constantLong RX0 80 (4294967295), Cond.constantLong RX0 82 (255)]
def wsX0_change_r2 : List Cond := [Cond.constantLong RX0 84 (127), Cond.constantLong RX0 86 (65535), Cond.methodLink RX0 42 yX0_storeValue, Cond.instanceMethod yX0_storeValue, Cond.selects RX0 yX0_storeValue yX0_storeValue, Cond.code yX0_storeValue cX0_storeValue 5 (some .int), Cond.methodLink RX0 93 yX0_storeZero, Cond.instanceMethod yX0_storeZero, Cond.selects RX0 yX0_storeZero yX0_storeZero, Cond.code yX0_storeZero cX0_storeZero 3 (some .int), Cond.fieldLink RX0 17 "ExactFloats" "lastWasInexact" "Z", Cond.methodLink RX0 97 yX0_exponentOf, Cond.static yX0_exponentOf, Cond.code yX0_exponentOf cX0_exponentOf 2 (some .int), Cond.methodLink RX0 63 Lib.MathLoose.abs_long.x, Cond.static Lib.MathLoose.abs_long.x, Cond.initialized "java/lang/Math", Cond.code Lib.MathLoose.abs_long.x Lib.MathLoose.abs_long.code 2 (some .long), Cond.methodLink RX0 100 yX0_significandOf, Cond.static yX0_significandOf, Cond.code yX0_significandOf cX0_significandOf 2 (some .long), Cond.constantLong RX0 89 (36028797018963967), Cond.constantLong RX0 91 (36028797018963968), Cond.methodLink RX0 69 yX0_storeRounded]
def wsX0_change_r3 : List Cond := [Cond.instanceMethod yX0_storeRounded, Cond.selects RX0 yX0_storeRounded yX0_storeRounded, Cond.code yX0_storeRounded cX0_storeRounded 12 (some .int), Cond.constantLong RX0 103 (4611686018427387904), Cond.fieldLink RX0 13 "ExactFloats" "underflowAsked" "Z", Cond.methodLink RX0 105 yX0_bitsOf, Cond.static yX0_bitsOf, Cond.code yX0_bitsOf cX0_bitsOf 4 (some .long), Cond.constant RX0 88 (32768)]
def wsX0_change : List Cond := .code yX0_change cX0_change 6 (some .int) :: ((wsX0_change_r1 ++ (wsX0_change_r2 ++ wsX0_change_r3)) ++ wsX00)
def wsX0_wholeSize : List Cond := .code yX0_wholeSize cX0_wholeSize 6 (some .long) :: ([.constantLong RX0 80 (4294967295), .constantLong RX0 91 (36028797018963968)])
def wsX0_wholeOf : List Cond := .code yX0_wholeOf cX0_wholeOf 6 (some .long) :: ([.methodLink RX0 97 yX0_exponentOf, .static yX0_exponentOf, .initialized RX0, .code yX0_exponentOf cX0_exponentOf 2 (some .int), .methodLink RX0 63 Lib.MathLoose.abs_long.x, .static Lib.MathLoose.abs_long.x, .initialized "java/lang/Math", .code Lib.MathLoose.abs_long.x Lib.MathLoose.abs_long.code 2 (some .long), .methodLink RX0 100 yX0_significandOf, .static yX0_significandOf, .code yX0_significandOf cX0_significandOf 2 (some .long), .constantLong RX0 89 (36028797018963967), .constantLong RX0 91 (36028797018963968), .methodLink RX0 124 yX0_wholeSize, .static yX0_wholeSize, .code yX0_wholeSize cX0_wholeSize 6 (some .long), .constantLong RX0 80 (4294967295)])
def wsX0_whole_r1 : List Cond := [Cond.fieldLink RX0 9 "ExactFloats" "registers" "[J", Cond.methodLink RX0 24 yX0_refusalOf, Cond.instanceMethod yX0_refusalOf, Cond.selects RX0 yX0_refusalOf yX0_refusalOf, Cond.initialized RX0, Cond.code yX0_refusalOf cX0_refusalOf 5 (some .int), Cond.methodLink RX0 60 yX0_isSize, Cond.static yX0_isSize, Cond.code yX0_isSize cX0_isSize 1 (some .boolean), Cond.methodLink RX0 20 yX0_isRegister, Cond.static yX0_isRegister, Cond.code yX0_isRegister cX0_isRegister 1 (some .boolean), Cond.methodLink RX0 77 yX0_isReserved, Cond.instanceMethod yX0_isReserved, Cond.selects RX0 yX0_isReserved yX0_isReserved, Cond.code yX0_isReserved cX0_isReserved 2 (some .boolean), Cond.constantLong RX0 73 (65408), Cond.constantLong RX0 75 (32768), Cond.methodLink RX0 28 yX0_valueIn, Cond.instanceMethod yX0_valueIn, Cond.selects RX0 yX0_valueIn yX0_valueIn, Cond.code yX0_valueIn cX0_valueIn 11 (some .long), Cond.constantLong RX0 80 (4294967295), Cond.constantLong RX0 82 (255)]
def wsX0_whole_r2 : List Cond := [Cond.constantLong RX0 84 (127), Cond.constantLong RX0 86 (65535), Cond.methodLink RX0 56 yX0_wholeOf, Cond.static yX0_wholeOf, Cond.code yX0_wholeOf cX0_wholeOf 6 (some .long), Cond.methodLink RX0 97 yX0_exponentOf, Cond.static yX0_exponentOf, Cond.code yX0_exponentOf cX0_exponentOf 2 (some .int), Cond.methodLink RX0 63 Lib.MathLoose.abs_long.x, Cond.static Lib.MathLoose.abs_long.x, Cond.initialized "java/lang/Math", Cond.code Lib.MathLoose.abs_long.x Lib.MathLoose.abs_long.code 2 (some .long), Cond.methodLink RX0 100 yX0_significandOf, Cond.static yX0_significandOf, Cond.code yX0_significandOf cX0_significandOf 2 (some .long), Cond.constantLong RX0 89 (36028797018963967), Cond.constantLong RX0 91 (36028797018963968), Cond.methodLink RX0 124 yX0_wholeSize, Cond.static yX0_wholeSize, Cond.code yX0_wholeSize cX0_wholeSize 6 (some .long), Cond.methodLink RX0 52 yX0_flagsOf, Cond.static yX0_flagsOf, Cond.code yX0_flagsOf cX0_flagsOf 2 (some .int)]
def wsX0_whole : List Cond := .code yX0_whole cX0_whole 12 (some .int) :: ((wsX0_whole_r1 ++ wsX0_whole_r2) ++ wsX00)
def wsX0_number_r1 : List Cond := [Cond.methodLink RX0 63 Lib.MathLoose.abs_long.x, Cond.static Lib.MathLoose.abs_long.x, Cond.initialized "java/lang/Math", Cond.code Lib.MathLoose.abs_long.x Lib.MathLoose.abs_long.code 2 (some .long), Cond.methodLink RX0 60 yX0_isSize, Cond.static yX0_isSize, Cond.initialized RX0, Cond.code yX0_isSize cX0_isSize 1 (some .boolean), Cond.methodLink RX0 20 yX0_isRegister, Cond.static yX0_isRegister, Cond.code yX0_isRegister cX0_isRegister 1 (some .boolean), Cond.methodLink RX0 69 yX0_storeRounded, Cond.instanceMethod yX0_storeRounded, Cond.selects RX0 yX0_storeRounded yX0_storeRounded, Cond.code yX0_storeRounded cX0_storeRounded 12 (some .int), Cond.constantLong RX0 103 (4611686018427387904), Cond.fieldLink RX0 13 "ExactFloats" "underflowAsked" "Z", Cond.fieldLink RX0 9 "ExactFloats" "registers" "[J", Cond.constantLong RX0 89 (36028797018963967), Cond.fieldLink RX0 17 "ExactFloats" "lastWasInexact" "Z", Cond.methodLink RX0 93 yX0_storeZero, Cond.instanceMethod yX0_storeZero, Cond.selects RX0 yX0_storeZero yX0_storeZero, Cond.code yX0_storeZero cX0_storeZero 3 (some .int)]
def wsX0_number_r2 : List Cond := [Cond.methodLink RX0 105 yX0_bitsOf, Cond.static yX0_bitsOf, Cond.code yX0_bitsOf cX0_bitsOf 4 (some .long), Cond.constant RX0 88 (32768), Cond.constantLong RX0 86 (65535)]
def wsX0_number : List Cond := .code yX0_number cX0_number 4 (some .int) :: ((wsX0_number_r1 ++ wsX0_number_r2) ++ wsX00)
def wsX0_lost : List Cond := .code yX0_lost cX0_lost 1 (some .boolean) :: ([.fieldLink RX0 17 "ExactFloats" "lastWasInexact" "Z"] ++ wsX00)
def wsX1_init : List Cond := .code yX1_init cX1_init 1 none :: ([.methodLink RX1 1 objectInit, .instanceMethod objectInit, .code objectInit ⟨#[0xb1]⟩ 1 none, .arrayClass .long, .fieldLink RX1 7 "ExactFloatsModel" "register" "[J"] ++ wsX10)
def wsX1_set : List Cond := .code yX1_set cX1_set 4 (some .boolean) :: ([.fieldLink RX1 7 "ExactFloatsModel" "register" "[J"] ++ wsX10)
def wsX1_get : List Cond := .code yX1_get cX1_get 2 (some .long) :: ([.fieldLink RX1 7 "ExactFloatsModel" "register" "[J"] ++ wsX10)
def wsX1_under : List Cond := .code yX1_under cX1_under 2 none :: ([.fieldLink RX1 13 "ExactFloatsModel" "asked" "Z"] ++ wsX10)
def wsX1_isSize : List Cond := .code yX1_isSize cX1_isSize 1 (some .boolean) :: ([])
def wsX1_isRegister : List Cond := .code yX1_isRegister cX1_isRegister 1 (some .boolean) :: ([])
def wsX1_in : List Cond := .code yX1_in cX1_in 3 (some .long) :: ([.fieldLink RX1 7 "ExactFloatsModel" "register" "[J", .constantLong RX1 17 (4294967295)] ++ wsX10)
def wsX1_isReserved : List Cond := .code yX1_isReserved cX1_isReserved 2 (some .boolean) :: ([.constantLong RX1 19 (65408), .constantLong RX1 21 (32768)])
def wsX1_isZero : List Cond := .code yX1_isZero cX1_isZero 2 (some .boolean) :: ([.constantLong RX1 23 (32640)])
def wsX1_added : List Cond := .code yX1_added cX1_added 26 (some .long) :: ([.fieldLink RX1 48 "ExactFloatsModel" "fault" "I", .fieldLink RX1 51 "ExactFloatsModel" "cut" "Z", .fieldLink RX1 29 "ExactFloatsModel" "minus" "Z", .fieldLink RX1 34 "ExactFloatsModel" "exponent" "I", .fieldLink RX1 44 "ExactFloatsModel" "bits" "J", .methodLink RX1 60 yX1_isZero, .static yX1_isZero, .initialized RX1, .code yX1_isZero cX1_isZero 2 (some .boolean), .constantLong RX1 23 (32640)] ++ wsX10)
def wsX1_two : List Cond := .code yX1_two cX1_two 5 (some .int) :: ([.methodLink RX1 78 yX1_isSize, .static yX1_isSize, .initialized RX1, .code yX1_isSize cX1_isSize 1 (some .boolean), .methodLink RX1 82 yX1_isRegister, .static yX1_isRegister, .code yX1_isRegister cX1_isRegister 1 (some .boolean), .methodLink RX1 85 yX1_in, .instanceMethod yX1_in, .selects RX1 yX1_in yX1_in, .code yX1_in cX1_in 3 (some .long), .fieldLink RX1 7 "ExactFloatsModel" "register" "[J", .constantLong RX1 17 (4294967295), .methodLink RX1 89 yX1_isReserved, .static yX1_isReserved, .code yX1_isReserved cX1_isReserved 2 (some .boolean), .constantLong RX1 19 (65408), .constantLong RX1 21 (32768)] ++ wsX10)
def wsX1_sum_r1 : List Cond := [Cond.methodLink RX1 92 yX1_two, Cond.instanceMethod yX1_two, Cond.selects RX1 yX1_two yX1_two, Cond.initialized RX1, Cond.code yX1_two cX1_two 5 (some .int), Cond.methodLink RX1 78 yX1_isSize, Cond.static yX1_isSize, Cond.code yX1_isSize cX1_isSize 1 (some .boolean), Cond.methodLink RX1 82 yX1_isRegister, Cond.static yX1_isRegister, Cond.code yX1_isRegister cX1_isRegister 1 (some .boolean), Cond.methodLink RX1 85 yX1_in, Cond.instanceMethod yX1_in, Cond.selects RX1 yX1_in yX1_in, Cond.code yX1_in cX1_in 3 (some .long), Cond.fieldLink RX1 7 "ExactFloatsModel" "register" "[J", Cond.constantLong RX1 17 (4294967295), Cond.methodLink RX1 89 yX1_isReserved, Cond.static yX1_isReserved, Cond.code yX1_isReserved cX1_isReserved 2 (some .boolean), Cond.constantLong RX1 19 (65408), Cond.constantLong RX1 21 (32768), Cond.methodLink RX1 96 yX1_added, Cond.instanceMethod yX1_added]
def wsX1_sum_r2 : List Cond := [Cond.selects RX1 yX1_added yX1_added, Cond.code yX1_added cX1_added 26 (some .long), Cond.fieldLink RX1 48 "ExactFloatsModel" "fault" "I", Cond.fieldLink RX1 51 "ExactFloatsModel" "cut" "Z", Cond.fieldLink RX1 29 "ExactFloatsModel" "minus" "Z", Cond.fieldLink RX1 34 "ExactFloatsModel" "exponent" "I", Cond.fieldLink RX1 44 "ExactFloatsModel" "bits" "J", Cond.methodLink RX1 60 yX1_isZero, Cond.static yX1_isZero, Cond.code yX1_isZero cX1_isZero 2 (some .boolean), Cond.constantLong RX1 23 (32640)]
def wsX1_sum : List Cond := .code yX1_sum cX1_sum 6 (some .int) :: ((wsX1_sum_r1 ++ wsX1_sum_r2) ++ wsX10)
def wsJ9_abs_067f4 : List Cond := .code yJ9_abs_067f4 cJ9_abs_067f4 2 (some .long) :: ([])
theorem inJ13 : ∀ w ∈ wsJ130, w ∈ lw_tbl := by decide +kernel
theorem inJ9 : ∀ w ∈ wsJ90, w ∈ lw_tbl := by decide +kernel
abbrev vwCl : List vw_C := [(RX0, TX0, 3), (RX1, TX1, 8)]
