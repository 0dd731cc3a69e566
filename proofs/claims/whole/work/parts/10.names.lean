-- ===== PART A: goes FIRST, ahead of the names: the tables' words, and 'selects' of the private methods out of them =====
/-- a private method of a class that the tables say can be made, by its rows of tables_1 -/
def lw_okq (q : MethodName × Nat) : Prop := (q.1.cls ≠ "java/lang/invoke/MethodHandle" ∧ q.1.cls ≠ "java/lang/invoke/VarHandle") ∧ Cond.instantiable q.1.cls q.2 ∈ tables_1 ∧ Cond.privateMethod q.1 ∈ tables_1 ∧ Cond.instanceMethod q.1 ∈ tables_1
theorem lw_p0 : lw_okq (⟨"ExactFloats", "refusalOf", "(IIII)I"⟩, 3) := ⟨⟨by decide +kernel, by decide +kernel⟩, List.mem_of_getElem? (i := 6) (by decide +kernel), List.mem_of_getElem? (i := 44) (by decide +kernel), List.mem_of_getElem? (i := 45) (by decide +kernel)⟩
theorem lw_p1 : lw_okq (⟨"ExactFloats", "isReserved", "(I)Z"⟩, 3) := ⟨⟨by decide +kernel, by decide +kernel⟩, List.mem_of_getElem? (i := 6) (by decide +kernel), List.mem_of_getElem? (i := 51) (by decide +kernel), List.mem_of_getElem? (i := 52) (by decide +kernel)⟩
theorem lw_p2 : lw_okq (⟨"ExactFloats", "valueIn", "(II)J"⟩, 3) := ⟨⟨by decide +kernel, by decide +kernel⟩, List.mem_of_getElem? (i := 6) (by decide +kernel), List.mem_of_getElem? (i := 57) (by decide +kernel), List.mem_of_getElem? (i := 58) (by decide +kernel)⟩
theorem lw_p3 : lw_okq (⟨"ExactFloats", "storeSum", "(IIJJ)I"⟩, 3) := ⟨⟨by decide +kernel, by decide +kernel⟩, List.mem_of_getElem? (i := 6) (by decide +kernel), List.mem_of_getElem? (i := 65) (by decide +kernel), List.mem_of_getElem? (i := 66) (by decide +kernel)⟩
theorem lw_p4 : lw_okq (⟨"ExactFloats", "storeValue", "(IIJ)I"⟩, 3) := ⟨⟨by decide +kernel, by decide +kernel⟩, List.mem_of_getElem? (i := 6) (by decide +kernel), List.mem_of_getElem? (i := 69) (by decide +kernel), List.mem_of_getElem? (i := 70) (by decide +kernel)⟩
theorem lw_p5 : lw_okq (⟨"ExactFloats", "storeZero", "(IZ)I"⟩, 3) := ⟨⟨by decide +kernel, by decide +kernel⟩, List.mem_of_getElem? (i := 6) (by decide +kernel), List.mem_of_getElem? (i := 73) (by decide +kernel), List.mem_of_getElem? (i := 74) (by decide +kernel)⟩
theorem lw_p6 : lw_okq (⟨"ExactFloats", "storeRounded", "(IIZIJ)I"⟩, 3) := ⟨⟨by decide +kernel, by decide +kernel⟩, List.mem_of_getElem? (i := 6) (by decide +kernel), List.mem_of_getElem? (i := 88) (by decide +kernel), List.mem_of_getElem? (i := 89) (by decide +kernel)⟩
theorem lw_p7 : lw_okq (⟨"ExactFloats", "storeProduct", "(IIJJ)I"⟩, 3) := ⟨⟨by decide +kernel, by decide +kernel⟩, List.mem_of_getElem? (i := 6) (by decide +kernel), List.mem_of_getElem? (i := 108) (by decide +kernel), List.mem_of_getElem? (i := 109) (by decide +kernel)⟩
theorem lw_p8 : lw_okq (⟨"ExactFloats", "storeQuotient", "(IIJJ)I"⟩, 3) := ⟨⟨by decide +kernel, by decide +kernel⟩, List.mem_of_getElem? (i := 6) (by decide +kernel), List.mem_of_getElem? (i := 121) (by decide +kernel), List.mem_of_getElem? (i := 122) (by decide +kernel)⟩
theorem lw_p9 : lw_okq (⟨"ExactFloatsModel", "two", "(IIII)I"⟩, 8) := ⟨⟨by decide +kernel, by decide +kernel⟩, List.mem_of_getElem? (i := 164) (by decide +kernel), List.mem_of_getElem? (i := 211) (by decide +kernel), List.mem_of_getElem? (i := 212) (by decide +kernel)⟩
theorem lw_p10 : lw_okq (⟨"ExactFloatsModel", "in", "(II)J"⟩, 8) := ⟨⟨by decide +kernel, by decide +kernel⟩, List.mem_of_getElem? (i := 164) (by decide +kernel), List.mem_of_getElem? (i := 221) (by decide +kernel), List.mem_of_getElem? (i := 222) (by decide +kernel)⟩
theorem lw_p11 : lw_okq (⟨"ExactFloatsModel", "added", "(IJJ)J"⟩, 8) := ⟨⟨by decide +kernel, by decide +kernel⟩, List.mem_of_getElem? (i := 164) (by decide +kernel), List.mem_of_getElem? (i := 231) (by decide +kernel), List.mem_of_getElem? (i := 232) (by decide +kernel)⟩
theorem lw_p12 : lw_okq (⟨"ExactFloatsModel", "take", "(IJ)V"⟩, 8) := ⟨⟨by decide +kernel, by decide +kernel⟩, List.mem_of_getElem? (i := 164) (by decide +kernel), List.mem_of_getElem? (i := 242) (by decide +kernel), List.mem_of_getElem? (i := 243) (by decide +kernel)⟩
theorem lw_p13 : lw_okq (⟨"ExactFloatsModel", "rounds", "(IZJIZ)J"⟩, 8) := ⟨⟨by decide +kernel, by decide +kernel⟩, List.mem_of_getElem? (i := 164) (by decide +kernel), List.mem_of_getElem? (i := 253) (by decide +kernel), List.mem_of_getElem? (i := 254) (by decide +kernel)⟩
theorem lw_p14 : lw_okq (⟨"ExactFloatsModel", "gives", "(JI)I"⟩, 8) := ⟨⟨by decide +kernel, by decide +kernel⟩, List.mem_of_getElem? (i := 164) (by decide +kernel), List.mem_of_getElem? (i := 258) (by decide +kernel), List.mem_of_getElem? (i := 259) (by decide +kernel)⟩
theorem lw_p15 : lw_okq (⟨"ExactFloatsModel", "one", "(III)I"⟩, 8) := ⟨⟨by decide +kernel, by decide +kernel⟩, List.mem_of_getElem? (i := 164) (by decide +kernel), List.mem_of_getElem? (i := 286) (by decide +kernel), List.mem_of_getElem? (i := 287) (by decide +kernel)⟩
def lw_privs_1 : List (MethodName × Nat) := [(⟨"ExactFloats", "refusalOf", "(IIII)I"⟩, 3), (⟨"ExactFloats", "isReserved", "(I)Z"⟩, 3), (⟨"ExactFloats", "valueIn", "(II)J"⟩, 3), (⟨"ExactFloats", "storeSum", "(IIJJ)I"⟩, 3), (⟨"ExactFloats", "storeValue", "(IIJ)I"⟩, 3), (⟨"ExactFloats", "storeZero", "(IZ)I"⟩, 3), (⟨"ExactFloats", "storeRounded", "(IIZIJ)I"⟩, 3), (⟨"ExactFloats", "storeProduct", "(IIJJ)I"⟩, 3), (⟨"ExactFloats", "storeQuotient", "(IIJJ)I"⟩, 3), (⟨"ExactFloatsModel", "two", "(IIII)I"⟩, 8), (⟨"ExactFloatsModel", "in", "(II)J"⟩, 8), (⟨"ExactFloatsModel", "added", "(IJJ)J"⟩, 8), (⟨"ExactFloatsModel", "take", "(IJ)V"⟩, 8), (⟨"ExactFloatsModel", "rounds", "(IZJIZ)J"⟩, 8), (⟨"ExactFloatsModel", "gives", "(JI)I"⟩, 8), (⟨"ExactFloatsModel", "one", "(III)I"⟩, 8)]
theorem lw_r1 : ∀ q ∈ lw_privs_1, lw_okq q := List.forall_mem_cons.mpr ⟨lw_p0, List.forall_mem_cons.mpr ⟨lw_p1, List.forall_mem_cons.mpr ⟨lw_p2, List.forall_mem_cons.mpr ⟨lw_p3, List.forall_mem_cons.mpr ⟨lw_p4, List.forall_mem_cons.mpr ⟨lw_p5, List.forall_mem_cons.mpr ⟨lw_p6, List.forall_mem_cons.mpr ⟨lw_p7, List.forall_mem_cons.mpr ⟨lw_p8, List.forall_mem_cons.mpr ⟨lw_p9, List.forall_mem_cons.mpr ⟨lw_p10, List.forall_mem_cons.mpr ⟨lw_p11, List.forall_mem_cons.mpr ⟨lw_p12, List.forall_mem_cons.mpr ⟨lw_p13, List.forall_mem_cons.mpr ⟨lw_p14, List.forall_mem_cons.mpr ⟨lw_p15, fun _ h => absurd h List.not_mem_nil⟩⟩⟩⟩⟩⟩⟩⟩⟩⟩⟩⟩⟩⟩⟩⟩
def lw_privs : List (MethodName × Nat) := lw_privs_1
def lw_tbl : List Cond := k2_sels lw_privs ++ tables_1
theorem lw_privs_ok : ∀ q ∈ lw_privs, lw_okq q := lw_r1

/-! ===== BEGIN words of one list among another's, by their places ===== -/
theorem goodIn_r {big : List Cond} (ws : List Cond) (ps : List Nat) (hp : ws = ps.filterMap (fun i => big[i]?)) (h : ws.all goodWord = true) : GoodIn big ws := by
  intro w hw
  have h1 := List.all_eq_true.mp h w hw
  rw [hp] at hw
  obtain ⟨i, -, hi⟩ := List.mem_filterMap.mp hw
  have hm : w ∈ big := by first | exact List.mem_of_getElem? hi | exact List.getElem?_mem hi
  exact ⟨hm, good_of_word h1⟩
theorem goodIn_app {big a b : List Cond} (ha : GoodIn big a) (hb : GoodIn big b) : GoodIn big (a ++ b) := fun w h => (List.mem_append.mp h).elim (ha w) (hb w)
theorem goodIn_ca {big a b : List Cond} {c : Cond} (ha : GoodIn big (c :: a)) (hb : GoodIn big b) : GoodIn big (c :: (a ++ b)) := fun w h => (List.mem_cons.mp h).elim (fun e => ha w (List.mem_cons.mpr (Or.inl e))) (fun h => (List.mem_append.mp h).elim (fun h => ha w (List.mem_cons.mpr (Or.inr h))) (hb w))
theorem goodIn_sub {big ws : List Cond} (hm : ∀ w ∈ ws, w ∈ big) (h : ws.all goodWord = true) : GoodIn big ws := fun w hw => ⟨hm w hw, good_of_word (List.all_eq_true.mp h w hw)⟩
/-! ===== END ===== -/

/-! ===== BEGIN printed: names, fields, word lists, decode rows ===== -/
def RX0 : String := "ExactFloats"
def TX0 : u_T := fun k => match k with
  | 0 => ("ExactFloats", "registers", "[J", true)
  | 1 => ("ExactFloats", "underflowAsked", "Z", false)
  | _ => ("ExactFloats", "lastWasInexact", "Z", false)
def tyX0 : Nat → FieldType := fun k => match k with
  | 0 => .array .long
  | 1 => .boolean
  | _ => .boolean
abbrev wsX00 : List Cond := u_ws RX0 TX0 3
theorem nmX0 : ∀ a, a < 3 → ∀ b, b < 3 → a ≠ b → (TX0 a).2.1 ≠ (TX0 b).2.1 := by decide +kernel
theorem tyX0_ok : ∀ k, k < 3 → parseFieldDescriptor (TX0 k).2.2.1 = some (tyX0 k) := by decide +kernel
abbrev cX0_init : ByteArray := prog_1_method_1_code
def yX0_init : MethodName := ⟨RX0, "<init>", "()V"⟩
abbrev cX0_set : ByteArray := prog_1_method_2_code
def yX0_set : MethodName := ⟨RX0, "set", "(IJ)Z"⟩
abbrev cX0_get : ByteArray := prog_1_method_3_code
def yX0_get : MethodName := ⟨RX0, "get", "(I)J"⟩
abbrev cX0_under : ByteArray := prog_1_method_4_code
def yX0_under : MethodName := ⟨RX0, "under", "(Z)V"⟩
abbrev cX0_sum : ByteArray := prog_1_method_5_code
def yX0_sum : MethodName := ⟨RX0, "sum", "(IIII)I"⟩
abbrev cX0_less : ByteArray := prog_1_method_6_code
def yX0_less : MethodName := ⟨RX0, "less", "(IIII)I"⟩
abbrev cX0_product : ByteArray := prog_1_method_7_code
def yX0_product : MethodName := ⟨RX0, "product", "(IIII)I"⟩
abbrev cX0_quotient : ByteArray := prog_1_method_8_code
def yX0_quotient : MethodName := ⟨RX0, "quotient", "(IIII)I"⟩
abbrev cX0_negative : ByteArray := prog_1_method_9_code
def yX0_negative : MethodName := ⟨RX0, "negative", "(III)I"⟩
abbrev cX0_compare : ByteArray := prog_1_method_10_code
def yX0_compare : MethodName := ⟨RX0, "compare", "(III)I"⟩
abbrev cX0_change : ByteArray := prog_1_method_11_code
def yX0_change : MethodName := ⟨RX0, "change", "(III)I"⟩
abbrev cX0_whole : ByteArray := prog_1_method_12_code
def yX0_whole : MethodName := ⟨RX0, "whole", "(IIIZI)I"⟩
abbrev cX0_number : ByteArray := prog_1_method_13_code
def yX0_number : MethodName := ⟨RX0, "number", "(III)I"⟩
abbrev cX0_lost : ByteArray := prog_1_method_14_code
def yX0_lost : MethodName := ⟨RX0, "lost", "()Z"⟩
abbrev cX0_isRegister : ByteArray := prog_1_method_15_code
def yX0_isRegister : MethodName := ⟨RX0, "isRegister", "(I)Z"⟩
abbrev cX0_isSize : ByteArray := prog_1_method_16_code
def yX0_isSize : MethodName := ⟨RX0, "isSize", "(I)Z"⟩
abbrev cX0_isReserved : ByteArray := prog_1_method_17_code
def yX0_isReserved : MethodName := ⟨RX0, "isReserved", "(I)Z"⟩
abbrev cX0_refusalOf : ByteArray := prog_1_method_18_code
def yX0_refusalOf : MethodName := ⟨RX0, "refusalOf", "(IIII)I"⟩
abbrev cX0_flagsOf : ByteArray := prog_1_method_19_code
def yX0_flagsOf : MethodName := ⟨RX0, "flagsOf", "(J)I"⟩
abbrev cX0_valueIn : ByteArray := prog_1_method_20_code
def yX0_valueIn : MethodName := ⟨RX0, "valueIn", "(II)J"⟩
abbrev cX0_bitsOf : ByteArray := prog_1_method_21_code
def yX0_bitsOf : MethodName := ⟨RX0, "bitsOf", "(ZIJ)J"⟩
abbrev cX0_exponentOf : ByteArray := prog_1_method_22_code
def yX0_exponentOf : MethodName := ⟨RX0, "exponentOf", "(J)I"⟩
abbrev cX0_significandOf : ByteArray := prog_1_method_23_code
def yX0_significandOf : MethodName := ⟨RX0, "significandOf", "(J)J"⟩
abbrev cX0_storeZero : ByteArray := prog_1_method_24_code
def yX0_storeZero : MethodName := ⟨RX0, "storeZero", "(IZ)I"⟩
abbrev cX0_storeValue : ByteArray := prog_1_method_25_code
def yX0_storeValue : MethodName := ⟨RX0, "storeValue", "(IIJ)I"⟩
abbrev cX0_storeRounded : ByteArray := prog_1_method_26_code
def yX0_storeRounded : MethodName := ⟨RX0, "storeRounded", "(IIZIJ)I"⟩
abbrev cX0_storeSum : ByteArray := prog_1_method_27_code
def yX0_storeSum : MethodName := ⟨RX0, "storeSum", "(IIJJ)I"⟩
abbrev cX0_shiftedDown : ByteArray := prog_1_method_28_code
def yX0_shiftedDown : MethodName := ⟨RX0, "shiftedDown", "(JI)J"⟩
abbrev cX0_storeProduct : ByteArray := prog_1_method_29_code
def yX0_storeProduct : MethodName := ⟨RX0, "storeProduct", "(IIJJ)I"⟩
abbrev cX0_wideProduct : ByteArray := prog_1_method_30_code
def yX0_wideProduct : MethodName := ⟨RX0, "wideProduct", "(JJ)J"⟩
abbrev cX0_storeQuotient : ByteArray := prog_1_method_31_code
def yX0_storeQuotient : MethodName := ⟨RX0, "storeQuotient", "(IIJJ)I"⟩
abbrev cX0_wideQuotient : ByteArray := prog_1_method_32_code
def yX0_wideQuotient : MethodName := ⟨RX0, "wideQuotient", "(JJ)J"⟩
abbrev cX0_wholeOf : ByteArray := prog_1_method_33_code
def yX0_wholeOf : MethodName := ⟨RX0, "wholeOf", "(JZ)J"⟩
abbrev cX0_wholeSize : ByteArray := prog_1_method_34_code
def yX0_wholeSize : MethodName := ⟨RX0, "wholeSize", "(JIZ)J"⟩
def RX1 : String := "ExactFloatsModel"
def TX1 : u_T := fun k => match k with
  | 0 => ("ExactFloatsModel", "register", "[J", true)
  | 1 => ("ExactFloatsModel", "asked", "Z", false)
  | 2 => ("ExactFloatsModel", "isLost", "Z", false)
  | 3 => ("ExactFloatsModel", "minus", "Z", false)
  | 4 => ("ExactFloatsModel", "exponent", "I", false)
  | 5 => ("ExactFloatsModel", "bits", "J", false)
  | 6 => ("ExactFloatsModel", "fault", "I", false)
  | _ => ("ExactFloatsModel", "cut", "Z", false)
def tyX1 : Nat → FieldType := fun k => match k with
  | 0 => .array .long
  | 1 => .boolean
  | 2 => .boolean
  | 3 => .boolean
  | 4 => .int
  | 5 => .long
  | 6 => .int
  | _ => .boolean
abbrev wsX10 : List Cond := u_ws RX1 TX1 8
theorem nmX1 : ∀ a, a < 8 → ∀ b, b < 8 → a ≠ b → (TX1 a).2.1 ≠ (TX1 b).2.1 := by decide +kernel
theorem tyX1_ok : ∀ k, k < 8 → parseFieldDescriptor (TX1 k).2.2.1 = some (tyX1 k) := by decide +kernel
abbrev cX1_init : ByteArray := prog_3_method_1_code
def yX1_init : MethodName := ⟨RX1, "<init>", "()V"⟩
abbrev cX1_set : ByteArray := prog_3_method_2_code
def yX1_set : MethodName := ⟨RX1, "set", "(IJ)Z"⟩
abbrev cX1_get : ByteArray := prog_3_method_3_code
def yX1_get : MethodName := ⟨RX1, "get", "(I)J"⟩
abbrev cX1_under : ByteArray := prog_3_method_4_code
def yX1_under : MethodName := ⟨RX1, "under", "(Z)V"⟩
abbrev cX1_isSize : ByteArray := prog_3_method_5_code
def yX1_isSize : MethodName := ⟨RX1, "isSize", "(I)Z"⟩
abbrev cX1_isRegister : ByteArray := prog_3_method_6_code
def yX1_isRegister : MethodName := ⟨RX1, "isRegister", "(I)Z"⟩
abbrev cX1_in : ByteArray := prog_3_method_8_code
def yX1_in : MethodName := ⟨RX1, "in", "(II)J"⟩
abbrev cX1_isReserved : ByteArray := prog_3_method_9_code
def yX1_isReserved : MethodName := ⟨RX1, "isReserved", "(J)Z"⟩
abbrev cX1_isZero : ByteArray := prog_3_method_10_code
def yX1_isZero : MethodName := ⟨RX1, "isZero", "(J)Z"⟩
abbrev cX1_added : ByteArray := prog_3_method_17_code
def yX1_added : MethodName := ⟨RX1, "added", "(IJJ)J"⟩
abbrev cX1_two : ByteArray := prog_3_method_18_code
def yX1_two : MethodName := ⟨RX1, "two", "(IIII)I"⟩
abbrev cX1_sum : ByteArray := prog_3_method_19_code
def yX1_sum : MethodName := ⟨RX1, "sum", "(IIII)I"⟩
def RJ13 : String := "java/lang/Long"
def TJ13 : u_T := fun k => match k with
  | _ => ("", "", "", false)
def tyJ13 : Nat → FieldType := fun k => match k with
  | _ => .int
abbrev wsJ130 : List Cond := u_ws RJ13 TJ13 0
theorem nmJ13 : ∀ a, a < 0 → ∀ b, b < 0 → a ≠ b → (TJ13 a).2.1 ≠ (TJ13 b).2.1 := by decide +kernel
theorem tyJ13_ok : ∀ k, k < 0 → parseFieldDescriptor (TJ13 k).2.2.1 = some (tyJ13 k) := by decide +kernel
abbrev cJ13_compare_74951 : ByteArray := prog_4_method_42_code
def yJ13_compare_74951 : MethodName := ⟨RJ13, "compare", "(JJ)I"⟩
def RJ9 : String := "java/lang/Math"
def TJ9 : u_T := fun k => match k with
  | _ => ("", "", "", false)
def tyJ9 : Nat → FieldType := fun k => match k with
  | _ => .int
abbrev wsJ90 : List Cond := u_ws RJ9 TJ9 0
theorem nmJ9 : ∀ a, a < 0 → ∀ b, b < 0 → a ≠ b → (TJ9 a).2.1 ≠ (TJ9 b).2.1 := by decide +kernel
theorem tyJ9_ok : ∀ k, k < 0 → parseFieldDescriptor (TJ9 k).2.2.1 = some (tyJ9 k) := by decide +kernel
abbrev cJ9_abs_067f4 : ByteArray := prog_5_method_61_code
def yJ9_abs_067f4 : MethodName := ⟨RJ9, "abs", "(J)J"⟩
def RL : String := "ExactFloatsLaw"
abbrev cL_law : ByteArray := code
def yL_law : MethodName := ⟨RL, "law", "([I)Z"⟩
def wsX0_init : List Cond := .code yX0_init cX0_init 1 none :: ([.methodLink RX0 3 objectInit, .instanceMethod objectInit, .code objectInit ⟨#[0xb1]⟩ 1 none, .arrayClass .long, .fieldLink RX0 9 "ExactFloats" "registers" "[J", .fieldLink RX0 13 "ExactFloats" "underflowAsked" "Z", .fieldLink RX0 17 "ExactFloats" "lastWasInexact" "Z"] ++ wsX00)
def wsX0_isRegister : List Cond := .code yX0_isRegister cX0_isRegister 1 (some .boolean) :: ([])
def wsX0_set : List Cond := .code yX0_set cX0_set 4 (some .boolean) :: ([.fieldLink RX0 9 "ExactFloats" "registers" "[J", .methodLink RX0 20 yX0_isRegister, .static yX0_isRegister, .initialized RX0, .code yX0_isRegister cX0_isRegister 1 (some .boolean)] ++ wsX00)
def wsX0_get : List Cond := .code yX0_get cX0_get 2 (some .long) :: ([.fieldLink RX0 9 "ExactFloats" "registers" "[J", .methodLink RX0 20 yX0_isRegister, .static yX0_isRegister, .initialized RX0, .code yX0_isRegister cX0_isRegister 1 (some .boolean)] ++ wsX00)
def wsX0_under : List Cond := .code yX0_under cX0_under 2 none :: ([.fieldLink RX0 13 "ExactFloats" "underflowAsked" "Z"] ++ wsX00)
def wsX0_isSize : List Cond := .code yX0_isSize cX0_isSize 1 (some .boolean) :: ([])
def wsX0_isReserved : List Cond := .code yX0_isReserved cX0_isReserved 2 (some .boolean) :: ([.fieldLink RX0 9 "ExactFloats" "registers" "[J", .constantLong RX0 73 (65408), .constantLong RX0 75 (32768)] ++ wsX00)
def wsX0_refusalOf : List Cond := .code yX0_refusalOf cX0_refusalOf 5 (some .int) :: ([.methodLink RX0 60 yX0_isSize, .static yX0_isSize, .initialized RX0, .code yX0_isSize cX0_isSize 1 (some .boolean), .methodLink RX0 20 yX0_isRegister, .static yX0_isRegister, .code yX0_isRegister cX0_isRegister 1 (some .boolean), .methodLink RX0 77 yX0_isReserved, .instanceMethod yX0_isReserved, .selects RX0 yX0_isReserved yX0_isReserved, .code yX0_isReserved cX0_isReserved 2 (some .boolean), .fieldLink RX0 9 "ExactFloats" "registers" "[J", .constantLong RX0 73 (65408), .constantLong RX0 75 (32768)] ++ wsX00)
def wsX0_valueIn : List Cond := .code yX0_valueIn cX0_valueIn 11 (some .long) :: ([.fieldLink RX0 9 "ExactFloats" "registers" "[J", .constantLong RX0 80 (4294967295), .constantLong RX0 82 (255), .constantLong RX0 84 (127), .constantLong RX0 86 (65535), .constantLong RX0 75 (32768)] ++ wsX00)
def wsX0_storeZero : List Cond := .code yX0_storeZero cX0_storeZero 3 (some .int) :: ([.fieldLink RX0 9 "ExactFloats" "registers" "[J", .fieldLink RX0 17 "ExactFloats" "lastWasInexact" "Z"] ++ wsX00)
def wsX0_exponentOf : List Cond := .code yX0_exponentOf cX0_exponentOf 2 (some .int) :: ([.methodLink RX0 63 Lib.MathLoose.abs_long.x, .static Lib.MathLoose.abs_long.x, .initialized "java/lang/Math", .code Lib.MathLoose.abs_long.x Lib.MathLoose.abs_long.code 2 (some .long)])
def wsX0_significandOf : List Cond := .code yX0_significandOf cX0_significandOf 2 (some .long) :: ([.methodLink RX0 63 Lib.MathLoose.abs_long.x, .static Lib.MathLoose.abs_long.x, .initialized "java/lang/Math", .code Lib.MathLoose.abs_long.x Lib.MathLoose.abs_long.code 2 (some .long), .constantLong RX0 89 (36028797018963967), .constantLong RX0 91 (36028797018963968)])
def wsX0_bitsOf : List Cond := .code yX0_bitsOf cX0_bitsOf 4 (some .long) :: ([.constant RX0 88 (32768), .constantLong RX0 86 (65535)])
def wsX0_storeRounded : List Cond := .code yX0_storeRounded cX0_storeRounded 12 (some .int) :: ([.constantLong RX0 103 (4611686018427387904), .fieldLink RX0 13 "ExactFloats" "underflowAsked" "Z", .fieldLink RX0 9 "ExactFloats" "registers" "[J", .constantLong RX0 89 (36028797018963967), .fieldLink RX0 17 "ExactFloats" "lastWasInexact" "Z", .methodLink RX0 93 yX0_storeZero, .instanceMethod yX0_storeZero, .selects RX0 yX0_storeZero yX0_storeZero, .initialized RX0, .code yX0_storeZero cX0_storeZero 3 (some .int), .methodLink RX0 105 yX0_bitsOf, .static yX0_bitsOf, .code yX0_bitsOf cX0_bitsOf 4 (some .long), .constant RX0 88 (32768), .constantLong RX0 86 (65535)] ++ wsX00)
def wsX0_storeValue_r1 : List Cond := [Cond.methodLink RX0 93 yX0_storeZero, Cond.instanceMethod yX0_storeZero, Cond.selects RX0 yX0_storeZero yX0_storeZero, Cond.initialized RX0, Cond.code yX0_storeZero cX0_storeZero 3 (some .int), Cond.fieldLink RX0 9 "ExactFloats" "registers" "[J", Cond.fieldLink RX0 17 "ExactFloats" "lastWasInexact" "Z", Cond.methodLink RX0 97 yX0_exponentOf, Cond.static yX0_exponentOf, Cond.code yX0_exponentOf cX0_exponentOf 2 (some .int), Cond.methodLink RX0 63 Lib.MathLoose.abs_long.x, Cond.static Lib.MathLoose.abs_long.x, Cond.initialized "java/lang/Math", Cond.code Lib.MathLoose.abs_long.x Lib.MathLoose.abs_long.code 2 (some .long), Cond.methodLink RX0 100 yX0_significandOf, Cond.static yX0_significandOf, Cond.code yX0_significandOf cX0_significandOf 2 (some .long), Cond.constantLong RX0 89 (36028797018963967), Cond.constantLong RX0 91 (36028797018963968), Cond.methodLink RX0 69 yX0_storeRounded, Cond.instanceMethod yX0_storeRounded, Cond.selects RX0 yX0_storeRounded yX0_storeRounded, Cond.code yX0_storeRounded cX0_storeRounded 12 (some .int), Cond.constantLong RX0 103 (4611686018427387904)]
def wsX0_storeValue_r2 : List Cond := [Cond.fieldLink RX0 13 "ExactFloats" "underflowAsked" "Z", Cond.methodLink RX0 105 yX0_bitsOf, Cond.static yX0_bitsOf, Cond.code yX0_bitsOf cX0_bitsOf 4 (some .long), Cond.constant RX0 88 (32768), Cond.constantLong RX0 86 (65535)]
def wsX0_storeValue : List Cond := .code yX0_storeValue cX0_storeValue 5 (some .int) :: ((wsX0_storeValue_r1 ++ wsX0_storeValue_r2) ++ wsX00)
def wsX0_shiftedDown : List Cond := .code yX0_shiftedDown cX0_shiftedDown 5 (some .long) :: ([])
def wsX0_storeSum_r1 : List Cond := [Cond.methodLink RX0 63 Lib.MathLoose.abs_long.x, Cond.static Lib.MathLoose.abs_long.x, Cond.initialized "java/lang/Math", Cond.code Lib.MathLoose.abs_long.x Lib.MathLoose.abs_long.code 2 (some .long), Cond.methodLink RX0 42 yX0_storeValue, Cond.instanceMethod yX0_storeValue, Cond.selects RX0 yX0_storeValue yX0_storeValue, Cond.initialized RX0, Cond.code yX0_storeValue cX0_storeValue 5 (some .int), Cond.methodLink RX0 93 yX0_storeZero, Cond.instanceMethod yX0_storeZero, Cond.selects RX0 yX0_storeZero yX0_storeZero, Cond.code yX0_storeZero cX0_storeZero 3 (some .int), Cond.fieldLink RX0 9 "ExactFloats" "registers" "[J", Cond.fieldLink RX0 17 "ExactFloats" "lastWasInexact" "Z", Cond.methodLink RX0 97 yX0_exponentOf, Cond.static yX0_exponentOf, Cond.code yX0_exponentOf cX0_exponentOf 2 (some .int), Cond.methodLink RX0 100 yX0_significandOf, Cond.static yX0_significandOf, Cond.code yX0_significandOf cX0_significandOf 2 (some .long), Cond.constantLong RX0 89 (36028797018963967), Cond.constantLong RX0 91 (36028797018963968), Cond.methodLink RX0 69 yX0_storeRounded]
def wsX0_storeSum_r2 : List Cond := [Cond.instanceMethod yX0_storeRounded, Cond.selects RX0 yX0_storeRounded yX0_storeRounded, Cond.code yX0_storeRounded cX0_storeRounded 12 (some .int), Cond.constantLong RX0 103 (4611686018427387904), Cond.fieldLink RX0 13 "ExactFloats" "underflowAsked" "Z", Cond.methodLink RX0 105 yX0_bitsOf, Cond.static yX0_bitsOf, Cond.code yX0_bitsOf cX0_bitsOf 4 (some .long), Cond.constant RX0 88 (32768), Cond.constantLong RX0 86 (65535), Cond.methodLink RX0 109 yX0_shiftedDown, Cond.static yX0_shiftedDown, Cond.code yX0_shiftedDown cX0_shiftedDown 5 (some .long)]
def wsX0_storeSum : List Cond := .code yX0_storeSum cX0_storeSum 21 (some .int) :: ((wsX0_storeSum_r1 ++ wsX0_storeSum_r2) ++ wsX00)
def wsX0_sum_r1 : List Cond := [Cond.methodLink RX0 24 yX0_refusalOf, Cond.instanceMethod yX0_refusalOf, Cond.selects RX0 yX0_refusalOf yX0_refusalOf, Cond.initialized RX0, Cond.code yX0_refusalOf cX0_refusalOf 5 (some .int), Cond.methodLink RX0 60 yX0_isSize, Cond.static yX0_isSize, Cond.code yX0_isSize cX0_isSize 1 (some .boolean), Cond.methodLink RX0 20 yX0_isRegister, Cond.static yX0_isRegister, Cond.code yX0_isRegister cX0_isRegister 1 (some .boolean), Cond.methodLink RX0 77 yX0_isReserved, Cond.instanceMethod yX0_isReserved, Cond.selects RX0 yX0_isReserved yX0_isReserved, Cond.code yX0_isReserved cX0_isReserved 2 (some .boolean), Cond.fieldLink RX0 9 "ExactFloats" "registers" "[J", Cond.constantLong RX0 73 (65408), Cond.constantLong RX0 75 (32768), Cond.methodLink RX0 28 yX0_valueIn, Cond.instanceMethod yX0_valueIn, Cond.selects RX0 yX0_valueIn yX0_valueIn, Cond.code yX0_valueIn cX0_valueIn 11 (some .long), Cond.constantLong RX0 80 (4294967295), Cond.constantLong RX0 82 (255)]
def wsX0_sum_r2 : List Cond := [Cond.constantLong RX0 84 (127), Cond.constantLong RX0 86 (65535), Cond.methodLink RX0 32 yX0_storeSum, Cond.instanceMethod yX0_storeSum, Cond.selects RX0 yX0_storeSum yX0_storeSum, Cond.code yX0_storeSum cX0_storeSum 21 (some .int), Cond.methodLink RX0 63 Lib.MathLoose.abs_long.x, Cond.static Lib.MathLoose.abs_long.x, Cond.initialized "java/lang/Math", Cond.code Lib.MathLoose.abs_long.x Lib.MathLoose.abs_long.code 2 (some .long), Cond.methodLink RX0 42 yX0_storeValue, Cond.instanceMethod yX0_storeValue, Cond.selects RX0 yX0_storeValue yX0_storeValue, Cond.code yX0_storeValue cX0_storeValue 5 (some .int), Cond.methodLink RX0 93 yX0_storeZero, Cond.instanceMethod yX0_storeZero, Cond.selects RX0 yX0_storeZero yX0_storeZero, Cond.code yX0_storeZero cX0_storeZero 3 (some .int), Cond.fieldLink RX0 17 "ExactFloats" "lastWasInexact" "Z", Cond.methodLink RX0 97 yX0_exponentOf, Cond.static yX0_exponentOf, Cond.code yX0_exponentOf cX0_exponentOf 2 (some .int), Cond.methodLink RX0 100 yX0_significandOf, Cond.static yX0_significandOf]
def wsX0_sum_r3 : List Cond := [Cond.code yX0_significandOf cX0_significandOf 2 (some .long), Cond.constantLong RX0 89 (36028797018963967), Cond.constantLong RX0 91 (36028797018963968), Cond.methodLink RX0 69 yX0_storeRounded, Cond.instanceMethod yX0_storeRounded, Cond.selects RX0 yX0_storeRounded yX0_storeRounded, Cond.code yX0_storeRounded cX0_storeRounded 12 (some .int), Cond.constantLong RX0 103 (4611686018427387904), Cond.fieldLink RX0 13 "ExactFloats" "underflowAsked" "Z", Cond.methodLink RX0 105 yX0_bitsOf, Cond.static yX0_bitsOf, Cond.code yX0_bitsOf cX0_bitsOf 4 (some .long), Cond.constant RX0 88 (32768), Cond.methodLink RX0 109 yX0_shiftedDown, Cond.static yX0_shiftedDown, Cond.code yX0_shiftedDown cX0_shiftedDown 5 (some .long)]
def wsX0_sum : List Cond := .code yX0_sum cX0_sum 6 (some .int) :: ((wsX0_sum_r1 ++ (wsX0_sum_r2 ++ wsX0_sum_r3)) ++ wsX00)
def wsX0_less_r1 : List Cond := [Cond.methodLink RX0 24 yX0_refusalOf, Cond.instanceMethod yX0_refusalOf, Cond.selects RX0 yX0_refusalOf yX0_refusalOf, Cond.initialized RX0, Cond.code yX0_refusalOf cX0_refusalOf 5 (some .int), Cond.methodLink RX0 60 yX0_isSize, Cond.static yX0_isSize, Cond.code yX0_isSize cX0_isSize 1 (some .boolean), Cond.methodLink RX0 20 yX0_isRegister, Cond.static yX0_isRegister, Cond.code yX0_isRegister cX0_isRegister 1 (some .boolean), Cond.methodLink RX0 77 yX0_isReserved, Cond.instanceMethod yX0_isReserved, Cond.selects RX0 yX0_isReserved yX0_isReserved, Cond.code yX0_isReserved cX0_isReserved 2 (some .boolean), Cond.fieldLink RX0 9 "ExactFloats" "registers" "[J", Cond.constantLong RX0 73 (65408), Cond.constantLong RX0 75 (32768), Cond.methodLink RX0 28 yX0_valueIn, Cond.instanceMethod yX0_valueIn, Cond.selects RX0 yX0_valueIn yX0_valueIn, Cond.code yX0_valueIn cX0_valueIn 11 (some .long), Cond.constantLong RX0 80 (4294967295), Cond.constantLong RX0 82 (255)]
def wsX0_less_r2 : List Cond := [Cond.constantLong RX0 84 (127), Cond.constantLong RX0 86 (65535), Cond.methodLink RX0 32 yX0_storeSum, Cond.instanceMethod yX0_storeSum, Cond.selects RX0 yX0_storeSum yX0_storeSum, Cond.code yX0_storeSum cX0_storeSum 21 (some .int), Cond.methodLink RX0 63 Lib.MathLoose.abs_long.x, Cond.static Lib.MathLoose.abs_long.x, Cond.initialized "java/lang/Math", Cond.code Lib.MathLoose.abs_long.x Lib.MathLoose.abs_long.code 2 (some .long), Cond.methodLink RX0 42 yX0_storeValue, Cond.instanceMethod yX0_storeValue, Cond.selects RX0 yX0_storeValue yX0_storeValue, Cond.code yX0_storeValue cX0_storeValue 5 (some .int), Cond.methodLink RX0 93 yX0_storeZero, Cond.instanceMethod yX0_storeZero, Cond.selects RX0 yX0_storeZero yX0_storeZero, Cond.code yX0_storeZero cX0_storeZero 3 (some .int), Cond.fieldLink RX0 17 "ExactFloats" "lastWasInexact" "Z", Cond.methodLink RX0 97 yX0_exponentOf, Cond.static yX0_exponentOf, Cond.code yX0_exponentOf cX0_exponentOf 2 (some .int), Cond.methodLink RX0 100 yX0_significandOf, Cond.static yX0_significandOf]
def wsX0_less_r3 : List Cond := [Cond.code yX0_significandOf cX0_significandOf 2 (some .long), Cond.constantLong RX0 89 (36028797018963967), Cond.constantLong RX0 91 (36028797018963968), Cond.methodLink RX0 69 yX0_storeRounded, Cond.instanceMethod yX0_storeRounded, Cond.selects RX0 yX0_storeRounded yX0_storeRounded, Cond.code yX0_storeRounded cX0_storeRounded 12 (some .int), Cond.constantLong RX0 103 (4611686018427387904), Cond.fieldLink RX0 13 "ExactFloats" "underflowAsked" "Z", Cond.methodLink RX0 105 yX0_bitsOf, Cond.static yX0_bitsOf, Cond.code yX0_bitsOf cX0_bitsOf 4 (some .long), Cond.constant RX0 88 (32768), Cond.methodLink RX0 109 yX0_shiftedDown, Cond.static yX0_shiftedDown, Cond.code yX0_shiftedDown cX0_shiftedDown 5 (some .long)]
def wsX0_less : List Cond := .code yX0_less cX0_less 6 (some .int) :: ((wsX0_less_r1 ++ (wsX0_less_r2 ++ wsX0_less_r3)) ++ wsX00)
def wsX0_wideProduct : List Cond := .code yX0_wideProduct cX0_wideProduct 23 (some .long) :: ([.constantLong RX0 117 (268435455), .constantLong RX0 119 (72057594037927935)])
def wsX0_storeProduct_r1 : List Cond := [Cond.methodLink RX0 93 yX0_storeZero, Cond.instanceMethod yX0_storeZero, Cond.selects RX0 yX0_storeZero yX0_storeZero, Cond.initialized RX0, Cond.code yX0_storeZero cX0_storeZero 3 (some .int), Cond.fieldLink RX0 9 "ExactFloats" "registers" "[J", Cond.fieldLink RX0 17 "ExactFloats" "lastWasInexact" "Z", Cond.methodLink RX0 100 yX0_significandOf, Cond.static yX0_significandOf, Cond.code yX0_significandOf cX0_significandOf 2 (some .long), Cond.methodLink RX0 63 Lib.MathLoose.abs_long.x, Cond.static Lib.MathLoose.abs_long.x, Cond.initialized "java/lang/Math", Cond.code Lib.MathLoose.abs_long.x Lib.MathLoose.abs_long.code 2 (some .long), Cond.constantLong RX0 89 (36028797018963967), Cond.constantLong RX0 91 (36028797018963968), Cond.methodLink RX0 113 yX0_wideProduct, Cond.static yX0_wideProduct, Cond.code yX0_wideProduct cX0_wideProduct 23 (some .long), Cond.constantLong RX0 117 (268435455), Cond.constantLong RX0 119 (72057594037927935), Cond.methodLink RX0 97 yX0_exponentOf, Cond.static yX0_exponentOf, Cond.code yX0_exponentOf cX0_exponentOf 2 (some .int)]
def wsX0_storeProduct_r2 : List Cond := [Cond.methodLink RX0 69 yX0_storeRounded, Cond.instanceMethod yX0_storeRounded, Cond.selects RX0 yX0_storeRounded yX0_storeRounded, Cond.code yX0_storeRounded cX0_storeRounded 12 (some .int), Cond.constantLong RX0 103 (4611686018427387904), Cond.fieldLink RX0 13 "ExactFloats" "underflowAsked" "Z", Cond.methodLink RX0 105 yX0_bitsOf, Cond.static yX0_bitsOf, Cond.code yX0_bitsOf cX0_bitsOf 4 (some .long), Cond.constant RX0 88 (32768), Cond.constantLong RX0 86 (65535)]
def wsX0_storeProduct : List Cond := .code yX0_storeProduct cX0_storeProduct 9 (some .int) :: ((wsX0_storeProduct_r1 ++ wsX0_storeProduct_r2) ++ wsX00)
def wsX0_product_r1 : List Cond := [Cond.methodLink RX0 24 yX0_refusalOf, Cond.instanceMethod yX0_refusalOf, Cond.selects RX0 yX0_refusalOf yX0_refusalOf, Cond.initialized RX0, Cond.code yX0_refusalOf cX0_refusalOf 5 (some .int), Cond.methodLink RX0 60 yX0_isSize, Cond.static yX0_isSize, Cond.code yX0_isSize cX0_isSize 1 (some .boolean), Cond.methodLink RX0 20 yX0_isRegister, Cond.static yX0_isRegister, Cond.code yX0_isRegister cX0_isRegister 1 (some .boolean), Cond.methodLink RX0 77 yX0_isReserved, Cond.instanceMethod yX0_isReserved, Cond.selects RX0 yX0_isReserved yX0_isReserved, Cond.code yX0_isReserved cX0_isReserved 2 (some .boolean), Cond.fieldLink RX0 9 "ExactFloats" "registers" "[J", Cond.constantLong RX0 73 (65408), Cond.constantLong RX0 75 (32768), Cond.methodLink RX0 28 yX0_valueIn, Cond.instanceMethod yX0_valueIn, Cond.selects RX0 yX0_valueIn yX0_valueIn, Cond.code yX0_valueIn cX0_valueIn 11 (some .long), Cond.constantLong RX0 80 (4294967295), Cond.constantLong RX0 82 (255)]
def wsX0_product_r2 : List Cond := [Cond.constantLong RX0 84 (127), Cond.constantLong RX0 86 (65535), Cond.methodLink RX0 36 yX0_storeProduct, Cond.instanceMethod yX0_storeProduct, Cond.selects RX0 yX0_storeProduct yX0_storeProduct, Cond.code yX0_storeProduct cX0_storeProduct 9 (some .int), Cond.methodLink RX0 93 yX0_storeZero, Cond.instanceMethod yX0_storeZero, Cond.selects RX0 yX0_storeZero yX0_storeZero, Cond.code yX0_storeZero cX0_storeZero 3 (some .int), Cond.fieldLink RX0 17 "ExactFloats" "lastWasInexact" "Z", Cond.methodLink RX0 100 yX0_significandOf, Cond.static yX0_significandOf, Cond.code yX0_significandOf cX0_significandOf 2 (some .long), Cond.methodLink RX0 63 Lib.MathLoose.abs_long.x, Cond.static Lib.MathLoose.abs_long.x, Cond.initialized "java/lang/Math", Cond.code Lib.MathLoose.abs_long.x Lib.MathLoose.abs_long.code 2 (some .long), Cond.constantLong RX0 89 (36028797018963967), Cond.constantLong RX0 91 (36028797018963968), Cond.methodLink RX0 113 yX0_wideProduct, Cond.static yX0_wideProduct, Cond.code yX0_wideProduct cX0_wideProduct 23 (some .long), Cond.constantLong RX0 117 (268435455)]
def wsX0_product_r3 : List Cond := [Cond.constantLong RX0 119 (72057594037927935), Cond.methodLink RX0 97 yX0_exponentOf, Cond.static yX0_exponentOf, Cond.code yX0_exponentOf cX0_exponentOf 2 (some .int), Cond.methodLink RX0 69 yX0_storeRounded, Cond.instanceMethod yX0_storeRounded, Cond.selects RX0 yX0_storeRounded yX0_storeRounded, Cond.code yX0_storeRounded cX0_storeRounded 12 (some .int), Cond.constantLong RX0 103 (4611686018427387904), Cond.fieldLink RX0 13 "ExactFloats" "underflowAsked" "Z", Cond.methodLink RX0 105 yX0_bitsOf, Cond.static yX0_bitsOf, Cond.code yX0_bitsOf cX0_bitsOf 4 (some .long), Cond.constant RX0 88 (32768)]
def wsX0_product : List Cond := .code yX0_product cX0_product 6 (some .int) :: ((wsX0_product_r1 ++ (wsX0_product_r2 ++ wsX0_product_r3)) ++ wsX00)
def wsX0_wideQuotient : List Cond := .code yX0_wideQuotient cX0_wideQuotient 9 (some .long) :: ([])
def wsX0_storeQuotient_r1 : List Cond := [Cond.methodLink RX0 93 yX0_storeZero, Cond.instanceMethod yX0_storeZero, Cond.selects RX0 yX0_storeZero yX0_storeZero, Cond.initialized RX0, Cond.code yX0_storeZero cX0_storeZero 3 (some .int), Cond.fieldLink RX0 9 "ExactFloats" "registers" "[J", Cond.fieldLink RX0 17 "ExactFloats" "lastWasInexact" "Z", Cond.methodLink RX0 100 yX0_significandOf, Cond.static yX0_significandOf, Cond.code yX0_significandOf cX0_significandOf 2 (some .long), Cond.methodLink RX0 63 Lib.MathLoose.abs_long.x, Cond.static Lib.MathLoose.abs_long.x, Cond.initialized "java/lang/Math", Cond.code Lib.MathLoose.abs_long.x Lib.MathLoose.abs_long.code 2 (some .long), Cond.constantLong RX0 89 (36028797018963967), Cond.constantLong RX0 91 (36028797018963968), Cond.methodLink RX0 121 yX0_wideQuotient, Cond.static yX0_wideQuotient, Cond.code yX0_wideQuotient cX0_wideQuotient 9 (some .long), Cond.methodLink RX0 97 yX0_exponentOf, Cond.static yX0_exponentOf, Cond.code yX0_exponentOf cX0_exponentOf 2 (some .int), Cond.methodLink RX0 69 yX0_storeRounded, Cond.instanceMethod yX0_storeRounded]
def wsX0_storeQuotient_r2 : List Cond := [Cond.selects RX0 yX0_storeRounded yX0_storeRounded, Cond.code yX0_storeRounded cX0_storeRounded 12 (some .int), Cond.constantLong RX0 103 (4611686018427387904), Cond.fieldLink RX0 13 "ExactFloats" "underflowAsked" "Z", Cond.methodLink RX0 105 yX0_bitsOf, Cond.static yX0_bitsOf, Cond.code yX0_bitsOf cX0_bitsOf 4 (some .long), Cond.constant RX0 88 (32768), Cond.constantLong RX0 86 (65535)]
def wsX0_storeQuotient : List Cond := .code yX0_storeQuotient cX0_storeQuotient 10 (some .int) :: ((wsX0_storeQuotient_r1 ++ wsX0_storeQuotient_r2) ++ wsX00)
def wsX0_quotient_r1 : List Cond := [Cond.methodLink RX0 24 yX0_refusalOf, Cond.instanceMethod yX0_refusalOf, Cond.selects RX0 yX0_refusalOf yX0_refusalOf, Cond.initialized RX0, Cond.code yX0_refusalOf cX0_refusalOf 5 (some .int), Cond.methodLink RX0 60 yX0_isSize, Cond.static yX0_isSize, Cond.code yX0_isSize cX0_isSize 1 (some .boolean), Cond.methodLink RX0 20 yX0_isRegister, Cond.static yX0_isRegister, Cond.code yX0_isRegister cX0_isRegister 1 (some .boolean), Cond.methodLink RX0 77 yX0_isReserved, Cond.instanceMethod yX0_isReserved, Cond.selects RX0 yX0_isReserved yX0_isReserved, Cond.code yX0_isReserved cX0_isReserved 2 (some .boolean), Cond.fieldLink RX0 9 "ExactFloats" "registers" "[J", Cond.constantLong RX0 73 (65408), Cond.constantLong RX0 75 (32768), Cond.methodLink RX0 28 yX0_valueIn, Cond.instanceMethod yX0_valueIn, Cond.selects RX0 yX0_valueIn yX0_valueIn, Cond.code yX0_valueIn cX0_valueIn 11 (some .long), Cond.constantLong RX0 80 (4294967295), Cond.constantLong RX0 82 (255)]
def wsX0_quotient_r2 : List Cond := [Cond.constantLong RX0 84 (127), Cond.constantLong RX0 86 (65535), Cond.methodLink RX0 39 yX0_storeQuotient, Cond.instanceMethod yX0_storeQuotient, Cond.selects RX0 yX0_storeQuotient yX0_storeQuotient, Cond.code yX0_storeQuotient cX0_storeQuotient 10 (some .int), Cond.methodLink RX0 93 yX0_storeZero, Cond.instanceMethod yX0_storeZero, Cond.selects RX0 yX0_storeZero yX0_storeZero, Cond.code yX0_storeZero cX0_storeZero 3 (some .int), Cond.fieldLink RX0 17 "ExactFloats" "lastWasInexact" "Z", Cond.methodLink RX0 100 yX0_significandOf, Cond.static yX0_significandOf, Cond.code yX0_significandOf cX0_significandOf 2 (some .long), Cond.methodLink RX0 63 Lib.MathLoose.abs_long.x, Cond.static Lib.MathLoose.abs_long.x, Cond.initialized "java/lang/Math", Cond.code Lib.MathLoose.abs_long.x Lib.MathLoose.abs_long.code 2 (some .long), Cond.constantLong RX0 89 (36028797018963967), Cond.constantLong RX0 91 (36028797018963968), Cond.methodLink RX0 121 yX0_wideQuotient, Cond.static yX0_wideQuotient, Cond.code yX0_wideQuotient cX0_wideQuotient 9 (some .long), Cond.methodLink RX0 97 yX0_exponentOf]
def wsX0_quotient_r3 : List Cond := [Cond.static yX0_exponentOf, Cond.code yX0_exponentOf cX0_exponentOf 2 (some .int), Cond.methodLink RX0 69 yX0_storeRounded, Cond.instanceMethod yX0_storeRounded, Cond.selects RX0 yX0_storeRounded yX0_storeRounded, Cond.code yX0_storeRounded cX0_storeRounded 12 (some .int), Cond.constantLong RX0 103 (4611686018427387904), Cond.fieldLink RX0 13 "ExactFloats" "underflowAsked" "Z", Cond.methodLink RX0 105 yX0_bitsOf, Cond.static yX0_bitsOf, Cond.code yX0_bitsOf cX0_bitsOf 4 (some .long), Cond.constant RX0 88 (32768)]
def wsX0_quotient : List Cond := .code yX0_quotient cX0_quotient 8 (some .int) :: ((wsX0_quotient_r1 ++ (wsX0_quotient_r2 ++ wsX0_quotient_r3)) ++ wsX00)
def wsX0_negative_r1 : List Cond := [Cond.methodLink RX0 24 yX0_refusalOf, Cond.instanceMethod yX0_refusalOf, Cond.selects RX0 yX0_refusalOf yX0_refusalOf, Cond.initialized RX0, Cond.code yX0_refusalOf cX0_refusalOf 5 (some .int), Cond.methodLink RX0 60 yX0_isSize, Cond.static yX0_isSize, Cond.code yX0_isSize cX0_isSize 1 (some .boolean), Cond.methodLink RX0 20 yX0_isRegister, Cond.static yX0_isRegister, Cond.code yX0_isRegister cX0_isRegister 1 (some .boolean), Cond.methodLink RX0 77 yX0_isReserved, Cond.instanceMethod yX0_isReserved, Cond.selects RX0 yX0_isReserved yX0_isReserved, Cond.code yX0_isReserved cX0_isReserved 2 (some .boolean), Cond.fieldLink RX0 9 "ExactFloats" "registers" "[J", Cond.constantLong RX0 73 (65408), Cond.constantLong RX0 75 (32768), Cond.methodLink RX0 28 yX0_valueIn, Cond.instanceMethod yX0_valueIn, Cond.selects RX0 yX0_valueIn yX0_valueIn, Cond.code yX0_valueIn cX0_valueIn 11 (some .long), Cond.constantLong RX0 80 (4294967295), Cond.constantLong RX0 82 (255)]
def wsX0_negative_r2 : List Cond := [Cond.constantLong RX0 84 (127), Cond.constantLong RX0 86 (65535), Cond.methodLink RX0 42 yX0_storeValue, Cond.instanceMethod yX0_storeValue, Cond.selects RX0 yX0_storeValue yX0_storeValue, Cond.code yX0_storeValue cX0_storeValue 5 (some .int), Cond.methodLink RX0 93 yX0_storeZero, Cond.instanceMethod yX0_storeZero, Cond.selects RX0 yX0_storeZero yX0_storeZero, Cond.code yX0_storeZero cX0_storeZero 3 (some .int), Cond.fieldLink RX0 17 "ExactFloats" "lastWasInexact" "Z", Cond.methodLink RX0 97 yX0_exponentOf, Cond.static yX0_exponentOf, Cond.code yX0_exponentOf cX0_exponentOf 2 (some .int), Cond.methodLink RX0 63 Lib.MathLoose.abs_long.x, Cond.static Lib.MathLoose.abs_long.x, Cond.initialized "java/lang/Math", Cond.code Lib.MathLoose.abs_long.x Lib.MathLoose.abs_long.code 2 (some .long), Cond.methodLink RX0 100 yX0_significandOf, Cond.static yX0_significandOf, Cond.code yX0_significandOf cX0_significandOf 2 (some .long), Cond.constantLong RX0 89 (36028797018963967), Cond.constantLong RX0 91 (36028797018963968), Cond.methodLink RX0 69 yX0_storeRounded]
def wsX0_negative_r3 : List Cond := [Cond.instanceMethod yX0_storeRounded, Cond.selects RX0 yX0_storeRounded yX0_storeRounded, Cond.code yX0_storeRounded cX0_storeRounded 12 (some .int), Cond.constantLong RX0 103 (4611686018427387904), Cond.fieldLink RX0 13 "ExactFloats" "underflowAsked" "Z", Cond.methodLink RX0 105 yX0_bitsOf, Cond.static yX0_bitsOf, Cond.code yX0_bitsOf cX0_bitsOf 4 (some .long), Cond.constant RX0 88 (32768)]
def wsX0_negative : List Cond := .code yX0_negative cX0_negative 5 (some .int) :: ((wsX0_negative_r1 ++ (wsX0_negative_r2 ++ wsX0_negative_r3)) ++ wsX00)
def wsJ13_compare_74951 : List Cond := .code yJ13_compare_74951 cJ13_compare_74951 4 (some .int) :: ([])
def wsX0_flagsOf : List Cond := .code yX0_flagsOf cX0_flagsOf 2 (some .int) :: ([])
def wsX0_compare_r1 : List Cond := [Cond.methodLink RX0 24 yX0_refusalOf, Cond.instanceMethod yX0_refusalOf, Cond.selects RX0 yX0_refusalOf yX0_refusalOf, Cond.initialized RX0, Cond.code yX0_refusalOf cX0_refusalOf 5 (some .int), Cond.methodLink RX0 60 yX0_isSize, Cond.static yX0_isSize, Cond.code yX0_isSize cX0_isSize 1 (some .boolean), Cond.methodLink RX0 20 yX0_isRegister, Cond.static yX0_isRegister, Cond.code yX0_isRegister cX0_isRegister 1 (some .boolean), Cond.methodLink RX0 77 yX0_isReserved, Cond.instanceMethod yX0_isReserved, Cond.selects RX0 yX0_isReserved yX0_isReserved, Cond.code yX0_isReserved cX0_isReserved 2 (some .boolean), Cond.fieldLink RX0 9 "ExactFloats" "registers" "[J", Cond.constantLong RX0 73 (65408), Cond.constantLong RX0 75 (32768), Cond.methodLink RX0 28 yX0_valueIn, Cond.instanceMethod yX0_valueIn, Cond.selects RX0 yX0_valueIn yX0_valueIn, Cond.code yX0_valueIn cX0_valueIn 11 (some .long), Cond.constantLong RX0 80 (4294967295), Cond.constantLong RX0 82 (255)]
def wsX0_compare_r2 : List Cond := [Cond.constantLong RX0 84 (127), Cond.constantLong RX0 86 (65535), Cond.methodLink RX0 46 yJ13_compare_74951, Cond.static yJ13_compare_74951, Cond.initialized RJ13, Cond.code yJ13_compare_74951 cJ13_compare_74951 4 (some .int), Cond.methodLink RX0 52 yX0_flagsOf, Cond.static yX0_flagsOf, Cond.code yX0_flagsOf cX0_flagsOf 2 (some .int)]
def wsX0_compare : List Cond := .code yX0_compare cX0_compare 5 (some .int) :: ((wsX0_compare_r1 ++ wsX0_compare_r2) ++ wsX00)
def wsX0_change_r1 : List Cond := [Cond.methodLink RX0 24 yX0_refusalOf, Cond.instanceMethod yX0_refusalOf, Cond.selects RX0 yX0_refusalOf yX0_refusalOf, Cond.initialized RX0, Cond.code yX0_refusalOf cX0_refusalOf 5 (some .int), Cond.methodLink RX0 60 yX0_isSize, Cond.static yX0_isSize, Cond.code yX0_isSize cX0_isSize 1 (some .boolean), Cond.methodLink RX0 20 yX0_isRegister, Cond.static yX0_isRegister, Cond.code yX0_isRegister cX0_isRegister 1 (some .boolean), Cond.methodLink RX0 77 yX0_isReserved, Cond.instanceMethod yX0_isReserved, Cond.selects RX0 yX0_isReserved yX0_isReserved, Cond.code yX0_isReserved cX0_isReserved 2 (some .boolean), Cond.fieldLink RX0 9 "ExactFloats" "registers" "[J", Cond.constantLong RX0 73 (65408), Cond.constantLong RX0 75 (32768), Cond.methodLink RX0 28 yX0_valueIn, Cond.instanceMethod yX0_valueIn, Cond.selects RX0 yX0_valueIn yX0_valueIn, Cond.code yX0_valueIn cX0_valueIn 11 (some .long), Cond.constantLong RX0 80 (4294967295), Cond.constantLong RX0 82 (255)]
def wsX0_change_r2 : List Cond := [Cond.constantLong RX0 84 (127), Cond.constantLong RX0 86 (65535), Cond.methodLink RX0 42 yX0_storeValue, Cond.instanceMethod yX0_storeValue, Cond.selects RX0 yX0_storeValue yX0_storeValue, Cond.code yX0_storeValue cX0_storeValue 5 (some .int), Cond.methodLink RX0 93 yX0_storeZero, Cond.instanceMethod yX0_storeZero, Cond.selects RX0 yX0_storeZero yX0_storeZero, Cond.code yX0_storeZero cX0_storeZero 3 (some .int), Cond.fieldLink RX0 17 "ExactFloats" "lastWasInexact" "Z", Cond.methodLink RX0 97 yX0_exponentOf, Cond.static yX0_exponentOf, Cond.code yX0_exponentOf cX0_exponentOf 2 (some .int), Cond.methodLink RX0 63 Lib.MathLoose.abs_long.x, Cond.static Lib.MathLoose.abs_long.x, Cond.initialized "java/lang/Math", Cond.code Lib.MathLoose.abs_long.x Lib.MathLoose.abs_long.code 2 (some .long), Cond.methodLink RX0 100 yX0_significandOf, Cond.static yX0_significandOf, Cond.code yX0_significandOf cX0_significandOf 2 (some .long), Cond.constantLong RX0 89 (36028797018963967), Cond.constantLong RX0 91 (36028797018963968), Cond.methodLink RX0 69 yX0_storeRounded]
def wsX0_change_r3 : List Cond := [Cond.instanceMethod yX0_storeRounded, Cond.selects RX0 yX0_storeRounded yX0_storeRounded, Cond.code yX0_storeRounded cX0_storeRounded 12 (some .int), Cond.constantLong RX0 103 (4611686018427387904), Cond.fieldLink RX0 13 "ExactFloats" "underflowAsked" "Z", Cond.methodLink RX0 105 yX0_bitsOf, Cond.static yX0_bitsOf, Cond.code yX0_bitsOf cX0_bitsOf 4 (some .long), Cond.constant RX0 88 (32768)]
def wsX0_change : List Cond := .code yX0_change cX0_change 6 (some .int) :: ((wsX0_change_r1 ++ (wsX0_change_r2 ++ wsX0_change_r3)) ++ wsX00)
def wsX0_wholeSize : List Cond := .code yX0_wholeSize cX0_wholeSize 6 (some .long) :: ([.constantLong RX0 80 (4294967295), .constantLong RX0 91 (36028797018963968)])
def wsX0_wholeOf : List Cond := .code yX0_wholeOf cX0_wholeOf 6 (some .long) :: ([.methodLink RX0 97 yX0_exponentOf, .static yX0_exponentOf, .initialized RX0, .code yX0_exponentOf cX0_exponentOf 2 (some .int), .methodLink RX0 63 Lib.MathLoose.abs_long.x, .static Lib.MathLoose.abs_long.x, .initialized "java/lang/Math", .code Lib.MathLoose.abs_long.x Lib.MathLoose.abs_long.code 2 (some .long), .methodLink RX0 100 yX0_significandOf, .static yX0_significandOf, .code yX0_significandOf cX0_significandOf 2 (some .long), .constantLong RX0 89 (36028797018963967), .constantLong RX0 91 (36028797018963968), .methodLink RX0 124 yX0_wholeSize, .static yX0_wholeSize, .code yX0_wholeSize cX0_wholeSize 6 (some .long), .constantLong RX0 80 (4294967295)])
def wsX0_whole_r1 : List Cond := [Cond.fieldLink RX0 9 "ExactFloats" "registers" "[J", Cond.methodLink RX0 24 yX0_refusalOf, Cond.instanceMethod yX0_refusalOf, Cond.selects RX0 yX0_refusalOf yX0_refusalOf, Cond.initialized RX0, Cond.code yX0_refusalOf cX0_refusalOf 5 (some .int), Cond.methodLink RX0 60 yX0_isSize, Cond.static yX0_isSize, Cond.code yX0_isSize cX0_isSize 1 (some .boolean), Cond.methodLink RX0 20 yX0_isRegister, Cond.static yX0_isRegister, Cond.code yX0_isRegister cX0_isRegister 1 (some .boolean), Cond.methodLink RX0 77 yX0_isReserved, Cond.instanceMethod yX0_isReserved, Cond.selects RX0 yX0_isReserved yX0_isReserved, Cond.code yX0_isReserved cX0_isReserved 2 (some .boolean), Cond.constantLong RX0 73 (65408), Cond.constantLong RX0 75 (32768), Cond.methodLink RX0 28 yX0_valueIn, Cond.instanceMethod yX0_valueIn, Cond.selects RX0 yX0_valueIn yX0_valueIn, Cond.code yX0_valueIn cX0_valueIn 11 (some .long), Cond.constantLong RX0 80 (4294967295), Cond.constantLong RX0 82 (255)]
def wsX0_whole_r2 : List Cond := [Cond.constantLong RX0 84 (127), Cond.constantLong RX0 86 (65535), Cond.methodLink RX0 56 yX0_wholeOf, Cond.static yX0_wholeOf, Cond.code yX0_wholeOf cX0_wholeOf 6 (some .long), Cond.methodLink RX0 97 yX0_exponentOf, Cond.static yX0_exponentOf, Cond.code yX0_exponentOf cX0_exponentOf 2 (some .int), Cond.methodLink RX0 63 Lib.MathLoose.abs_long.x, Cond.static Lib.MathLoose.abs_long.x, Cond.initialized "java/lang/Math", Cond.code Lib.MathLoose.abs_long.x Lib.MathLoose.abs_long.code 2 (some .long), Cond.methodLink RX0 100 yX0_significandOf, Cond.static yX0_significandOf, Cond.code yX0_significandOf cX0_significandOf 2 (some .long), Cond.constantLong RX0 89 (36028797018963967), Cond.constantLong RX0 91 (36028797018963968), Cond.methodLink RX0 124 yX0_wholeSize, Cond.static yX0_wholeSize, Cond.code yX0_wholeSize cX0_wholeSize 6 (some .long), Cond.methodLink RX0 52 yX0_flagsOf, Cond.static yX0_flagsOf, Cond.code yX0_flagsOf cX0_flagsOf 2 (some .int)]
def wsX0_whole : List Cond := .code yX0_whole cX0_whole 12 (some .int) :: ((wsX0_whole_r1 ++ wsX0_whole_r2) ++ wsX00)
def wsX0_number_r1 : List Cond := [Cond.methodLink RX0 63 Lib.MathLoose.abs_long.x, Cond.static Lib.MathLoose.abs_long.x, Cond.initialized "java/lang/Math", Cond.code Lib.MathLoose.abs_long.x Lib.MathLoose.abs_long.code 2 (some .long), Cond.methodLink RX0 60 yX0_isSize, Cond.static yX0_isSize, Cond.initialized RX0, Cond.code yX0_isSize cX0_isSize 1 (some .boolean), Cond.methodLink RX0 20 yX0_isRegister, Cond.static yX0_isRegister, Cond.code yX0_isRegister cX0_isRegister 1 (some .boolean), Cond.methodLink RX0 69 yX0_storeRounded, Cond.instanceMethod yX0_storeRounded, Cond.selects RX0 yX0_storeRounded yX0_storeRounded, Cond.code yX0_storeRounded cX0_storeRounded 12 (some .int), Cond.constantLong RX0 103 (4611686018427387904), Cond.fieldLink RX0 13 "ExactFloats" "underflowAsked" "Z", Cond.fieldLink RX0 9 "ExactFloats" "registers" "[J", Cond.constantLong RX0 89 (36028797018963967), Cond.fieldLink RX0 17 "ExactFloats" "lastWasInexact" "Z", Cond.methodLink RX0 93 yX0_storeZero, Cond.instanceMethod yX0_storeZero, Cond.selects RX0 yX0_storeZero yX0_storeZero, Cond.code yX0_storeZero cX0_storeZero 3 (some .int)]
def wsX0_number_r2 : List Cond := [Cond.methodLink RX0 105 yX0_bitsOf, Cond.static yX0_bitsOf, Cond.code yX0_bitsOf cX0_bitsOf 4 (some .long), Cond.constant RX0 88 (32768), Cond.constantLong RX0 86 (65535)]
def wsX0_number : List Cond := .code yX0_number cX0_number 4 (some .int) :: ((wsX0_number_r1 ++ wsX0_number_r2) ++ wsX00)
def wsX0_lost : List Cond := .code yX0_lost cX0_lost 1 (some .boolean) :: ([.fieldLink RX0 17 "ExactFloats" "lastWasInexact" "Z"] ++ wsX00)
def wsX1_init : List Cond := .code yX1_init cX1_init 1 none :: ([.methodLink RX1 1 objectInit, .instanceMethod objectInit, .code objectInit ⟨#[0xb1]⟩ 1 none, .arrayClass .long, .fieldLink RX1 7 "ExactFloatsModel" "register" "[J"] ++ wsX10)
def wsX1_set : List Cond := .code yX1_set cX1_set 4 (some .boolean) :: ([.fieldLink RX1 7 "ExactFloatsModel" "register" "[J"] ++ wsX10)
def wsX1_get : List Cond := .code yX1_get cX1_get 2 (some .long) :: ([.fieldLink RX1 7 "ExactFloatsModel" "register" "[J"] ++ wsX10)
def wsX1_under : List Cond := .code yX1_under cX1_under 2 none :: ([.fieldLink RX1 13 "ExactFloatsModel" "asked" "Z"] ++ wsX10)
def wsX1_isSize : List Cond := .code yX1_isSize cX1_isSize 1 (some .boolean) :: ([])
def wsX1_isRegister : List Cond := .code yX1_isRegister cX1_isRegister 1 (some .boolean) :: ([])
def wsX1_in : List Cond := .code yX1_in cX1_in 3 (some .long) :: ([.fieldLink RX1 7 "ExactFloatsModel" "register" "[J", .constantLong RX1 17 (4294967295)] ++ wsX10)
def wsX1_isReserved : List Cond := .code yX1_isReserved cX1_isReserved 2 (some .boolean) :: ([.constantLong RX1 19 (65408), .constantLong RX1 21 (32768)])
def wsX1_isZero : List Cond := .code yX1_isZero cX1_isZero 2 (some .boolean) :: ([.constantLong RX1 23 (32640)])
def wsX1_added : List Cond := .code yX1_added cX1_added 26 (some .long) :: ([.fieldLink RX1 48 "ExactFloatsModel" "fault" "I", .fieldLink RX1 51 "ExactFloatsModel" "cut" "Z", .fieldLink RX1 29 "ExactFloatsModel" "minus" "Z", .fieldLink RX1 34 "ExactFloatsModel" "exponent" "I", .fieldLink RX1 44 "ExactFloatsModel" "bits" "J", .methodLink RX1 60 yX1_isZero, .static yX1_isZero, .initialized RX1, .code yX1_isZero cX1_isZero 2 (some .boolean), .constantLong RX1 23 (32640)] ++ wsX10)
def wsX1_two : List Cond := .code yX1_two cX1_two 5 (some .int) :: ([.methodLink RX1 78 yX1_isSize, .static yX1_isSize, .initialized RX1, .code yX1_isSize cX1_isSize 1 (some .boolean), .methodLink RX1 82 yX1_isRegister, .static yX1_isRegister, .code yX1_isRegister cX1_isRegister 1 (some .boolean), .methodLink RX1 85 yX1_in, .instanceMethod yX1_in, .selects RX1 yX1_in yX1_in, .code yX1_in cX1_in 3 (some .long), .fieldLink RX1 7 "ExactFloatsModel" "register" "[J", .constantLong RX1 17 (4294967295), .methodLink RX1 89 yX1_isReserved, .static yX1_isReserved, .code yX1_isReserved cX1_isReserved 2 (some .boolean), .constantLong RX1 19 (65408), .constantLong RX1 21 (32768)] ++ wsX10)
def wsX1_sum_r1 : List Cond := [Cond.methodLink RX1 92 yX1_two, Cond.instanceMethod yX1_two, Cond.selects RX1 yX1_two yX1_two, Cond.initialized RX1, Cond.code yX1_two cX1_two 5 (some .int), Cond.methodLink RX1 78 yX1_isSize, Cond.static yX1_isSize, Cond.code yX1_isSize cX1_isSize 1 (some .boolean), Cond.methodLink RX1 82 yX1_isRegister, Cond.static yX1_isRegister, Cond.code yX1_isRegister cX1_isRegister 1 (some .boolean), Cond.methodLink RX1 85 yX1_in, Cond.instanceMethod yX1_in, Cond.selects RX1 yX1_in yX1_in, Cond.code yX1_in cX1_in 3 (some .long), Cond.fieldLink RX1 7 "ExactFloatsModel" "register" "[J", Cond.constantLong RX1 17 (4294967295), Cond.methodLink RX1 89 yX1_isReserved, Cond.static yX1_isReserved, Cond.code yX1_isReserved cX1_isReserved 2 (some .boolean), Cond.constantLong RX1 19 (65408), Cond.constantLong RX1 21 (32768), Cond.methodLink RX1 96 yX1_added, Cond.instanceMethod yX1_added]
def wsX1_sum_r2 : List Cond := [Cond.selects RX1 yX1_added yX1_added, Cond.code yX1_added cX1_added 26 (some .long), Cond.fieldLink RX1 48 "ExactFloatsModel" "fault" "I", Cond.fieldLink RX1 51 "ExactFloatsModel" "cut" "Z", Cond.fieldLink RX1 29 "ExactFloatsModel" "minus" "Z", Cond.fieldLink RX1 34 "ExactFloatsModel" "exponent" "I", Cond.fieldLink RX1 44 "ExactFloatsModel" "bits" "J", Cond.methodLink RX1 60 yX1_isZero, Cond.static yX1_isZero, Cond.code yX1_isZero cX1_isZero 2 (some .boolean), Cond.constantLong RX1 23 (32640)]
def wsX1_sum : List Cond := .code yX1_sum cX1_sum 6 (some .int) :: ((wsX1_sum_r1 ++ wsX1_sum_r2) ++ wsX10)
def wsJ9_abs_067f4 : List Cond := .code yJ9_abs_067f4 cJ9_abs_067f4 2 (some .long) :: ([])
def wsL_law_r1 : List Cond := [Cond.classLink RL 7 RX0, Cond.instantiable RX0 3, Cond.initialized RX0, Cond.classLink RL 10 RX1, Cond.instantiable RX1 8, Cond.initialized RX1, Cond.methodLink RL 9 yX0_init, Cond.instanceMethod yX0_init, Cond.code yX0_init cX0_init 1 none, Cond.methodLink RX0 3 objectInit, Cond.instanceMethod objectInit, Cond.code objectInit ⟨#[0xb1]⟩ 1 none, Cond.arrayClass .long, Cond.fieldLink RX0 9 "ExactFloats" "registers" "[J", Cond.fieldLink RX0 13 "ExactFloats" "underflowAsked" "Z", Cond.fieldLink RX0 17 "ExactFloats" "lastWasInexact" "Z", Cond.methodLink RL 12 yX1_init, Cond.instanceMethod yX1_init, Cond.code yX1_init cX1_init 1 none, Cond.methodLink RX1 1 objectInit, Cond.fieldLink RX1 7 "ExactFloatsModel" "register" "[J", Cond.methodLink RL 15 yX0_set, Cond.instanceMethod yX0_set, Cond.selects RX0 yX0_set yX0_set]
def wsL_law_r2 : List Cond := [Cond.code yX0_set cX0_set 4 (some .boolean), Cond.methodLink RX0 20 yX0_isRegister, Cond.static yX0_isRegister, Cond.code yX0_isRegister cX0_isRegister 1 (some .boolean), Cond.methodLink RL 19 yX1_set, Cond.instanceMethod yX1_set, Cond.selects RX1 yX1_set yX1_set, Cond.code yX1_set cX1_set 4 (some .boolean), Cond.methodLink RL 20 yX0_get, Cond.instanceMethod yX0_get, Cond.selects RX0 yX0_get yX0_get, Cond.code yX0_get cX0_get 2 (some .long), Cond.methodLink RL 24 yX1_get, Cond.instanceMethod yX1_get, Cond.selects RX1 yX1_get yX1_get, Cond.code yX1_get cX1_get 2 (some .long), Cond.methodLink RL 25 yX0_under, Cond.instanceMethod yX0_under, Cond.selects RX0 yX0_under yX0_under, Cond.code yX0_under cX0_under 2 none, Cond.methodLink RL 29 yX1_under, Cond.instanceMethod yX1_under, Cond.selects RX1 yX1_under yX1_under, Cond.code yX1_under cX1_under 2 none]
def wsL_law_r3 : List Cond := [Cond.fieldLink RX1 13 "ExactFloatsModel" "asked" "Z", Cond.methodLink RL 30 yX0_sum, Cond.instanceMethod yX0_sum, Cond.selects RX0 yX0_sum yX0_sum, Cond.code yX0_sum cX0_sum 6 (some .int), Cond.methodLink RX0 24 yX0_refusalOf, Cond.instanceMethod yX0_refusalOf, Cond.selects RX0 yX0_refusalOf yX0_refusalOf, Cond.code yX0_refusalOf cX0_refusalOf 5 (some .int), Cond.methodLink RX0 60 yX0_isSize, Cond.static yX0_isSize, Cond.code yX0_isSize cX0_isSize 1 (some .boolean), Cond.methodLink RX0 77 yX0_isReserved, Cond.instanceMethod yX0_isReserved, Cond.selects RX0 yX0_isReserved yX0_isReserved, Cond.code yX0_isReserved cX0_isReserved 2 (some .boolean), Cond.constantLong RX0 73 (65408), Cond.constantLong RX0 75 (32768), Cond.methodLink RX0 28 yX0_valueIn, Cond.instanceMethod yX0_valueIn, Cond.selects RX0 yX0_valueIn yX0_valueIn, Cond.code yX0_valueIn cX0_valueIn 11 (some .long), Cond.constantLong RX0 80 (4294967295), Cond.constantLong RX0 82 (255)]
def wsL_law_r4 : List Cond := [Cond.constantLong RX0 84 (127), Cond.constantLong RX0 86 (65535), Cond.methodLink RX0 32 yX0_storeSum, Cond.instanceMethod yX0_storeSum, Cond.selects RX0 yX0_storeSum yX0_storeSum, Cond.code yX0_storeSum cX0_storeSum 21 (some .int), Cond.methodLink RX0 63 Lib.MathLoose.abs_long.x, Cond.static Lib.MathLoose.abs_long.x, Cond.initialized "java/lang/Math", Cond.code Lib.MathLoose.abs_long.x Lib.MathLoose.abs_long.code 2 (some .long), Cond.methodLink RX0 42 yX0_storeValue, Cond.instanceMethod yX0_storeValue, Cond.selects RX0 yX0_storeValue yX0_storeValue, Cond.code yX0_storeValue cX0_storeValue 5 (some .int), Cond.methodLink RX0 93 yX0_storeZero, Cond.instanceMethod yX0_storeZero, Cond.selects RX0 yX0_storeZero yX0_storeZero, Cond.code yX0_storeZero cX0_storeZero 3 (some .int), Cond.methodLink RX0 97 yX0_exponentOf, Cond.static yX0_exponentOf, Cond.code yX0_exponentOf cX0_exponentOf 2 (some .int), Cond.methodLink RX0 100 yX0_significandOf, Cond.static yX0_significandOf, Cond.code yX0_significandOf cX0_significandOf 2 (some .long)]
def wsL_law_r5 : List Cond := [Cond.constantLong RX0 89 (36028797018963967), Cond.constantLong RX0 91 (36028797018963968), Cond.methodLink RX0 69 yX0_storeRounded, Cond.instanceMethod yX0_storeRounded, Cond.selects RX0 yX0_storeRounded yX0_storeRounded, Cond.code yX0_storeRounded cX0_storeRounded 12 (some .int), Cond.constantLong RX0 103 (4611686018427387904), Cond.methodLink RX0 105 yX0_bitsOf, Cond.static yX0_bitsOf, Cond.code yX0_bitsOf cX0_bitsOf 4 (some .long), Cond.constant RX0 88 (32768), Cond.methodLink RX0 109 yX0_shiftedDown, Cond.static yX0_shiftedDown, Cond.code yX0_shiftedDown cX0_shiftedDown 5 (some .long), Cond.methodLink RL 34 yX1_sum, Cond.instanceMethod yX1_sum, Cond.selects RX1 yX1_sum yX1_sum, Cond.code yX1_sum cX1_sum 6 (some .int), Cond.methodLink RX1 92 yX1_two, Cond.instanceMethod yX1_two, Cond.selects RX1 yX1_two yX1_two, Cond.code yX1_two cX1_two 5 (some .int), Cond.methodLink RX1 78 yX1_isSize, Cond.static yX1_isSize]
def wsL_law_r6 : List Cond := [Cond.code yX1_isSize cX1_isSize 1 (some .boolean), Cond.methodLink RX1 82 yX1_isRegister, Cond.static yX1_isRegister, Cond.code yX1_isRegister cX1_isRegister 1 (some .boolean), Cond.methodLink RX1 85 yX1_in, Cond.instanceMethod yX1_in, Cond.selects RX1 yX1_in yX1_in, Cond.code yX1_in cX1_in 3 (some .long), Cond.constantLong RX1 17 (4294967295), Cond.methodLink RX1 89 yX1_isReserved, Cond.static yX1_isReserved, Cond.code yX1_isReserved cX1_isReserved 2 (some .boolean), Cond.constantLong RX1 19 (65408), Cond.constantLong RX1 21 (32768), Cond.methodLink RX1 96 yX1_added, Cond.instanceMethod yX1_added, Cond.selects RX1 yX1_added yX1_added, Cond.code yX1_added cX1_added 26 (some .long), Cond.fieldLink RX1 48 "ExactFloatsModel" "fault" "I", Cond.fieldLink RX1 51 "ExactFloatsModel" "cut" "Z", Cond.fieldLink RX1 29 "ExactFloatsModel" "minus" "Z", Cond.fieldLink RX1 34 "ExactFloatsModel" "exponent" "I", Cond.fieldLink RX1 44 "ExactFloatsModel" "bits" "J", Cond.methodLink RX1 60 yX1_isZero]
def wsL_law_r7 : List Cond := [Cond.static yX1_isZero, Cond.code yX1_isZero cX1_isZero 2 (some .boolean), Cond.constantLong RX1 23 (32640), Cond.methodLink RL 35 yX0_less, Cond.instanceMethod yX0_less, Cond.selects RX0 yX0_less yX0_less, Cond.code yX0_less cX0_less 6 (some .int), Cond.methodLink RL 39 yX0_product, Cond.instanceMethod yX0_product, Cond.selects RX0 yX0_product yX0_product, Cond.code yX0_product cX0_product 6 (some .int), Cond.methodLink RX0 36 yX0_storeProduct, Cond.instanceMethod yX0_storeProduct, Cond.selects RX0 yX0_storeProduct yX0_storeProduct, Cond.code yX0_storeProduct cX0_storeProduct 9 (some .int), Cond.methodLink RX0 113 yX0_wideProduct, Cond.static yX0_wideProduct, Cond.code yX0_wideProduct cX0_wideProduct 23 (some .long), Cond.constantLong RX0 117 (268435455), Cond.constantLong RX0 119 (72057594037927935), Cond.methodLink RL 43 yX0_quotient, Cond.instanceMethod yX0_quotient, Cond.selects RX0 yX0_quotient yX0_quotient, Cond.code yX0_quotient cX0_quotient 8 (some .int)]
def wsL_law_r8 : List Cond := [Cond.methodLink RX0 39 yX0_storeQuotient, Cond.instanceMethod yX0_storeQuotient, Cond.selects RX0 yX0_storeQuotient yX0_storeQuotient, Cond.code yX0_storeQuotient cX0_storeQuotient 10 (some .int), Cond.methodLink RX0 121 yX0_wideQuotient, Cond.static yX0_wideQuotient, Cond.code yX0_wideQuotient cX0_wideQuotient 9 (some .long), Cond.methodLink RL 47 yX0_negative, Cond.instanceMethod yX0_negative, Cond.selects RX0 yX0_negative yX0_negative, Cond.code yX0_negative cX0_negative 5 (some .int), Cond.methodLink RL 52 yX0_compare, Cond.instanceMethod yX0_compare, Cond.selects RX0 yX0_compare yX0_compare, Cond.code yX0_compare cX0_compare 5 (some .int), Cond.methodLink RX0 46 yJ13_compare_74951, Cond.static yJ13_compare_74951, Cond.initialized RJ13, Cond.code yJ13_compare_74951 cJ13_compare_74951 4 (some .int), Cond.methodLink RX0 52 yX0_flagsOf, Cond.static yX0_flagsOf, Cond.code yX0_flagsOf cX0_flagsOf 2 (some .int), Cond.methodLink RL 56 yX0_change, Cond.instanceMethod yX0_change]
def wsL_law_r9 : List Cond := [Cond.selects RX0 yX0_change yX0_change, Cond.code yX0_change cX0_change 6 (some .int), Cond.methodLink RL 60 yX0_whole, Cond.instanceMethod yX0_whole, Cond.selects RX0 yX0_whole yX0_whole, Cond.code yX0_whole cX0_whole 12 (some .int), Cond.methodLink RX0 56 yX0_wholeOf, Cond.static yX0_wholeOf, Cond.code yX0_wholeOf cX0_wholeOf 6 (some .long), Cond.methodLink RX0 124 yX0_wholeSize, Cond.static yX0_wholeSize, Cond.code yX0_wholeSize cX0_wholeSize 6 (some .long), Cond.methodLink RL 65 yX0_number, Cond.instanceMethod yX0_number, Cond.selects RX0 yX0_number yX0_number, Cond.code yX0_number cX0_number 4 (some .int), Cond.methodLink RL 69 yX0_lost, Cond.instanceMethod yX0_lost, Cond.selects RX0 yX0_lost yX0_lost, Cond.code yX0_lost cX0_lost 1 (some .boolean)]
def wsL_law : List Cond := (wsL_law_r1 ++ (wsL_law_r2 ++ (wsL_law_r3 ++ (wsL_law_r4 ++ (wsL_law_r5 ++ (wsL_law_r6 ++ (wsL_law_r7 ++ (wsL_law_r8 ++ wsL_law_r9)))))))) ++ wsX00 ++ wsX10 ++ ([] : List Cond)
set_option maxRecDepth 20000 in
theorem wsL_law_in : ∀ w ∈ wsL_law, w ∈ lw_tbl := fun w h => (goodIn_p wsL_law [21, 24, 179, 39, 42, 209, 46, 213, 50, 217, 54, 58, 61, 65, 71, 79, 93, 83, 87, 90, 96, 102, 106, 110, 221, 225, 228, 231, 235, 239, 245, 248, 114, 118, 122, 125, 131, 135, 138, 142, 146, 149, 152, 156, 160, 163, 166, 170, 174] (by decide +kernel) (by decide +kernel) w h).1
theorem inlX0 : ∀ w ∈ wsX00, w ∈ wsL_law := fun _ h => List.mem_append_left _ (List.mem_append_left _ (List.mem_append_right _ h))
theorem inX0 : ∀ w ∈ wsX00, w ∈ lw_tbl := fun w h => wsL_law_in w (inlX0 w h)
theorem inlX1 : ∀ w ∈ wsX10, w ∈ wsL_law := fun _ h => List.mem_append_left _ (List.mem_append_right _ h)
theorem inX1 : ∀ w ∈ wsX10, w ∈ lw_tbl := fun w h => wsL_law_in w (inlX1 w h)
theorem inJ13 : ∀ w ∈ wsJ130, w ∈ lw_tbl := by decide +kernel
theorem inJ9 : ∀ w ∈ wsJ90, w ∈ lw_tbl := by decide +kernel
theorem dX0_init_0 : decode cX0_init 0 = .ok (.aload_n 0, 1) := by decide +kernel
theorem dX0_init_1 : decode cX0_init 1 = .ok (.invokespecial 3, 3) := by decide +kernel
theorem dX0_init_4 : decode cX0_init 4 = .ok (.aload_n 0, 1) := by decide +kernel
theorem dX0_init_5 : decode cX0_init 5 = .ok (.bipush 8, 2) := by decide +kernel
theorem dX0_init_7 : decode cX0_init 7 = .ok (.newarray .long, 2) := by decide +kernel
theorem dX0_init_9 : decode cX0_init 9 = .ok (.putfield 9, 3) := by decide +kernel
theorem dX0_init_12 : decode cX0_init 12 = .ok (.aload_n 0, 1) := by decide +kernel
theorem dX0_init_13 : decode cX0_init 13 = .ok (.iconst 0, 1) := by decide +kernel
theorem dX0_init_14 : decode cX0_init 14 = .ok (.putfield 13, 3) := by decide +kernel
theorem dX0_init_17 : decode cX0_init 17 = .ok (.aload_n 0, 1) := by decide +kernel
theorem dX0_init_18 : decode cX0_init 18 = .ok (.iconst 0, 1) := by decide +kernel
theorem dX0_init_19 : decode cX0_init 19 = .ok (.putfield 17, 3) := by decide +kernel
theorem dX0_init_22 : decode cX0_init 22 = .ok (.return_, 1) := by decide +kernel
set_option maxRecDepth 20000 in
theorem ggX0_set_X0_isRegister : GoodIn wsX0_set wsX0_isRegister := goodIn_r _ [5] (by decide +kernel) (by decide +kernel)
set_option maxRecDepth 20000 in
theorem gX0_set_X0_isRegister : GoodIn wsX0_set (va_wsS RX0 20 yX0_isRegister wsX0_isRegister) := goodIn_app (goodIn_of _ (by decide +kernel)) ggX0_set_X0_isRegister
theorem dX0_set_0 : decode cX0_set 0 = .ok (.iload_n 1, 1) := by decide +kernel
theorem dX0_set_1 : decode cX0_set 1 = .ok (.invokestatic 20, 3) := by decide +kernel
theorem dX0_set_4 : decode cX0_set 4 = .ok (.ifCond .ne 5, 3) := by decide +kernel
theorem dX0_set_7 : decode cX0_set 7 = .ok (.iconst 0, 1) := by decide +kernel
theorem dX0_set_8 : decode cX0_set 8 = .ok (.ireturn, 1) := by decide +kernel
theorem dX0_set_9 : decode cX0_set 9 = .ok (.aload_n 0, 1) := by decide +kernel
theorem dX0_set_10 : decode cX0_set 10 = .ok (.getfield 9, 3) := by decide +kernel
theorem dX0_set_13 : decode cX0_set 13 = .ok (.iload_n 1, 1) := by decide +kernel
theorem dX0_set_14 : decode cX0_set 14 = .ok (.lload_n 2, 1) := by decide +kernel
theorem dX0_set_15 : decode cX0_set 15 = .ok (.lastore, 1) := by decide +kernel
theorem dX0_set_16 : decode cX0_set 16 = .ok (.iconst 1, 1) := by decide +kernel
theorem dX0_set_17 : decode cX0_set 17 = .ok (.ireturn, 1) := by decide +kernel
set_option maxRecDepth 20000 in
theorem ggX0_get_X0_isRegister : GoodIn wsX0_get wsX0_isRegister := goodIn_r _ [5] (by decide +kernel) (by decide +kernel)
set_option maxRecDepth 20000 in
theorem gX0_get_X0_isRegister : GoodIn wsX0_get (va_wsS RX0 20 yX0_isRegister wsX0_isRegister) := goodIn_app (goodIn_of _ (by decide +kernel)) ggX0_get_X0_isRegister
theorem dX0_get_0 : decode cX0_get 0 = .ok (.iload_n 1, 1) := by decide +kernel
theorem dX0_get_1 : decode cX0_get 1 = .ok (.invokestatic 20, 3) := by decide +kernel
theorem dX0_get_4 : decode cX0_get 4 = .ok (.ifCond .eq 12, 3) := by decide +kernel
theorem dX0_get_7 : decode cX0_get 7 = .ok (.aload_n 0, 1) := by decide +kernel
theorem dX0_get_8 : decode cX0_get 8 = .ok (.getfield 9, 3) := by decide +kernel
theorem dX0_get_11 : decode cX0_get 11 = .ok (.iload_n 1, 1) := by decide +kernel
theorem dX0_get_12 : decode cX0_get 12 = .ok (.laload, 1) := by decide +kernel
theorem dX0_get_13 : decode cX0_get 13 = .ok (.goto 4, 3) := by decide +kernel
theorem dX0_get_16 : decode cX0_get 16 = .ok (.lconst 0, 1) := by decide +kernel
theorem dX0_get_17 : decode cX0_get 17 = .ok (.lreturn, 1) := by decide +kernel
theorem dX0_under_0 : decode cX0_under 0 = .ok (.aload_n 0, 1) := by decide +kernel
theorem dX0_under_1 : decode cX0_under 1 = .ok (.iload_n 1, 1) := by decide +kernel
theorem dX0_under_2 : decode cX0_under 2 = .ok (.putfield 13, 3) := by decide +kernel
theorem dX0_under_5 : decode cX0_under 5 = .ok (.return_, 1) := by decide +kernel
set_option maxRecDepth 20000 in
theorem ggX0_sum_X0_refusalOf : GoodIn wsX0_sum wsX0_refusalOf := goodIn_r _ [5, 6, 7, 4, 8, 9, 10, 11, 12, 13, 14, 15, 16, 17, 18, 65, 66, 67] (by decide +kernel) (by decide +kernel)
set_option maxRecDepth 20000 in
theorem gX0_sum_X0_refusalOf : GoodIn wsX0_sum (wsV RX0 24 RX0 yX0_refusalOf wsX0_refusalOf) := goodIn_app (goodIn_of _ (by decide +kernel)) ggX0_sum_X0_refusalOf
set_option maxRecDepth 20000 in
theorem ggX0_sum_X0_valueIn : GoodIn wsX0_sum wsX0_valueIn := goodIn_r _ [22, 16, 23, 24, 25, 26, 18, 65, 66, 67] (by decide +kernel) (by decide +kernel)
set_option maxRecDepth 20000 in
theorem gX0_sum_X0_valueIn : GoodIn wsX0_sum (wsV RX0 28 RX0 yX0_valueIn wsX0_valueIn) := goodIn_app (goodIn_of _ (by decide +kernel)) ggX0_sum_X0_valueIn
set_option maxRecDepth 20000 in
theorem ggX0_sum_X0_storeSum : GoodIn wsX0_sum wsX0_storeSum := goodIn_r _ [30, 31, 32, 33, 34, 35, 36, 37, 4, 38, 39, 40, 41, 42, 16, 43, 44, 45, 46, 47, 48, 49, 50, 51, 52, 53, 54, 55, 56, 57, 58, 59, 60, 61, 26, 62, 63, 64, 65, 66, 67] (by decide +kernel) (by decide +kernel)
set_option maxRecDepth 20000 in
theorem gX0_sum_X0_storeSum : GoodIn wsX0_sum (wsV RX0 32 RX0 yX0_storeSum wsX0_storeSum) := goodIn_app (goodIn_of _ (by decide +kernel)) ggX0_sum_X0_storeSum
theorem dX0_sum_0 : decode cX0_sum 0 = .ok (.aload_n 0, 1) := by decide +kernel
theorem dX0_sum_1 : decode cX0_sum 1 = .ok (.iload_n 1, 1) := by decide +kernel
theorem dX0_sum_2 : decode cX0_sum 2 = .ok (.iload_n 2, 1) := by decide +kernel
theorem dX0_sum_3 : decode cX0_sum 3 = .ok (.iload_n 3, 1) := by decide +kernel
theorem dX0_sum_4 : decode cX0_sum 4 = .ok (.iload 4, 2) := by decide +kernel
theorem dX0_sum_6 : decode cX0_sum 6 = .ok (.invokevirtual 24, 3) := by decide +kernel
theorem dX0_sum_9 : decode cX0_sum 9 = .ok (.istore 5, 2) := by decide +kernel
theorem dX0_sum_11 : decode cX0_sum 11 = .ok (.iload 5, 2) := by decide +kernel
theorem dX0_sum_13 : decode cX0_sum 13 = .ok (.ifCond .eq 8, 3) := by decide +kernel
theorem dX0_sum_16 : decode cX0_sum 16 = .ok (.iload 5, 2) := by decide +kernel
theorem dX0_sum_18 : decode cX0_sum 18 = .ok (.goto 22, 3) := by decide +kernel
theorem dX0_sum_21 : decode cX0_sum 21 = .ok (.aload_n 0, 1) := by decide +kernel
theorem dX0_sum_22 : decode cX0_sum 22 = .ok (.iload_n 1, 1) := by decide +kernel
theorem dX0_sum_23 : decode cX0_sum 23 = .ok (.iload 4, 2) := by decide +kernel
theorem dX0_sum_25 : decode cX0_sum 25 = .ok (.aload_n 0, 1) := by decide +kernel
theorem dX0_sum_26 : decode cX0_sum 26 = .ok (.iload_n 1, 1) := by decide +kernel
theorem dX0_sum_27 : decode cX0_sum 27 = .ok (.iload_n 3, 1) := by decide +kernel
theorem dX0_sum_28 : decode cX0_sum 28 = .ok (.invokevirtual 28, 3) := by decide +kernel
theorem dX0_sum_31 : decode cX0_sum 31 = .ok (.aload_n 0, 1) := by decide +kernel
theorem dX0_sum_32 : decode cX0_sum 32 = .ok (.iload_n 1, 1) := by decide +kernel
theorem dX0_sum_33 : decode cX0_sum 33 = .ok (.iload_n 2, 1) := by decide +kernel
theorem dX0_sum_34 : decode cX0_sum 34 = .ok (.invokevirtual 28, 3) := by decide +kernel
theorem dX0_sum_37 : decode cX0_sum 37 = .ok (.invokevirtual 32, 3) := by decide +kernel
theorem dX0_sum_40 : decode cX0_sum 40 = .ok (.ireturn, 1) := by decide +kernel
set_option maxRecDepth 20000 in
theorem ggX0_less_X0_refusalOf : GoodIn wsX0_less wsX0_refusalOf := goodIn_r _ [5, 6, 7, 4, 8, 9, 10, 11, 12, 13, 14, 15, 16, 17, 18, 65, 66, 67] (by decide +kernel) (by decide +kernel)
set_option maxRecDepth 20000 in
theorem gX0_less_X0_refusalOf : GoodIn wsX0_less (wsV RX0 24 RX0 yX0_refusalOf wsX0_refusalOf) := goodIn_app (goodIn_of _ (by decide +kernel)) ggX0_less_X0_refusalOf
set_option maxRecDepth 20000 in
theorem ggX0_less_X0_valueIn : GoodIn wsX0_less wsX0_valueIn := goodIn_r _ [22, 16, 23, 24, 25, 26, 18, 65, 66, 67] (by decide +kernel) (by decide +kernel)
set_option maxRecDepth 20000 in
theorem gX0_less_X0_valueIn : GoodIn wsX0_less (wsV RX0 28 RX0 yX0_valueIn wsX0_valueIn) := goodIn_app (goodIn_of _ (by decide +kernel)) ggX0_less_X0_valueIn
set_option maxRecDepth 20000 in
theorem ggX0_less_X0_storeSum : GoodIn wsX0_less wsX0_storeSum := goodIn_r _ [30, 31, 32, 33, 34, 35, 36, 37, 4, 38, 39, 40, 41, 42, 16, 43, 44, 45, 46, 47, 48, 49, 50, 51, 52, 53, 54, 55, 56, 57, 58, 59, 60, 61, 26, 62, 63, 64, 65, 66, 67] (by decide +kernel) (by decide +kernel)
set_option maxRecDepth 20000 in
theorem gX0_less_X0_storeSum : GoodIn wsX0_less (wsV RX0 32 RX0 yX0_storeSum wsX0_storeSum) := goodIn_app (goodIn_of _ (by decide +kernel)) ggX0_less_X0_storeSum
theorem dX0_less_0 : decode cX0_less 0 = .ok (.aload_n 0, 1) := by decide +kernel
theorem dX0_less_1 : decode cX0_less 1 = .ok (.iload_n 1, 1) := by decide +kernel
theorem dX0_less_2 : decode cX0_less 2 = .ok (.iload_n 2, 1) := by decide +kernel
theorem dX0_less_3 : decode cX0_less 3 = .ok (.iload_n 3, 1) := by decide +kernel
theorem dX0_less_4 : decode cX0_less 4 = .ok (.iload 4, 2) := by decide +kernel
theorem dX0_less_6 : decode cX0_less 6 = .ok (.invokevirtual 24, 3) := by decide +kernel
theorem dX0_less_9 : decode cX0_less 9 = .ok (.istore 5, 2) := by decide +kernel
theorem dX0_less_11 : decode cX0_less 11 = .ok (.iload 5, 2) := by decide +kernel
theorem dX0_less_13 : decode cX0_less 13 = .ok (.ifCond .eq 8, 3) := by decide +kernel
theorem dX0_less_16 : decode cX0_less 16 = .ok (.iload 5, 2) := by decide +kernel
theorem dX0_less_18 : decode cX0_less 18 = .ok (.goto 23, 3) := by decide +kernel
theorem dX0_less_21 : decode cX0_less 21 = .ok (.aload_n 0, 1) := by decide +kernel
theorem dX0_less_22 : decode cX0_less 22 = .ok (.iload_n 1, 1) := by decide +kernel
theorem dX0_less_23 : decode cX0_less 23 = .ok (.iload 4, 2) := by decide +kernel
theorem dX0_less_25 : decode cX0_less 25 = .ok (.aload_n 0, 1) := by decide +kernel
theorem dX0_less_26 : decode cX0_less 26 = .ok (.iload_n 1, 1) := by decide +kernel
theorem dX0_less_27 : decode cX0_less 27 = .ok (.iload_n 3, 1) := by decide +kernel
theorem dX0_less_28 : decode cX0_less 28 = .ok (.invokevirtual 28, 3) := by decide +kernel
theorem dX0_less_31 : decode cX0_less 31 = .ok (.aload_n 0, 1) := by decide +kernel
theorem dX0_less_32 : decode cX0_less 32 = .ok (.iload_n 1, 1) := by decide +kernel
theorem dX0_less_33 : decode cX0_less 33 = .ok (.iload_n 2, 1) := by decide +kernel
theorem dX0_less_34 : decode cX0_less 34 = .ok (.invokevirtual 28, 3) := by decide +kernel
theorem dX0_less_37 : decode cX0_less 37 = .ok (.lneg, 1) := by decide +kernel
theorem dX0_less_38 : decode cX0_less 38 = .ok (.invokevirtual 32, 3) := by decide +kernel
theorem dX0_less_41 : decode cX0_less 41 = .ok (.ireturn, 1) := by decide +kernel
set_option maxRecDepth 20000 in
theorem ggX0_product_X0_refusalOf : GoodIn wsX0_product wsX0_refusalOf := goodIn_r _ [5, 6, 7, 4, 8, 9, 10, 11, 12, 13, 14, 15, 16, 17, 18, 63, 64, 65] (by decide +kernel) (by decide +kernel)
set_option maxRecDepth 20000 in
theorem gX0_product_X0_refusalOf : GoodIn wsX0_product (wsV RX0 24 RX0 yX0_refusalOf wsX0_refusalOf) := goodIn_app (goodIn_of _ (by decide +kernel)) ggX0_product_X0_refusalOf
set_option maxRecDepth 20000 in
theorem ggX0_product_X0_valueIn : GoodIn wsX0_product wsX0_valueIn := goodIn_r _ [22, 16, 23, 24, 25, 26, 18, 63, 64, 65] (by decide +kernel) (by decide +kernel)
set_option maxRecDepth 20000 in
theorem gX0_product_X0_valueIn : GoodIn wsX0_product (wsV RX0 28 RX0 yX0_valueIn wsX0_valueIn) := goodIn_app (goodIn_of _ (by decide +kernel)) ggX0_product_X0_valueIn
set_option maxRecDepth 20000 in
theorem ggX0_product_X0_storeProduct : GoodIn wsX0_product wsX0_storeProduct := goodIn_r _ [30, 31, 32, 33, 4, 34, 16, 35, 36, 37, 38, 39, 40, 41, 42, 43, 44, 45, 46, 47, 48, 49, 50, 51, 52, 53, 54, 55, 56, 57, 58, 59, 60, 61, 62, 26, 63, 64, 65] (by decide +kernel) (by decide +kernel)
set_option maxRecDepth 20000 in
theorem gX0_product_X0_storeProduct : GoodIn wsX0_product (wsV RX0 36 RX0 yX0_storeProduct wsX0_storeProduct) := goodIn_app (goodIn_of _ (by decide +kernel)) ggX0_product_X0_storeProduct
theorem dX0_product_0 : decode cX0_product 0 = .ok (.aload_n 0, 1) := by decide +kernel
theorem dX0_product_1 : decode cX0_product 1 = .ok (.iload_n 1, 1) := by decide +kernel
theorem dX0_product_2 : decode cX0_product 2 = .ok (.iload_n 2, 1) := by decide +kernel
theorem dX0_product_3 : decode cX0_product 3 = .ok (.iload_n 3, 1) := by decide +kernel
theorem dX0_product_4 : decode cX0_product 4 = .ok (.iload 4, 2) := by decide +kernel
theorem dX0_product_6 : decode cX0_product 6 = .ok (.invokevirtual 24, 3) := by decide +kernel
theorem dX0_product_9 : decode cX0_product 9 = .ok (.istore 5, 2) := by decide +kernel
theorem dX0_product_11 : decode cX0_product 11 = .ok (.iload 5, 2) := by decide +kernel
theorem dX0_product_13 : decode cX0_product 13 = .ok (.ifCond .eq 8, 3) := by decide +kernel
theorem dX0_product_16 : decode cX0_product 16 = .ok (.iload 5, 2) := by decide +kernel
theorem dX0_product_18 : decode cX0_product 18 = .ok (.goto 22, 3) := by decide +kernel
theorem dX0_product_21 : decode cX0_product 21 = .ok (.aload_n 0, 1) := by decide +kernel
theorem dX0_product_22 : decode cX0_product 22 = .ok (.iload_n 1, 1) := by decide +kernel
theorem dX0_product_23 : decode cX0_product 23 = .ok (.iload 4, 2) := by decide +kernel
theorem dX0_product_25 : decode cX0_product 25 = .ok (.aload_n 0, 1) := by decide +kernel
theorem dX0_product_26 : decode cX0_product 26 = .ok (.iload_n 1, 1) := by decide +kernel
theorem dX0_product_27 : decode cX0_product 27 = .ok (.iload_n 2, 1) := by decide +kernel
theorem dX0_product_28 : decode cX0_product 28 = .ok (.invokevirtual 28, 3) := by decide +kernel
theorem dX0_product_31 : decode cX0_product 31 = .ok (.aload_n 0, 1) := by decide +kernel
theorem dX0_product_32 : decode cX0_product 32 = .ok (.iload_n 1, 1) := by decide +kernel
theorem dX0_product_33 : decode cX0_product 33 = .ok (.iload_n 3, 1) := by decide +kernel
theorem dX0_product_34 : decode cX0_product 34 = .ok (.invokevirtual 28, 3) := by decide +kernel
theorem dX0_product_37 : decode cX0_product 37 = .ok (.invokevirtual 36, 3) := by decide +kernel
theorem dX0_product_40 : decode cX0_product 40 = .ok (.ireturn, 1) := by decide +kernel
set_option maxRecDepth 20000 in
theorem ggX0_quotient_X0_refusalOf : GoodIn wsX0_quotient wsX0_refusalOf := goodIn_r _ [5, 6, 7, 4, 8, 9, 10, 11, 12, 13, 14, 15, 16, 17, 18, 61, 62, 63] (by decide +kernel) (by decide +kernel)
set_option maxRecDepth 20000 in
theorem gX0_quotient_X0_refusalOf : GoodIn wsX0_quotient (wsV RX0 24 RX0 yX0_refusalOf wsX0_refusalOf) := goodIn_app (goodIn_of _ (by decide +kernel)) ggX0_quotient_X0_refusalOf
set_option maxRecDepth 20000 in
theorem ggX0_quotient_X0_valueIn : GoodIn wsX0_quotient wsX0_valueIn := goodIn_r _ [22, 16, 23, 24, 25, 26, 18, 61, 62, 63] (by decide +kernel) (by decide +kernel)
set_option maxRecDepth 20000 in
theorem gX0_quotient_X0_valueIn : GoodIn wsX0_quotient (wsV RX0 28 RX0 yX0_valueIn wsX0_valueIn) := goodIn_app (goodIn_of _ (by decide +kernel)) ggX0_quotient_X0_valueIn
set_option maxRecDepth 20000 in
theorem ggX0_quotient_X0_storeQuotient : GoodIn wsX0_quotient wsX0_storeQuotient := goodIn_r _ [30, 31, 32, 33, 4, 34, 16, 35, 36, 37, 38, 39, 40, 41, 42, 43, 44, 45, 46, 47, 48, 49, 50, 51, 52, 53, 54, 55, 56, 57, 58, 59, 60, 26, 61, 62, 63] (by decide +kernel) (by decide +kernel)
set_option maxRecDepth 20000 in
theorem gX0_quotient_X0_storeQuotient : GoodIn wsX0_quotient (wsV RX0 39 RX0 yX0_storeQuotient wsX0_storeQuotient) := goodIn_app (goodIn_of _ (by decide +kernel)) ggX0_quotient_X0_storeQuotient
theorem dX0_quotient_0 : decode cX0_quotient 0 = .ok (.aload_n 0, 1) := by decide +kernel
theorem dX0_quotient_1 : decode cX0_quotient 1 = .ok (.iload_n 1, 1) := by decide +kernel
theorem dX0_quotient_2 : decode cX0_quotient 2 = .ok (.iload_n 2, 1) := by decide +kernel
theorem dX0_quotient_3 : decode cX0_quotient 3 = .ok (.iload_n 3, 1) := by decide +kernel
theorem dX0_quotient_4 : decode cX0_quotient 4 = .ok (.iload 4, 2) := by decide +kernel
theorem dX0_quotient_6 : decode cX0_quotient 6 = .ok (.invokevirtual 24, 3) := by decide +kernel
theorem dX0_quotient_9 : decode cX0_quotient 9 = .ok (.istore 5, 2) := by decide +kernel
theorem dX0_quotient_11 : decode cX0_quotient 11 = .ok (.iload 5, 2) := by decide +kernel
theorem dX0_quotient_13 : decode cX0_quotient 13 = .ok (.ifCond .eq 6, 3) := by decide +kernel
theorem dX0_quotient_16 : decode cX0_quotient 16 = .ok (.iload 5, 2) := by decide +kernel
theorem dX0_quotient_18 : decode cX0_quotient 18 = .ok (.ireturn, 1) := by decide +kernel
theorem dX0_quotient_19 : decode cX0_quotient 19 = .ok (.aload_n 0, 1) := by decide +kernel
theorem dX0_quotient_20 : decode cX0_quotient 20 = .ok (.iload_n 1, 1) := by decide +kernel
theorem dX0_quotient_21 : decode cX0_quotient 21 = .ok (.iload_n 2, 1) := by decide +kernel
theorem dX0_quotient_22 : decode cX0_quotient 22 = .ok (.invokevirtual 28, 3) := by decide +kernel
theorem dX0_quotient_25 : decode cX0_quotient 25 = .ok (.lstore 6, 2) := by decide +kernel
theorem dX0_quotient_27 : decode cX0_quotient 27 = .ok (.lload 6, 2) := by decide +kernel
theorem dX0_quotient_29 : decode cX0_quotient 29 = .ok (.lconst 0, 1) := by decide +kernel
theorem dX0_quotient_30 : decode cX0_quotient 30 = .ok (.lcmp, 1) := by decide +kernel
theorem dX0_quotient_31 : decode cX0_quotient 31 = .ok (.ifCond .ne 8, 3) := by decide +kernel
theorem dX0_quotient_34 : decode cX0_quotient 34 = .ok (.bipush (-4), 2) := by decide +kernel
theorem dX0_quotient_36 : decode cX0_quotient 36 = .ok (.goto 18, 3) := by decide +kernel
theorem dX0_quotient_39 : decode cX0_quotient 39 = .ok (.aload_n 0, 1) := by decide +kernel
theorem dX0_quotient_40 : decode cX0_quotient 40 = .ok (.iload_n 1, 1) := by decide +kernel
theorem dX0_quotient_41 : decode cX0_quotient 41 = .ok (.iload 4, 2) := by decide +kernel
theorem dX0_quotient_43 : decode cX0_quotient 43 = .ok (.aload_n 0, 1) := by decide +kernel
theorem dX0_quotient_44 : decode cX0_quotient 44 = .ok (.iload_n 1, 1) := by decide +kernel
theorem dX0_quotient_45 : decode cX0_quotient 45 = .ok (.iload_n 3, 1) := by decide +kernel
theorem dX0_quotient_46 : decode cX0_quotient 46 = .ok (.invokevirtual 28, 3) := by decide +kernel
theorem dX0_quotient_49 : decode cX0_quotient 49 = .ok (.lload 6, 2) := by decide +kernel
theorem dX0_quotient_51 : decode cX0_quotient 51 = .ok (.invokevirtual 39, 3) := by decide +kernel
theorem dX0_quotient_54 : decode cX0_quotient 54 = .ok (.ireturn, 1) := by decide +kernel
set_option maxRecDepth 20000 in
theorem ggX0_negative_X0_refusalOf : GoodIn wsX0_negative wsX0_refusalOf := goodIn_r _ [5, 6, 7, 4, 8, 9, 10, 11, 12, 13, 14, 15, 16, 17, 18, 58, 59, 60] (by decide +kernel) (by decide +kernel)
set_option maxRecDepth 20000 in
theorem gX0_negative_X0_refusalOf : GoodIn wsX0_negative (wsV RX0 24 RX0 yX0_refusalOf wsX0_refusalOf) := goodIn_app (goodIn_of _ (by decide +kernel)) ggX0_negative_X0_refusalOf
set_option maxRecDepth 20000 in
theorem ggX0_negative_X0_valueIn : GoodIn wsX0_negative wsX0_valueIn := goodIn_r _ [22, 16, 23, 24, 25, 26, 18, 58, 59, 60] (by decide +kernel) (by decide +kernel)
set_option maxRecDepth 20000 in
theorem gX0_negative_X0_valueIn : GoodIn wsX0_negative (wsV RX0 28 RX0 yX0_valueIn wsX0_valueIn) := goodIn_app (goodIn_of _ (by decide +kernel)) ggX0_negative_X0_valueIn
set_option maxRecDepth 20000 in
theorem ggX0_negative_X0_storeValue : GoodIn wsX0_negative wsX0_storeValue := goodIn_r _ [30, 31, 32, 33, 4, 34, 16, 35, 36, 37, 38, 39, 40, 41, 42, 43, 44, 45, 46, 47, 48, 49, 50, 51, 52, 53, 54, 55, 56, 57, 26, 58, 59, 60] (by decide +kernel) (by decide +kernel)
set_option maxRecDepth 20000 in
theorem gX0_negative_X0_storeValue : GoodIn wsX0_negative (wsV RX0 42 RX0 yX0_storeValue wsX0_storeValue) := goodIn_app (goodIn_of _ (by decide +kernel)) ggX0_negative_X0_storeValue
theorem dX0_negative_0 : decode cX0_negative 0 = .ok (.aload_n 0, 1) := by decide +kernel
theorem dX0_negative_1 : decode cX0_negative 1 = .ok (.iload_n 1, 1) := by decide +kernel
theorem dX0_negative_2 : decode cX0_negative 2 = .ok (.iload_n 2, 1) := by decide +kernel
theorem dX0_negative_3 : decode cX0_negative 3 = .ok (.iload_n 2, 1) := by decide +kernel
theorem dX0_negative_4 : decode cX0_negative 4 = .ok (.iload_n 3, 1) := by decide +kernel
theorem dX0_negative_5 : decode cX0_negative 5 = .ok (.invokevirtual 24, 3) := by decide +kernel
theorem dX0_negative_8 : decode cX0_negative 8 = .ok (.istore 4, 2) := by decide +kernel
theorem dX0_negative_10 : decode cX0_negative 10 = .ok (.iload 4, 2) := by decide +kernel
theorem dX0_negative_12 : decode cX0_negative 12 = .ok (.ifCond .eq 8, 3) := by decide +kernel
theorem dX0_negative_15 : decode cX0_negative 15 = .ok (.iload 4, 2) := by decide +kernel
theorem dX0_negative_17 : decode cX0_negative 17 = .ok (.goto 16, 3) := by decide +kernel
theorem dX0_negative_20 : decode cX0_negative 20 = .ok (.aload_n 0, 1) := by decide +kernel
theorem dX0_negative_21 : decode cX0_negative 21 = .ok (.iload_n 1, 1) := by decide +kernel
theorem dX0_negative_22 : decode cX0_negative 22 = .ok (.iload_n 3, 1) := by decide +kernel
theorem dX0_negative_23 : decode cX0_negative 23 = .ok (.aload_n 0, 1) := by decide +kernel
theorem dX0_negative_24 : decode cX0_negative 24 = .ok (.iload_n 1, 1) := by decide +kernel
theorem dX0_negative_25 : decode cX0_negative 25 = .ok (.iload_n 2, 1) := by decide +kernel
theorem dX0_negative_26 : decode cX0_negative 26 = .ok (.invokevirtual 28, 3) := by decide +kernel
theorem dX0_negative_29 : decode cX0_negative 29 = .ok (.lneg, 1) := by decide +kernel
theorem dX0_negative_30 : decode cX0_negative 30 = .ok (.invokevirtual 42, 3) := by decide +kernel
theorem dX0_negative_33 : decode cX0_negative 33 = .ok (.ireturn, 1) := by decide +kernel
set_option maxRecDepth 20000 in
theorem ggX0_compare_X0_refusalOf : GoodIn wsX0_compare wsX0_refusalOf := goodIn_r _ [5, 6, 7, 4, 8, 9, 10, 11, 12, 13, 14, 15, 16, 17, 18, 34, 35, 36] (by decide +kernel) (by decide +kernel)
set_option maxRecDepth 20000 in
theorem gX0_compare_X0_refusalOf : GoodIn wsX0_compare (wsV RX0 24 RX0 yX0_refusalOf wsX0_refusalOf) := goodIn_app (goodIn_of _ (by decide +kernel)) ggX0_compare_X0_refusalOf
set_option maxRecDepth 20000 in
theorem ggX0_compare_X0_valueIn : GoodIn wsX0_compare wsX0_valueIn := goodIn_r _ [22, 16, 23, 24, 25, 26, 18, 34, 35, 36] (by decide +kernel) (by decide +kernel)
set_option maxRecDepth 20000 in
theorem gX0_compare_X0_valueIn : GoodIn wsX0_compare (wsV RX0 28 RX0 yX0_valueIn wsX0_valueIn) := goodIn_app (goodIn_of _ (by decide +kernel)) ggX0_compare_X0_valueIn
set_option maxRecDepth 20000 in
theorem ggX0_compare_J13_compare_74951 : GoodIn wsX0_compare wsJ13_compare_74951 := goodIn_r _ [30] (by decide +kernel) (by decide +kernel)
set_option maxRecDepth 20000 in
theorem gX0_compare_J13_compare_74951 : GoodIn wsX0_compare (va_wsS RX0 46 yJ13_compare_74951 wsJ13_compare_74951) := goodIn_app (goodIn_of _ (by decide +kernel)) ggX0_compare_J13_compare_74951
set_option maxRecDepth 20000 in
theorem ggX0_compare_X0_flagsOf : GoodIn wsX0_compare wsX0_flagsOf := goodIn_r _ [33] (by decide +kernel) (by decide +kernel)
set_option maxRecDepth 20000 in
theorem gX0_compare_X0_flagsOf : GoodIn wsX0_compare (va_wsS RX0 52 yX0_flagsOf wsX0_flagsOf) := goodIn_app (goodIn_of _ (by decide +kernel)) ggX0_compare_X0_flagsOf
theorem dX0_compare_0 : decode cX0_compare 0 = .ok (.aload_n 0, 1) := by decide +kernel
theorem dX0_compare_1 : decode cX0_compare 1 = .ok (.iload_n 1, 1) := by decide +kernel
theorem dX0_compare_2 : decode cX0_compare 2 = .ok (.iload_n 2, 1) := by decide +kernel
theorem dX0_compare_3 : decode cX0_compare 3 = .ok (.iload_n 3, 1) := by decide +kernel
theorem dX0_compare_4 : decode cX0_compare 4 = .ok (.iload_n 2, 1) := by decide +kernel
theorem dX0_compare_5 : decode cX0_compare 5 = .ok (.invokevirtual 24, 3) := by decide +kernel
theorem dX0_compare_8 : decode cX0_compare 8 = .ok (.istore 4, 2) := by decide +kernel
theorem dX0_compare_10 : decode cX0_compare 10 = .ok (.iload 4, 2) := by decide +kernel
theorem dX0_compare_12 : decode cX0_compare 12 = .ok (.ifCond .eq 6, 3) := by decide +kernel
theorem dX0_compare_15 : decode cX0_compare 15 = .ok (.iload 4, 2) := by decide +kernel
theorem dX0_compare_17 : decode cX0_compare 17 = .ok (.ireturn, 1) := by decide +kernel
theorem dX0_compare_18 : decode cX0_compare 18 = .ok (.aload_n 0, 1) := by decide +kernel
theorem dX0_compare_19 : decode cX0_compare 19 = .ok (.iload_n 1, 1) := by decide +kernel
theorem dX0_compare_20 : decode cX0_compare 20 = .ok (.iload_n 2, 1) := by decide +kernel
theorem dX0_compare_21 : decode cX0_compare 21 = .ok (.invokevirtual 28, 3) := by decide +kernel
theorem dX0_compare_24 : decode cX0_compare 24 = .ok (.aload_n 0, 1) := by decide +kernel
theorem dX0_compare_25 : decode cX0_compare 25 = .ok (.iload_n 1, 1) := by decide +kernel
theorem dX0_compare_26 : decode cX0_compare 26 = .ok (.iload_n 3, 1) := by decide +kernel
theorem dX0_compare_27 : decode cX0_compare 27 = .ok (.invokevirtual 28, 3) := by decide +kernel
theorem dX0_compare_30 : decode cX0_compare 30 = .ok (.invokestatic 46, 3) := by decide +kernel
theorem dX0_compare_33 : decode cX0_compare 33 = .ok (.i2l, 1) := by decide +kernel
theorem dX0_compare_34 : decode cX0_compare 34 = .ok (.invokestatic 52, 3) := by decide +kernel
theorem dX0_compare_37 : decode cX0_compare 37 = .ok (.ireturn, 1) := by decide +kernel
set_option maxRecDepth 20000 in
theorem ggX0_change_X0_refusalOf : GoodIn wsX0_change wsX0_refusalOf := goodIn_r _ [5, 6, 7, 4, 8, 9, 10, 11, 12, 13, 14, 15, 16, 17, 18, 58, 59, 60] (by decide +kernel) (by decide +kernel)
set_option maxRecDepth 20000 in
theorem gX0_change_X0_refusalOf : GoodIn wsX0_change (wsV RX0 24 RX0 yX0_refusalOf wsX0_refusalOf) := goodIn_app (goodIn_of _ (by decide +kernel)) ggX0_change_X0_refusalOf
set_option maxRecDepth 20000 in
theorem ggX0_change_X0_valueIn : GoodIn wsX0_change wsX0_valueIn := goodIn_r _ [22, 16, 23, 24, 25, 26, 18, 58, 59, 60] (by decide +kernel) (by decide +kernel)
set_option maxRecDepth 20000 in
theorem gX0_change_X0_valueIn : GoodIn wsX0_change (wsV RX0 28 RX0 yX0_valueIn wsX0_valueIn) := goodIn_app (goodIn_of _ (by decide +kernel)) ggX0_change_X0_valueIn
set_option maxRecDepth 20000 in
theorem ggX0_change_X0_storeValue : GoodIn wsX0_change wsX0_storeValue := goodIn_r _ [30, 31, 32, 33, 4, 34, 16, 35, 36, 37, 38, 39, 40, 41, 42, 43, 44, 45, 46, 47, 48, 49, 50, 51, 52, 53, 54, 55, 56, 57, 26, 58, 59, 60] (by decide +kernel) (by decide +kernel)
set_option maxRecDepth 20000 in
theorem gX0_change_X0_storeValue : GoodIn wsX0_change (wsV RX0 42 RX0 yX0_storeValue wsX0_storeValue) := goodIn_app (goodIn_of _ (by decide +kernel)) ggX0_change_X0_storeValue
theorem dX0_change_0 : decode cX0_change 0 = .ok (.aload_n 0, 1) := by decide +kernel
theorem dX0_change_1 : decode cX0_change 1 = .ok (.iload_n 1, 1) := by decide +kernel
theorem dX0_change_2 : decode cX0_change 2 = .ok (.iload_n 2, 1) := by decide +kernel
theorem dX0_change_3 : decode cX0_change 3 = .ok (.iload_n 2, 1) := by decide +kernel
theorem dX0_change_4 : decode cX0_change 4 = .ok (.iload_n 3, 1) := by decide +kernel
theorem dX0_change_5 : decode cX0_change 5 = .ok (.invokevirtual 24, 3) := by decide +kernel
theorem dX0_change_8 : decode cX0_change 8 = .ok (.istore 4, 2) := by decide +kernel
theorem dX0_change_10 : decode cX0_change 10 = .ok (.iload_n 1, 1) := by decide +kernel
theorem dX0_change_11 : decode cX0_change 11 = .ok (.iconst 4, 1) := by decide +kernel
theorem dX0_change_12 : decode cX0_change 12 = .ok (.if_icmp .ne 8, 3) := by decide +kernel
theorem dX0_change_15 : decode cX0_change 15 = .ok (.bipush 8, 2) := by decide +kernel
theorem dX0_change_17 : decode cX0_change 17 = .ok (.goto 4, 3) := by decide +kernel
theorem dX0_change_20 : decode cX0_change 20 = .ok (.iconst 4, 1) := by decide +kernel
theorem dX0_change_21 : decode cX0_change 21 = .ok (.istore 5, 2) := by decide +kernel
theorem dX0_change_23 : decode cX0_change 23 = .ok (.iload 4, 2) := by decide +kernel
theorem dX0_change_25 : decode cX0_change 25 = .ok (.ifCond .eq 8, 3) := by decide +kernel
theorem dX0_change_28 : decode cX0_change 28 = .ok (.iload 4, 2) := by decide +kernel
theorem dX0_change_30 : decode cX0_change 30 = .ok (.goto 16, 3) := by decide +kernel
theorem dX0_change_33 : decode cX0_change 33 = .ok (.aload_n 0, 1) := by decide +kernel
theorem dX0_change_34 : decode cX0_change 34 = .ok (.iload 5, 2) := by decide +kernel
theorem dX0_change_36 : decode cX0_change 36 = .ok (.iload_n 3, 1) := by decide +kernel
theorem dX0_change_37 : decode cX0_change 37 = .ok (.aload_n 0, 1) := by decide +kernel
theorem dX0_change_38 : decode cX0_change 38 = .ok (.iload_n 1, 1) := by decide +kernel
theorem dX0_change_39 : decode cX0_change 39 = .ok (.iload_n 2, 1) := by decide +kernel
theorem dX0_change_40 : decode cX0_change 40 = .ok (.invokevirtual 28, 3) := by decide +kernel
theorem dX0_change_43 : decode cX0_change 43 = .ok (.invokevirtual 42, 3) := by decide +kernel
theorem dX0_change_46 : decode cX0_change 46 = .ok (.ireturn, 1) := by decide +kernel
set_option maxRecDepth 20000 in
theorem ggX0_whole_X0_refusalOf : GoodIn wsX0_whole wsX0_refusalOf := goodIn_r _ [6, 7, 8, 5, 9, 10, 11, 12, 13, 14, 15, 16, 1, 17, 18, 48, 49, 50] (by decide +kernel) (by decide +kernel)
set_option maxRecDepth 20000 in
theorem gX0_whole_X0_refusalOf : GoodIn wsX0_whole (wsV RX0 24 RX0 yX0_refusalOf wsX0_refusalOf) := goodIn_app (goodIn_of _ (by decide +kernel)) ggX0_whole_X0_refusalOf
set_option maxRecDepth 20000 in
theorem ggX0_whole_X0_valueIn : GoodIn wsX0_whole wsX0_valueIn := goodIn_r _ [22, 1, 23, 24, 25, 26, 18, 48, 49, 50] (by decide +kernel) (by decide +kernel)
set_option maxRecDepth 20000 in
theorem gX0_whole_X0_valueIn : GoodIn wsX0_whole (wsV RX0 28 RX0 yX0_valueIn wsX0_valueIn) := goodIn_app (goodIn_of _ (by decide +kernel)) ggX0_whole_X0_valueIn
set_option maxRecDepth 20000 in
theorem ggX0_whole_X0_wholeOf : GoodIn wsX0_whole wsX0_wholeOf := goodIn_r _ [29, 30, 31, 5, 32, 33, 34, 35, 36, 37, 38, 39, 40, 41, 42, 43, 44, 23] (by decide +kernel) (by decide +kernel)
set_option maxRecDepth 20000 in
theorem gX0_whole_X0_wholeOf : GoodIn wsX0_whole (va_wsS RX0 56 yX0_wholeOf wsX0_wholeOf) := goodIn_app (goodIn_of _ (by decide +kernel)) ggX0_whole_X0_wholeOf
set_option maxRecDepth 20000 in
theorem ggX0_whole_X0_flagsOf : GoodIn wsX0_whole wsX0_flagsOf := goodIn_r _ [47] (by decide +kernel) (by decide +kernel)
set_option maxRecDepth 20000 in
theorem gX0_whole_X0_flagsOf : GoodIn wsX0_whole (va_wsS RX0 52 yX0_flagsOf wsX0_flagsOf) := goodIn_app (goodIn_of _ (by decide +kernel)) ggX0_whole_X0_flagsOf
theorem dX0_whole_0 : decode cX0_whole 0 = .ok (.iload_n 3, 1) := by decide +kernel
theorem dX0_whole_1 : decode cX0_whole 1 = .ok (.iconst 1, 1) := by decide +kernel
theorem dX0_whole_2 : decode cX0_whole 2 = .ok (.if_icmp .eq 16, 3) := by decide +kernel
theorem dX0_whole_5 : decode cX0_whole 5 = .ok (.iload_n 3, 1) := by decide +kernel
theorem dX0_whole_6 : decode cX0_whole 6 = .ok (.iconst 2, 1) := by decide +kernel
theorem dX0_whole_7 : decode cX0_whole 7 = .ok (.if_icmp .eq 11, 3) := by decide +kernel
theorem dX0_whole_10 : decode cX0_whole 10 = .ok (.iload_n 3, 1) := by decide +kernel
theorem dX0_whole_11 : decode cX0_whole 11 = .ok (.iconst 4, 1) := by decide +kernel
theorem dX0_whole_12 : decode cX0_whole 12 = .ok (.if_icmp .eq 6, 3) := by decide +kernel
theorem dX0_whole_15 : decode cX0_whole 15 = .ok (.bipush (-5), 2) := by decide +kernel
theorem dX0_whole_17 : decode cX0_whole 17 = .ok (.ireturn, 1) := by decide +kernel
theorem dX0_whole_18 : decode cX0_whole 18 = .ok (.aload_n 0, 1) := by decide +kernel
theorem dX0_whole_19 : decode cX0_whole 19 = .ok (.iload_n 1, 1) := by decide +kernel
theorem dX0_whole_20 : decode cX0_whole 20 = .ok (.iload_n 2, 1) := by decide +kernel
theorem dX0_whole_21 : decode cX0_whole 21 = .ok (.iload_n 2, 1) := by decide +kernel
theorem dX0_whole_22 : decode cX0_whole 22 = .ok (.iload 5, 2) := by decide +kernel
theorem dX0_whole_24 : decode cX0_whole 24 = .ok (.invokevirtual 24, 3) := by decide +kernel
theorem dX0_whole_27 : decode cX0_whole 27 = .ok (.istore 6, 2) := by decide +kernel
theorem dX0_whole_29 : decode cX0_whole 29 = .ok (.iload 6, 2) := by decide +kernel
theorem dX0_whole_31 : decode cX0_whole 31 = .ok (.ifCond .eq 6, 3) := by decide +kernel
theorem dX0_whole_34 : decode cX0_whole 34 = .ok (.iload 6, 2) := by decide +kernel
theorem dX0_whole_36 : decode cX0_whole 36 = .ok (.ireturn, 1) := by decide +kernel
theorem dX0_whole_37 : decode cX0_whole 37 = .ok (.aload_n 0, 1) := by decide +kernel
theorem dX0_whole_38 : decode cX0_whole 38 = .ok (.iload_n 1, 1) := by decide +kernel
theorem dX0_whole_39 : decode cX0_whole 39 = .ok (.iload_n 2, 1) := by decide +kernel
theorem dX0_whole_40 : decode cX0_whole 40 = .ok (.invokevirtual 28, 3) := by decide +kernel
theorem dX0_whole_43 : decode cX0_whole 43 = .ok (.iload 4, 2) := by decide +kernel
theorem dX0_whole_45 : decode cX0_whole 45 = .ok (.invokestatic 56, 3) := by decide +kernel
theorem dX0_whole_48 : decode cX0_whole 48 = .ok (.lstore 7, 2) := by decide +kernel
theorem dX0_whole_50 : decode cX0_whole 50 = .ok (.bipush 64, 2) := by decide +kernel
theorem dX0_whole_52 : decode cX0_whole 52 = .ok (.bipush 8, 2) := by decide +kernel
theorem dX0_whole_54 : decode cX0_whole 54 = .ok (.iload_n 3, 1) := by decide +kernel
theorem dX0_whole_55 : decode cX0_whole 55 = .ok (.imul, 1) := by decide +kernel
theorem dX0_whole_56 : decode cX0_whole 56 = .ok (.isub, 1) := by decide +kernel
theorem dX0_whole_57 : decode cX0_whole 57 = .ok (.istore 9, 2) := by decide +kernel
theorem dX0_whole_59 : decode cX0_whole 59 = .ok (.lload 7, 2) := by decide +kernel
theorem dX0_whole_61 : decode cX0_whole 61 = .ok (.iload 9, 2) := by decide +kernel
theorem dX0_whole_63 : decode cX0_whole 63 = .ok (.lshl, 1) := by decide +kernel
theorem dX0_whole_64 : decode cX0_whole 64 = .ok (.iload 9, 2) := by decide +kernel
theorem dX0_whole_66 : decode cX0_whole 66 = .ok (.lshr, 1) := by decide +kernel
theorem dX0_whole_67 : decode cX0_whole 67 = .ok (.lstore 10, 2) := by decide +kernel
theorem dX0_whole_69 : decode cX0_whole 69 = .ok (.aload_n 0, 1) := by decide +kernel
theorem dX0_whole_70 : decode cX0_whole 70 = .ok (.getfield 9, 3) := by decide +kernel
theorem dX0_whole_73 : decode cX0_whole 73 = .ok (.iload 5, 2) := by decide +kernel
theorem dX0_whole_75 : decode cX0_whole 75 = .ok (.lload 10, 2) := by decide +kernel
theorem dX0_whole_77 : decode cX0_whole 77 = .ok (.lastore, 1) := by decide +kernel
theorem dX0_whole_78 : decode cX0_whole 78 = .ok (.lload 10, 2) := by decide +kernel
theorem dX0_whole_80 : decode cX0_whole 80 = .ok (.invokestatic 52, 3) := by decide +kernel
theorem dX0_whole_83 : decode cX0_whole 83 = .ok (.lload 10, 2) := by decide +kernel
theorem dX0_whole_85 : decode cX0_whole 85 = .ok (.lload 7, 2) := by decide +kernel
theorem dX0_whole_87 : decode cX0_whole 87 = .ok (.lcmp, 1) := by decide +kernel
theorem dX0_whole_88 : decode cX0_whole 88 = .ok (.ifCond .eq 7, 3) := by decide +kernel
theorem dX0_whole_91 : decode cX0_whole 91 = .ok (.iconst 2, 1) := by decide +kernel
theorem dX0_whole_92 : decode cX0_whole 92 = .ok (.goto 4, 3) := by decide +kernel
theorem dX0_whole_95 : decode cX0_whole 95 = .ok (.iconst 0, 1) := by decide +kernel
theorem dX0_whole_96 : decode cX0_whole 96 = .ok (.ior, 1) := by decide +kernel
theorem dX0_whole_97 : decode cX0_whole 97 = .ok (.ireturn, 1) := by decide +kernel
set_option maxRecDepth 20000 in
theorem ggX0_number_X0_isSize : GoodIn wsX0_number wsX0_isSize := goodIn_r _ [8] (by decide +kernel) (by decide +kernel)
set_option maxRecDepth 20000 in
theorem gX0_number_X0_isSize : GoodIn wsX0_number (va_wsS RX0 60 yX0_isSize wsX0_isSize) := goodIn_app (goodIn_of _ (by decide +kernel)) ggX0_number_X0_isSize
set_option maxRecDepth 20000 in
theorem ggX0_number_X0_isRegister : GoodIn wsX0_number wsX0_isRegister := goodIn_r _ [11] (by decide +kernel) (by decide +kernel)
set_option maxRecDepth 20000 in
theorem gX0_number_X0_isRegister : GoodIn wsX0_number (va_wsS RX0 20 yX0_isRegister wsX0_isRegister) := goodIn_app (goodIn_of _ (by decide +kernel)) ggX0_number_X0_isRegister
set_option maxRecDepth 20000 in
theorem ggX0_number_X0_storeRounded : GoodIn wsX0_number wsX0_storeRounded := goodIn_r _ [15, 16, 17, 18, 19, 20, 21, 22, 23, 7, 24, 25, 26, 27, 28, 29, 30, 31, 32] (by decide +kernel) (by decide +kernel)
set_option maxRecDepth 20000 in
theorem gX0_number_X0_storeRounded : GoodIn wsX0_number (wsV RX0 69 RX0 yX0_storeRounded wsX0_storeRounded) := goodIn_app (goodIn_of _ (by decide +kernel)) ggX0_number_X0_storeRounded
theorem dX0_number_0 : decode cX0_number 0 = .ok (.iload_n 1, 1) := by decide +kernel
theorem dX0_number_1 : decode cX0_number 1 = .ok (.invokestatic 60, 3) := by decide +kernel
theorem dX0_number_4 : decode cX0_number 4 = .ok (.ifCond .eq 10, 3) := by decide +kernel
theorem dX0_number_7 : decode cX0_number 7 = .ok (.iload_n 3, 1) := by decide +kernel
theorem dX0_number_8 : decode cX0_number 8 = .ok (.invokestatic 20, 3) := by decide +kernel
theorem dX0_number_11 : decode cX0_number 11 = .ok (.ifCond .ne 6, 3) := by decide +kernel
theorem dX0_number_14 : decode cX0_number 14 = .ok (.bipush (-5), 2) := by decide +kernel
theorem dX0_number_16 : decode cX0_number 16 = .ok (.ireturn, 1) := by decide +kernel
theorem dX0_number_17 : decode cX0_number 17 = .ok (.aload_n 0, 1) := by decide +kernel
theorem dX0_number_18 : decode cX0_number 18 = .ok (.iload_n 1, 1) := by decide +kernel
theorem dX0_number_19 : decode cX0_number 19 = .ok (.iload_n 3, 1) := by decide +kernel
theorem dX0_number_20 : decode cX0_number 20 = .ok (.iload_n 2, 1) := by decide +kernel
theorem dX0_number_21 : decode cX0_number 21 = .ok (.ifCond .ge 7, 3) := by decide +kernel
theorem dX0_number_24 : decode cX0_number 24 = .ok (.iconst 1, 1) := by decide +kernel
theorem dX0_number_25 : decode cX0_number 25 = .ok (.goto 4, 3) := by decide +kernel
theorem dX0_number_28 : decode cX0_number 28 = .ok (.iconst 0, 1) := by decide +kernel
theorem dX0_number_29 : decode cX0_number 29 = .ok (.sipush 191, 3) := by decide +kernel
theorem dX0_number_32 : decode cX0_number 32 = .ok (.iload_n 2, 1) := by decide +kernel
theorem dX0_number_33 : decode cX0_number 33 = .ok (.i2l, 1) := by decide +kernel
theorem dX0_number_34 : decode cX0_number 34 = .ok (.invokestatic 63, 3) := by decide +kernel
theorem dX0_number_37 : decode cX0_number 37 = .ok (.invokevirtual 69, 3) := by decide +kernel
theorem dX0_number_40 : decode cX0_number 40 = .ok (.ireturn, 1) := by decide +kernel
theorem dX0_lost_0 : decode cX0_lost 0 = .ok (.aload_n 0, 1) := by decide +kernel
theorem dX0_lost_1 : decode cX0_lost 1 = .ok (.getfield 17, 3) := by decide +kernel
theorem dX0_lost_4 : decode cX0_lost 4 = .ok (.ireturn, 1) := by decide +kernel
theorem dX0_isRegister_0 : decode cX0_isRegister 0 = .ok (.iload_n 0, 1) := by decide +kernel
theorem dX0_isRegister_1 : decode cX0_isRegister 1 = .ok (.ifCond .lt 13, 3) := by decide +kernel
theorem dX0_isRegister_4 : decode cX0_isRegister 4 = .ok (.iload_n 0, 1) := by decide +kernel
theorem dX0_isRegister_5 : decode cX0_isRegister 5 = .ok (.bipush 8, 2) := by decide +kernel
theorem dX0_isRegister_7 : decode cX0_isRegister 7 = .ok (.if_icmp .ge 7, 3) := by decide +kernel
theorem dX0_isRegister_10 : decode cX0_isRegister 10 = .ok (.iconst 1, 1) := by decide +kernel
theorem dX0_isRegister_11 : decode cX0_isRegister 11 = .ok (.goto 4, 3) := by decide +kernel
theorem dX0_isRegister_14 : decode cX0_isRegister 14 = .ok (.iconst 0, 1) := by decide +kernel
theorem dX0_isRegister_15 : decode cX0_isRegister 15 = .ok (.ireturn, 1) := by decide +kernel
theorem dX0_isSize_0 : decode cX0_isSize 0 = .ok (.iload_n 0, 1) := by decide +kernel
theorem dX0_isSize_1 : decode cX0_isSize 1 = .ok (.iconst 4, 1) := by decide +kernel
theorem dX0_isSize_2 : decode cX0_isSize 2 = .ok (.if_icmp .eq 9, 3) := by decide +kernel
theorem dX0_isSize_5 : decode cX0_isSize 5 = .ok (.iload_n 0, 1) := by decide +kernel
theorem dX0_isSize_6 : decode cX0_isSize 6 = .ok (.bipush 8, 2) := by decide +kernel
theorem dX0_isSize_8 : decode cX0_isSize 8 = .ok (.if_icmp .ne 7, 3) := by decide +kernel
theorem dX0_isSize_11 : decode cX0_isSize 11 = .ok (.iconst 1, 1) := by decide +kernel
theorem dX0_isSize_12 : decode cX0_isSize 12 = .ok (.goto 4, 3) := by decide +kernel
theorem dX0_isSize_15 : decode cX0_isSize 15 = .ok (.iconst 0, 1) := by decide +kernel
theorem dX0_isSize_16 : decode cX0_isSize 16 = .ok (.ireturn, 1) := by decide +kernel
theorem dX0_isReserved_0 : decode cX0_isReserved 0 = .ok (.aload_n 0, 1) := by decide +kernel
theorem dX0_isReserved_1 : decode cX0_isReserved 1 = .ok (.getfield 9, 3) := by decide +kernel
theorem dX0_isReserved_4 : decode cX0_isReserved 4 = .ok (.iload_n 1, 1) := by decide +kernel
theorem dX0_isReserved_5 : decode cX0_isReserved 5 = .ok (.laload, 1) := by decide +kernel
theorem dX0_isReserved_6 : decode cX0_isReserved 6 = .ok (.ldc2_w 73, 3) := by decide +kernel
theorem dX0_isReserved_9 : decode cX0_isReserved 9 = .ok (.land, 1) := by decide +kernel
theorem dX0_isReserved_10 : decode cX0_isReserved 10 = .ok (.ldc2_w 75, 3) := by decide +kernel
theorem dX0_isReserved_13 : decode cX0_isReserved 13 = .ok (.lcmp, 1) := by decide +kernel
theorem dX0_isReserved_14 : decode cX0_isReserved 14 = .ok (.ifCond .ne 7, 3) := by decide +kernel
theorem dX0_isReserved_17 : decode cX0_isReserved 17 = .ok (.iconst 1, 1) := by decide +kernel
theorem dX0_isReserved_18 : decode cX0_isReserved 18 = .ok (.goto 4, 3) := by decide +kernel
theorem dX0_isReserved_21 : decode cX0_isReserved 21 = .ok (.iconst 0, 1) := by decide +kernel
theorem dX0_isReserved_22 : decode cX0_isReserved 22 = .ok (.ireturn, 1) := by decide +kernel
set_option maxRecDepth 20000 in
theorem ggX0_refusalOf_X0_isSize : GoodIn wsX0_refusalOf wsX0_isSize := goodIn_r _ [4] (by decide +kernel) (by decide +kernel)
set_option maxRecDepth 20000 in
theorem gX0_refusalOf_X0_isSize : GoodIn wsX0_refusalOf (va_wsS RX0 60 yX0_isSize wsX0_isSize) := goodIn_app (goodIn_of _ (by decide +kernel)) ggX0_refusalOf_X0_isSize
set_option maxRecDepth 20000 in
theorem ggX0_refusalOf_X0_isRegister : GoodIn wsX0_refusalOf wsX0_isRegister := goodIn_r _ [7] (by decide +kernel) (by decide +kernel)
set_option maxRecDepth 20000 in
theorem gX0_refusalOf_X0_isRegister : GoodIn wsX0_refusalOf (va_wsS RX0 20 yX0_isRegister wsX0_isRegister) := goodIn_app (goodIn_of _ (by decide +kernel)) ggX0_refusalOf_X0_isRegister
set_option maxRecDepth 20000 in
theorem ggX0_refusalOf_X0_isReserved : GoodIn wsX0_refusalOf wsX0_isReserved := goodIn_r _ [11, 12, 13, 14, 15, 16, 17] (by decide +kernel) (by decide +kernel)
set_option maxRecDepth 20000 in
theorem gX0_refusalOf_X0_isReserved : GoodIn wsX0_refusalOf (wsV RX0 77 RX0 yX0_isReserved wsX0_isReserved) := goodIn_app (goodIn_of _ (by decide +kernel)) ggX0_refusalOf_X0_isReserved
theorem dX0_refusalOf_0 : decode cX0_refusalOf 0 = .ok (.iload_n 1, 1) := by decide +kernel
theorem dX0_refusalOf_1 : decode cX0_refusalOf 1 = .ok (.invokestatic 60, 3) := by decide +kernel
theorem dX0_refusalOf_4 : decode cX0_refusalOf 4 = .ok (.ifCond .eq 25, 3) := by decide +kernel
theorem dX0_refusalOf_7 : decode cX0_refusalOf 7 = .ok (.iload_n 2, 1) := by decide +kernel
theorem dX0_refusalOf_8 : decode cX0_refusalOf 8 = .ok (.invokestatic 20, 3) := by decide +kernel
theorem dX0_refusalOf_11 : decode cX0_refusalOf 11 = .ok (.ifCond .eq 18, 3) := by decide +kernel
theorem dX0_refusalOf_14 : decode cX0_refusalOf 14 = .ok (.iload_n 3, 1) := by decide +kernel
theorem dX0_refusalOf_15 : decode cX0_refusalOf 15 = .ok (.invokestatic 20, 3) := by decide +kernel
theorem dX0_refusalOf_18 : decode cX0_refusalOf 18 = .ok (.ifCond .eq 11, 3) := by decide +kernel
theorem dX0_refusalOf_21 : decode cX0_refusalOf 21 = .ok (.iload 4, 2) := by decide +kernel
theorem dX0_refusalOf_23 : decode cX0_refusalOf 23 = .ok (.invokestatic 20, 3) := by decide +kernel
theorem dX0_refusalOf_26 : decode cX0_refusalOf 26 = .ok (.ifCond .ne 6, 3) := by decide +kernel
theorem dX0_refusalOf_29 : decode cX0_refusalOf 29 = .ok (.bipush (-5), 2) := by decide +kernel
theorem dX0_refusalOf_31 : decode cX0_refusalOf 31 = .ok (.ireturn, 1) := by decide +kernel
theorem dX0_refusalOf_32 : decode cX0_refusalOf 32 = .ok (.aload_n 0, 1) := by decide +kernel
theorem dX0_refusalOf_33 : decode cX0_refusalOf 33 = .ok (.iload_n 2, 1) := by decide +kernel
theorem dX0_refusalOf_34 : decode cX0_refusalOf 34 = .ok (.invokevirtual 77, 3) := by decide +kernel
theorem dX0_refusalOf_37 : decode cX0_refusalOf 37 = .ok (.ifCond .ne 11, 3) := by decide +kernel
theorem dX0_refusalOf_40 : decode cX0_refusalOf 40 = .ok (.aload_n 0, 1) := by decide +kernel
theorem dX0_refusalOf_41 : decode cX0_refusalOf 41 = .ok (.iload_n 3, 1) := by decide +kernel
theorem dX0_refusalOf_42 : decode cX0_refusalOf 42 = .ok (.invokevirtual 77, 3) := by decide +kernel
theorem dX0_refusalOf_45 : decode cX0_refusalOf 45 = .ok (.ifCond .eq 7, 3) := by decide +kernel
theorem dX0_refusalOf_48 : decode cX0_refusalOf 48 = .ok (.iconst (-1), 1) := by decide +kernel
theorem dX0_refusalOf_49 : decode cX0_refusalOf 49 = .ok (.goto 4, 3) := by decide +kernel
theorem dX0_refusalOf_52 : decode cX0_refusalOf 52 = .ok (.iconst 0, 1) := by decide +kernel
theorem dX0_refusalOf_53 : decode cX0_refusalOf 53 = .ok (.ireturn, 1) := by decide +kernel
theorem dX0_flagsOf_0 : decode cX0_flagsOf 0 = .ok (.lload_n 0, 1) := by decide +kernel
theorem dX0_flagsOf_1 : decode cX0_flagsOf 1 = .ok (.lconst 0, 1) := by decide +kernel
theorem dX0_flagsOf_2 : decode cX0_flagsOf 2 = .ok (.lcmp, 1) := by decide +kernel
theorem dX0_flagsOf_3 : decode cX0_flagsOf 3 = .ok (.ifCond .ne 5, 3) := by decide +kernel
theorem dX0_flagsOf_6 : decode cX0_flagsOf 6 = .ok (.iconst 4, 1) := by decide +kernel
theorem dX0_flagsOf_7 : decode cX0_flagsOf 7 = .ok (.ireturn, 1) := by decide +kernel
theorem dX0_flagsOf_8 : decode cX0_flagsOf 8 = .ok (.lload_n 0, 1) := by decide +kernel
theorem dX0_flagsOf_9 : decode cX0_flagsOf 9 = .ok (.lconst 0, 1) := by decide +kernel
theorem dX0_flagsOf_10 : decode cX0_flagsOf 10 = .ok (.lcmp, 1) := by decide +kernel
theorem dX0_flagsOf_11 : decode cX0_flagsOf 11 = .ok (.ifCond .ge 8, 3) := by decide +kernel
theorem dX0_flagsOf_14 : decode cX0_flagsOf 14 = .ok (.bipush 8, 2) := by decide +kernel
theorem dX0_flagsOf_16 : decode cX0_flagsOf 16 = .ok (.goto 4, 3) := by decide +kernel
theorem dX0_flagsOf_19 : decode cX0_flagsOf 19 = .ok (.iconst 0, 1) := by decide +kernel
theorem dX0_flagsOf_20 : decode cX0_flagsOf 20 = .ok (.ireturn, 1) := by decide +kernel
theorem dX0_valueIn_0 : decode cX0_valueIn 0 = .ok (.iload_n 1, 1) := by decide +kernel
theorem dX0_valueIn_1 : decode cX0_valueIn 1 = .ok (.iconst 4, 1) := by decide +kernel
theorem dX0_valueIn_2 : decode cX0_valueIn 2 = .ok (.if_icmp .ne 16, 3) := by decide +kernel
theorem dX0_valueIn_5 : decode cX0_valueIn 5 = .ok (.aload_n 0, 1) := by decide +kernel
theorem dX0_valueIn_6 : decode cX0_valueIn 6 = .ok (.getfield 9, 3) := by decide +kernel
theorem dX0_valueIn_9 : decode cX0_valueIn 9 = .ok (.iload_n 2, 1) := by decide +kernel
theorem dX0_valueIn_10 : decode cX0_valueIn 10 = .ok (.laload, 1) := by decide +kernel
theorem dX0_valueIn_11 : decode cX0_valueIn 11 = .ok (.ldc2_w 80, 3) := by decide +kernel
theorem dX0_valueIn_14 : decode cX0_valueIn 14 = .ok (.land, 1) := by decide +kernel
theorem dX0_valueIn_15 : decode cX0_valueIn 15 = .ok (.goto 9, 3) := by decide +kernel
theorem dX0_valueIn_18 : decode cX0_valueIn 18 = .ok (.aload_n 0, 1) := by decide +kernel
theorem dX0_valueIn_19 : decode cX0_valueIn 19 = .ok (.getfield 9, 3) := by decide +kernel
theorem dX0_valueIn_22 : decode cX0_valueIn 22 = .ok (.iload_n 2, 1) := by decide +kernel
theorem dX0_valueIn_23 : decode cX0_valueIn 23 = .ok (.laload, 1) := by decide +kernel
theorem dX0_valueIn_24 : decode cX0_valueIn 24 = .ok (.lstore_n 3, 1) := by decide +kernel
theorem dX0_valueIn_25 : decode cX0_valueIn 25 = .ok (.lload_n 3, 1) := by decide +kernel
theorem dX0_valueIn_26 : decode cX0_valueIn 26 = .ok (.bipush 7, 2) := by decide +kernel
theorem dX0_valueIn_28 : decode cX0_valueIn 28 = .ok (.lushr, 1) := by decide +kernel
theorem dX0_valueIn_29 : decode cX0_valueIn 29 = .ok (.ldc2_w 82, 3) := by decide +kernel
theorem dX0_valueIn_32 : decode cX0_valueIn 32 = .ok (.land, 1) := by decide +kernel
theorem dX0_valueIn_33 : decode cX0_valueIn 33 = .ok (.lstore 5, 2) := by decide +kernel
theorem dX0_valueIn_35 : decode cX0_valueIn 35 = .ok (.lload 5, 2) := by decide +kernel
theorem dX0_valueIn_37 : decode cX0_valueIn 37 = .ok (.lconst 0, 1) := by decide +kernel
theorem dX0_valueIn_38 : decode cX0_valueIn 38 = .ok (.lcmp, 1) := by decide +kernel
theorem dX0_valueIn_39 : decode cX0_valueIn 39 = .ok (.ifCond .ne 5, 3) := by decide +kernel
theorem dX0_valueIn_42 : decode cX0_valueIn 42 = .ok (.lconst 0, 1) := by decide +kernel
theorem dX0_valueIn_43 : decode cX0_valueIn 43 = .ok (.lreturn, 1) := by decide +kernel
theorem dX0_valueIn_44 : decode cX0_valueIn 44 = .ok (.lload_n 3, 1) := by decide +kernel
theorem dX0_valueIn_45 : decode cX0_valueIn 45 = .ok (.ldc2_w 84, 3) := by decide +kernel
theorem dX0_valueIn_48 : decode cX0_valueIn 48 = .ok (.land, 1) := by decide +kernel
theorem dX0_valueIn_49 : decode cX0_valueIn 49 = .ok (.bipush 48, 2) := by decide +kernel
theorem dX0_valueIn_51 : decode cX0_valueIn 51 = .ok (.lshl, 1) := by decide +kernel
theorem dX0_valueIn_52 : decode cX0_valueIn 52 = .ok (.lload_n 3, 1) := by decide +kernel
theorem dX0_valueIn_53 : decode cX0_valueIn 53 = .ok (.bipush 16, 2) := by decide +kernel
theorem dX0_valueIn_55 : decode cX0_valueIn 55 = .ok (.lushr, 1) := by decide +kernel
theorem dX0_valueIn_56 : decode cX0_valueIn 56 = .ok (.ldc2_w 86, 3) := by decide +kernel
theorem dX0_valueIn_59 : decode cX0_valueIn 59 = .ok (.land, 1) := by decide +kernel
theorem dX0_valueIn_60 : decode cX0_valueIn 60 = .ok (.bipush 32, 2) := by decide +kernel
theorem dX0_valueIn_62 : decode cX0_valueIn 62 = .ok (.lshl, 1) := by decide +kernel
theorem dX0_valueIn_63 : decode cX0_valueIn 63 = .ok (.lor, 1) := by decide +kernel
theorem dX0_valueIn_64 : decode cX0_valueIn 64 = .ok (.lload_n 3, 1) := by decide +kernel
theorem dX0_valueIn_65 : decode cX0_valueIn 65 = .ok (.bipush 32, 2) := by decide +kernel
theorem dX0_valueIn_67 : decode cX0_valueIn 67 = .ok (.lushr, 1) := by decide +kernel
theorem dX0_valueIn_68 : decode cX0_valueIn 68 = .ok (.ldc2_w 86, 3) := by decide +kernel
theorem dX0_valueIn_71 : decode cX0_valueIn 71 = .ok (.land, 1) := by decide +kernel
theorem dX0_valueIn_72 : decode cX0_valueIn 72 = .ok (.bipush 16, 2) := by decide +kernel
theorem dX0_valueIn_74 : decode cX0_valueIn 74 = .ok (.lshl, 1) := by decide +kernel
theorem dX0_valueIn_75 : decode cX0_valueIn 75 = .ok (.lor, 1) := by decide +kernel
theorem dX0_valueIn_76 : decode cX0_valueIn 76 = .ok (.lload_n 3, 1) := by decide +kernel
theorem dX0_valueIn_77 : decode cX0_valueIn 77 = .ok (.bipush 48, 2) := by decide +kernel
theorem dX0_valueIn_79 : decode cX0_valueIn 79 = .ok (.lushr, 1) := by decide +kernel
theorem dX0_valueIn_80 : decode cX0_valueIn 80 = .ok (.lor, 1) := by decide +kernel
theorem dX0_valueIn_81 : decode cX0_valueIn 81 = .ok (.lstore 7, 2) := by decide +kernel
theorem dX0_valueIn_83 : decode cX0_valueIn 83 = .ok (.lload 5, 2) := by decide +kernel
theorem dX0_valueIn_85 : decode cX0_valueIn 85 = .ok (.bipush 55, 2) := by decide +kernel
theorem dX0_valueIn_87 : decode cX0_valueIn 87 = .ok (.lshl, 1) := by decide +kernel
theorem dX0_valueIn_88 : decode cX0_valueIn 88 = .ok (.lload 7, 2) := by decide +kernel
theorem dX0_valueIn_90 : decode cX0_valueIn 90 = .ok (.lor, 1) := by decide +kernel
theorem dX0_valueIn_91 : decode cX0_valueIn 91 = .ok (.lstore 9, 2) := by decide +kernel
theorem dX0_valueIn_93 : decode cX0_valueIn 93 = .ok (.lload_n 3, 1) := by decide +kernel
theorem dX0_valueIn_94 : decode cX0_valueIn 94 = .ok (.ldc2_w 75, 3) := by decide +kernel
theorem dX0_valueIn_97 : decode cX0_valueIn 97 = .ok (.land, 1) := by decide +kernel
theorem dX0_valueIn_98 : decode cX0_valueIn 98 = .ok (.lconst 0, 1) := by decide +kernel
theorem dX0_valueIn_99 : decode cX0_valueIn 99 = .ok (.lcmp, 1) := by decide +kernel
theorem dX0_valueIn_100 : decode cX0_valueIn 100 = .ok (.ifCond .eq 9, 3) := by decide +kernel
theorem dX0_valueIn_103 : decode cX0_valueIn 103 = .ok (.lload 9, 2) := by decide +kernel
theorem dX0_valueIn_105 : decode cX0_valueIn 105 = .ok (.lneg, 1) := by decide +kernel
theorem dX0_valueIn_106 : decode cX0_valueIn 106 = .ok (.goto 5, 3) := by decide +kernel
theorem dX0_valueIn_109 : decode cX0_valueIn 109 = .ok (.lload 9, 2) := by decide +kernel
theorem dX0_valueIn_111 : decode cX0_valueIn 111 = .ok (.lreturn, 1) := by decide +kernel
theorem dX0_bitsOf_0 : decode cX0_bitsOf 0 = .ok (.iload_n 0, 1) := by decide +kernel
theorem dX0_bitsOf_1 : decode cX0_bitsOf 1 = .ok (.ifCond .eq 8, 3) := by decide +kernel
theorem dX0_bitsOf_4 : decode cX0_bitsOf 4 = .ok (.ldc 88, 2) := by decide +kernel
theorem dX0_bitsOf_6 : decode cX0_bitsOf 6 = .ok (.goto 4, 3) := by decide +kernel
theorem dX0_bitsOf_9 : decode cX0_bitsOf 9 = .ok (.iconst 0, 1) := by decide +kernel
theorem dX0_bitsOf_10 : decode cX0_bitsOf 10 = .ok (.i2l, 1) := by decide +kernel
theorem dX0_bitsOf_11 : decode cX0_bitsOf 11 = .ok (.iload_n 1, 1) := by decide +kernel
theorem dX0_bitsOf_12 : decode cX0_bitsOf 12 = .ok (.i2l, 1) := by decide +kernel
theorem dX0_bitsOf_13 : decode cX0_bitsOf 13 = .ok (.bipush 7, 2) := by decide +kernel
theorem dX0_bitsOf_15 : decode cX0_bitsOf 15 = .ok (.lshl, 1) := by decide +kernel
theorem dX0_bitsOf_16 : decode cX0_bitsOf 16 = .ok (.lor, 1) := by decide +kernel
theorem dX0_bitsOf_17 : decode cX0_bitsOf 17 = .ok (.lload_n 2, 1) := by decide +kernel
theorem dX0_bitsOf_18 : decode cX0_bitsOf 18 = .ok (.bipush 48, 2) := by decide +kernel
theorem dX0_bitsOf_20 : decode cX0_bitsOf 20 = .ok (.lushr, 1) := by decide +kernel
theorem dX0_bitsOf_21 : decode cX0_bitsOf 21 = .ok (.lor, 1) := by decide +kernel
theorem dX0_bitsOf_22 : decode cX0_bitsOf 22 = .ok (.lload_n 2, 1) := by decide +kernel
theorem dX0_bitsOf_23 : decode cX0_bitsOf 23 = .ok (.bipush 32, 2) := by decide +kernel
theorem dX0_bitsOf_25 : decode cX0_bitsOf 25 = .ok (.lushr, 1) := by decide +kernel
theorem dX0_bitsOf_26 : decode cX0_bitsOf 26 = .ok (.ldc2_w 86, 3) := by decide +kernel
theorem dX0_bitsOf_29 : decode cX0_bitsOf 29 = .ok (.land, 1) := by decide +kernel
theorem dX0_bitsOf_30 : decode cX0_bitsOf 30 = .ok (.bipush 16, 2) := by decide +kernel
theorem dX0_bitsOf_32 : decode cX0_bitsOf 32 = .ok (.lshl, 1) := by decide +kernel
theorem dX0_bitsOf_33 : decode cX0_bitsOf 33 = .ok (.lor, 1) := by decide +kernel
theorem dX0_bitsOf_34 : decode cX0_bitsOf 34 = .ok (.lload_n 2, 1) := by decide +kernel
theorem dX0_bitsOf_35 : decode cX0_bitsOf 35 = .ok (.bipush 16, 2) := by decide +kernel
theorem dX0_bitsOf_37 : decode cX0_bitsOf 37 = .ok (.lushr, 1) := by decide +kernel
theorem dX0_bitsOf_38 : decode cX0_bitsOf 38 = .ok (.ldc2_w 86, 3) := by decide +kernel
theorem dX0_bitsOf_41 : decode cX0_bitsOf 41 = .ok (.land, 1) := by decide +kernel
theorem dX0_bitsOf_42 : decode cX0_bitsOf 42 = .ok (.bipush 32, 2) := by decide +kernel
theorem dX0_bitsOf_44 : decode cX0_bitsOf 44 = .ok (.lshl, 1) := by decide +kernel
theorem dX0_bitsOf_45 : decode cX0_bitsOf 45 = .ok (.lor, 1) := by decide +kernel
theorem dX0_bitsOf_46 : decode cX0_bitsOf 46 = .ok (.lload_n 2, 1) := by decide +kernel
theorem dX0_bitsOf_47 : decode cX0_bitsOf 47 = .ok (.ldc2_w 86, 3) := by decide +kernel
theorem dX0_bitsOf_50 : decode cX0_bitsOf 50 = .ok (.land, 1) := by decide +kernel
theorem dX0_bitsOf_51 : decode cX0_bitsOf 51 = .ok (.bipush 48, 2) := by decide +kernel
theorem dX0_bitsOf_53 : decode cX0_bitsOf 53 = .ok (.lshl, 1) := by decide +kernel
theorem dX0_bitsOf_54 : decode cX0_bitsOf 54 = .ok (.lor, 1) := by decide +kernel
theorem dX0_bitsOf_55 : decode cX0_bitsOf 55 = .ok (.lreturn, 1) := by decide +kernel
theorem dX0_exponentOf_0 : decode cX0_exponentOf 0 = .ok (.lload_n 0, 1) := by decide +kernel
theorem dX0_exponentOf_1 : decode cX0_exponentOf 1 = .ok (.invokestatic 63, 3) := by decide +kernel
theorem dX0_exponentOf_4 : decode cX0_exponentOf 4 = .ok (.bipush 55, 2) := by decide +kernel
theorem dX0_exponentOf_6 : decode cX0_exponentOf 6 = .ok (.lushr, 1) := by decide +kernel
theorem dX0_exponentOf_7 : decode cX0_exponentOf 7 = .ok (.l2i, 1) := by decide +kernel
theorem dX0_exponentOf_8 : decode cX0_exponentOf 8 = .ok (.ireturn, 1) := by decide +kernel
theorem dX0_significandOf_0 : decode cX0_significandOf 0 = .ok (.lload_n 0, 1) := by decide +kernel
theorem dX0_significandOf_1 : decode cX0_significandOf 1 = .ok (.invokestatic 63, 3) := by decide +kernel
theorem dX0_significandOf_4 : decode cX0_significandOf 4 = .ok (.ldc2_w 89, 3) := by decide +kernel
theorem dX0_significandOf_7 : decode cX0_significandOf 7 = .ok (.land, 1) := by decide +kernel
theorem dX0_significandOf_8 : decode cX0_significandOf 8 = .ok (.ldc2_w 91, 3) := by decide +kernel
theorem dX0_significandOf_11 : decode cX0_significandOf 11 = .ok (.lor, 1) := by decide +kernel
theorem dX0_significandOf_12 : decode cX0_significandOf 12 = .ok (.lreturn, 1) := by decide +kernel
theorem dX0_storeZero_0 : decode cX0_storeZero 0 = .ok (.aload_n 0, 1) := by decide +kernel
theorem dX0_storeZero_1 : decode cX0_storeZero 1 = .ok (.getfield 9, 3) := by decide +kernel
theorem dX0_storeZero_4 : decode cX0_storeZero 4 = .ok (.iload_n 1, 1) := by decide +kernel
theorem dX0_storeZero_5 : decode cX0_storeZero 5 = .ok (.lconst 0, 1) := by decide +kernel
theorem dX0_storeZero_6 : decode cX0_storeZero 6 = .ok (.lastore, 1) := by decide +kernel
theorem dX0_storeZero_7 : decode cX0_storeZero 7 = .ok (.aload_n 0, 1) := by decide +kernel
theorem dX0_storeZero_8 : decode cX0_storeZero 8 = .ok (.iload_n 2, 1) := by decide +kernel
theorem dX0_storeZero_9 : decode cX0_storeZero 9 = .ok (.putfield 17, 3) := by decide +kernel
theorem dX0_storeZero_12 : decode cX0_storeZero 12 = .ok (.iconst 4, 1) := by decide +kernel
theorem dX0_storeZero_13 : decode cX0_storeZero 13 = .ok (.ireturn, 1) := by decide +kernel
set_option maxRecDepth 20000 in
theorem ggX0_storeValue_X0_storeZero : GoodIn wsX0_storeValue wsX0_storeZero := goodIn_r _ [5, 6, 7, 31, 32, 33] (by decide +kernel) (by decide +kernel)
set_option maxRecDepth 20000 in
theorem gX0_storeValue_X0_storeZero : GoodIn wsX0_storeValue (wsV RX0 93 RX0 yX0_storeZero wsX0_storeZero) := goodIn_app (goodIn_of _ (by decide +kernel)) ggX0_storeValue_X0_storeZero
set_option maxRecDepth 20000 in
theorem ggX0_storeValue_X0_exponentOf : GoodIn wsX0_storeValue wsX0_exponentOf := goodIn_r _ [10, 11, 12, 13, 14] (by decide +kernel) (by decide +kernel)
set_option maxRecDepth 20000 in
theorem gX0_storeValue_X0_exponentOf : GoodIn wsX0_storeValue (va_wsS RX0 97 yX0_exponentOf wsX0_exponentOf) := goodIn_app (goodIn_of _ (by decide +kernel)) ggX0_storeValue_X0_exponentOf
set_option maxRecDepth 20000 in
theorem ggX0_storeValue_X0_significandOf : GoodIn wsX0_storeValue wsX0_significandOf := goodIn_r _ [17, 11, 12, 13, 14, 18, 19] (by decide +kernel) (by decide +kernel)
set_option maxRecDepth 20000 in
theorem gX0_storeValue_X0_significandOf : GoodIn wsX0_storeValue (va_wsS RX0 100 yX0_significandOf wsX0_significandOf) := goodIn_app (goodIn_of _ (by decide +kernel)) ggX0_storeValue_X0_significandOf
set_option maxRecDepth 20000 in
theorem ggX0_storeValue_X0_storeRounded : GoodIn wsX0_storeValue wsX0_storeRounded := goodIn_r _ [23, 24, 25, 6, 18, 7, 1, 2, 3, 4, 5, 26, 27, 28, 29, 30, 31, 32, 33] (by decide +kernel) (by decide +kernel)
set_option maxRecDepth 20000 in
theorem gX0_storeValue_X0_storeRounded : GoodIn wsX0_storeValue (wsV RX0 69 RX0 yX0_storeRounded wsX0_storeRounded) := goodIn_app (goodIn_of _ (by decide +kernel)) ggX0_storeValue_X0_storeRounded
theorem dX0_storeValue_0 : decode cX0_storeValue 0 = .ok (.lload_n 3, 1) := by decide +kernel
theorem dX0_storeValue_1 : decode cX0_storeValue 1 = .ok (.lconst 0, 1) := by decide +kernel
theorem dX0_storeValue_2 : decode cX0_storeValue 2 = .ok (.lcmp, 1) := by decide +kernel
theorem dX0_storeValue_3 : decode cX0_storeValue 3 = .ok (.ifCond .ne 10, 3) := by decide +kernel
theorem dX0_storeValue_6 : decode cX0_storeValue 6 = .ok (.aload_n 0, 1) := by decide +kernel
theorem dX0_storeValue_7 : decode cX0_storeValue 7 = .ok (.iload_n 2, 1) := by decide +kernel
theorem dX0_storeValue_8 : decode cX0_storeValue 8 = .ok (.iconst 0, 1) := by decide +kernel
theorem dX0_storeValue_9 : decode cX0_storeValue 9 = .ok (.invokevirtual 93, 3) := by decide +kernel
theorem dX0_storeValue_12 : decode cX0_storeValue 12 = .ok (.ireturn, 1) := by decide +kernel
theorem dX0_storeValue_13 : decode cX0_storeValue 13 = .ok (.aload_n 0, 1) := by decide +kernel
theorem dX0_storeValue_14 : decode cX0_storeValue 14 = .ok (.iload_n 1, 1) := by decide +kernel
theorem dX0_storeValue_15 : decode cX0_storeValue 15 = .ok (.iload_n 2, 1) := by decide +kernel
theorem dX0_storeValue_16 : decode cX0_storeValue 16 = .ok (.lload_n 3, 1) := by decide +kernel
theorem dX0_storeValue_17 : decode cX0_storeValue 17 = .ok (.lconst 0, 1) := by decide +kernel
theorem dX0_storeValue_18 : decode cX0_storeValue 18 = .ok (.lcmp, 1) := by decide +kernel
theorem dX0_storeValue_19 : decode cX0_storeValue 19 = .ok (.ifCond .ge 7, 3) := by decide +kernel
theorem dX0_storeValue_22 : decode cX0_storeValue 22 = .ok (.iconst 1, 1) := by decide +kernel
theorem dX0_storeValue_23 : decode cX0_storeValue 23 = .ok (.goto 4, 3) := by decide +kernel
theorem dX0_storeValue_26 : decode cX0_storeValue 26 = .ok (.iconst 0, 1) := by decide +kernel
theorem dX0_storeValue_27 : decode cX0_storeValue 27 = .ok (.lload_n 3, 1) := by decide +kernel
theorem dX0_storeValue_28 : decode cX0_storeValue 28 = .ok (.invokestatic 97, 3) := by decide +kernel
theorem dX0_storeValue_31 : decode cX0_storeValue 31 = .ok (.lload_n 3, 1) := by decide +kernel
theorem dX0_storeValue_32 : decode cX0_storeValue 32 = .ok (.invokestatic 100, 3) := by decide +kernel
theorem dX0_storeValue_35 : decode cX0_storeValue 35 = .ok (.bipush 7, 2) := by decide +kernel
theorem dX0_storeValue_37 : decode cX0_storeValue 37 = .ok (.lshl, 1) := by decide +kernel
theorem dX0_storeValue_38 : decode cX0_storeValue 38 = .ok (.invokevirtual 69, 3) := by decide +kernel
theorem dX0_storeValue_41 : decode cX0_storeValue 41 = .ok (.ireturn, 1) := by decide +kernel
set_option maxRecDepth 20000 in
theorem ggX0_storeRounded_X0_storeZero : GoodIn wsX0_storeRounded wsX0_storeZero := goodIn_r _ [10, 3, 5, 16, 17, 18] (by decide +kernel) (by decide +kernel)
set_option maxRecDepth 20000 in
theorem gX0_storeRounded_X0_storeZero : GoodIn wsX0_storeRounded (wsV RX0 93 RX0 yX0_storeZero wsX0_storeZero) := goodIn_app (goodIn_of _ (by decide +kernel)) ggX0_storeRounded_X0_storeZero
set_option maxRecDepth 20000 in
theorem ggX0_storeRounded_X0_bitsOf : GoodIn wsX0_storeRounded wsX0_bitsOf := goodIn_r _ [13, 14, 15] (by decide +kernel) (by decide +kernel)
set_option maxRecDepth 20000 in
theorem gX0_storeRounded_X0_bitsOf : GoodIn wsX0_storeRounded (va_wsS RX0 105 yX0_bitsOf wsX0_bitsOf) := goodIn_app (goodIn_of _ (by decide +kernel)) ggX0_storeRounded_X0_bitsOf
theorem dX0_storeRounded_0 : decode cX0_storeRounded 0 = .ok (.lload 5, 2) := by decide +kernel
theorem dX0_storeRounded_2 : decode cX0_storeRounded 2 = .ok (.lconst 0, 1) := by decide +kernel
theorem dX0_storeRounded_3 : decode cX0_storeRounded 3 = .ok (.lcmp, 1) := by decide +kernel
theorem dX0_storeRounded_4 : decode cX0_storeRounded 4 = .ok (.ifCond .ne 10, 3) := by decide +kernel
theorem dX0_storeRounded_7 : decode cX0_storeRounded 7 = .ok (.aload_n 0, 1) := by decide +kernel
theorem dX0_storeRounded_8 : decode cX0_storeRounded 8 = .ok (.iload_n 2, 1) := by decide +kernel
theorem dX0_storeRounded_9 : decode cX0_storeRounded 9 = .ok (.iconst 0, 1) := by decide +kernel
theorem dX0_storeRounded_10 : decode cX0_storeRounded 10 = .ok (.invokevirtual 93, 3) := by decide +kernel
theorem dX0_storeRounded_13 : decode cX0_storeRounded 13 = .ok (.ireturn, 1) := by decide +kernel
theorem dX0_storeRounded_14 : decode cX0_storeRounded 14 = .ok (.iload 4, 2) := by decide +kernel
theorem dX0_storeRounded_16 : decode cX0_storeRounded 16 = .ok (.istore 7, 2) := by decide +kernel
theorem dX0_storeRounded_18 : decode cX0_storeRounded 18 = .ok (.lload 5, 2) := by decide +kernel
theorem dX0_storeRounded_20 : decode cX0_storeRounded 20 = .ok (.lstore 8, 2) := by decide +kernel
theorem dX0_storeRounded_22 : decode cX0_storeRounded 22 = .ok (.iconst 0, 1) := by decide +kernel
theorem dX0_storeRounded_23 : decode cX0_storeRounded 23 = .ok (.istore 10, 2) := by decide +kernel
theorem dX0_storeRounded_25 : decode cX0_storeRounded 25 = .ok (.iload 10, 2) := by decide +kernel
theorem dX0_storeRounded_27 : decode cX0_storeRounded 27 = .ok (.bipush 63, 2) := by decide +kernel
theorem dX0_storeRounded_29 : decode cX0_storeRounded 29 = .ok (.if_icmp .ge 27, 3) := by decide +kernel
theorem dX0_storeRounded_32 : decode cX0_storeRounded 32 = .ok (.lload 8, 2) := by decide +kernel
theorem dX0_storeRounded_34 : decode cX0_storeRounded 34 = .ok (.ldc2_w 103, 3) := by decide +kernel
theorem dX0_storeRounded_37 : decode cX0_storeRounded 37 = .ok (.lcmp, 1) := by decide +kernel
theorem dX0_storeRounded_38 : decode cX0_storeRounded 38 = .ok (.ifCond .ge 18, 3) := by decide +kernel
theorem dX0_storeRounded_41 : decode cX0_storeRounded 41 = .ok (.lload 8, 2) := by decide +kernel
theorem dX0_storeRounded_43 : decode cX0_storeRounded 43 = .ok (.iconst 1, 1) := by decide +kernel
theorem dX0_storeRounded_44 : decode cX0_storeRounded 44 = .ok (.lshl, 1) := by decide +kernel
theorem dX0_storeRounded_45 : decode cX0_storeRounded 45 = .ok (.lstore 8, 2) := by decide +kernel
theorem dX0_storeRounded_47 : decode cX0_storeRounded 47 = .ok (.iinc 7 (-1), 3) := by decide +kernel
theorem dX0_storeRounded_50 : decode cX0_storeRounded 50 = .ok (.iinc 10 1, 3) := by decide +kernel
theorem dX0_storeRounded_53 : decode cX0_storeRounded 53 = .ok (.goto (-28), 3) := by decide +kernel
theorem dX0_storeRounded_56 : decode cX0_storeRounded 56 = .ok (.iload_n 1, 1) := by decide +kernel
theorem dX0_storeRounded_57 : decode cX0_storeRounded 57 = .ok (.iconst 4, 1) := by decide +kernel
theorem dX0_storeRounded_58 : decode cX0_storeRounded 58 = .ok (.if_icmp .ne 8, 3) := by decide +kernel
theorem dX0_storeRounded_61 : decode cX0_storeRounded 61 = .ok (.bipush 39, 2) := by decide +kernel
theorem dX0_storeRounded_63 : decode cX0_storeRounded 63 = .ok (.goto 5, 3) := by decide +kernel
theorem dX0_storeRounded_66 : decode cX0_storeRounded 66 = .ok (.bipush 7, 2) := by decide +kernel
theorem dX0_storeRounded_68 : decode cX0_storeRounded 68 = .ok (.istore 10, 2) := by decide +kernel
theorem dX0_storeRounded_70 : decode cX0_storeRounded 70 = .ok (.lload 8, 2) := by decide +kernel
theorem dX0_storeRounded_72 : decode cX0_storeRounded 72 = .ok (.lconst 1, 1) := by decide +kernel
theorem dX0_storeRounded_73 : decode cX0_storeRounded 73 = .ok (.iload 10, 2) := by decide +kernel
theorem dX0_storeRounded_75 : decode cX0_storeRounded 75 = .ok (.lshl, 1) := by decide +kernel
theorem dX0_storeRounded_76 : decode cX0_storeRounded 76 = .ok (.lconst 1, 1) := by decide +kernel
theorem dX0_storeRounded_77 : decode cX0_storeRounded 77 = .ok (.lsub, 1) := by decide +kernel
theorem dX0_storeRounded_78 : decode cX0_storeRounded 78 = .ok (.land, 1) := by decide +kernel
theorem dX0_storeRounded_79 : decode cX0_storeRounded 79 = .ok (.lconst 0, 1) := by decide +kernel
theorem dX0_storeRounded_80 : decode cX0_storeRounded 80 = .ok (.lcmp, 1) := by decide +kernel
theorem dX0_storeRounded_81 : decode cX0_storeRounded 81 = .ok (.ifCond .eq 7, 3) := by decide +kernel
theorem dX0_storeRounded_84 : decode cX0_storeRounded 84 = .ok (.iconst 1, 1) := by decide +kernel
theorem dX0_storeRounded_85 : decode cX0_storeRounded 85 = .ok (.goto 4, 3) := by decide +kernel
theorem dX0_storeRounded_88 : decode cX0_storeRounded 88 = .ok (.iconst 0, 1) := by decide +kernel
theorem dX0_storeRounded_89 : decode cX0_storeRounded 89 = .ok (.istore 11, 2) := by decide +kernel
theorem dX0_storeRounded_91 : decode cX0_storeRounded 91 = .ok (.lload 8, 2) := by decide +kernel
theorem dX0_storeRounded_93 : decode cX0_storeRounded 93 = .ok (.lconst 1, 1) := by decide +kernel
theorem dX0_storeRounded_94 : decode cX0_storeRounded 94 = .ok (.iload 10, 2) := by decide +kernel
theorem dX0_storeRounded_96 : decode cX0_storeRounded 96 = .ok (.iconst 1, 1) := by decide +kernel
theorem dX0_storeRounded_97 : decode cX0_storeRounded 97 = .ok (.isub, 1) := by decide +kernel
theorem dX0_storeRounded_98 : decode cX0_storeRounded 98 = .ok (.lshl, 1) := by decide +kernel
theorem dX0_storeRounded_99 : decode cX0_storeRounded 99 = .ok (.ladd, 1) := by decide +kernel
theorem dX0_storeRounded_100 : decode cX0_storeRounded 100 = .ok (.iload 10, 2) := by decide +kernel
theorem dX0_storeRounded_102 : decode cX0_storeRounded 102 = .ok (.lushr, 1) := by decide +kernel
theorem dX0_storeRounded_103 : decode cX0_storeRounded 103 = .ok (.iload 10, 2) := by decide +kernel
theorem dX0_storeRounded_105 : decode cX0_storeRounded 105 = .ok (.lshl, 1) := by decide +kernel
theorem dX0_storeRounded_106 : decode cX0_storeRounded 106 = .ok (.lstore 8, 2) := by decide +kernel
theorem dX0_storeRounded_108 : decode cX0_storeRounded 108 = .ok (.lload 8, 2) := by decide +kernel
theorem dX0_storeRounded_110 : decode cX0_storeRounded 110 = .ok (.lconst 0, 1) := by decide +kernel
theorem dX0_storeRounded_111 : decode cX0_storeRounded 111 = .ok (.lcmp, 1) := by decide +kernel
theorem dX0_storeRounded_112 : decode cX0_storeRounded 112 = .ok (.ifCond .ge 12, 3) := by decide +kernel
theorem dX0_storeRounded_115 : decode cX0_storeRounded 115 = .ok (.lload 8, 2) := by decide +kernel
theorem dX0_storeRounded_117 : decode cX0_storeRounded 117 = .ok (.iconst 1, 1) := by decide +kernel
theorem dX0_storeRounded_118 : decode cX0_storeRounded 118 = .ok (.lushr, 1) := by decide +kernel
theorem dX0_storeRounded_119 : decode cX0_storeRounded 119 = .ok (.lstore 8, 2) := by decide +kernel
theorem dX0_storeRounded_121 : decode cX0_storeRounded 121 = .ok (.iinc 7 1, 3) := by decide +kernel
theorem dX0_storeRounded_124 : decode cX0_storeRounded 124 = .ok (.iload 7, 2) := by decide +kernel
theorem dX0_storeRounded_126 : decode cX0_storeRounded 126 = .ok (.sipush 255, 3) := by decide +kernel
theorem dX0_storeRounded_129 : decode cX0_storeRounded 129 = .ok (.if_icmp .le 6, 3) := by decide +kernel
theorem dX0_storeRounded_132 : decode cX0_storeRounded 132 = .ok (.bipush (-2), 2) := by decide +kernel
theorem dX0_storeRounded_134 : decode cX0_storeRounded 134 = .ok (.ireturn, 1) := by decide +kernel
theorem dX0_storeRounded_135 : decode cX0_storeRounded 135 = .ok (.iload 7, 2) := by decide +kernel
theorem dX0_storeRounded_137 : decode cX0_storeRounded 137 = .ok (.iconst 1, 1) := by decide +kernel
theorem dX0_storeRounded_138 : decode cX0_storeRounded 138 = .ok (.if_icmp .ge 22, 3) := by decide +kernel
theorem dX0_storeRounded_141 : decode cX0_storeRounded 141 = .ok (.aload_n 0, 1) := by decide +kernel
theorem dX0_storeRounded_142 : decode cX0_storeRounded 142 = .ok (.getfield 13, 3) := by decide +kernel
theorem dX0_storeRounded_145 : decode cX0_storeRounded 145 = .ok (.ifCond .eq 8, 3) := by decide +kernel
theorem dX0_storeRounded_148 : decode cX0_storeRounded 148 = .ok (.bipush (-3), 2) := by decide +kernel
theorem dX0_storeRounded_150 : decode cX0_storeRounded 150 = .ok (.goto 9, 3) := by decide +kernel
theorem dX0_storeRounded_153 : decode cX0_storeRounded 153 = .ok (.aload_n 0, 1) := by decide +kernel
theorem dX0_storeRounded_154 : decode cX0_storeRounded 154 = .ok (.iload_n 2, 1) := by decide +kernel
theorem dX0_storeRounded_155 : decode cX0_storeRounded 155 = .ok (.iconst 1, 1) := by decide +kernel
theorem dX0_storeRounded_156 : decode cX0_storeRounded 156 = .ok (.invokevirtual 93, 3) := by decide +kernel
theorem dX0_storeRounded_159 : decode cX0_storeRounded 159 = .ok (.ireturn, 1) := by decide +kernel
theorem dX0_storeRounded_160 : decode cX0_storeRounded 160 = .ok (.aload_n 0, 1) := by decide +kernel
theorem dX0_storeRounded_161 : decode cX0_storeRounded 161 = .ok (.getfield 9, 3) := by decide +kernel
theorem dX0_storeRounded_164 : decode cX0_storeRounded 164 = .ok (.iload_n 2, 1) := by decide +kernel
theorem dX0_storeRounded_165 : decode cX0_storeRounded 165 = .ok (.iload_n 3, 1) := by decide +kernel
theorem dX0_storeRounded_166 : decode cX0_storeRounded 166 = .ok (.iload 7, 2) := by decide +kernel
theorem dX0_storeRounded_168 : decode cX0_storeRounded 168 = .ok (.lload 8, 2) := by decide +kernel
theorem dX0_storeRounded_170 : decode cX0_storeRounded 170 = .ok (.bipush 7, 2) := by decide +kernel
theorem dX0_storeRounded_172 : decode cX0_storeRounded 172 = .ok (.lushr, 1) := by decide +kernel
theorem dX0_storeRounded_173 : decode cX0_storeRounded 173 = .ok (.ldc2_w 89, 3) := by decide +kernel
theorem dX0_storeRounded_176 : decode cX0_storeRounded 176 = .ok (.land, 1) := by decide +kernel
theorem dX0_storeRounded_177 : decode cX0_storeRounded 177 = .ok (.invokestatic 105, 3) := by decide +kernel
theorem dX0_storeRounded_180 : decode cX0_storeRounded 180 = .ok (.lastore, 1) := by decide +kernel
theorem dX0_storeRounded_181 : decode cX0_storeRounded 181 = .ok (.aload_n 0, 1) := by decide +kernel
theorem dX0_storeRounded_182 : decode cX0_storeRounded 182 = .ok (.iload 11, 2) := by decide +kernel
theorem dX0_storeRounded_184 : decode cX0_storeRounded 184 = .ok (.putfield 17, 3) := by decide +kernel
theorem dX0_storeRounded_187 : decode cX0_storeRounded 187 = .ok (.iload_n 3, 1) := by decide +kernel
theorem dX0_storeRounded_188 : decode cX0_storeRounded 188 = .ok (.ifCond .eq 8, 3) := by decide +kernel
theorem dX0_storeRounded_191 : decode cX0_storeRounded 191 = .ok (.bipush 8, 2) := by decide +kernel
theorem dX0_storeRounded_193 : decode cX0_storeRounded 193 = .ok (.goto 4, 3) := by decide +kernel
theorem dX0_storeRounded_196 : decode cX0_storeRounded 196 = .ok (.iconst 0, 1) := by decide +kernel
theorem dX0_storeRounded_197 : decode cX0_storeRounded 197 = .ok (.ireturn, 1) := by decide +kernel
set_option maxRecDepth 20000 in
theorem ggX0_storeSum_X0_storeValue : GoodIn wsX0_storeSum wsX0_storeValue := goodIn_r _ [9, 10, 11, 12, 8, 13, 14, 15, 16, 17, 18, 1, 2, 3, 4, 19, 20, 21, 22, 23, 24, 25, 26, 27, 28, 29, 30, 31, 32, 33, 34, 38, 39, 40] (by decide +kernel) (by decide +kernel)
set_option maxRecDepth 20000 in
theorem gX0_storeSum_X0_storeValue : GoodIn wsX0_storeSum (wsV RX0 42 RX0 yX0_storeValue wsX0_storeValue) := goodIn_app (goodIn_of _ (by decide +kernel)) ggX0_storeSum_X0_storeValue
set_option maxRecDepth 20000 in
theorem ggX0_storeSum_X0_exponentOf : GoodIn wsX0_storeSum wsX0_exponentOf := goodIn_r _ [18, 1, 2, 3, 4] (by decide +kernel) (by decide +kernel)
set_option maxRecDepth 20000 in
theorem gX0_storeSum_X0_exponentOf : GoodIn wsX0_storeSum (va_wsS RX0 97 yX0_exponentOf wsX0_exponentOf) := goodIn_app (goodIn_of _ (by decide +kernel)) ggX0_storeSum_X0_exponentOf
set_option maxRecDepth 20000 in
theorem ggX0_storeSum_X0_significandOf : GoodIn wsX0_storeSum wsX0_significandOf := goodIn_r _ [21, 1, 2, 3, 4, 22, 23] (by decide +kernel) (by decide +kernel)
set_option maxRecDepth 20000 in
theorem gX0_storeSum_X0_significandOf : GoodIn wsX0_storeSum (va_wsS RX0 100 yX0_significandOf wsX0_significandOf) := goodIn_app (goodIn_of _ (by decide +kernel)) ggX0_storeSum_X0_significandOf
set_option maxRecDepth 20000 in
theorem ggX0_storeSum_X0_shiftedDown : GoodIn wsX0_storeSum wsX0_shiftedDown := goodIn_r _ [37] (by decide +kernel) (by decide +kernel)
set_option maxRecDepth 20000 in
theorem gX0_storeSum_X0_shiftedDown : GoodIn wsX0_storeSum (va_wsS RX0 109 yX0_shiftedDown wsX0_shiftedDown) := goodIn_app (goodIn_of _ (by decide +kernel)) ggX0_storeSum_X0_shiftedDown
set_option maxRecDepth 20000 in
theorem ggX0_storeSum_X0_storeRounded : GoodIn wsX0_storeSum wsX0_storeRounded := goodIn_r _ [27, 28, 29, 14, 22, 15, 10, 11, 12, 8, 13, 30, 31, 32, 33, 34, 38, 39, 40] (by decide +kernel) (by decide +kernel)
set_option maxRecDepth 20000 in
theorem gX0_storeSum_X0_storeRounded : GoodIn wsX0_storeSum (wsV RX0 69 RX0 yX0_storeRounded wsX0_storeRounded) := goodIn_app (goodIn_of _ (by decide +kernel)) ggX0_storeSum_X0_storeRounded
theorem dX0_storeSum_0 : decode cX0_storeSum 0 = .ok (.lload_n 3, 1) := by decide +kernel
theorem dX0_storeSum_1 : decode cX0_storeSum 1 = .ok (.lconst 0, 1) := by decide +kernel
theorem dX0_storeSum_2 : decode cX0_storeSum 2 = .ok (.lcmp, 1) := by decide +kernel
theorem dX0_storeSum_3 : decode cX0_storeSum 3 = .ok (.ifCond .eq 10, 3) := by decide +kernel
theorem dX0_storeSum_6 : decode cX0_storeSum 6 = .ok (.lload 5, 2) := by decide +kernel
theorem dX0_storeSum_8 : decode cX0_storeSum 8 = .ok (.lconst 0, 1) := by decide +kernel
theorem dX0_storeSum_9 : decode cX0_storeSum 9 = .ok (.lcmp, 1) := by decide +kernel
theorem dX0_storeSum_10 : decode cX0_storeSum 10 = .ok (.ifCond .ne 22, 3) := by decide +kernel
theorem dX0_storeSum_13 : decode cX0_storeSum 13 = .ok (.aload_n 0, 1) := by decide +kernel
theorem dX0_storeSum_14 : decode cX0_storeSum 14 = .ok (.iload_n 1, 1) := by decide +kernel
theorem dX0_storeSum_15 : decode cX0_storeSum 15 = .ok (.iload_n 2, 1) := by decide +kernel
theorem dX0_storeSum_16 : decode cX0_storeSum 16 = .ok (.lload_n 3, 1) := by decide +kernel
theorem dX0_storeSum_17 : decode cX0_storeSum 17 = .ok (.lconst 0, 1) := by decide +kernel
theorem dX0_storeSum_18 : decode cX0_storeSum 18 = .ok (.lcmp, 1) := by decide +kernel
theorem dX0_storeSum_19 : decode cX0_storeSum 19 = .ok (.ifCond .ne 8, 3) := by decide +kernel
theorem dX0_storeSum_22 : decode cX0_storeSum 22 = .ok (.lload 5, 2) := by decide +kernel
theorem dX0_storeSum_24 : decode cX0_storeSum 24 = .ok (.goto 4, 3) := by decide +kernel
theorem dX0_storeSum_27 : decode cX0_storeSum 27 = .ok (.lload_n 3, 1) := by decide +kernel
theorem dX0_storeSum_28 : decode cX0_storeSum 28 = .ok (.invokevirtual 42, 3) := by decide +kernel
theorem dX0_storeSum_31 : decode cX0_storeSum 31 = .ok (.ireturn, 1) := by decide +kernel
theorem dX0_storeSum_32 : decode cX0_storeSum 32 = .ok (.lload_n 3, 1) := by decide +kernel
theorem dX0_storeSum_33 : decode cX0_storeSum 33 = .ok (.invokestatic 63, 3) := by decide +kernel
theorem dX0_storeSum_36 : decode cX0_storeSum 36 = .ok (.lload 5, 2) := by decide +kernel
theorem dX0_storeSum_38 : decode cX0_storeSum 38 = .ok (.invokestatic 63, 3) := by decide +kernel
theorem dX0_storeSum_41 : decode cX0_storeSum 41 = .ok (.lcmp, 1) := by decide +kernel
theorem dX0_storeSum_42 : decode cX0_storeSum 42 = .ok (.ifCond .lt 7, 3) := by decide +kernel
theorem dX0_storeSum_45 : decode cX0_storeSum 45 = .ok (.iconst 1, 1) := by decide +kernel
theorem dX0_storeSum_46 : decode cX0_storeSum 46 = .ok (.goto 4, 3) := by decide +kernel
theorem dX0_storeSum_49 : decode cX0_storeSum 49 = .ok (.iconst 0, 1) := by decide +kernel
theorem dX0_storeSum_50 : decode cX0_storeSum 50 = .ok (.istore 7, 2) := by decide +kernel
theorem dX0_storeSum_52 : decode cX0_storeSum 52 = .ok (.iload 7, 2) := by decide +kernel
theorem dX0_storeSum_54 : decode cX0_storeSum 54 = .ok (.ifCond .eq 7, 3) := by decide +kernel
theorem dX0_storeSum_57 : decode cX0_storeSum 57 = .ok (.lload_n 3, 1) := by decide +kernel
theorem dX0_storeSum_58 : decode cX0_storeSum 58 = .ok (.goto 5, 3) := by decide +kernel
theorem dX0_storeSum_61 : decode cX0_storeSum 61 = .ok (.lload 5, 2) := by decide +kernel
theorem dX0_storeSum_63 : decode cX0_storeSum 63 = .ok (.lstore 8, 2) := by decide +kernel
theorem dX0_storeSum_65 : decode cX0_storeSum 65 = .ok (.iload 7, 2) := by decide +kernel
theorem dX0_storeSum_67 : decode cX0_storeSum 67 = .ok (.ifCond .eq 8, 3) := by decide +kernel
theorem dX0_storeSum_70 : decode cX0_storeSum 70 = .ok (.lload 5, 2) := by decide +kernel
theorem dX0_storeSum_72 : decode cX0_storeSum 72 = .ok (.goto 4, 3) := by decide +kernel
theorem dX0_storeSum_75 : decode cX0_storeSum 75 = .ok (.lload_n 3, 1) := by decide +kernel
theorem dX0_storeSum_76 : decode cX0_storeSum 76 = .ok (.lstore 10, 2) := by decide +kernel
theorem dX0_storeSum_78 : decode cX0_storeSum 78 = .ok (.bipush 6, 2) := by decide +kernel
theorem dX0_storeSum_80 : decode cX0_storeSum 80 = .ok (.istore 12, 2) := by decide +kernel
theorem dX0_storeSum_82 : decode cX0_storeSum 82 = .ok (.lload 8, 2) := by decide +kernel
theorem dX0_storeSum_84 : decode cX0_storeSum 84 = .ok (.invokestatic 97, 3) := by decide +kernel
theorem dX0_storeSum_87 : decode cX0_storeSum 87 = .ok (.lload 10, 2) := by decide +kernel
theorem dX0_storeSum_89 : decode cX0_storeSum 89 = .ok (.invokestatic 97, 3) := by decide +kernel
theorem dX0_storeSum_92 : decode cX0_storeSum 92 = .ok (.isub, 1) := by decide +kernel
theorem dX0_storeSum_93 : decode cX0_storeSum 93 = .ok (.istore 13, 2) := by decide +kernel
theorem dX0_storeSum_95 : decode cX0_storeSum 95 = .ok (.lload 8, 2) := by decide +kernel
theorem dX0_storeSum_97 : decode cX0_storeSum 97 = .ok (.invokestatic 100, 3) := by decide +kernel
theorem dX0_storeSum_100 : decode cX0_storeSum 100 = .ok (.iload 12, 2) := by decide +kernel
theorem dX0_storeSum_102 : decode cX0_storeSum 102 = .ok (.lshl, 1) := by decide +kernel
theorem dX0_storeSum_103 : decode cX0_storeSum 103 = .ok (.lstore 14, 2) := by decide +kernel
theorem dX0_storeSum_105 : decode cX0_storeSum 105 = .ok (.lload 10, 2) := by decide +kernel
theorem dX0_storeSum_107 : decode cX0_storeSum 107 = .ok (.invokestatic 100, 3) := by decide +kernel
theorem dX0_storeSum_110 : decode cX0_storeSum 110 = .ok (.iload 12, 2) := by decide +kernel
theorem dX0_storeSum_112 : decode cX0_storeSum 112 = .ok (.lshl, 1) := by decide +kernel
theorem dX0_storeSum_113 : decode cX0_storeSum 113 = .ok (.iload 13, 2) := by decide +kernel
theorem dX0_storeSum_115 : decode cX0_storeSum 115 = .ok (.invokestatic 109, 3) := by decide +kernel
theorem dX0_storeSum_118 : decode cX0_storeSum 118 = .ok (.lstore 16, 2) := by decide +kernel
theorem dX0_storeSum_120 : decode cX0_storeSum 120 = .ok (.lload 8, 2) := by decide +kernel
theorem dX0_storeSum_122 : decode cX0_storeSum 122 = .ok (.lconst 0, 1) := by decide +kernel
theorem dX0_storeSum_123 : decode cX0_storeSum 123 = .ok (.lcmp, 1) := by decide +kernel
theorem dX0_storeSum_124 : decode cX0_storeSum 124 = .ok (.ifCond .ge 7, 3) := by decide +kernel
theorem dX0_storeSum_127 : decode cX0_storeSum 127 = .ok (.iconst 1, 1) := by decide +kernel
theorem dX0_storeSum_128 : decode cX0_storeSum 128 = .ok (.goto 4, 3) := by decide +kernel
theorem dX0_storeSum_131 : decode cX0_storeSum 131 = .ok (.iconst 0, 1) := by decide +kernel
theorem dX0_storeSum_132 : decode cX0_storeSum 132 = .ok (.lload 10, 2) := by decide +kernel
theorem dX0_storeSum_134 : decode cX0_storeSum 134 = .ok (.lconst 0, 1) := by decide +kernel
theorem dX0_storeSum_135 : decode cX0_storeSum 135 = .ok (.lcmp, 1) := by decide +kernel
theorem dX0_storeSum_136 : decode cX0_storeSum 136 = .ok (.ifCond .ge 7, 3) := by decide +kernel
theorem dX0_storeSum_139 : decode cX0_storeSum 139 = .ok (.iconst 1, 1) := by decide +kernel
theorem dX0_storeSum_140 : decode cX0_storeSum 140 = .ok (.goto 4, 3) := by decide +kernel
theorem dX0_storeSum_143 : decode cX0_storeSum 143 = .ok (.iconst 0, 1) := by decide +kernel
theorem dX0_storeSum_144 : decode cX0_storeSum 144 = .ok (.if_icmp .ne 7, 3) := by decide +kernel
theorem dX0_storeSum_147 : decode cX0_storeSum 147 = .ok (.iconst 1, 1) := by decide +kernel
theorem dX0_storeSum_148 : decode cX0_storeSum 148 = .ok (.goto 4, 3) := by decide +kernel
theorem dX0_storeSum_151 : decode cX0_storeSum 151 = .ok (.iconst 0, 1) := by decide +kernel
theorem dX0_storeSum_152 : decode cX0_storeSum 152 = .ok (.istore 18, 2) := by decide +kernel
theorem dX0_storeSum_154 : decode cX0_storeSum 154 = .ok (.iload 18, 2) := by decide +kernel
theorem dX0_storeSum_156 : decode cX0_storeSum 156 = .ok (.ifCond .eq 11, 3) := by decide +kernel
theorem dX0_storeSum_159 : decode cX0_storeSum 159 = .ok (.lload 14, 2) := by decide +kernel
theorem dX0_storeSum_161 : decode cX0_storeSum 161 = .ok (.lload 16, 2) := by decide +kernel
theorem dX0_storeSum_163 : decode cX0_storeSum 163 = .ok (.ladd, 1) := by decide +kernel
theorem dX0_storeSum_164 : decode cX0_storeSum 164 = .ok (.goto 8, 3) := by decide +kernel
theorem dX0_storeSum_167 : decode cX0_storeSum 167 = .ok (.lload 14, 2) := by decide +kernel
theorem dX0_storeSum_169 : decode cX0_storeSum 169 = .ok (.lload 16, 2) := by decide +kernel
theorem dX0_storeSum_171 : decode cX0_storeSum 171 = .ok (.lsub, 1) := by decide +kernel
theorem dX0_storeSum_172 : decode cX0_storeSum 172 = .ok (.lstore 19, 2) := by decide +kernel
theorem dX0_storeSum_174 : decode cX0_storeSum 174 = .ok (.aload_n 0, 1) := by decide +kernel
theorem dX0_storeSum_175 : decode cX0_storeSum 175 = .ok (.iload_n 1, 1) := by decide +kernel
theorem dX0_storeSum_176 : decode cX0_storeSum 176 = .ok (.iload_n 2, 1) := by decide +kernel
theorem dX0_storeSum_177 : decode cX0_storeSum 177 = .ok (.lload 8, 2) := by decide +kernel
theorem dX0_storeSum_179 : decode cX0_storeSum 179 = .ok (.lconst 0, 1) := by decide +kernel
theorem dX0_storeSum_180 : decode cX0_storeSum 180 = .ok (.lcmp, 1) := by decide +kernel
theorem dX0_storeSum_181 : decode cX0_storeSum 181 = .ok (.ifCond .ge 7, 3) := by decide +kernel
theorem dX0_storeSum_184 : decode cX0_storeSum 184 = .ok (.iconst 1, 1) := by decide +kernel
theorem dX0_storeSum_185 : decode cX0_storeSum 185 = .ok (.goto 4, 3) := by decide +kernel
theorem dX0_storeSum_188 : decode cX0_storeSum 188 = .ok (.iconst 0, 1) := by decide +kernel
theorem dX0_storeSum_189 : decode cX0_storeSum 189 = .ok (.lload 8, 2) := by decide +kernel
theorem dX0_storeSum_191 : decode cX0_storeSum 191 = .ok (.invokestatic 97, 3) := by decide +kernel
theorem dX0_storeSum_194 : decode cX0_storeSum 194 = .ok (.iconst 1, 1) := by decide +kernel
theorem dX0_storeSum_195 : decode cX0_storeSum 195 = .ok (.iadd, 1) := by decide +kernel
theorem dX0_storeSum_196 : decode cX0_storeSum 196 = .ok (.lload 19, 2) := by decide +kernel
theorem dX0_storeSum_198 : decode cX0_storeSum 198 = .ok (.invokevirtual 69, 3) := by decide +kernel
theorem dX0_storeSum_201 : decode cX0_storeSum 201 = .ok (.ireturn, 1) := by decide +kernel
theorem dX0_shiftedDown_0 : decode cX0_shiftedDown 0 = .ok (.iload_n 2, 1) := by decide +kernel
theorem dX0_shiftedDown_1 : decode cX0_shiftedDown 1 = .ok (.bipush 63, 2) := by decide +kernel
theorem dX0_shiftedDown_3 : decode cX0_shiftedDown 3 = .ok (.if_icmp .lt 5, 3) := by decide +kernel
theorem dX0_shiftedDown_6 : decode cX0_shiftedDown 6 = .ok (.lconst 1, 1) := by decide +kernel
theorem dX0_shiftedDown_7 : decode cX0_shiftedDown 7 = .ok (.lreturn, 1) := by decide +kernel
theorem dX0_shiftedDown_8 : decode cX0_shiftedDown 8 = .ok (.lload_n 0, 1) := by decide +kernel
theorem dX0_shiftedDown_9 : decode cX0_shiftedDown 9 = .ok (.iload_n 2, 1) := by decide +kernel
theorem dX0_shiftedDown_10 : decode cX0_shiftedDown 10 = .ok (.lushr, 1) := by decide +kernel
theorem dX0_shiftedDown_11 : decode cX0_shiftedDown 11 = .ok (.lstore_n 3, 1) := by decide +kernel
theorem dX0_shiftedDown_12 : decode cX0_shiftedDown 12 = .ok (.lload_n 3, 1) := by decide +kernel
theorem dX0_shiftedDown_13 : decode cX0_shiftedDown 13 = .ok (.iload_n 2, 1) := by decide +kernel
theorem dX0_shiftedDown_14 : decode cX0_shiftedDown 14 = .ok (.lshl, 1) := by decide +kernel
theorem dX0_shiftedDown_15 : decode cX0_shiftedDown 15 = .ok (.lload_n 0, 1) := by decide +kernel
theorem dX0_shiftedDown_16 : decode cX0_shiftedDown 16 = .ok (.lcmp, 1) := by decide +kernel
theorem dX0_shiftedDown_17 : decode cX0_shiftedDown 17 = .ok (.ifCond .ne 7, 3) := by decide +kernel
theorem dX0_shiftedDown_20 : decode cX0_shiftedDown 20 = .ok (.lload_n 3, 1) := by decide +kernel
theorem dX0_shiftedDown_21 : decode cX0_shiftedDown 21 = .ok (.goto 6, 3) := by decide +kernel
theorem dX0_shiftedDown_24 : decode cX0_shiftedDown 24 = .ok (.lload_n 3, 1) := by decide +kernel
theorem dX0_shiftedDown_25 : decode cX0_shiftedDown 25 = .ok (.lconst 1, 1) := by decide +kernel
theorem dX0_shiftedDown_26 : decode cX0_shiftedDown 26 = .ok (.lor, 1) := by decide +kernel
theorem dX0_shiftedDown_27 : decode cX0_shiftedDown 27 = .ok (.lreturn, 1) := by decide +kernel
set_option maxRecDepth 20000 in
theorem ggX0_storeProduct_X0_storeZero : GoodIn wsX0_storeProduct wsX0_storeZero := goodIn_r _ [5, 6, 7, 36, 37, 38] (by decide +kernel) (by decide +kernel)
set_option maxRecDepth 20000 in
theorem gX0_storeProduct_X0_storeZero : GoodIn wsX0_storeProduct (wsV RX0 93 RX0 yX0_storeZero wsX0_storeZero) := goodIn_app (goodIn_of _ (by decide +kernel)) ggX0_storeProduct_X0_storeZero
set_option maxRecDepth 20000 in
theorem ggX0_storeProduct_X0_significandOf : GoodIn wsX0_storeProduct wsX0_significandOf := goodIn_r _ [10, 11, 12, 13, 14, 15, 16] (by decide +kernel) (by decide +kernel)
set_option maxRecDepth 20000 in
theorem gX0_storeProduct_X0_significandOf : GoodIn wsX0_storeProduct (va_wsS RX0 100 yX0_significandOf wsX0_significandOf) := goodIn_app (goodIn_of _ (by decide +kernel)) ggX0_storeProduct_X0_significandOf
set_option maxRecDepth 20000 in
theorem ggX0_storeProduct_X0_wideProduct : GoodIn wsX0_storeProduct wsX0_wideProduct := goodIn_r _ [19, 20, 21] (by decide +kernel) (by decide +kernel)
set_option maxRecDepth 20000 in
theorem gX0_storeProduct_X0_wideProduct : GoodIn wsX0_storeProduct (va_wsS RX0 113 yX0_wideProduct wsX0_wideProduct) := goodIn_app (goodIn_of _ (by decide +kernel)) ggX0_storeProduct_X0_wideProduct
set_option maxRecDepth 20000 in
theorem ggX0_storeProduct_X0_exponentOf : GoodIn wsX0_storeProduct wsX0_exponentOf := goodIn_r _ [24, 11, 12, 13, 14] (by decide +kernel) (by decide +kernel)
set_option maxRecDepth 20000 in
theorem gX0_storeProduct_X0_exponentOf : GoodIn wsX0_storeProduct (va_wsS RX0 97 yX0_exponentOf wsX0_exponentOf) := goodIn_app (goodIn_of _ (by decide +kernel)) ggX0_storeProduct_X0_exponentOf
set_option maxRecDepth 20000 in
theorem ggX0_storeProduct_X0_storeRounded : GoodIn wsX0_storeProduct wsX0_storeRounded := goodIn_r _ [28, 29, 30, 6, 15, 7, 1, 2, 3, 4, 5, 31, 32, 33, 34, 35, 36, 37, 38] (by decide +kernel) (by decide +kernel)
set_option maxRecDepth 20000 in
theorem gX0_storeProduct_X0_storeRounded : GoodIn wsX0_storeProduct (wsV RX0 69 RX0 yX0_storeRounded wsX0_storeRounded) := goodIn_app (goodIn_of _ (by decide +kernel)) ggX0_storeProduct_X0_storeRounded
theorem dX0_storeProduct_0 : decode cX0_storeProduct 0 = .ok (.lload_n 3, 1) := by decide +kernel
theorem dX0_storeProduct_1 : decode cX0_storeProduct 1 = .ok (.lconst 0, 1) := by decide +kernel
theorem dX0_storeProduct_2 : decode cX0_storeProduct 2 = .ok (.lcmp, 1) := by decide +kernel
theorem dX0_storeProduct_3 : decode cX0_storeProduct 3 = .ok (.ifCond .eq 10, 3) := by decide +kernel
theorem dX0_storeProduct_6 : decode cX0_storeProduct 6 = .ok (.lload 5, 2) := by decide +kernel
theorem dX0_storeProduct_8 : decode cX0_storeProduct 8 = .ok (.lconst 0, 1) := by decide +kernel
theorem dX0_storeProduct_9 : decode cX0_storeProduct 9 = .ok (.lcmp, 1) := by decide +kernel
theorem dX0_storeProduct_10 : decode cX0_storeProduct 10 = .ok (.ifCond .ne 10, 3) := by decide +kernel
theorem dX0_storeProduct_13 : decode cX0_storeProduct 13 = .ok (.aload_n 0, 1) := by decide +kernel
theorem dX0_storeProduct_14 : decode cX0_storeProduct 14 = .ok (.iload_n 2, 1) := by decide +kernel
theorem dX0_storeProduct_15 : decode cX0_storeProduct 15 = .ok (.iconst 0, 1) := by decide +kernel
theorem dX0_storeProduct_16 : decode cX0_storeProduct 16 = .ok (.invokevirtual 93, 3) := by decide +kernel
theorem dX0_storeProduct_19 : decode cX0_storeProduct 19 = .ok (.ireturn, 1) := by decide +kernel
theorem dX0_storeProduct_20 : decode cX0_storeProduct 20 = .ok (.lload_n 3, 1) := by decide +kernel
theorem dX0_storeProduct_21 : decode cX0_storeProduct 21 = .ok (.invokestatic 100, 3) := by decide +kernel
theorem dX0_storeProduct_24 : decode cX0_storeProduct 24 = .ok (.lload 5, 2) := by decide +kernel
theorem dX0_storeProduct_26 : decode cX0_storeProduct 26 = .ok (.invokestatic 100, 3) := by decide +kernel
theorem dX0_storeProduct_29 : decode cX0_storeProduct 29 = .ok (.invokestatic 113, 3) := by decide +kernel
theorem dX0_storeProduct_32 : decode cX0_storeProduct 32 = .ok (.lstore 7, 2) := by decide +kernel
theorem dX0_storeProduct_34 : decode cX0_storeProduct 34 = .ok (.aload_n 0, 1) := by decide +kernel
theorem dX0_storeProduct_35 : decode cX0_storeProduct 35 = .ok (.iload_n 1, 1) := by decide +kernel
theorem dX0_storeProduct_36 : decode cX0_storeProduct 36 = .ok (.iload_n 2, 1) := by decide +kernel
theorem dX0_storeProduct_37 : decode cX0_storeProduct 37 = .ok (.lload_n 3, 1) := by decide +kernel
theorem dX0_storeProduct_38 : decode cX0_storeProduct 38 = .ok (.lconst 0, 1) := by decide +kernel
theorem dX0_storeProduct_39 : decode cX0_storeProduct 39 = .ok (.lcmp, 1) := by decide +kernel
theorem dX0_storeProduct_40 : decode cX0_storeProduct 40 = .ok (.ifCond .ge 7, 3) := by decide +kernel
theorem dX0_storeProduct_43 : decode cX0_storeProduct 43 = .ok (.iconst 1, 1) := by decide +kernel
theorem dX0_storeProduct_44 : decode cX0_storeProduct 44 = .ok (.goto 4, 3) := by decide +kernel
theorem dX0_storeProduct_47 : decode cX0_storeProduct 47 = .ok (.iconst 0, 1) := by decide +kernel
theorem dX0_storeProduct_48 : decode cX0_storeProduct 48 = .ok (.lload 5, 2) := by decide +kernel
theorem dX0_storeProduct_50 : decode cX0_storeProduct 50 = .ok (.lconst 0, 1) := by decide +kernel
theorem dX0_storeProduct_51 : decode cX0_storeProduct 51 = .ok (.lcmp, 1) := by decide +kernel
theorem dX0_storeProduct_52 : decode cX0_storeProduct 52 = .ok (.ifCond .ge 7, 3) := by decide +kernel
theorem dX0_storeProduct_55 : decode cX0_storeProduct 55 = .ok (.iconst 1, 1) := by decide +kernel
theorem dX0_storeProduct_56 : decode cX0_storeProduct 56 = .ok (.goto 4, 3) := by decide +kernel
theorem dX0_storeProduct_59 : decode cX0_storeProduct 59 = .ok (.iconst 0, 1) := by decide +kernel
theorem dX0_storeProduct_60 : decode cX0_storeProduct 60 = .ok (.if_icmp .eq 7, 3) := by decide +kernel
theorem dX0_storeProduct_63 : decode cX0_storeProduct 63 = .ok (.iconst 1, 1) := by decide +kernel
theorem dX0_storeProduct_64 : decode cX0_storeProduct 64 = .ok (.goto 4, 3) := by decide +kernel
theorem dX0_storeProduct_67 : decode cX0_storeProduct 67 = .ok (.iconst 0, 1) := by decide +kernel
theorem dX0_storeProduct_68 : decode cX0_storeProduct 68 = .ok (.lload_n 3, 1) := by decide +kernel
theorem dX0_storeProduct_69 : decode cX0_storeProduct 69 = .ok (.invokestatic 97, 3) := by decide +kernel
theorem dX0_storeProduct_72 : decode cX0_storeProduct 72 = .ok (.lload 5, 2) := by decide +kernel
theorem dX0_storeProduct_74 : decode cX0_storeProduct 74 = .ok (.invokestatic 97, 3) := by decide +kernel
theorem dX0_storeProduct_77 : decode cX0_storeProduct 77 = .ok (.iadd, 1) := by decide +kernel
theorem dX0_storeProduct_78 : decode cX0_storeProduct 78 = .ok (.sipush 128, 3) := by decide +kernel
theorem dX0_storeProduct_81 : decode cX0_storeProduct 81 = .ok (.isub, 1) := by decide +kernel
theorem dX0_storeProduct_82 : decode cX0_storeProduct 82 = .ok (.lload 7, 2) := by decide +kernel
theorem dX0_storeProduct_84 : decode cX0_storeProduct 84 = .ok (.invokevirtual 69, 3) := by decide +kernel
theorem dX0_storeProduct_87 : decode cX0_storeProduct 87 = .ok (.ireturn, 1) := by decide +kernel
theorem dX0_wideProduct_0 : decode cX0_wideProduct 0 = .ok (.lload_n 0, 1) := by decide +kernel
theorem dX0_wideProduct_1 : decode cX0_wideProduct 1 = .ok (.bipush 28, 2) := by decide +kernel
theorem dX0_wideProduct_3 : decode cX0_wideProduct 3 = .ok (.lushr, 1) := by decide +kernel
theorem dX0_wideProduct_4 : decode cX0_wideProduct 4 = .ok (.lstore 4, 2) := by decide +kernel
theorem dX0_wideProduct_6 : decode cX0_wideProduct 6 = .ok (.lload_n 0, 1) := by decide +kernel
theorem dX0_wideProduct_7 : decode cX0_wideProduct 7 = .ok (.ldc2_w 117, 3) := by decide +kernel
theorem dX0_wideProduct_10 : decode cX0_wideProduct 10 = .ok (.land, 1) := by decide +kernel
theorem dX0_wideProduct_11 : decode cX0_wideProduct 11 = .ok (.lstore 6, 2) := by decide +kernel
theorem dX0_wideProduct_13 : decode cX0_wideProduct 13 = .ok (.lload_n 2, 1) := by decide +kernel
theorem dX0_wideProduct_14 : decode cX0_wideProduct 14 = .ok (.bipush 28, 2) := by decide +kernel
theorem dX0_wideProduct_16 : decode cX0_wideProduct 16 = .ok (.lushr, 1) := by decide +kernel
theorem dX0_wideProduct_17 : decode cX0_wideProduct 17 = .ok (.lstore 8, 2) := by decide +kernel
theorem dX0_wideProduct_19 : decode cX0_wideProduct 19 = .ok (.lload_n 2, 1) := by decide +kernel
theorem dX0_wideProduct_20 : decode cX0_wideProduct 20 = .ok (.ldc2_w 117, 3) := by decide +kernel
theorem dX0_wideProduct_23 : decode cX0_wideProduct 23 = .ok (.land, 1) := by decide +kernel
theorem dX0_wideProduct_24 : decode cX0_wideProduct 24 = .ok (.lstore 10, 2) := by decide +kernel
theorem dX0_wideProduct_26 : decode cX0_wideProduct 26 = .ok (.lload 4, 2) := by decide +kernel
theorem dX0_wideProduct_28 : decode cX0_wideProduct 28 = .ok (.lload 10, 2) := by decide +kernel
theorem dX0_wideProduct_30 : decode cX0_wideProduct 30 = .ok (.lmul, 1) := by decide +kernel
theorem dX0_wideProduct_31 : decode cX0_wideProduct 31 = .ok (.lload 6, 2) := by decide +kernel
theorem dX0_wideProduct_33 : decode cX0_wideProduct 33 = .ok (.lload 8, 2) := by decide +kernel
theorem dX0_wideProduct_35 : decode cX0_wideProduct 35 = .ok (.lmul, 1) := by decide +kernel
theorem dX0_wideProduct_36 : decode cX0_wideProduct 36 = .ok (.ladd, 1) := by decide +kernel
theorem dX0_wideProduct_37 : decode cX0_wideProduct 37 = .ok (.lstore 12, 2) := by decide +kernel
theorem dX0_wideProduct_39 : decode cX0_wideProduct 39 = .ok (.lload 6, 2) := by decide +kernel
theorem dX0_wideProduct_41 : decode cX0_wideProduct 41 = .ok (.lload 10, 2) := by decide +kernel
theorem dX0_wideProduct_43 : decode cX0_wideProduct 43 = .ok (.lmul, 1) := by decide +kernel
theorem dX0_wideProduct_44 : decode cX0_wideProduct 44 = .ok (.lload 12, 2) := by decide +kernel
theorem dX0_wideProduct_46 : decode cX0_wideProduct 46 = .ok (.ldc2_w 117, 3) := by decide +kernel
theorem dX0_wideProduct_49 : decode cX0_wideProduct 49 = .ok (.land, 1) := by decide +kernel
theorem dX0_wideProduct_50 : decode cX0_wideProduct 50 = .ok (.bipush 28, 2) := by decide +kernel
theorem dX0_wideProduct_52 : decode cX0_wideProduct 52 = .ok (.lshl, 1) := by decide +kernel
theorem dX0_wideProduct_53 : decode cX0_wideProduct 53 = .ok (.ladd, 1) := by decide +kernel
theorem dX0_wideProduct_54 : decode cX0_wideProduct 54 = .ok (.lstore 14, 2) := by decide +kernel
theorem dX0_wideProduct_56 : decode cX0_wideProduct 56 = .ok (.lload 4, 2) := by decide +kernel
theorem dX0_wideProduct_58 : decode cX0_wideProduct 58 = .ok (.lload 8, 2) := by decide +kernel
theorem dX0_wideProduct_60 : decode cX0_wideProduct 60 = .ok (.lmul, 1) := by decide +kernel
theorem dX0_wideProduct_61 : decode cX0_wideProduct 61 = .ok (.lload 12, 2) := by decide +kernel
theorem dX0_wideProduct_63 : decode cX0_wideProduct 63 = .ok (.bipush 28, 2) := by decide +kernel
theorem dX0_wideProduct_65 : decode cX0_wideProduct 65 = .ok (.lushr, 1) := by decide +kernel
theorem dX0_wideProduct_66 : decode cX0_wideProduct 66 = .ok (.ladd, 1) := by decide +kernel
theorem dX0_wideProduct_67 : decode cX0_wideProduct 67 = .ok (.lload 14, 2) := by decide +kernel
theorem dX0_wideProduct_69 : decode cX0_wideProduct 69 = .ok (.bipush 56, 2) := by decide +kernel
theorem dX0_wideProduct_71 : decode cX0_wideProduct 71 = .ok (.lushr, 1) := by decide +kernel
theorem dX0_wideProduct_72 : decode cX0_wideProduct 72 = .ok (.ladd, 1) := by decide +kernel
theorem dX0_wideProduct_73 : decode cX0_wideProduct 73 = .ok (.lstore 16, 2) := by decide +kernel
theorem dX0_wideProduct_75 : decode cX0_wideProduct 75 = .ok (.lload 14, 2) := by decide +kernel
theorem dX0_wideProduct_77 : decode cX0_wideProduct 77 = .ok (.ldc2_w 119, 3) := by decide +kernel
theorem dX0_wideProduct_80 : decode cX0_wideProduct 80 = .ok (.land, 1) := by decide +kernel
theorem dX0_wideProduct_81 : decode cX0_wideProduct 81 = .ok (.lstore 18, 2) := by decide +kernel
theorem dX0_wideProduct_83 : decode cX0_wideProduct 83 = .ok (.bipush 49, 2) := by decide +kernel
theorem dX0_wideProduct_85 : decode cX0_wideProduct 85 = .ok (.istore 20, 2) := by decide +kernel
theorem dX0_wideProduct_87 : decode cX0_wideProduct 87 = .ok (.lload 16, 2) := by decide +kernel
theorem dX0_wideProduct_89 : decode cX0_wideProduct 89 = .ok (.bipush 7, 2) := by decide +kernel
theorem dX0_wideProduct_91 : decode cX0_wideProduct 91 = .ok (.lshl, 1) := by decide +kernel
theorem dX0_wideProduct_92 : decode cX0_wideProduct 92 = .ok (.lload 18, 2) := by decide +kernel
theorem dX0_wideProduct_94 : decode cX0_wideProduct 94 = .ok (.iload 20, 2) := by decide +kernel
theorem dX0_wideProduct_96 : decode cX0_wideProduct 96 = .ok (.lushr, 1) := by decide +kernel
theorem dX0_wideProduct_97 : decode cX0_wideProduct 97 = .ok (.lor, 1) := by decide +kernel
theorem dX0_wideProduct_98 : decode cX0_wideProduct 98 = .ok (.lstore 21, 2) := by decide +kernel
theorem dX0_wideProduct_100 : decode cX0_wideProduct 100 = .ok (.lload 18, 2) := by decide +kernel
theorem dX0_wideProduct_102 : decode cX0_wideProduct 102 = .ok (.lconst 1, 1) := by decide +kernel
theorem dX0_wideProduct_103 : decode cX0_wideProduct 103 = .ok (.iload 20, 2) := by decide +kernel
theorem dX0_wideProduct_105 : decode cX0_wideProduct 105 = .ok (.lshl, 1) := by decide +kernel
theorem dX0_wideProduct_106 : decode cX0_wideProduct 106 = .ok (.lconst 1, 1) := by decide +kernel
theorem dX0_wideProduct_107 : decode cX0_wideProduct 107 = .ok (.lsub, 1) := by decide +kernel
theorem dX0_wideProduct_108 : decode cX0_wideProduct 108 = .ok (.land, 1) := by decide +kernel
theorem dX0_wideProduct_109 : decode cX0_wideProduct 109 = .ok (.lconst 0, 1) := by decide +kernel
theorem dX0_wideProduct_110 : decode cX0_wideProduct 110 = .ok (.lcmp, 1) := by decide +kernel
theorem dX0_wideProduct_111 : decode cX0_wideProduct 111 = .ok (.ifCond .eq 10, 3) := by decide +kernel
theorem dX0_wideProduct_114 : decode cX0_wideProduct 114 = .ok (.lload 21, 2) := by decide +kernel
theorem dX0_wideProduct_116 : decode cX0_wideProduct 116 = .ok (.lconst 1, 1) := by decide +kernel
theorem dX0_wideProduct_117 : decode cX0_wideProduct 117 = .ok (.lor, 1) := by decide +kernel
theorem dX0_wideProduct_118 : decode cX0_wideProduct 118 = .ok (.goto 5, 3) := by decide +kernel
theorem dX0_wideProduct_121 : decode cX0_wideProduct 121 = .ok (.lload 21, 2) := by decide +kernel
theorem dX0_wideProduct_123 : decode cX0_wideProduct 123 = .ok (.lreturn, 1) := by decide +kernel
set_option maxRecDepth 20000 in
theorem ggX0_storeQuotient_X0_storeZero : GoodIn wsX0_storeQuotient wsX0_storeZero := goodIn_r _ [5, 6, 7, 34, 35, 36] (by decide +kernel) (by decide +kernel)
set_option maxRecDepth 20000 in
theorem gX0_storeQuotient_X0_storeZero : GoodIn wsX0_storeQuotient (wsV RX0 93 RX0 yX0_storeZero wsX0_storeZero) := goodIn_app (goodIn_of _ (by decide +kernel)) ggX0_storeQuotient_X0_storeZero
set_option maxRecDepth 20000 in
theorem ggX0_storeQuotient_X0_significandOf : GoodIn wsX0_storeQuotient wsX0_significandOf := goodIn_r _ [10, 11, 12, 13, 14, 15, 16] (by decide +kernel) (by decide +kernel)
set_option maxRecDepth 20000 in
theorem gX0_storeQuotient_X0_significandOf : GoodIn wsX0_storeQuotient (va_wsS RX0 100 yX0_significandOf wsX0_significandOf) := goodIn_app (goodIn_of _ (by decide +kernel)) ggX0_storeQuotient_X0_significandOf
set_option maxRecDepth 20000 in
theorem ggX0_storeQuotient_X0_wideQuotient : GoodIn wsX0_storeQuotient wsX0_wideQuotient := goodIn_r _ [19] (by decide +kernel) (by decide +kernel)
set_option maxRecDepth 20000 in
theorem gX0_storeQuotient_X0_wideQuotient : GoodIn wsX0_storeQuotient (va_wsS RX0 121 yX0_wideQuotient wsX0_wideQuotient) := goodIn_app (goodIn_of _ (by decide +kernel)) ggX0_storeQuotient_X0_wideQuotient
set_option maxRecDepth 20000 in
theorem ggX0_storeQuotient_X0_exponentOf : GoodIn wsX0_storeQuotient wsX0_exponentOf := goodIn_r _ [22, 11, 12, 13, 14] (by decide +kernel) (by decide +kernel)
set_option maxRecDepth 20000 in
theorem gX0_storeQuotient_X0_exponentOf : GoodIn wsX0_storeQuotient (va_wsS RX0 97 yX0_exponentOf wsX0_exponentOf) := goodIn_app (goodIn_of _ (by decide +kernel)) ggX0_storeQuotient_X0_exponentOf
set_option maxRecDepth 20000 in
theorem ggX0_storeQuotient_X0_storeRounded : GoodIn wsX0_storeQuotient wsX0_storeRounded := goodIn_r _ [26, 27, 28, 6, 15, 7, 1, 2, 3, 4, 5, 29, 30, 31, 32, 33, 34, 35, 36] (by decide +kernel) (by decide +kernel)
set_option maxRecDepth 20000 in
theorem gX0_storeQuotient_X0_storeRounded : GoodIn wsX0_storeQuotient (wsV RX0 69 RX0 yX0_storeRounded wsX0_storeRounded) := goodIn_app (goodIn_of _ (by decide +kernel)) ggX0_storeQuotient_X0_storeRounded
theorem dX0_storeQuotient_0 : decode cX0_storeQuotient 0 = .ok (.lload_n 3, 1) := by decide +kernel
theorem dX0_storeQuotient_1 : decode cX0_storeQuotient 1 = .ok (.lconst 0, 1) := by decide +kernel
theorem dX0_storeQuotient_2 : decode cX0_storeQuotient 2 = .ok (.lcmp, 1) := by decide +kernel
theorem dX0_storeQuotient_3 : decode cX0_storeQuotient 3 = .ok (.ifCond .ne 10, 3) := by decide +kernel
theorem dX0_storeQuotient_6 : decode cX0_storeQuotient 6 = .ok (.aload_n 0, 1) := by decide +kernel
theorem dX0_storeQuotient_7 : decode cX0_storeQuotient 7 = .ok (.iload_n 2, 1) := by decide +kernel
theorem dX0_storeQuotient_8 : decode cX0_storeQuotient 8 = .ok (.iconst 0, 1) := by decide +kernel
theorem dX0_storeQuotient_9 : decode cX0_storeQuotient 9 = .ok (.invokevirtual 93, 3) := by decide +kernel
theorem dX0_storeQuotient_12 : decode cX0_storeQuotient 12 = .ok (.ireturn, 1) := by decide +kernel
theorem dX0_storeQuotient_13 : decode cX0_storeQuotient 13 = .ok (.lload_n 3, 1) := by decide +kernel
theorem dX0_storeQuotient_14 : decode cX0_storeQuotient 14 = .ok (.invokestatic 100, 3) := by decide +kernel
theorem dX0_storeQuotient_17 : decode cX0_storeQuotient 17 = .ok (.lload 5, 2) := by decide +kernel
theorem dX0_storeQuotient_19 : decode cX0_storeQuotient 19 = .ok (.invokestatic 100, 3) := by decide +kernel
theorem dX0_storeQuotient_22 : decode cX0_storeQuotient 22 = .ok (.invokestatic 121, 3) := by decide +kernel
theorem dX0_storeQuotient_25 : decode cX0_storeQuotient 25 = .ok (.lstore 7, 2) := by decide +kernel
theorem dX0_storeQuotient_27 : decode cX0_storeQuotient 27 = .ok (.lload_n 3, 1) := by decide +kernel
theorem dX0_storeQuotient_28 : decode cX0_storeQuotient 28 = .ok (.invokestatic 97, 3) := by decide +kernel
theorem dX0_storeQuotient_31 : decode cX0_storeQuotient 31 = .ok (.lload 5, 2) := by decide +kernel
theorem dX0_storeQuotient_33 : decode cX0_storeQuotient 33 = .ok (.invokestatic 97, 3) := by decide +kernel
theorem dX0_storeQuotient_36 : decode cX0_storeQuotient 36 = .ok (.isub, 1) := by decide +kernel
theorem dX0_storeQuotient_37 : decode cX0_storeQuotient 37 = .ok (.sipush 128, 3) := by decide +kernel
theorem dX0_storeQuotient_40 : decode cX0_storeQuotient 40 = .ok (.iadd, 1) := by decide +kernel
theorem dX0_storeQuotient_41 : decode cX0_storeQuotient 41 = .ok (.iconst 1, 1) := by decide +kernel
theorem dX0_storeQuotient_42 : decode cX0_storeQuotient 42 = .ok (.iadd, 1) := by decide +kernel
theorem dX0_storeQuotient_43 : decode cX0_storeQuotient 43 = .ok (.istore 9, 2) := by decide +kernel
theorem dX0_storeQuotient_45 : decode cX0_storeQuotient 45 = .ok (.aload_n 0, 1) := by decide +kernel
theorem dX0_storeQuotient_46 : decode cX0_storeQuotient 46 = .ok (.iload_n 1, 1) := by decide +kernel
theorem dX0_storeQuotient_47 : decode cX0_storeQuotient 47 = .ok (.iload_n 2, 1) := by decide +kernel
theorem dX0_storeQuotient_48 : decode cX0_storeQuotient 48 = .ok (.lload_n 3, 1) := by decide +kernel
theorem dX0_storeQuotient_49 : decode cX0_storeQuotient 49 = .ok (.lconst 0, 1) := by decide +kernel
theorem dX0_storeQuotient_50 : decode cX0_storeQuotient 50 = .ok (.lcmp, 1) := by decide +kernel
theorem dX0_storeQuotient_51 : decode cX0_storeQuotient 51 = .ok (.ifCond .ge 7, 3) := by decide +kernel
theorem dX0_storeQuotient_54 : decode cX0_storeQuotient 54 = .ok (.iconst 1, 1) := by decide +kernel
theorem dX0_storeQuotient_55 : decode cX0_storeQuotient 55 = .ok (.goto 4, 3) := by decide +kernel
theorem dX0_storeQuotient_58 : decode cX0_storeQuotient 58 = .ok (.iconst 0, 1) := by decide +kernel
theorem dX0_storeQuotient_59 : decode cX0_storeQuotient 59 = .ok (.lload 5, 2) := by decide +kernel
theorem dX0_storeQuotient_61 : decode cX0_storeQuotient 61 = .ok (.lconst 0, 1) := by decide +kernel
theorem dX0_storeQuotient_62 : decode cX0_storeQuotient 62 = .ok (.lcmp, 1) := by decide +kernel
theorem dX0_storeQuotient_63 : decode cX0_storeQuotient 63 = .ok (.ifCond .ge 7, 3) := by decide +kernel
theorem dX0_storeQuotient_66 : decode cX0_storeQuotient 66 = .ok (.iconst 1, 1) := by decide +kernel
theorem dX0_storeQuotient_67 : decode cX0_storeQuotient 67 = .ok (.goto 4, 3) := by decide +kernel
theorem dX0_storeQuotient_70 : decode cX0_storeQuotient 70 = .ok (.iconst 0, 1) := by decide +kernel
theorem dX0_storeQuotient_71 : decode cX0_storeQuotient 71 = .ok (.if_icmp .eq 7, 3) := by decide +kernel
theorem dX0_storeQuotient_74 : decode cX0_storeQuotient 74 = .ok (.iconst 1, 1) := by decide +kernel
theorem dX0_storeQuotient_75 : decode cX0_storeQuotient 75 = .ok (.goto 4, 3) := by decide +kernel
theorem dX0_storeQuotient_78 : decode cX0_storeQuotient 78 = .ok (.iconst 0, 1) := by decide +kernel
theorem dX0_storeQuotient_79 : decode cX0_storeQuotient 79 = .ok (.iload 9, 2) := by decide +kernel
theorem dX0_storeQuotient_81 : decode cX0_storeQuotient 81 = .ok (.lload 7, 2) := by decide +kernel
theorem dX0_storeQuotient_83 : decode cX0_storeQuotient 83 = .ok (.invokevirtual 69, 3) := by decide +kernel
theorem dX0_storeQuotient_86 : decode cX0_storeQuotient 86 = .ok (.ireturn, 1) := by decide +kernel
theorem dX0_wideQuotient_0 : decode cX0_wideQuotient 0 = .ok (.lload_n 0, 1) := by decide +kernel
theorem dX0_wideQuotient_1 : decode cX0_wideQuotient 1 = .ok (.lstore 4, 2) := by decide +kernel
theorem dX0_wideQuotient_3 : decode cX0_wideQuotient 3 = .ok (.lconst 0, 1) := by decide +kernel
theorem dX0_wideQuotient_4 : decode cX0_wideQuotient 4 = .ok (.lstore 6, 2) := by decide +kernel
theorem dX0_wideQuotient_6 : decode cX0_wideQuotient 6 = .ok (.iconst 0, 1) := by decide +kernel
theorem dX0_wideQuotient_7 : decode cX0_wideQuotient 7 = .ok (.istore 8, 2) := by decide +kernel
theorem dX0_wideQuotient_9 : decode cX0_wideQuotient 9 = .ok (.iload 8, 2) := by decide +kernel
theorem dX0_wideQuotient_11 : decode cX0_wideQuotient 11 = .ok (.bipush 63, 2) := by decide +kernel
theorem dX0_wideQuotient_13 : decode cX0_wideQuotient 13 = .ok (.if_icmp .ge 40, 3) := by decide +kernel
theorem dX0_wideQuotient_16 : decode cX0_wideQuotient 16 = .ok (.lload 6, 2) := by decide +kernel
theorem dX0_wideQuotient_18 : decode cX0_wideQuotient 18 = .ok (.iconst 1, 1) := by decide +kernel
theorem dX0_wideQuotient_19 : decode cX0_wideQuotient 19 = .ok (.lshl, 1) := by decide +kernel
theorem dX0_wideQuotient_20 : decode cX0_wideQuotient 20 = .ok (.lstore 6, 2) := by decide +kernel
theorem dX0_wideQuotient_22 : decode cX0_wideQuotient 22 = .ok (.lload 4, 2) := by decide +kernel
theorem dX0_wideQuotient_24 : decode cX0_wideQuotient 24 = .ok (.lload_n 2, 1) := by decide +kernel
theorem dX0_wideQuotient_25 : decode cX0_wideQuotient 25 = .ok (.lcmp, 1) := by decide +kernel
theorem dX0_wideQuotient_26 : decode cX0_wideQuotient 26 = .ok (.ifCond .lt 15, 3) := by decide +kernel
theorem dX0_wideQuotient_29 : decode cX0_wideQuotient 29 = .ok (.lload 4, 2) := by decide +kernel
theorem dX0_wideQuotient_31 : decode cX0_wideQuotient 31 = .ok (.lload_n 2, 1) := by decide +kernel
theorem dX0_wideQuotient_32 : decode cX0_wideQuotient 32 = .ok (.lsub, 1) := by decide +kernel
theorem dX0_wideQuotient_33 : decode cX0_wideQuotient 33 = .ok (.lstore 4, 2) := by decide +kernel
theorem dX0_wideQuotient_35 : decode cX0_wideQuotient 35 = .ok (.lload 6, 2) := by decide +kernel
theorem dX0_wideQuotient_37 : decode cX0_wideQuotient 37 = .ok (.lconst 1, 1) := by decide +kernel
theorem dX0_wideQuotient_38 : decode cX0_wideQuotient 38 = .ok (.lor, 1) := by decide +kernel
theorem dX0_wideQuotient_39 : decode cX0_wideQuotient 39 = .ok (.lstore 6, 2) := by decide +kernel
theorem dX0_wideQuotient_41 : decode cX0_wideQuotient 41 = .ok (.lload 4, 2) := by decide +kernel
theorem dX0_wideQuotient_43 : decode cX0_wideQuotient 43 = .ok (.iconst 1, 1) := by decide +kernel
theorem dX0_wideQuotient_44 : decode cX0_wideQuotient 44 = .ok (.lshl, 1) := by decide +kernel
theorem dX0_wideQuotient_45 : decode cX0_wideQuotient 45 = .ok (.lstore 4, 2) := by decide +kernel
theorem dX0_wideQuotient_47 : decode cX0_wideQuotient 47 = .ok (.iinc 8 1, 3) := by decide +kernel
theorem dX0_wideQuotient_50 : decode cX0_wideQuotient 50 = .ok (.goto (-41), 3) := by decide +kernel
theorem dX0_wideQuotient_53 : decode cX0_wideQuotient 53 = .ok (.lload 4, 2) := by decide +kernel
theorem dX0_wideQuotient_55 : decode cX0_wideQuotient 55 = .ok (.lconst 0, 1) := by decide +kernel
theorem dX0_wideQuotient_56 : decode cX0_wideQuotient 56 = .ok (.lcmp, 1) := by decide +kernel
theorem dX0_wideQuotient_57 : decode cX0_wideQuotient 57 = .ok (.ifCond .eq 10, 3) := by decide +kernel
theorem dX0_wideQuotient_60 : decode cX0_wideQuotient 60 = .ok (.lload 6, 2) := by decide +kernel
theorem dX0_wideQuotient_62 : decode cX0_wideQuotient 62 = .ok (.lconst 1, 1) := by decide +kernel
theorem dX0_wideQuotient_63 : decode cX0_wideQuotient 63 = .ok (.lor, 1) := by decide +kernel
theorem dX0_wideQuotient_64 : decode cX0_wideQuotient 64 = .ok (.goto 5, 3) := by decide +kernel
theorem dX0_wideQuotient_67 : decode cX0_wideQuotient 67 = .ok (.lload 6, 2) := by decide +kernel
theorem dX0_wideQuotient_69 : decode cX0_wideQuotient 69 = .ok (.lreturn, 1) := by decide +kernel
set_option maxRecDepth 20000 in
theorem ggX0_wholeOf_X0_exponentOf : GoodIn wsX0_wholeOf wsX0_exponentOf := goodIn_r _ [4, 5, 6, 7, 8] (by decide +kernel) (by decide +kernel)
set_option maxRecDepth 20000 in
theorem gX0_wholeOf_X0_exponentOf : GoodIn wsX0_wholeOf (va_wsS RX0 97 yX0_exponentOf wsX0_exponentOf) := goodIn_app (goodIn_of _ (by decide +kernel)) ggX0_wholeOf_X0_exponentOf
set_option maxRecDepth 20000 in
theorem ggX0_wholeOf_X0_significandOf : GoodIn wsX0_wholeOf wsX0_significandOf := goodIn_r _ [11, 5, 6, 7, 8, 12, 13] (by decide +kernel) (by decide +kernel)
set_option maxRecDepth 20000 in
theorem gX0_wholeOf_X0_significandOf : GoodIn wsX0_wholeOf (va_wsS RX0 100 yX0_significandOf wsX0_significandOf) := goodIn_app (goodIn_of _ (by decide +kernel)) ggX0_wholeOf_X0_significandOf
set_option maxRecDepth 20000 in
theorem ggX0_wholeOf_X0_wholeSize : GoodIn wsX0_wholeOf wsX0_wholeSize := goodIn_r _ [16, 17, 13] (by decide +kernel) (by decide +kernel)
set_option maxRecDepth 20000 in
theorem gX0_wholeOf_X0_wholeSize : GoodIn wsX0_wholeOf (va_wsS RX0 124 yX0_wholeSize wsX0_wholeSize) := goodIn_app (goodIn_of _ (by decide +kernel)) ggX0_wholeOf_X0_wholeSize
theorem dX0_wholeOf_0 : decode cX0_wholeOf 0 = .ok (.lload_n 0, 1) := by decide +kernel
theorem dX0_wholeOf_1 : decode cX0_wholeOf 1 = .ok (.lconst 0, 1) := by decide +kernel
theorem dX0_wholeOf_2 : decode cX0_wholeOf 2 = .ok (.lcmp, 1) := by decide +kernel
theorem dX0_wholeOf_3 : decode cX0_wholeOf 3 = .ok (.ifCond .ne 5, 3) := by decide +kernel
theorem dX0_wholeOf_6 : decode cX0_wholeOf 6 = .ok (.lconst 0, 1) := by decide +kernel
theorem dX0_wholeOf_7 : decode cX0_wholeOf 7 = .ok (.lreturn, 1) := by decide +kernel
theorem dX0_wholeOf_8 : decode cX0_wholeOf 8 = .ok (.lload_n 0, 1) := by decide +kernel
theorem dX0_wholeOf_9 : decode cX0_wholeOf 9 = .ok (.invokestatic 97, 3) := by decide +kernel
theorem dX0_wholeOf_12 : decode cX0_wholeOf 12 = .ok (.sipush 128, 3) := by decide +kernel
theorem dX0_wholeOf_15 : decode cX0_wholeOf 15 = .ok (.isub, 1) := by decide +kernel
theorem dX0_wholeOf_16 : decode cX0_wholeOf 16 = .ok (.bipush 56, 2) := by decide +kernel
theorem dX0_wholeOf_18 : decode cX0_wholeOf 18 = .ok (.isub, 1) := by decide +kernel
theorem dX0_wholeOf_19 : decode cX0_wholeOf 19 = .ok (.istore_n 3, 1) := by decide +kernel
theorem dX0_wholeOf_20 : decode cX0_wholeOf 20 = .ok (.lload_n 0, 1) := by decide +kernel
theorem dX0_wholeOf_21 : decode cX0_wholeOf 21 = .ok (.invokestatic 100, 3) := by decide +kernel
theorem dX0_wholeOf_24 : decode cX0_wholeOf 24 = .ok (.iload_n 3, 1) := by decide +kernel
theorem dX0_wholeOf_25 : decode cX0_wholeOf 25 = .ok (.iload_n 2, 1) := by decide +kernel
theorem dX0_wholeOf_26 : decode cX0_wholeOf 26 = .ok (.invokestatic 124, 3) := by decide +kernel
theorem dX0_wholeOf_29 : decode cX0_wholeOf 29 = .ok (.lstore 4, 2) := by decide +kernel
theorem dX0_wholeOf_31 : decode cX0_wholeOf 31 = .ok (.lload_n 0, 1) := by decide +kernel
theorem dX0_wholeOf_32 : decode cX0_wholeOf 32 = .ok (.lconst 0, 1) := by decide +kernel
theorem dX0_wholeOf_33 : decode cX0_wholeOf 33 = .ok (.lcmp, 1) := by decide +kernel
theorem dX0_wholeOf_34 : decode cX0_wholeOf 34 = .ok (.ifCond .ge 9, 3) := by decide +kernel
theorem dX0_wholeOf_37 : decode cX0_wholeOf 37 = .ok (.lload 4, 2) := by decide +kernel
theorem dX0_wholeOf_39 : decode cX0_wholeOf 39 = .ok (.lneg, 1) := by decide +kernel
theorem dX0_wholeOf_40 : decode cX0_wholeOf 40 = .ok (.goto 5, 3) := by decide +kernel
theorem dX0_wholeOf_43 : decode cX0_wholeOf 43 = .ok (.lload 4, 2) := by decide +kernel
theorem dX0_wholeOf_45 : decode cX0_wholeOf 45 = .ok (.lreturn, 1) := by decide +kernel
theorem dX0_wholeSize_0 : decode cX0_wholeSize 0 = .ok (.iload_n 2, 1) := by decide +kernel
theorem dX0_wholeSize_1 : decode cX0_wholeSize 1 = .ok (.ifCond .lt 29, 3) := by decide +kernel
theorem dX0_wholeSize_4 : decode cX0_wholeSize 4 = .ok (.iload_n 2, 1) := by decide +kernel
theorem dX0_wholeSize_5 : decode cX0_wholeSize 5 = .ok (.bipush 32, 2) := by decide +kernel
theorem dX0_wholeSize_7 : decode cX0_wholeSize 7 = .ok (.if_icmp .ge 13, 3) := by decide +kernel
theorem dX0_wholeSize_10 : decode cX0_wholeSize 10 = .ok (.lload_n 0, 1) := by decide +kernel
theorem dX0_wholeSize_11 : decode cX0_wholeSize 11 = .ok (.iload_n 2, 1) := by decide +kernel
theorem dX0_wholeSize_12 : decode cX0_wholeSize 12 = .ok (.lshl, 1) := by decide +kernel
theorem dX0_wholeSize_13 : decode cX0_wholeSize 13 = .ok (.ldc2_w 80, 3) := by decide +kernel
theorem dX0_wholeSize_16 : decode cX0_wholeSize 16 = .ok (.land, 1) := by decide +kernel
theorem dX0_wholeSize_17 : decode cX0_wholeSize 17 = .ok (.goto 4, 3) := by decide +kernel
theorem dX0_wholeSize_20 : decode cX0_wholeSize 20 = .ok (.lconst 0, 1) := by decide +kernel
theorem dX0_wholeSize_21 : decode cX0_wholeSize 21 = .ok (.lstore 4, 2) := by decide +kernel
theorem dX0_wholeSize_23 : decode cX0_wholeSize 23 = .ok (.lload 4, 2) := by decide +kernel
theorem dX0_wholeSize_25 : decode cX0_wholeSize 25 = .ok (.ldc2_w 91, 3) := by decide +kernel
theorem dX0_wholeSize_28 : decode cX0_wholeSize 28 = .ok (.lor, 1) := by decide +kernel
theorem dX0_wholeSize_29 : decode cX0_wholeSize 29 = .ok (.lreturn, 1) := by decide +kernel
theorem dX0_wholeSize_30 : decode cX0_wholeSize 30 = .ok (.iload_n 2, 1) := by decide +kernel
theorem dX0_wholeSize_31 : decode cX0_wholeSize 31 = .ok (.ineg, 1) := by decide +kernel
theorem dX0_wholeSize_32 : decode cX0_wholeSize 32 = .ok (.istore 4, 2) := by decide +kernel
theorem dX0_wholeSize_34 : decode cX0_wholeSize 34 = .ok (.iload 4, 2) := by decide +kernel
theorem dX0_wholeSize_36 : decode cX0_wholeSize 36 = .ok (.bipush 56, 2) := by decide +kernel
theorem dX0_wholeSize_38 : decode cX0_wholeSize 38 = .ok (.if_icmp .le 5, 3) := by decide +kernel
theorem dX0_wholeSize_41 : decode cX0_wholeSize 41 = .ok (.lconst 0, 1) := by decide +kernel
theorem dX0_wholeSize_42 : decode cX0_wholeSize 42 = .ok (.lreturn, 1) := by decide +kernel
theorem dX0_wholeSize_43 : decode cX0_wholeSize 43 = .ok (.iload_n 3, 1) := by decide +kernel
theorem dX0_wholeSize_44 : decode cX0_wholeSize 44 = .ok (.ifCond .eq 16, 3) := by decide +kernel
theorem dX0_wholeSize_47 : decode cX0_wholeSize 47 = .ok (.lload_n 0, 1) := by decide +kernel
theorem dX0_wholeSize_48 : decode cX0_wholeSize 48 = .ok (.iload 4, 2) := by decide +kernel
theorem dX0_wholeSize_50 : decode cX0_wholeSize 50 = .ok (.iconst 1, 1) := by decide +kernel
theorem dX0_wholeSize_51 : decode cX0_wholeSize 51 = .ok (.isub, 1) := by decide +kernel
theorem dX0_wholeSize_52 : decode cX0_wholeSize 52 = .ok (.lushr, 1) := by decide +kernel
theorem dX0_wholeSize_53 : decode cX0_wholeSize 53 = .ok (.lconst 1, 1) := by decide +kernel
theorem dX0_wholeSize_54 : decode cX0_wholeSize 54 = .ok (.ladd, 1) := by decide +kernel
theorem dX0_wholeSize_55 : decode cX0_wholeSize 55 = .ok (.iconst 1, 1) := by decide +kernel
theorem dX0_wholeSize_56 : decode cX0_wholeSize 56 = .ok (.lushr, 1) := by decide +kernel
theorem dX0_wholeSize_57 : decode cX0_wholeSize 57 = .ok (.goto 7, 3) := by decide +kernel
theorem dX0_wholeSize_60 : decode cX0_wholeSize 60 = .ok (.lload_n 0, 1) := by decide +kernel
theorem dX0_wholeSize_61 : decode cX0_wholeSize 61 = .ok (.iload 4, 2) := by decide +kernel
theorem dX0_wholeSize_63 : decode cX0_wholeSize 63 = .ok (.lushr, 1) := by decide +kernel
theorem dX0_wholeSize_64 : decode cX0_wholeSize 64 = .ok (.lreturn, 1) := by decide +kernel
theorem dX1_init_0 : decode cX1_init 0 = .ok (.aload_n 0, 1) := by decide +kernel
theorem dX1_init_1 : decode cX1_init 1 = .ok (.invokespecial 1, 3) := by decide +kernel
theorem dX1_init_4 : decode cX1_init 4 = .ok (.aload_n 0, 1) := by decide +kernel
theorem dX1_init_5 : decode cX1_init 5 = .ok (.bipush 8, 2) := by decide +kernel
theorem dX1_init_7 : decode cX1_init 7 = .ok (.newarray .long, 2) := by decide +kernel
theorem dX1_init_9 : decode cX1_init 9 = .ok (.putfield 7, 3) := by decide +kernel
theorem dX1_init_12 : decode cX1_init 12 = .ok (.return_, 1) := by decide +kernel
theorem dX1_set_0 : decode cX1_set 0 = .ok (.iload_n 1, 1) := by decide +kernel
theorem dX1_set_1 : decode cX1_set 1 = .ok (.ifCond .lt 9, 3) := by decide +kernel
theorem dX1_set_4 : decode cX1_set 4 = .ok (.iload_n 1, 1) := by decide +kernel
theorem dX1_set_5 : decode cX1_set 5 = .ok (.bipush 7, 2) := by decide +kernel
theorem dX1_set_7 : decode cX1_set 7 = .ok (.if_icmp .le 5, 3) := by decide +kernel
theorem dX1_set_10 : decode cX1_set 10 = .ok (.iconst 0, 1) := by decide +kernel
theorem dX1_set_11 : decode cX1_set 11 = .ok (.ireturn, 1) := by decide +kernel
theorem dX1_set_12 : decode cX1_set 12 = .ok (.aload_n 0, 1) := by decide +kernel
theorem dX1_set_13 : decode cX1_set 13 = .ok (.getfield 7, 3) := by decide +kernel
theorem dX1_set_16 : decode cX1_set 16 = .ok (.iload_n 1, 1) := by decide +kernel
theorem dX1_set_17 : decode cX1_set 17 = .ok (.lload_n 2, 1) := by decide +kernel
theorem dX1_set_18 : decode cX1_set 18 = .ok (.lastore, 1) := by decide +kernel
theorem dX1_set_19 : decode cX1_set 19 = .ok (.iconst 1, 1) := by decide +kernel
theorem dX1_set_20 : decode cX1_set 20 = .ok (.ireturn, 1) := by decide +kernel
theorem dX1_get_0 : decode cX1_get 0 = .ok (.iload_n 1, 1) := by decide +kernel
theorem dX1_get_1 : decode cX1_get 1 = .ok (.ifCond .lt 9, 3) := by decide +kernel
theorem dX1_get_4 : decode cX1_get 4 = .ok (.iload_n 1, 1) := by decide +kernel
theorem dX1_get_5 : decode cX1_get 5 = .ok (.bipush 7, 2) := by decide +kernel
theorem dX1_get_7 : decode cX1_get 7 = .ok (.if_icmp .le 7, 3) := by decide +kernel
theorem dX1_get_10 : decode cX1_get 10 = .ok (.lconst 0, 1) := by decide +kernel
theorem dX1_get_11 : decode cX1_get 11 = .ok (.goto 9, 3) := by decide +kernel
theorem dX1_get_14 : decode cX1_get 14 = .ok (.aload_n 0, 1) := by decide +kernel
theorem dX1_get_15 : decode cX1_get 15 = .ok (.getfield 7, 3) := by decide +kernel
theorem dX1_get_18 : decode cX1_get 18 = .ok (.iload_n 1, 1) := by decide +kernel
theorem dX1_get_19 : decode cX1_get 19 = .ok (.laload, 1) := by decide +kernel
theorem dX1_get_20 : decode cX1_get 20 = .ok (.lreturn, 1) := by decide +kernel
theorem dX1_under_0 : decode cX1_under 0 = .ok (.aload_n 0, 1) := by decide +kernel
theorem dX1_under_1 : decode cX1_under 1 = .ok (.iload_n 1, 1) := by decide +kernel
theorem dX1_under_2 : decode cX1_under 2 = .ok (.putfield 13, 3) := by decide +kernel
theorem dX1_under_5 : decode cX1_under 5 = .ok (.return_, 1) := by decide +kernel
theorem dX1_isSize_0 : decode cX1_isSize 0 = .ok (.iload_n 0, 1) := by decide +kernel
theorem dX1_isSize_1 : decode cX1_isSize 1 = .ok (.iconst 4, 1) := by decide +kernel
theorem dX1_isSize_2 : decode cX1_isSize 2 = .ok (.if_icmp .eq 9, 3) := by decide +kernel
theorem dX1_isSize_5 : decode cX1_isSize 5 = .ok (.iload_n 0, 1) := by decide +kernel
theorem dX1_isSize_6 : decode cX1_isSize 6 = .ok (.bipush 8, 2) := by decide +kernel
theorem dX1_isSize_8 : decode cX1_isSize 8 = .ok (.if_icmp .ne 7, 3) := by decide +kernel
theorem dX1_isSize_11 : decode cX1_isSize 11 = .ok (.iconst 1, 1) := by decide +kernel
theorem dX1_isSize_12 : decode cX1_isSize 12 = .ok (.goto 4, 3) := by decide +kernel
theorem dX1_isSize_15 : decode cX1_isSize 15 = .ok (.iconst 0, 1) := by decide +kernel
theorem dX1_isSize_16 : decode cX1_isSize 16 = .ok (.ireturn, 1) := by decide +kernel
theorem dX1_isRegister_0 : decode cX1_isRegister 0 = .ok (.iload_n 0, 1) := by decide +kernel
theorem dX1_isRegister_1 : decode cX1_isRegister 1 = .ok (.ifCond .lt 13, 3) := by decide +kernel
theorem dX1_isRegister_4 : decode cX1_isRegister 4 = .ok (.iload_n 0, 1) := by decide +kernel
theorem dX1_isRegister_5 : decode cX1_isRegister 5 = .ok (.bipush 7, 2) := by decide +kernel
theorem dX1_isRegister_7 : decode cX1_isRegister 7 = .ok (.if_icmp .gt 7, 3) := by decide +kernel
theorem dX1_isRegister_10 : decode cX1_isRegister 10 = .ok (.iconst 1, 1) := by decide +kernel
theorem dX1_isRegister_11 : decode cX1_isRegister 11 = .ok (.goto 4, 3) := by decide +kernel
theorem dX1_isRegister_14 : decode cX1_isRegister 14 = .ok (.iconst 0, 1) := by decide +kernel
theorem dX1_isRegister_15 : decode cX1_isRegister 15 = .ok (.ireturn, 1) := by decide +kernel
theorem dX1_in_0 : decode cX1_in 0 = .ok (.iload_n 1, 1) := by decide +kernel
theorem dX1_in_1 : decode cX1_in 1 = .ok (.bipush 8, 2) := by decide +kernel
theorem dX1_in_3 : decode cX1_in 3 = .ok (.if_icmp .ne 12, 3) := by decide +kernel
theorem dX1_in_6 : decode cX1_in 6 = .ok (.aload_n 0, 1) := by decide +kernel
theorem dX1_in_7 : decode cX1_in 7 = .ok (.getfield 7, 3) := by decide +kernel
theorem dX1_in_10 : decode cX1_in 10 = .ok (.iload_n 2, 1) := by decide +kernel
theorem dX1_in_11 : decode cX1_in 11 = .ok (.laload, 1) := by decide +kernel
theorem dX1_in_12 : decode cX1_in 12 = .ok (.goto 13, 3) := by decide +kernel
theorem dX1_in_15 : decode cX1_in 15 = .ok (.aload_n 0, 1) := by decide +kernel
theorem dX1_in_16 : decode cX1_in 16 = .ok (.getfield 7, 3) := by decide +kernel
theorem dX1_in_19 : decode cX1_in 19 = .ok (.iload_n 2, 1) := by decide +kernel
theorem dX1_in_20 : decode cX1_in 20 = .ok (.laload, 1) := by decide +kernel
theorem dX1_in_21 : decode cX1_in 21 = .ok (.ldc2_w 17, 3) := by decide +kernel
theorem dX1_in_24 : decode cX1_in 24 = .ok (.land, 1) := by decide +kernel
theorem dX1_in_25 : decode cX1_in 25 = .ok (.lreturn, 1) := by decide +kernel
theorem dX1_isReserved_0 : decode cX1_isReserved 0 = .ok (.lload_n 0, 1) := by decide +kernel
theorem dX1_isReserved_1 : decode cX1_isReserved 1 = .ok (.ldc2_w 19, 3) := by decide +kernel
theorem dX1_isReserved_4 : decode cX1_isReserved 4 = .ok (.land, 1) := by decide +kernel
theorem dX1_isReserved_5 : decode cX1_isReserved 5 = .ok (.ldc2_w 21, 3) := by decide +kernel
theorem dX1_isReserved_8 : decode cX1_isReserved 8 = .ok (.lcmp, 1) := by decide +kernel
theorem dX1_isReserved_9 : decode cX1_isReserved 9 = .ok (.ifCond .ne 7, 3) := by decide +kernel
theorem dX1_isReserved_12 : decode cX1_isReserved 12 = .ok (.iconst 1, 1) := by decide +kernel
theorem dX1_isReserved_13 : decode cX1_isReserved 13 = .ok (.goto 4, 3) := by decide +kernel
theorem dX1_isReserved_16 : decode cX1_isReserved 16 = .ok (.iconst 0, 1) := by decide +kernel
theorem dX1_isReserved_17 : decode cX1_isReserved 17 = .ok (.ireturn, 1) := by decide +kernel
theorem dX1_isZero_0 : decode cX1_isZero 0 = .ok (.lload_n 0, 1) := by decide +kernel
theorem dX1_isZero_1 : decode cX1_isZero 1 = .ok (.ldc2_w 23, 3) := by decide +kernel
theorem dX1_isZero_4 : decode cX1_isZero 4 = .ok (.land, 1) := by decide +kernel
theorem dX1_isZero_5 : decode cX1_isZero 5 = .ok (.lconst 0, 1) := by decide +kernel
theorem dX1_isZero_6 : decode cX1_isZero 6 = .ok (.lcmp, 1) := by decide +kernel
theorem dX1_isZero_7 : decode cX1_isZero 7 = .ok (.ifCond .ne 7, 3) := by decide +kernel
theorem dX1_isZero_10 : decode cX1_isZero 10 = .ok (.iconst 1, 1) := by decide +kernel
theorem dX1_isZero_11 : decode cX1_isZero 11 = .ok (.goto 4, 3) := by decide +kernel
theorem dX1_isZero_14 : decode cX1_isZero 14 = .ok (.iconst 0, 1) := by decide +kernel
theorem dX1_isZero_15 : decode cX1_isZero 15 = .ok (.ireturn, 1) := by decide +kernel
set_option maxRecDepth 20000 in
theorem ggX1_added_X1_isZero : GoodIn wsX1_added wsX1_isZero := goodIn_r _ [9, 10] (by decide +kernel) (by decide +kernel)
set_option maxRecDepth 20000 in
theorem gX1_added_X1_isZero : GoodIn wsX1_added (va_wsS RX1 60 yX1_isZero wsX1_isZero) := goodIn_app (goodIn_of _ (by decide +kernel)) ggX1_added_X1_isZero
theorem dX1_added_0 : decode cX1_added 0 = .ok (.aload_n 0, 1) := by decide +kernel
theorem dX1_added_1 : decode cX1_added 1 = .ok (.iconst 0, 1) := by decide +kernel
theorem dX1_added_2 : decode cX1_added 2 = .ok (.putfield 48, 3) := by decide +kernel
theorem dX1_added_5 : decode cX1_added 5 = .ok (.aload_n 0, 1) := by decide +kernel
theorem dX1_added_6 : decode cX1_added 6 = .ok (.iconst 0, 1) := by decide +kernel
theorem dX1_added_7 : decode cX1_added 7 = .ok (.putfield 51, 3) := by decide +kernel
theorem dX1_added_10 : decode cX1_added 10 = .ok (.lload_n 2, 1) := by decide +kernel
theorem dX1_added_11 : decode cX1_added 11 = .ok (.invokestatic 60, 3) := by decide +kernel
theorem dX1_added_14 : decode cX1_added 14 = .ok (.ifCond .eq 18, 3) := by decide +kernel
theorem dX1_added_17 : decode cX1_added 17 = .ok (.lload 4, 2) := by decide +kernel
theorem dX1_added_19 : decode cX1_added 19 = .ok (.invokestatic 60, 3) := by decide +kernel
theorem dX1_added_22 : decode cX1_added 22 = .ok (.ifCond .eq 7, 3) := by decide +kernel
theorem dX1_added_25 : decode cX1_added 25 = .ok (.lconst 0, 1) := by decide +kernel
theorem dX1_added_26 : decode cX1_added 26 = .ok (.goto 5, 3) := by decide +kernel
theorem dX1_added_29 : decode cX1_added 29 = .ok (.lload 4, 2) := by decide +kernel
theorem dX1_added_31 : decode cX1_added 31 = .ok (.lreturn, 1) := by decide +kernel
theorem dX1_added_32 : decode cX1_added 32 = .ok (.lload 4, 2) := by decide +kernel
theorem dX1_added_34 : decode cX1_added 34 = .ok (.invokestatic 60, 3) := by decide +kernel
theorem dX1_added_37 : decode cX1_added 37 = .ok (.ifCond .eq 5, 3) := by decide +kernel
theorem dX1_added_40 : decode cX1_added 40 = .ok (.lload_n 2, 1) := by decide +kernel
theorem dX1_added_41 : decode cX1_added 41 = .ok (.lreturn, 1) := by decide +kernel
theorem dX1_added_42 : decode cX1_added 42 = .ok (.iload_n 1, 1) := by decide +kernel
theorem dX1_added_43 : decode cX1_added 43 = .ok (.invokestatic 54, 3) := by decide +kernel
theorem dX1_added_46 : decode cX1_added 46 = .ok (.istore 6, 2) := by decide +kernel
theorem dX1_added_48 : decode cX1_added 48 = .ok (.aload_n 0, 1) := by decide +kernel
theorem dX1_added_49 : decode cX1_added 49 = .ok (.iload_n 1, 1) := by decide +kernel
theorem dX1_added_50 : decode cX1_added 50 = .ok (.lload_n 2, 1) := by decide +kernel
theorem dX1_added_51 : decode cX1_added 51 = .ok (.invokevirtual 70, 3) := by decide +kernel
theorem dX1_added_54 : decode cX1_added 54 = .ok (.aload_n 0, 1) := by decide +kernel
theorem dX1_added_55 : decode cX1_added 55 = .ok (.getfield 29, 3) := by decide +kernel
theorem dX1_added_58 : decode cX1_added 58 = .ok (.istore 7, 2) := by decide +kernel
theorem dX1_added_60 : decode cX1_added 60 = .ok (.aload_n 0, 1) := by decide +kernel
theorem dX1_added_61 : decode cX1_added 61 = .ok (.getfield 34, 3) := by decide +kernel
theorem dX1_added_64 : decode cX1_added 64 = .ok (.istore 8, 2) := by decide +kernel
theorem dX1_added_66 : decode cX1_added 66 = .ok (.aload_n 0, 1) := by decide +kernel
theorem dX1_added_67 : decode cX1_added 67 = .ok (.getfield 44, 3) := by decide +kernel
theorem dX1_added_70 : decode cX1_added 70 = .ok (.bipush 56, 2) := by decide +kernel
theorem dX1_added_72 : decode cX1_added 72 = .ok (.iload 6, 2) := by decide +kernel
theorem dX1_added_74 : decode cX1_added 74 = .ok (.isub, 1) := by decide +kernel
theorem dX1_added_75 : decode cX1_added 75 = .ok (.lshr, 1) := by decide +kernel
theorem dX1_added_76 : decode cX1_added 76 = .ok (.lstore 9, 2) := by decide +kernel
theorem dX1_added_78 : decode cX1_added 78 = .ok (.aload_n 0, 1) := by decide +kernel
theorem dX1_added_79 : decode cX1_added 79 = .ok (.iload_n 1, 1) := by decide +kernel
theorem dX1_added_80 : decode cX1_added 80 = .ok (.lload 4, 2) := by decide +kernel
theorem dX1_added_82 : decode cX1_added 82 = .ok (.invokevirtual 70, 3) := by decide +kernel
theorem dX1_added_85 : decode cX1_added 85 = .ok (.aload_n 0, 1) := by decide +kernel
theorem dX1_added_86 : decode cX1_added 86 = .ok (.getfield 29, 3) := by decide +kernel
theorem dX1_added_89 : decode cX1_added 89 = .ok (.istore 11, 2) := by decide +kernel
theorem dX1_added_91 : decode cX1_added 91 = .ok (.aload_n 0, 1) := by decide +kernel
theorem dX1_added_92 : decode cX1_added 92 = .ok (.getfield 34, 3) := by decide +kernel
theorem dX1_added_95 : decode cX1_added 95 = .ok (.istore 12, 2) := by decide +kernel
theorem dX1_added_97 : decode cX1_added 97 = .ok (.aload_n 0, 1) := by decide +kernel
theorem dX1_added_98 : decode cX1_added 98 = .ok (.getfield 44, 3) := by decide +kernel
theorem dX1_added_101 : decode cX1_added 101 = .ok (.bipush 56, 2) := by decide +kernel
theorem dX1_added_103 : decode cX1_added 103 = .ok (.iload 6, 2) := by decide +kernel
theorem dX1_added_105 : decode cX1_added 105 = .ok (.isub, 1) := by decide +kernel
theorem dX1_added_106 : decode cX1_added 106 = .ok (.lshr, 1) := by decide +kernel
theorem dX1_added_107 : decode cX1_added 107 = .ok (.lstore 13, 2) := by decide +kernel
theorem dX1_added_109 : decode cX1_added 109 = .ok (.iload 12, 2) := by decide +kernel
theorem dX1_added_111 : decode cX1_added 111 = .ok (.iload 8, 2) := by decide +kernel
theorem dX1_added_113 : decode cX1_added 113 = .ok (.if_icmp .gt 18, 3) := by decide +kernel
theorem dX1_added_116 : decode cX1_added 116 = .ok (.iload 12, 2) := by decide +kernel
theorem dX1_added_118 : decode cX1_added 118 = .ok (.iload 8, 2) := by decide +kernel
theorem dX1_added_120 : decode cX1_added 120 = .ok (.if_icmp .ne 15, 3) := by decide +kernel
theorem dX1_added_123 : decode cX1_added 123 = .ok (.lload 13, 2) := by decide +kernel
theorem dX1_added_125 : decode cX1_added 125 = .ok (.lload 9, 2) := by decide +kernel
theorem dX1_added_127 : decode cX1_added 127 = .ok (.lcmp, 1) := by decide +kernel
theorem dX1_added_128 : decode cX1_added 128 = .ok (.ifCond .le 7, 3) := by decide +kernel
theorem dX1_added_131 : decode cX1_added 131 = .ok (.iconst 1, 1) := by decide +kernel
theorem dX1_added_132 : decode cX1_added 132 = .ok (.goto 4, 3) := by decide +kernel
theorem dX1_added_135 : decode cX1_added 135 = .ok (.iconst 0, 1) := by decide +kernel
theorem dX1_added_136 : decode cX1_added 136 = .ok (.istore 15, 2) := by decide +kernel
theorem dX1_added_138 : decode cX1_added 138 = .ok (.iload 15, 2) := by decide +kernel
theorem dX1_added_140 : decode cX1_added 140 = .ok (.ifCond .eq 8, 3) := by decide +kernel
theorem dX1_added_143 : decode cX1_added 143 = .ok (.lload 13, 2) := by decide +kernel
theorem dX1_added_145 : decode cX1_added 145 = .ok (.goto 5, 3) := by decide +kernel
theorem dX1_added_148 : decode cX1_added 148 = .ok (.lload 9, 2) := by decide +kernel
theorem dX1_added_150 : decode cX1_added 150 = .ok (.bipush 6, 2) := by decide +kernel
theorem dX1_added_152 : decode cX1_added 152 = .ok (.lshl, 1) := by decide +kernel
theorem dX1_added_153 : decode cX1_added 153 = .ok (.lstore 16, 2) := by decide +kernel
theorem dX1_added_155 : decode cX1_added 155 = .ok (.iload 15, 2) := by decide +kernel
theorem dX1_added_157 : decode cX1_added 157 = .ok (.ifCond .eq 8, 3) := by decide +kernel
theorem dX1_added_160 : decode cX1_added 160 = .ok (.lload 9, 2) := by decide +kernel
theorem dX1_added_162 : decode cX1_added 162 = .ok (.goto 5, 3) := by decide +kernel
theorem dX1_added_165 : decode cX1_added 165 = .ok (.lload 13, 2) := by decide +kernel
theorem dX1_added_167 : decode cX1_added 167 = .ok (.bipush 6, 2) := by decide +kernel
theorem dX1_added_169 : decode cX1_added 169 = .ok (.lshl, 1) := by decide +kernel
theorem dX1_added_170 : decode cX1_added 170 = .ok (.lstore 18, 2) := by decide +kernel
theorem dX1_added_172 : decode cX1_added 172 = .ok (.iload 15, 2) := by decide +kernel
theorem dX1_added_174 : decode cX1_added 174 = .ok (.ifCond .eq 11, 3) := by decide +kernel
theorem dX1_added_177 : decode cX1_added 177 = .ok (.iload 12, 2) := by decide +kernel
theorem dX1_added_179 : decode cX1_added 179 = .ok (.iload 8, 2) := by decide +kernel
theorem dX1_added_181 : decode cX1_added 181 = .ok (.isub, 1) := by decide +kernel
theorem dX1_added_182 : decode cX1_added 182 = .ok (.goto 8, 3) := by decide +kernel
theorem dX1_added_185 : decode cX1_added 185 = .ok (.iload 8, 2) := by decide +kernel
theorem dX1_added_187 : decode cX1_added 187 = .ok (.iload 12, 2) := by decide +kernel
theorem dX1_added_189 : decode cX1_added 189 = .ok (.isub, 1) := by decide +kernel
theorem dX1_added_190 : decode cX1_added 190 = .ok (.istore 20, 2) := by decide +kernel
theorem dX1_added_192 : decode cX1_added 192 = .ok (.iload 20, 2) := by decide +kernel
theorem dX1_added_194 : decode cX1_added 194 = .ok (.bipush 62, 2) := by decide +kernel
theorem dX1_added_196 : decode cX1_added 196 = .ok (.if_icmp .le 7, 3) := by decide +kernel
theorem dX1_added_199 : decode cX1_added 199 = .ok (.lconst 0, 1) := by decide +kernel
theorem dX1_added_200 : decode cX1_added 200 = .ok (.goto 8, 3) := by decide +kernel
theorem dX1_added_203 : decode cX1_added 203 = .ok (.lload 18, 2) := by decide +kernel
theorem dX1_added_205 : decode cX1_added 205 = .ok (.iload 20, 2) := by decide +kernel
theorem dX1_added_207 : decode cX1_added 207 = .ok (.lshr, 1) := by decide +kernel
theorem dX1_added_208 : decode cX1_added 208 = .ok (.lstore 21, 2) := by decide +kernel
theorem dX1_added_210 : decode cX1_added 210 = .ok (.iload 20, 2) := by decide +kernel
theorem dX1_added_212 : decode cX1_added 212 = .ok (.bipush 62, 2) := by decide +kernel
theorem dX1_added_214 : decode cX1_added 214 = .ok (.if_icmp .gt 14, 3) := by decide +kernel
theorem dX1_added_217 : decode cX1_added 217 = .ok (.lload 21, 2) := by decide +kernel
theorem dX1_added_219 : decode cX1_added 219 = .ok (.iload 20, 2) := by decide +kernel
theorem dX1_added_221 : decode cX1_added 221 = .ok (.lshl, 1) := by decide +kernel
theorem dX1_added_222 : decode cX1_added 222 = .ok (.lload 18, 2) := by decide +kernel
theorem dX1_added_224 : decode cX1_added 224 = .ok (.lcmp, 1) := by decide +kernel
theorem dX1_added_225 : decode cX1_added 225 = .ok (.ifCond .eq 7, 3) := by decide +kernel
theorem dX1_added_228 : decode cX1_added 228 = .ok (.iconst 1, 1) := by decide +kernel
theorem dX1_added_229 : decode cX1_added 229 = .ok (.goto 4, 3) := by decide +kernel
theorem dX1_added_232 : decode cX1_added 232 = .ok (.iconst 0, 1) := by decide +kernel
theorem dX1_added_233 : decode cX1_added 233 = .ok (.istore 23, 2) := by decide +kernel
theorem dX1_added_235 : decode cX1_added 235 = .ok (.iload 7, 2) := by decide +kernel
theorem dX1_added_237 : decode cX1_added 237 = .ok (.iload 11, 2) := by decide +kernel
theorem dX1_added_239 : decode cX1_added 239 = .ok (.if_icmp .ne 11, 3) := by decide +kernel
theorem dX1_added_242 : decode cX1_added 242 = .ok (.lload 16, 2) := by decide +kernel
theorem dX1_added_244 : decode cX1_added 244 = .ok (.lload 21, 2) := by decide +kernel
theorem dX1_added_246 : decode cX1_added 246 = .ok (.ladd, 1) := by decide +kernel
theorem dX1_added_247 : decode cX1_added 247 = .ok (.goto 19, 3) := by decide +kernel
theorem dX1_added_250 : decode cX1_added 250 = .ok (.lload 16, 2) := by decide +kernel
theorem dX1_added_252 : decode cX1_added 252 = .ok (.lload 21, 2) := by decide +kernel
theorem dX1_added_254 : decode cX1_added 254 = .ok (.lsub, 1) := by decide +kernel
theorem dX1_added_255 : decode cX1_added 255 = .ok (.iload 23, 2) := by decide +kernel
theorem dX1_added_257 : decode cX1_added 257 = .ok (.ifCond .eq 7, 3) := by decide +kernel
theorem dX1_added_260 : decode cX1_added 260 = .ok (.lconst 1, 1) := by decide +kernel
theorem dX1_added_261 : decode cX1_added 261 = .ok (.goto 4, 3) := by decide +kernel
theorem dX1_added_264 : decode cX1_added 264 = .ok (.lconst 0, 1) := by decide +kernel
theorem dX1_added_265 : decode cX1_added 265 = .ok (.lsub, 1) := by decide +kernel
theorem dX1_added_266 : decode cX1_added 266 = .ok (.lstore 24, 2) := by decide +kernel
theorem dX1_added_268 : decode cX1_added 268 = .ok (.aload_n 0, 1) := by decide +kernel
theorem dX1_added_269 : decode cX1_added 269 = .ok (.iload_n 1, 1) := by decide +kernel
theorem dX1_added_270 : decode cX1_added 270 = .ok (.iload 15, 2) := by decide +kernel
theorem dX1_added_272 : decode cX1_added 272 = .ok (.ifCond .eq 8, 3) := by decide +kernel
theorem dX1_added_275 : decode cX1_added 275 = .ok (.iload 11, 2) := by decide +kernel
theorem dX1_added_277 : decode cX1_added 277 = .ok (.goto 5, 3) := by decide +kernel
theorem dX1_added_280 : decode cX1_added 280 = .ok (.iload 7, 2) := by decide +kernel
theorem dX1_added_282 : decode cX1_added 282 = .ok (.lload 24, 2) := by decide +kernel
theorem dX1_added_284 : decode cX1_added 284 = .ok (.iload 15, 2) := by decide +kernel
theorem dX1_added_286 : decode cX1_added 286 = .ok (.ifCond .eq 8, 3) := by decide +kernel
theorem dX1_added_289 : decode cX1_added 289 = .ok (.iload 12, 2) := by decide +kernel
theorem dX1_added_291 : decode cX1_added 291 = .ok (.goto 5, 3) := by decide +kernel
theorem dX1_added_294 : decode cX1_added 294 = .ok (.iload 8, 2) := by decide +kernel
theorem dX1_added_296 : decode cX1_added 296 = .ok (.sipush 128, 3) := by decide +kernel
theorem dX1_added_299 : decode cX1_added 299 = .ok (.isub, 1) := by decide +kernel
theorem dX1_added_300 : decode cX1_added 300 = .ok (.iload 6, 2) := by decide +kernel
theorem dX1_added_302 : decode cX1_added 302 = .ok (.isub, 1) := by decide +kernel
theorem dX1_added_303 : decode cX1_added 303 = .ok (.bipush 6, 2) := by decide +kernel
theorem dX1_added_305 : decode cX1_added 305 = .ok (.isub, 1) := by decide +kernel
theorem dX1_added_306 : decode cX1_added 306 = .ok (.iload 23, 2) := by decide +kernel
theorem dX1_added_308 : decode cX1_added 308 = .ok (.invokevirtual 74, 3) := by decide +kernel
theorem dX1_added_311 : decode cX1_added 311 = .ok (.lreturn, 1) := by decide +kernel
set_option maxRecDepth 20000 in
theorem ggX1_two_X1_isSize : GoodIn wsX1_two wsX1_isSize := goodIn_r _ [4] (by decide +kernel) (by decide +kernel)
set_option maxRecDepth 20000 in
theorem gX1_two_X1_isSize : GoodIn wsX1_two (va_wsS RX1 78 yX1_isSize wsX1_isSize) := goodIn_app (goodIn_of _ (by decide +kernel)) ggX1_two_X1_isSize
set_option maxRecDepth 20000 in
theorem ggX1_two_X1_isRegister : GoodIn wsX1_two wsX1_isRegister := goodIn_r _ [7] (by decide +kernel) (by decide +kernel)
set_option maxRecDepth 20000 in
theorem gX1_two_X1_isRegister : GoodIn wsX1_two (va_wsS RX1 82 yX1_isRegister wsX1_isRegister) := goodIn_app (goodIn_of _ (by decide +kernel)) ggX1_two_X1_isRegister
set_option maxRecDepth 20000 in
theorem ggX1_two_X1_in : GoodIn wsX1_two wsX1_in := goodIn_r _ [11, 12, 13, 19, 20, 21, 22, 23, 24, 25, 26] (by decide +kernel) (by decide +kernel)
set_option maxRecDepth 20000 in
theorem gX1_two_X1_in : GoodIn wsX1_two (wsV RX1 85 RX1 yX1_in wsX1_in) := goodIn_app (goodIn_of _ (by decide +kernel)) ggX1_two_X1_in
set_option maxRecDepth 20000 in
theorem ggX1_two_X1_isReserved : GoodIn wsX1_two wsX1_isReserved := goodIn_r _ [16, 17, 18] (by decide +kernel) (by decide +kernel)
set_option maxRecDepth 20000 in
theorem gX1_two_X1_isReserved : GoodIn wsX1_two (va_wsS RX1 89 yX1_isReserved wsX1_isReserved) := goodIn_app (goodIn_of _ (by decide +kernel)) ggX1_two_X1_isReserved
theorem dX1_two_0 : decode cX1_two 0 = .ok (.iload_n 1, 1) := by decide +kernel
theorem dX1_two_1 : decode cX1_two 1 = .ok (.invokestatic 78, 3) := by decide +kernel
theorem dX1_two_4 : decode cX1_two 4 = .ok (.ifCond .eq 25, 3) := by decide +kernel
theorem dX1_two_7 : decode cX1_two 7 = .ok (.iload_n 2, 1) := by decide +kernel
theorem dX1_two_8 : decode cX1_two 8 = .ok (.invokestatic 82, 3) := by decide +kernel
theorem dX1_two_11 : decode cX1_two 11 = .ok (.ifCond .eq 18, 3) := by decide +kernel
theorem dX1_two_14 : decode cX1_two 14 = .ok (.iload_n 3, 1) := by decide +kernel
theorem dX1_two_15 : decode cX1_two 15 = .ok (.invokestatic 82, 3) := by decide +kernel
theorem dX1_two_18 : decode cX1_two 18 = .ok (.ifCond .eq 11, 3) := by decide +kernel
theorem dX1_two_21 : decode cX1_two 21 = .ok (.iload 4, 2) := by decide +kernel
theorem dX1_two_23 : decode cX1_two 23 = .ok (.invokestatic 82, 3) := by decide +kernel
theorem dX1_two_26 : decode cX1_two 26 = .ok (.ifCond .ne 6, 3) := by decide +kernel
theorem dX1_two_29 : decode cX1_two 29 = .ok (.bipush (-5), 2) := by decide +kernel
theorem dX1_two_31 : decode cX1_two 31 = .ok (.ireturn, 1) := by decide +kernel
theorem dX1_two_32 : decode cX1_two 32 = .ok (.aload_n 0, 1) := by decide +kernel
theorem dX1_two_33 : decode cX1_two 33 = .ok (.iload_n 1, 1) := by decide +kernel
theorem dX1_two_34 : decode cX1_two 34 = .ok (.iload_n 2, 1) := by decide +kernel
theorem dX1_two_35 : decode cX1_two 35 = .ok (.invokevirtual 85, 3) := by decide +kernel
theorem dX1_two_38 : decode cX1_two 38 = .ok (.invokestatic 89, 3) := by decide +kernel
theorem dX1_two_41 : decode cX1_two 41 = .ok (.ifCond .ne 15, 3) := by decide +kernel
theorem dX1_two_44 : decode cX1_two 44 = .ok (.aload_n 0, 1) := by decide +kernel
theorem dX1_two_45 : decode cX1_two 45 = .ok (.iload_n 1, 1) := by decide +kernel
theorem dX1_two_46 : decode cX1_two 46 = .ok (.iload_n 3, 1) := by decide +kernel
theorem dX1_two_47 : decode cX1_two 47 = .ok (.invokevirtual 85, 3) := by decide +kernel
theorem dX1_two_50 : decode cX1_two 50 = .ok (.invokestatic 89, 3) := by decide +kernel
theorem dX1_two_53 : decode cX1_two 53 = .ok (.ifCond .eq 7, 3) := by decide +kernel
theorem dX1_two_56 : decode cX1_two 56 = .ok (.iconst (-1), 1) := by decide +kernel
theorem dX1_two_57 : decode cX1_two 57 = .ok (.goto 4, 3) := by decide +kernel
theorem dX1_two_60 : decode cX1_two 60 = .ok (.iconst 0, 1) := by decide +kernel
theorem dX1_two_61 : decode cX1_two 61 = .ok (.ireturn, 1) := by decide +kernel
set_option maxRecDepth 20000 in
theorem ggX1_sum_X1_two : GoodIn wsX1_sum wsX1_two := goodIn_r _ [5, 6, 7, 4, 8, 9, 10, 11, 12, 13, 14, 15, 16, 17, 18, 19, 20, 21, 22, 36, 37, 38, 39, 40, 41, 42, 43] (by decide +kernel) (by decide +kernel)
set_option maxRecDepth 20000 in
theorem gX1_sum_X1_two : GoodIn wsX1_sum (wsV RX1 92 RX1 yX1_two wsX1_two) := goodIn_app (goodIn_of _ (by decide +kernel)) ggX1_sum_X1_two
set_option maxRecDepth 20000 in
theorem ggX1_sum_X1_in : GoodIn wsX1_sum wsX1_in := goodIn_r _ [15, 16, 17, 36, 37, 38, 39, 40, 41, 42, 43] (by decide +kernel) (by decide +kernel)
set_option maxRecDepth 20000 in
theorem gX1_sum_X1_in : GoodIn wsX1_sum (wsV RX1 85 RX1 yX1_in wsX1_in) := goodIn_app (goodIn_of _ (by decide +kernel)) ggX1_sum_X1_in
set_option maxRecDepth 20000 in
theorem ggX1_sum_X1_added : GoodIn wsX1_sum wsX1_added := goodIn_r _ [26, 27, 28, 29, 30, 31, 32, 33, 4, 34, 35, 36, 37, 38, 39, 40, 41, 42, 43] (by decide +kernel) (by decide +kernel)
set_option maxRecDepth 20000 in
theorem gX1_sum_X1_added : GoodIn wsX1_sum (wsV RX1 96 RX1 yX1_added wsX1_added) := goodIn_app (goodIn_of _ (by decide +kernel)) ggX1_sum_X1_added
theorem dX1_sum_0 : decode cX1_sum 0 = .ok (.aload_n 0, 1) := by decide +kernel
theorem dX1_sum_1 : decode cX1_sum 1 = .ok (.iload_n 1, 1) := by decide +kernel
theorem dX1_sum_2 : decode cX1_sum 2 = .ok (.iload_n 2, 1) := by decide +kernel
theorem dX1_sum_3 : decode cX1_sum 3 = .ok (.iload_n 3, 1) := by decide +kernel
theorem dX1_sum_4 : decode cX1_sum 4 = .ok (.iload 4, 2) := by decide +kernel
theorem dX1_sum_6 : decode cX1_sum 6 = .ok (.invokevirtual 92, 3) := by decide +kernel
theorem dX1_sum_9 : decode cX1_sum 9 = .ok (.istore 5, 2) := by decide +kernel
theorem dX1_sum_11 : decode cX1_sum 11 = .ok (.iload 5, 2) := by decide +kernel
theorem dX1_sum_13 : decode cX1_sum 13 = .ok (.ifCond .ge 8, 3) := by decide +kernel
theorem dX1_sum_16 : decode cX1_sum 16 = .ok (.iload 5, 2) := by decide +kernel
theorem dX1_sum_18 : decode cX1_sum 18 = .ok (.goto 26, 3) := by decide +kernel
theorem dX1_sum_21 : decode cX1_sum 21 = .ok (.aload_n 0, 1) := by decide +kernel
theorem dX1_sum_22 : decode cX1_sum 22 = .ok (.aload_n 0, 1) := by decide +kernel
theorem dX1_sum_23 : decode cX1_sum 23 = .ok (.iload_n 1, 1) := by decide +kernel
theorem dX1_sum_24 : decode cX1_sum 24 = .ok (.aload_n 0, 1) := by decide +kernel
theorem dX1_sum_25 : decode cX1_sum 25 = .ok (.iload_n 1, 1) := by decide +kernel
theorem dX1_sum_26 : decode cX1_sum 26 = .ok (.iload_n 3, 1) := by decide +kernel
theorem dX1_sum_27 : decode cX1_sum 27 = .ok (.invokevirtual 85, 3) := by decide +kernel
theorem dX1_sum_30 : decode cX1_sum 30 = .ok (.aload_n 0, 1) := by decide +kernel
theorem dX1_sum_31 : decode cX1_sum 31 = .ok (.iload_n 1, 1) := by decide +kernel
theorem dX1_sum_32 : decode cX1_sum 32 = .ok (.iload_n 2, 1) := by decide +kernel
theorem dX1_sum_33 : decode cX1_sum 33 = .ok (.invokevirtual 85, 3) := by decide +kernel
theorem dX1_sum_36 : decode cX1_sum 36 = .ok (.invokevirtual 96, 3) := by decide +kernel
theorem dX1_sum_39 : decode cX1_sum 39 = .ok (.iload 4, 2) := by decide +kernel
theorem dX1_sum_41 : decode cX1_sum 41 = .ok (.invokevirtual 100, 3) := by decide +kernel
theorem dX1_sum_44 : decode cX1_sum 44 = .ok (.ireturn, 1) := by decide +kernel
theorem dJ13_compare_74951_0 : decode cJ13_compare_74951 0 = .ok (.lload_n 0, 1) := by decide +kernel
theorem dJ13_compare_74951_1 : decode cJ13_compare_74951 1 = .ok (.lload_n 2, 1) := by decide +kernel
theorem dJ13_compare_74951_2 : decode cJ13_compare_74951 2 = .ok (.lcmp, 1) := by decide +kernel
theorem dJ13_compare_74951_3 : decode cJ13_compare_74951 3 = .ok (.ifCond .ge 7, 3) := by decide +kernel
theorem dJ13_compare_74951_6 : decode cJ13_compare_74951 6 = .ok (.iconst (-1), 1) := by decide +kernel
theorem dJ13_compare_74951_7 : decode cJ13_compare_74951 7 = .ok (.goto 14, 3) := by decide +kernel
theorem dJ13_compare_74951_10 : decode cJ13_compare_74951 10 = .ok (.lload_n 0, 1) := by decide +kernel
theorem dJ13_compare_74951_11 : decode cJ13_compare_74951 11 = .ok (.lload_n 2, 1) := by decide +kernel
theorem dJ13_compare_74951_12 : decode cJ13_compare_74951 12 = .ok (.lcmp, 1) := by decide +kernel
theorem dJ13_compare_74951_13 : decode cJ13_compare_74951 13 = .ok (.ifCond .ne 7, 3) := by decide +kernel
theorem dJ13_compare_74951_16 : decode cJ13_compare_74951 16 = .ok (.iconst 0, 1) := by decide +kernel
theorem dJ13_compare_74951_17 : decode cJ13_compare_74951 17 = .ok (.goto 4, 3) := by decide +kernel
theorem dJ13_compare_74951_20 : decode cJ13_compare_74951 20 = .ok (.iconst 1, 1) := by decide +kernel
theorem dJ13_compare_74951_21 : decode cJ13_compare_74951 21 = .ok (.ireturn, 1) := by decide +kernel
theorem dJ9_abs_067f4_0 : decode cJ9_abs_067f4 0 = .ok (.lload_n 0, 1) := by decide +kernel
theorem dJ9_abs_067f4_1 : decode cJ9_abs_067f4 1 = .ok (.lconst 0, 1) := by decide +kernel
theorem dJ9_abs_067f4_2 : decode cJ9_abs_067f4 2 = .ok (.lcmp, 1) := by decide +kernel
theorem dJ9_abs_067f4_3 : decode cJ9_abs_067f4 3 = .ok (.ifCond .ge 8, 3) := by decide +kernel
theorem dJ9_abs_067f4_6 : decode cJ9_abs_067f4 6 = .ok (.lload_n 0, 1) := by decide +kernel
theorem dJ9_abs_067f4_7 : decode cJ9_abs_067f4 7 = .ok (.lneg, 1) := by decide +kernel
theorem dJ9_abs_067f4_8 : decode cJ9_abs_067f4 8 = .ok (.goto 4, 3) := by decide +kernel
theorem dJ9_abs_067f4_11 : decode cJ9_abs_067f4 11 = .ok (.lload_n 0, 1) := by decide +kernel
theorem dJ9_abs_067f4_12 : decode cJ9_abs_067f4 12 = .ok (.lreturn, 1) := by decide +kernel
set_option maxRecDepth 20000 in
theorem ggL_law_X0_init : GoodIn wsL_law wsX0_init := goodIn_r _ [8, 9, 10, 11, 12, 13, 14, 15, 212, 213, 214] (by decide +kernel) (by decide +kernel)
set_option maxRecDepth 20000 in
theorem gL_law_X0_init : GoodIn wsL_law (wsX0_init) := ggL_law_X0_init
set_option maxRecDepth 20000 in
theorem ggL_law_X1_init : GoodIn wsL_law wsX1_init := goodIn_r _ [18, 19, 10, 11, 12, 20, 215, 216, 217, 218, 219, 220, 221, 222] (by decide +kernel) (by decide +kernel)
set_option maxRecDepth 20000 in
theorem gL_law_X1_init : GoodIn wsL_law (wsX1_init) := ggL_law_X1_init
set_option maxRecDepth 20000 in
theorem ggL_law_X0_set : GoodIn wsL_law wsX0_set := goodIn_r _ [24, 13, 25, 26, 2, 27, 212, 213, 214] (by decide +kernel) (by decide +kernel)
set_option maxRecDepth 20000 in
theorem gL_law_X0_set : GoodIn wsL_law (wsV RL 15 RX0 yX0_set wsX0_set) := goodIn_app (goodIn_of _ (by decide +kernel)) ggL_law_X0_set
set_option maxRecDepth 20000 in
theorem ggL_law_X1_set : GoodIn wsL_law wsX1_set := goodIn_r _ [31, 20, 215, 216, 217, 218, 219, 220, 221, 222] (by decide +kernel) (by decide +kernel)
set_option maxRecDepth 20000 in
theorem gL_law_X1_set : GoodIn wsL_law (wsV RL 19 RX1 yX1_set wsX1_set) := goodIn_app (goodIn_of _ (by decide +kernel)) ggL_law_X1_set
set_option maxRecDepth 20000 in
theorem ggL_law_X0_get : GoodIn wsL_law wsX0_get := goodIn_r _ [35, 13, 25, 26, 2, 27, 212, 213, 214] (by decide +kernel) (by decide +kernel)
set_option maxRecDepth 20000 in
theorem gL_law_X0_get : GoodIn wsL_law (wsV RL 20 RX0 yX0_get wsX0_get) := goodIn_app (goodIn_of _ (by decide +kernel)) ggL_law_X0_get
set_option maxRecDepth 20000 in
theorem ggL_law_X1_get : GoodIn wsL_law wsX1_get := goodIn_r _ [39, 20, 215, 216, 217, 218, 219, 220, 221, 222] (by decide +kernel) (by decide +kernel)
set_option maxRecDepth 20000 in
theorem gL_law_X1_get : GoodIn wsL_law (wsV RL 24 RX1 yX1_get wsX1_get) := goodIn_app (goodIn_of _ (by decide +kernel)) ggL_law_X1_get
set_option maxRecDepth 20000 in
theorem ggL_law_X0_under : GoodIn wsL_law wsX0_under := goodIn_r _ [43, 14, 212, 213, 214] (by decide +kernel) (by decide +kernel)
set_option maxRecDepth 20000 in
theorem gL_law_X0_under : GoodIn wsL_law (wsV RL 25 RX0 yX0_under wsX0_under) := goodIn_app (goodIn_of _ (by decide +kernel)) ggL_law_X0_under
set_option maxRecDepth 20000 in
theorem ggL_law_X1_under : GoodIn wsL_law wsX1_under := goodIn_r _ [47, 48, 215, 216, 217, 218, 219, 220, 221, 222] (by decide +kernel) (by decide +kernel)
set_option maxRecDepth 20000 in
theorem gL_law_X1_under : GoodIn wsL_law (wsV RL 29 RX1 yX1_under wsX1_under) := goodIn_app (goodIn_of _ (by decide +kernel)) ggL_law_X1_under
set_option maxRecDepth 20000 in
theorem ggL_law_X0_sum : GoodIn wsL_law wsX0_sum := goodIn_r _ [52, 53, 54, 55, 2, 56, 57, 58, 59, 25, 26, 27, 60, 61, 62, 63, 13, 64, 65, 66, 67, 68, 69, 70, 71, 72, 73, 74, 75, 76, 77, 78, 79, 80, 81, 82, 83, 84, 85, 86, 87, 88, 89, 15, 90, 91, 92, 93, 94, 95, 96, 97, 98, 99, 100, 101, 102, 14, 103, 104, 105, 106, 107, 108, 109, 212, 213, 214] (by decide +kernel) (by decide +kernel)
set_option maxRecDepth 20000 in
theorem gL_law_X0_sum : GoodIn wsL_law (wsV RL 30 RX0 yX0_sum wsX0_sum) := goodIn_app (goodIn_of _ (by decide +kernel)) ggL_law_X0_sum
set_option maxRecDepth 20000 in
theorem ggL_law_X1_sum : GoodIn wsL_law wsX1_sum := goodIn_r _ [113, 114, 115, 116, 5, 117, 118, 119, 120, 121, 122, 123, 124, 125, 126, 127, 20, 128, 129, 130, 131, 132, 133, 134, 135, 136, 137, 138, 139, 140, 141, 142, 143, 144, 145, 146, 215, 216, 217, 218, 219, 220, 221, 222] (by decide +kernel) (by decide +kernel)
set_option maxRecDepth 20000 in
theorem gL_law_X1_sum : GoodIn wsL_law (wsV RL 34 RX1 yX1_sum wsX1_sum) := goodIn_app (goodIn_of _ (by decide +kernel)) ggL_law_X1_sum
set_option maxRecDepth 20000 in
theorem ggL_law_X0_less : GoodIn wsL_law wsX0_less := goodIn_r _ [150, 53, 54, 55, 2, 56, 57, 58, 59, 25, 26, 27, 60, 61, 62, 63, 13, 64, 65, 66, 67, 68, 69, 70, 71, 72, 73, 74, 75, 76, 77, 78, 79, 80, 81, 82, 83, 84, 85, 86, 87, 88, 89, 15, 90, 91, 92, 93, 94, 95, 96, 97, 98, 99, 100, 101, 102, 14, 103, 104, 105, 106, 107, 108, 109, 212, 213, 214] (by decide +kernel) (by decide +kernel)
set_option maxRecDepth 20000 in
theorem gL_law_X0_less : GoodIn wsL_law (wsV RL 35 RX0 yX0_less wsX0_less) := goodIn_app (goodIn_of _ (by decide +kernel)) ggL_law_X0_less
set_option maxRecDepth 20000 in
theorem ggL_law_X0_product : GoodIn wsL_law wsX0_product := goodIn_r _ [154, 53, 54, 55, 2, 56, 57, 58, 59, 25, 26, 27, 60, 61, 62, 63, 13, 64, 65, 66, 67, 68, 69, 70, 71, 72, 73, 155, 156, 157, 158, 86, 87, 88, 89, 15, 93, 94, 95, 78, 79, 80, 81, 96, 97, 159, 160, 161, 162, 163, 90, 91, 92, 98, 99, 100, 101, 102, 14, 103, 104, 105, 106, 212, 213, 214] (by decide +kernel) (by decide +kernel)
set_option maxRecDepth 20000 in
theorem gL_law_X0_product : GoodIn wsL_law (wsV RL 39 RX0 yX0_product wsX0_product) := goodIn_app (goodIn_of _ (by decide +kernel)) ggL_law_X0_product
set_option maxRecDepth 20000 in
theorem ggL_law_X0_quotient : GoodIn wsL_law wsX0_quotient := goodIn_r _ [167, 53, 54, 55, 2, 56, 57, 58, 59, 25, 26, 27, 60, 61, 62, 63, 13, 64, 65, 66, 67, 68, 69, 70, 71, 72, 73, 168, 169, 170, 171, 86, 87, 88, 89, 15, 93, 94, 95, 78, 79, 80, 81, 96, 97, 172, 173, 174, 90, 91, 92, 98, 99, 100, 101, 102, 14, 103, 104, 105, 106, 212, 213, 214] (by decide +kernel) (by decide +kernel)
set_option maxRecDepth 20000 in
theorem gL_law_X0_quotient : GoodIn wsL_law (wsV RL 43 RX0 yX0_quotient wsX0_quotient) := goodIn_app (goodIn_of _ (by decide +kernel)) ggL_law_X0_quotient
set_option maxRecDepth 20000 in
theorem ggL_law_X0_negative : GoodIn wsL_law wsX0_negative := goodIn_r _ [178, 53, 54, 55, 2, 56, 57, 58, 59, 25, 26, 27, 60, 61, 62, 63, 13, 64, 65, 66, 67, 68, 69, 70, 71, 72, 73, 82, 83, 84, 85, 86, 87, 88, 89, 15, 90, 91, 92, 78, 79, 80, 81, 93, 94, 95, 96, 97, 98, 99, 100, 101, 102, 14, 103, 104, 105, 106, 212, 213, 214] (by decide +kernel) (by decide +kernel)
set_option maxRecDepth 20000 in
theorem gL_law_X0_negative : GoodIn wsL_law (wsV RL 47 RX0 yX0_negative wsX0_negative) := goodIn_app (goodIn_of _ (by decide +kernel)) ggL_law_X0_negative
set_option maxRecDepth 20000 in
theorem ggL_law_X0_compare : GoodIn wsL_law wsX0_compare := goodIn_r _ [182, 53, 54, 55, 2, 56, 57, 58, 59, 25, 26, 27, 60, 61, 62, 63, 13, 64, 65, 66, 67, 68, 69, 70, 71, 72, 73, 183, 184, 185, 186, 187, 188, 189, 212, 213, 214] (by decide +kernel) (by decide +kernel)
set_option maxRecDepth 20000 in
theorem gL_law_X0_compare : GoodIn wsL_law (wsV RL 52 RX0 yX0_compare wsX0_compare) := goodIn_app (goodIn_of _ (by decide +kernel)) ggL_law_X0_compare
set_option maxRecDepth 20000 in
theorem ggL_law_X0_change : GoodIn wsL_law wsX0_change := goodIn_r _ [193, 53, 54, 55, 2, 56, 57, 58, 59, 25, 26, 27, 60, 61, 62, 63, 13, 64, 65, 66, 67, 68, 69, 70, 71, 72, 73, 82, 83, 84, 85, 86, 87, 88, 89, 15, 90, 91, 92, 78, 79, 80, 81, 93, 94, 95, 96, 97, 98, 99, 100, 101, 102, 14, 103, 104, 105, 106, 212, 213, 214] (by decide +kernel) (by decide +kernel)
set_option maxRecDepth 20000 in
theorem gL_law_X0_change : GoodIn wsL_law (wsV RL 56 RX0 yX0_change wsX0_change) := goodIn_app (goodIn_of _ (by decide +kernel)) ggL_law_X0_change
set_option maxRecDepth 20000 in
theorem ggL_law_X0_whole : GoodIn wsL_law wsX0_whole := goodIn_r _ [197, 13, 53, 54, 55, 2, 56, 57, 58, 59, 25, 26, 27, 60, 61, 62, 63, 64, 65, 66, 67, 68, 69, 70, 71, 72, 73, 198, 199, 200, 90, 91, 92, 78, 79, 80, 81, 93, 94, 95, 96, 97, 201, 202, 203, 187, 188, 189, 212, 213, 214] (by decide +kernel) (by decide +kernel)
set_option maxRecDepth 20000 in
theorem gL_law_X0_whole : GoodIn wsL_law (wsV RL 60 RX0 yX0_whole wsX0_whole) := goodIn_app (goodIn_of _ (by decide +kernel)) ggL_law_X0_whole
set_option maxRecDepth 20000 in
theorem ggL_law_X0_number : GoodIn wsL_law wsX0_number := goodIn_r _ [207, 78, 79, 80, 81, 57, 58, 2, 59, 25, 26, 27, 98, 99, 100, 101, 102, 14, 13, 96, 15, 86, 87, 88, 89, 103, 104, 105, 106, 73, 212, 213, 214] (by decide +kernel) (by decide +kernel)
set_option maxRecDepth 20000 in
theorem gL_law_X0_number : GoodIn wsL_law (wsV RL 65 RX0 yX0_number wsX0_number) := goodIn_app (goodIn_of _ (by decide +kernel)) ggL_law_X0_number
set_option maxRecDepth 20000 in
theorem ggL_law_X0_lost : GoodIn wsL_law wsX0_lost := goodIn_r _ [211, 15, 212, 213, 214] (by decide +kernel) (by decide +kernel)
set_option maxRecDepth 20000 in
theorem gL_law_X0_lost : GoodIn wsL_law (wsV RL 69 RX0 yX0_lost wsX0_lost) := goodIn_app (goodIn_of _ (by decide +kernel)) ggL_law_X0_lost
theorem dL_law_0 : decode cL_law 0 = .ok (.new 7, 3) := by decide +kernel
theorem dL_law_3 : decode cL_law 3 = .ok (.dup, 1) := by decide +kernel
theorem dL_law_4 : decode cL_law 4 = .ok (.invokespecial 9, 3) := by decide +kernel
theorem dL_law_7 : decode cL_law 7 = .ok (.astore_n 1, 1) := by decide +kernel
theorem dL_law_8 : decode cL_law 8 = .ok (.new 10, 3) := by decide +kernel
theorem dL_law_11 : decode cL_law 11 = .ok (.dup, 1) := by decide +kernel
theorem dL_law_12 : decode cL_law 12 = .ok (.invokespecial 12, 3) := by decide +kernel
theorem dL_law_15 : decode cL_law 15 = .ok (.astore_n 2, 1) := by decide +kernel
theorem dL_law_16 : decode cL_law 16 = .ok (.iconst 0, 1) := by decide +kernel
theorem dL_law_17 : decode cL_law 17 = .ok (.istore_n 3, 1) := by decide +kernel
theorem dL_law_18 : decode cL_law 18 = .ok (.iload_n 3, 1) := by decide +kernel
theorem dL_law_19 : decode cL_law 19 = .ok (.aload_n 0, 1) := by decide +kernel
theorem dL_law_20 : decode cL_law 20 = .ok (.arraylength, 1) := by decide +kernel
theorem dL_law_21 : decode cL_law 21 = .ok (.bipush 6, 2) := by decide +kernel
theorem dL_law_23 : decode cL_law 23 = .ok (.isub, 1) := by decide +kernel
theorem dL_law_24 : decode cL_law 24 = .ok (.if_icmp .gt 682, 3) := by decide +kernel
theorem dL_law_27 : decode cL_law 27 = .ok (.aload_n 0, 1) := by decide +kernel
theorem dL_law_28 : decode cL_law 28 = .ok (.iload_n 3, 1) := by decide +kernel
theorem dL_law_29 : decode cL_law 29 = .ok (.iaload, 1) := by decide +kernel
theorem dL_law_30 : decode cL_law 30 = .ok (.bipush 15, 2) := by decide +kernel
theorem dL_law_32 : decode cL_law 32 = .ok (.iand, 1) := by decide +kernel
theorem dL_law_33 : decode cL_law 33 = .ok (.tableswitch 667 0 12 #[67, 130, 154, 191, 244, 297, 350, 403, 446, 489, 532, 611, 654], 67) := by decide +kernel
theorem dL_law_100 : decode cL_law 100 = .ok (.aload_n 1, 1) := by decide +kernel
theorem dL_law_101 : decode cL_law 101 = .ok (.aload_n 0, 1) := by decide +kernel
theorem dL_law_102 : decode cL_law 102 = .ok (.iload_n 3, 1) := by decide +kernel
theorem dL_law_103 : decode cL_law 103 = .ok (.iconst 1, 1) := by decide +kernel
theorem dL_law_104 : decode cL_law 104 = .ok (.iadd, 1) := by decide +kernel
theorem dL_law_105 : decode cL_law 105 = .ok (.iaload, 1) := by decide +kernel
theorem dL_law_106 : decode cL_law 106 = .ok (.aload_n 0, 1) := by decide +kernel
theorem dL_law_107 : decode cL_law 107 = .ok (.iload_n 3, 1) := by decide +kernel
theorem dL_law_108 : decode cL_law 108 = .ok (.iconst 2, 1) := by decide +kernel
theorem dL_law_109 : decode cL_law 109 = .ok (.iadd, 1) := by decide +kernel
theorem dL_law_110 : decode cL_law 110 = .ok (.iaload, 1) := by decide +kernel
theorem dL_law_111 : decode cL_law 111 = .ok (.i2l, 1) := by decide +kernel
theorem dL_law_112 : decode cL_law 112 = .ok (.bipush 32, 2) := by decide +kernel
theorem dL_law_114 : decode cL_law 114 = .ok (.lshl, 1) := by decide +kernel
theorem dL_law_115 : decode cL_law 115 = .ok (.aload_n 0, 1) := by decide +kernel
theorem dL_law_116 : decode cL_law 116 = .ok (.iload_n 3, 1) := by decide +kernel
theorem dL_law_117 : decode cL_law 117 = .ok (.iconst 3, 1) := by decide +kernel
theorem dL_law_118 : decode cL_law 118 = .ok (.iadd, 1) := by decide +kernel
theorem dL_law_119 : decode cL_law 119 = .ok (.iaload, 1) := by decide +kernel
theorem dL_law_120 : decode cL_law 120 = .ok (.i2l, 1) := by decide +kernel
theorem dL_law_121 : decode cL_law 121 = .ok (.ldc2_w 13, 3) := by decide +kernel
theorem dL_law_124 : decode cL_law 124 = .ok (.land, 1) := by decide +kernel
theorem dL_law_125 : decode cL_law 125 = .ok (.lor, 1) := by decide +kernel
theorem dL_law_126 : decode cL_law 126 = .ok (.invokevirtual 15, 3) := by decide +kernel
theorem dL_law_129 : decode cL_law 129 = .ok (.aload_n 2, 1) := by decide +kernel
theorem dL_law_130 : decode cL_law 130 = .ok (.aload_n 0, 1) := by decide +kernel
theorem dL_law_131 : decode cL_law 131 = .ok (.iload_n 3, 1) := by decide +kernel
theorem dL_law_132 : decode cL_law 132 = .ok (.iconst 1, 1) := by decide +kernel
theorem dL_law_133 : decode cL_law 133 = .ok (.iadd, 1) := by decide +kernel
theorem dL_law_134 : decode cL_law 134 = .ok (.iaload, 1) := by decide +kernel
theorem dL_law_135 : decode cL_law 135 = .ok (.aload_n 0, 1) := by decide +kernel
theorem dL_law_136 : decode cL_law 136 = .ok (.iload_n 3, 1) := by decide +kernel
theorem dL_law_137 : decode cL_law 137 = .ok (.iconst 2, 1) := by decide +kernel
theorem dL_law_138 : decode cL_law 138 = .ok (.iadd, 1) := by decide +kernel
theorem dL_law_139 : decode cL_law 139 = .ok (.iaload, 1) := by decide +kernel
theorem dL_law_140 : decode cL_law 140 = .ok (.i2l, 1) := by decide +kernel
theorem dL_law_141 : decode cL_law 141 = .ok (.bipush 32, 2) := by decide +kernel
theorem dL_law_143 : decode cL_law 143 = .ok (.lshl, 1) := by decide +kernel
theorem dL_law_144 : decode cL_law 144 = .ok (.aload_n 0, 1) := by decide +kernel
theorem dL_law_145 : decode cL_law 145 = .ok (.iload_n 3, 1) := by decide +kernel
theorem dL_law_146 : decode cL_law 146 = .ok (.iconst 3, 1) := by decide +kernel
theorem dL_law_147 : decode cL_law 147 = .ok (.iadd, 1) := by decide +kernel
theorem dL_law_148 : decode cL_law 148 = .ok (.iaload, 1) := by decide +kernel
theorem dL_law_149 : decode cL_law 149 = .ok (.i2l, 1) := by decide +kernel
theorem dL_law_150 : decode cL_law 150 = .ok (.ldc2_w 13, 3) := by decide +kernel
theorem dL_law_153 : decode cL_law 153 = .ok (.land, 1) := by decide +kernel
theorem dL_law_154 : decode cL_law 154 = .ok (.lor, 1) := by decide +kernel
theorem dL_law_155 : decode cL_law 155 = .ok (.invokevirtual 19, 3) := by decide +kernel
theorem dL_law_158 : decode cL_law 158 = .ok (.if_icmp .eq 542, 3) := by decide +kernel
theorem dL_law_161 : decode cL_law 161 = .ok (.iconst 0, 1) := by decide +kernel
theorem dL_law_162 : decode cL_law 162 = .ok (.ireturn, 1) := by decide +kernel
theorem dL_law_163 : decode cL_law 163 = .ok (.aload_n 1, 1) := by decide +kernel
theorem dL_law_164 : decode cL_law 164 = .ok (.aload_n 0, 1) := by decide +kernel
theorem dL_law_165 : decode cL_law 165 = .ok (.iload_n 3, 1) := by decide +kernel
theorem dL_law_166 : decode cL_law 166 = .ok (.iconst 1, 1) := by decide +kernel
theorem dL_law_167 : decode cL_law 167 = .ok (.iadd, 1) := by decide +kernel
theorem dL_law_168 : decode cL_law 168 = .ok (.iaload, 1) := by decide +kernel
theorem dL_law_169 : decode cL_law 169 = .ok (.invokevirtual 20, 3) := by decide +kernel
theorem dL_law_172 : decode cL_law 172 = .ok (.aload_n 2, 1) := by decide +kernel
theorem dL_law_173 : decode cL_law 173 = .ok (.aload_n 0, 1) := by decide +kernel
theorem dL_law_174 : decode cL_law 174 = .ok (.iload_n 3, 1) := by decide +kernel
theorem dL_law_175 : decode cL_law 175 = .ok (.iconst 1, 1) := by decide +kernel
theorem dL_law_176 : decode cL_law 176 = .ok (.iadd, 1) := by decide +kernel
theorem dL_law_177 : decode cL_law 177 = .ok (.iaload, 1) := by decide +kernel
theorem dL_law_178 : decode cL_law 178 = .ok (.invokevirtual 24, 3) := by decide +kernel
theorem dL_law_181 : decode cL_law 181 = .ok (.lcmp, 1) := by decide +kernel
theorem dL_law_182 : decode cL_law 182 = .ok (.ifCond .eq 518, 3) := by decide +kernel
theorem dL_law_185 : decode cL_law 185 = .ok (.iconst 0, 1) := by decide +kernel
theorem dL_law_186 : decode cL_law 186 = .ok (.ireturn, 1) := by decide +kernel
theorem dL_law_187 : decode cL_law 187 = .ok (.aload_n 1, 1) := by decide +kernel
theorem dL_law_188 : decode cL_law 188 = .ok (.aload_n 0, 1) := by decide +kernel
theorem dL_law_189 : decode cL_law 189 = .ok (.iload_n 3, 1) := by decide +kernel
theorem dL_law_190 : decode cL_law 190 = .ok (.iconst 1, 1) := by decide +kernel
theorem dL_law_191 : decode cL_law 191 = .ok (.iadd, 1) := by decide +kernel
theorem dL_law_192 : decode cL_law 192 = .ok (.iaload, 1) := by decide +kernel
theorem dL_law_193 : decode cL_law 193 = .ok (.ifCond .eq 7, 3) := by decide +kernel
theorem dL_law_196 : decode cL_law 196 = .ok (.iconst 1, 1) := by decide +kernel
theorem dL_law_197 : decode cL_law 197 = .ok (.goto 4, 3) := by decide +kernel
theorem dL_law_200 : decode cL_law 200 = .ok (.iconst 0, 1) := by decide +kernel
theorem dL_law_201 : decode cL_law 201 = .ok (.invokevirtual 25, 3) := by decide +kernel
theorem dL_law_204 : decode cL_law 204 = .ok (.aload_n 2, 1) := by decide +kernel
theorem dL_law_205 : decode cL_law 205 = .ok (.aload_n 0, 1) := by decide +kernel
theorem dL_law_206 : decode cL_law 206 = .ok (.iload_n 3, 1) := by decide +kernel
theorem dL_law_207 : decode cL_law 207 = .ok (.iconst 1, 1) := by decide +kernel
theorem dL_law_208 : decode cL_law 208 = .ok (.iadd, 1) := by decide +kernel
theorem dL_law_209 : decode cL_law 209 = .ok (.iaload, 1) := by decide +kernel
theorem dL_law_210 : decode cL_law 210 = .ok (.ifCond .eq 7, 3) := by decide +kernel
theorem dL_law_213 : decode cL_law 213 = .ok (.iconst 1, 1) := by decide +kernel
theorem dL_law_214 : decode cL_law 214 = .ok (.goto 4, 3) := by decide +kernel
theorem dL_law_217 : decode cL_law 217 = .ok (.iconst 0, 1) := by decide +kernel
theorem dL_law_218 : decode cL_law 218 = .ok (.invokevirtual 29, 3) := by decide +kernel
theorem dL_law_221 : decode cL_law 221 = .ok (.goto 479, 3) := by decide +kernel
theorem dL_law_224 : decode cL_law 224 = .ok (.aload_n 1, 1) := by decide +kernel
theorem dL_law_225 : decode cL_law 225 = .ok (.aload_n 0, 1) := by decide +kernel
theorem dL_law_226 : decode cL_law 226 = .ok (.iload_n 3, 1) := by decide +kernel
theorem dL_law_227 : decode cL_law 227 = .ok (.iconst 1, 1) := by decide +kernel
theorem dL_law_228 : decode cL_law 228 = .ok (.iadd, 1) := by decide +kernel
theorem dL_law_229 : decode cL_law 229 = .ok (.iaload, 1) := by decide +kernel
theorem dL_law_230 : decode cL_law 230 = .ok (.aload_n 0, 1) := by decide +kernel
theorem dL_law_231 : decode cL_law 231 = .ok (.iload_n 3, 1) := by decide +kernel
theorem dL_law_232 : decode cL_law 232 = .ok (.iconst 2, 1) := by decide +kernel
theorem dL_law_233 : decode cL_law 233 = .ok (.iadd, 1) := by decide +kernel
theorem dL_law_234 : decode cL_law 234 = .ok (.iaload, 1) := by decide +kernel
theorem dL_law_235 : decode cL_law 235 = .ok (.aload_n 0, 1) := by decide +kernel
theorem dL_law_236 : decode cL_law 236 = .ok (.iload_n 3, 1) := by decide +kernel
theorem dL_law_237 : decode cL_law 237 = .ok (.iconst 3, 1) := by decide +kernel
theorem dL_law_238 : decode cL_law 238 = .ok (.iadd, 1) := by decide +kernel
theorem dL_law_239 : decode cL_law 239 = .ok (.iaload, 1) := by decide +kernel
theorem dL_law_240 : decode cL_law 240 = .ok (.aload_n 0, 1) := by decide +kernel
theorem dL_law_241 : decode cL_law 241 = .ok (.iload_n 3, 1) := by decide +kernel
theorem dL_law_242 : decode cL_law 242 = .ok (.iconst 4, 1) := by decide +kernel
theorem dL_law_243 : decode cL_law 243 = .ok (.iadd, 1) := by decide +kernel
theorem dL_law_244 : decode cL_law 244 = .ok (.iaload, 1) := by decide +kernel
theorem dL_law_245 : decode cL_law 245 = .ok (.invokevirtual 30, 3) := by decide +kernel
theorem dL_law_248 : decode cL_law 248 = .ok (.aload_n 2, 1) := by decide +kernel
theorem dL_law_249 : decode cL_law 249 = .ok (.aload_n 0, 1) := by decide +kernel
theorem dL_law_250 : decode cL_law 250 = .ok (.iload_n 3, 1) := by decide +kernel
theorem dL_law_251 : decode cL_law 251 = .ok (.iconst 1, 1) := by decide +kernel
theorem dL_law_252 : decode cL_law 252 = .ok (.iadd, 1) := by decide +kernel
theorem dL_law_253 : decode cL_law 253 = .ok (.iaload, 1) := by decide +kernel
theorem dL_law_254 : decode cL_law 254 = .ok (.aload_n 0, 1) := by decide +kernel
theorem dL_law_255 : decode cL_law 255 = .ok (.iload_n 3, 1) := by decide +kernel
theorem dL_law_256 : decode cL_law 256 = .ok (.iconst 2, 1) := by decide +kernel
theorem dL_law_257 : decode cL_law 257 = .ok (.iadd, 1) := by decide +kernel
theorem dL_law_258 : decode cL_law 258 = .ok (.iaload, 1) := by decide +kernel
theorem dL_law_259 : decode cL_law 259 = .ok (.aload_n 0, 1) := by decide +kernel
theorem dL_law_260 : decode cL_law 260 = .ok (.iload_n 3, 1) := by decide +kernel
theorem dL_law_261 : decode cL_law 261 = .ok (.iconst 3, 1) := by decide +kernel
theorem dL_law_262 : decode cL_law 262 = .ok (.iadd, 1) := by decide +kernel
theorem dL_law_263 : decode cL_law 263 = .ok (.iaload, 1) := by decide +kernel
theorem dL_law_264 : decode cL_law 264 = .ok (.aload_n 0, 1) := by decide +kernel
theorem dL_law_265 : decode cL_law 265 = .ok (.iload_n 3, 1) := by decide +kernel
theorem dL_law_266 : decode cL_law 266 = .ok (.iconst 4, 1) := by decide +kernel
theorem dL_law_267 : decode cL_law 267 = .ok (.iadd, 1) := by decide +kernel
theorem dL_law_268 : decode cL_law 268 = .ok (.iaload, 1) := by decide +kernel
theorem dL_law_269 : decode cL_law 269 = .ok (.invokevirtual 34, 3) := by decide +kernel
theorem dL_law_272 : decode cL_law 272 = .ok (.if_icmp .eq 428, 3) := by decide +kernel
theorem dL_law_275 : decode cL_law 275 = .ok (.iconst 0, 1) := by decide +kernel
theorem dL_law_276 : decode cL_law 276 = .ok (.ireturn, 1) := by decide +kernel
theorem dL_law_277 : decode cL_law 277 = .ok (.aload_n 1, 1) := by decide +kernel
theorem dL_law_278 : decode cL_law 278 = .ok (.aload_n 0, 1) := by decide +kernel
theorem dL_law_279 : decode cL_law 279 = .ok (.iload_n 3, 1) := by decide +kernel
theorem dL_law_280 : decode cL_law 280 = .ok (.iconst 1, 1) := by decide +kernel
theorem dL_law_281 : decode cL_law 281 = .ok (.iadd, 1) := by decide +kernel
theorem dL_law_282 : decode cL_law 282 = .ok (.iaload, 1) := by decide +kernel
theorem dL_law_283 : decode cL_law 283 = .ok (.aload_n 0, 1) := by decide +kernel
theorem dL_law_284 : decode cL_law 284 = .ok (.iload_n 3, 1) := by decide +kernel
theorem dL_law_285 : decode cL_law 285 = .ok (.iconst 2, 1) := by decide +kernel
theorem dL_law_286 : decode cL_law 286 = .ok (.iadd, 1) := by decide +kernel
theorem dL_law_287 : decode cL_law 287 = .ok (.iaload, 1) := by decide +kernel
theorem dL_law_288 : decode cL_law 288 = .ok (.aload_n 0, 1) := by decide +kernel
theorem dL_law_289 : decode cL_law 289 = .ok (.iload_n 3, 1) := by decide +kernel
theorem dL_law_290 : decode cL_law 290 = .ok (.iconst 3, 1) := by decide +kernel
theorem dL_law_291 : decode cL_law 291 = .ok (.iadd, 1) := by decide +kernel
theorem dL_law_292 : decode cL_law 292 = .ok (.iaload, 1) := by decide +kernel
theorem dL_law_293 : decode cL_law 293 = .ok (.aload_n 0, 1) := by decide +kernel
theorem dL_law_294 : decode cL_law 294 = .ok (.iload_n 3, 1) := by decide +kernel
theorem dL_law_295 : decode cL_law 295 = .ok (.iconst 4, 1) := by decide +kernel
theorem dL_law_296 : decode cL_law 296 = .ok (.iadd, 1) := by decide +kernel
theorem dL_law_297 : decode cL_law 297 = .ok (.iaload, 1) := by decide +kernel
theorem dL_law_298 : decode cL_law 298 = .ok (.invokevirtual 35, 3) := by decide +kernel
theorem dL_law_301 : decode cL_law 301 = .ok (.aload_n 2, 1) := by decide +kernel
theorem dL_law_302 : decode cL_law 302 = .ok (.aload_n 0, 1) := by decide +kernel
theorem dL_law_303 : decode cL_law 303 = .ok (.iload_n 3, 1) := by decide +kernel
theorem dL_law_304 : decode cL_law 304 = .ok (.iconst 1, 1) := by decide +kernel
theorem dL_law_305 : decode cL_law 305 = .ok (.iadd, 1) := by decide +kernel
theorem dL_law_306 : decode cL_law 306 = .ok (.iaload, 1) := by decide +kernel
theorem dL_law_307 : decode cL_law 307 = .ok (.aload_n 0, 1) := by decide +kernel
theorem dL_law_308 : decode cL_law 308 = .ok (.iload_n 3, 1) := by decide +kernel
theorem dL_law_309 : decode cL_law 309 = .ok (.iconst 2, 1) := by decide +kernel
theorem dL_law_310 : decode cL_law 310 = .ok (.iadd, 1) := by decide +kernel
theorem dL_law_311 : decode cL_law 311 = .ok (.iaload, 1) := by decide +kernel
theorem dL_law_312 : decode cL_law 312 = .ok (.aload_n 0, 1) := by decide +kernel
theorem dL_law_313 : decode cL_law 313 = .ok (.iload_n 3, 1) := by decide +kernel
theorem dL_law_314 : decode cL_law 314 = .ok (.iconst 3, 1) := by decide +kernel
theorem dL_law_315 : decode cL_law 315 = .ok (.iadd, 1) := by decide +kernel
theorem dL_law_316 : decode cL_law 316 = .ok (.iaload, 1) := by decide +kernel
theorem dL_law_317 : decode cL_law 317 = .ok (.aload_n 0, 1) := by decide +kernel
theorem dL_law_318 : decode cL_law 318 = .ok (.iload_n 3, 1) := by decide +kernel
theorem dL_law_319 : decode cL_law 319 = .ok (.iconst 4, 1) := by decide +kernel
theorem dL_law_320 : decode cL_law 320 = .ok (.iadd, 1) := by decide +kernel
theorem dL_law_321 : decode cL_law 321 = .ok (.iaload, 1) := by decide +kernel
theorem dL_law_322 : decode cL_law 322 = .ok (.invokevirtual 38, 3) := by decide +kernel
theorem dL_law_325 : decode cL_law 325 = .ok (.if_icmp .eq 375, 3) := by decide +kernel
theorem dL_law_328 : decode cL_law 328 = .ok (.iconst 0, 1) := by decide +kernel
theorem dL_law_329 : decode cL_law 329 = .ok (.ireturn, 1) := by decide +kernel
theorem dL_law_330 : decode cL_law 330 = .ok (.aload_n 1, 1) := by decide +kernel
theorem dL_law_331 : decode cL_law 331 = .ok (.aload_n 0, 1) := by decide +kernel
theorem dL_law_332 : decode cL_law 332 = .ok (.iload_n 3, 1) := by decide +kernel
theorem dL_law_333 : decode cL_law 333 = .ok (.iconst 1, 1) := by decide +kernel
theorem dL_law_334 : decode cL_law 334 = .ok (.iadd, 1) := by decide +kernel
theorem dL_law_335 : decode cL_law 335 = .ok (.iaload, 1) := by decide +kernel
theorem dL_law_336 : decode cL_law 336 = .ok (.aload_n 0, 1) := by decide +kernel
theorem dL_law_337 : decode cL_law 337 = .ok (.iload_n 3, 1) := by decide +kernel
theorem dL_law_338 : decode cL_law 338 = .ok (.iconst 2, 1) := by decide +kernel
theorem dL_law_339 : decode cL_law 339 = .ok (.iadd, 1) := by decide +kernel
theorem dL_law_340 : decode cL_law 340 = .ok (.iaload, 1) := by decide +kernel
theorem dL_law_341 : decode cL_law 341 = .ok (.aload_n 0, 1) := by decide +kernel
theorem dL_law_342 : decode cL_law 342 = .ok (.iload_n 3, 1) := by decide +kernel
theorem dL_law_343 : decode cL_law 343 = .ok (.iconst 3, 1) := by decide +kernel
theorem dL_law_344 : decode cL_law 344 = .ok (.iadd, 1) := by decide +kernel
theorem dL_law_345 : decode cL_law 345 = .ok (.iaload, 1) := by decide +kernel
theorem dL_law_346 : decode cL_law 346 = .ok (.aload_n 0, 1) := by decide +kernel
theorem dL_law_347 : decode cL_law 347 = .ok (.iload_n 3, 1) := by decide +kernel
theorem dL_law_348 : decode cL_law 348 = .ok (.iconst 4, 1) := by decide +kernel
theorem dL_law_349 : decode cL_law 349 = .ok (.iadd, 1) := by decide +kernel
theorem dL_law_350 : decode cL_law 350 = .ok (.iaload, 1) := by decide +kernel
theorem dL_law_351 : decode cL_law 351 = .ok (.invokevirtual 39, 3) := by decide +kernel
theorem dL_law_354 : decode cL_law 354 = .ok (.aload_n 2, 1) := by decide +kernel
theorem dL_law_355 : decode cL_law 355 = .ok (.aload_n 0, 1) := by decide +kernel
theorem dL_law_356 : decode cL_law 356 = .ok (.iload_n 3, 1) := by decide +kernel
theorem dL_law_357 : decode cL_law 357 = .ok (.iconst 1, 1) := by decide +kernel
theorem dL_law_358 : decode cL_law 358 = .ok (.iadd, 1) := by decide +kernel
theorem dL_law_359 : decode cL_law 359 = .ok (.iaload, 1) := by decide +kernel
theorem dL_law_360 : decode cL_law 360 = .ok (.aload_n 0, 1) := by decide +kernel
theorem dL_law_361 : decode cL_law 361 = .ok (.iload_n 3, 1) := by decide +kernel
theorem dL_law_362 : decode cL_law 362 = .ok (.iconst 2, 1) := by decide +kernel
theorem dL_law_363 : decode cL_law 363 = .ok (.iadd, 1) := by decide +kernel
theorem dL_law_364 : decode cL_law 364 = .ok (.iaload, 1) := by decide +kernel
theorem dL_law_365 : decode cL_law 365 = .ok (.aload_n 0, 1) := by decide +kernel
theorem dL_law_366 : decode cL_law 366 = .ok (.iload_n 3, 1) := by decide +kernel
theorem dL_law_367 : decode cL_law 367 = .ok (.iconst 3, 1) := by decide +kernel
theorem dL_law_368 : decode cL_law 368 = .ok (.iadd, 1) := by decide +kernel
theorem dL_law_369 : decode cL_law 369 = .ok (.iaload, 1) := by decide +kernel
theorem dL_law_370 : decode cL_law 370 = .ok (.aload_n 0, 1) := by decide +kernel
theorem dL_law_371 : decode cL_law 371 = .ok (.iload_n 3, 1) := by decide +kernel
theorem dL_law_372 : decode cL_law 372 = .ok (.iconst 4, 1) := by decide +kernel
theorem dL_law_373 : decode cL_law 373 = .ok (.iadd, 1) := by decide +kernel
theorem dL_law_374 : decode cL_law 374 = .ok (.iaload, 1) := by decide +kernel
theorem dL_law_375 : decode cL_law 375 = .ok (.invokevirtual 42, 3) := by decide +kernel
theorem dL_law_378 : decode cL_law 378 = .ok (.if_icmp .eq 322, 3) := by decide +kernel
theorem dL_law_381 : decode cL_law 381 = .ok (.iconst 0, 1) := by decide +kernel
theorem dL_law_382 : decode cL_law 382 = .ok (.ireturn, 1) := by decide +kernel
theorem dL_law_383 : decode cL_law 383 = .ok (.aload_n 1, 1) := by decide +kernel
theorem dL_law_384 : decode cL_law 384 = .ok (.aload_n 0, 1) := by decide +kernel
theorem dL_law_385 : decode cL_law 385 = .ok (.iload_n 3, 1) := by decide +kernel
theorem dL_law_386 : decode cL_law 386 = .ok (.iconst 1, 1) := by decide +kernel
theorem dL_law_387 : decode cL_law 387 = .ok (.iadd, 1) := by decide +kernel
theorem dL_law_388 : decode cL_law 388 = .ok (.iaload, 1) := by decide +kernel
theorem dL_law_389 : decode cL_law 389 = .ok (.aload_n 0, 1) := by decide +kernel
theorem dL_law_390 : decode cL_law 390 = .ok (.iload_n 3, 1) := by decide +kernel
theorem dL_law_391 : decode cL_law 391 = .ok (.iconst 2, 1) := by decide +kernel
theorem dL_law_392 : decode cL_law 392 = .ok (.iadd, 1) := by decide +kernel
theorem dL_law_393 : decode cL_law 393 = .ok (.iaload, 1) := by decide +kernel
theorem dL_law_394 : decode cL_law 394 = .ok (.aload_n 0, 1) := by decide +kernel
theorem dL_law_395 : decode cL_law 395 = .ok (.iload_n 3, 1) := by decide +kernel
theorem dL_law_396 : decode cL_law 396 = .ok (.iconst 3, 1) := by decide +kernel
theorem dL_law_397 : decode cL_law 397 = .ok (.iadd, 1) := by decide +kernel
theorem dL_law_398 : decode cL_law 398 = .ok (.iaload, 1) := by decide +kernel
theorem dL_law_399 : decode cL_law 399 = .ok (.aload_n 0, 1) := by decide +kernel
theorem dL_law_400 : decode cL_law 400 = .ok (.iload_n 3, 1) := by decide +kernel
theorem dL_law_401 : decode cL_law 401 = .ok (.iconst 4, 1) := by decide +kernel
theorem dL_law_402 : decode cL_law 402 = .ok (.iadd, 1) := by decide +kernel
theorem dL_law_403 : decode cL_law 403 = .ok (.iaload, 1) := by decide +kernel
theorem dL_law_404 : decode cL_law 404 = .ok (.invokevirtual 43, 3) := by decide +kernel
theorem dL_law_407 : decode cL_law 407 = .ok (.aload_n 2, 1) := by decide +kernel
theorem dL_law_408 : decode cL_law 408 = .ok (.aload_n 0, 1) := by decide +kernel
theorem dL_law_409 : decode cL_law 409 = .ok (.iload_n 3, 1) := by decide +kernel
theorem dL_law_410 : decode cL_law 410 = .ok (.iconst 1, 1) := by decide +kernel
theorem dL_law_411 : decode cL_law 411 = .ok (.iadd, 1) := by decide +kernel
theorem dL_law_412 : decode cL_law 412 = .ok (.iaload, 1) := by decide +kernel
theorem dL_law_413 : decode cL_law 413 = .ok (.aload_n 0, 1) := by decide +kernel
theorem dL_law_414 : decode cL_law 414 = .ok (.iload_n 3, 1) := by decide +kernel
theorem dL_law_415 : decode cL_law 415 = .ok (.iconst 2, 1) := by decide +kernel
theorem dL_law_416 : decode cL_law 416 = .ok (.iadd, 1) := by decide +kernel
theorem dL_law_417 : decode cL_law 417 = .ok (.iaload, 1) := by decide +kernel
theorem dL_law_418 : decode cL_law 418 = .ok (.aload_n 0, 1) := by decide +kernel
theorem dL_law_419 : decode cL_law 419 = .ok (.iload_n 3, 1) := by decide +kernel
theorem dL_law_420 : decode cL_law 420 = .ok (.iconst 3, 1) := by decide +kernel
theorem dL_law_421 : decode cL_law 421 = .ok (.iadd, 1) := by decide +kernel
theorem dL_law_422 : decode cL_law 422 = .ok (.iaload, 1) := by decide +kernel
theorem dL_law_423 : decode cL_law 423 = .ok (.aload_n 0, 1) := by decide +kernel
theorem dL_law_424 : decode cL_law 424 = .ok (.iload_n 3, 1) := by decide +kernel
theorem dL_law_425 : decode cL_law 425 = .ok (.iconst 4, 1) := by decide +kernel
theorem dL_law_426 : decode cL_law 426 = .ok (.iadd, 1) := by decide +kernel
theorem dL_law_427 : decode cL_law 427 = .ok (.iaload, 1) := by decide +kernel
theorem dL_law_428 : decode cL_law 428 = .ok (.invokevirtual 46, 3) := by decide +kernel
theorem dL_law_431 : decode cL_law 431 = .ok (.if_icmp .eq 269, 3) := by decide +kernel
theorem dL_law_434 : decode cL_law 434 = .ok (.iconst 0, 1) := by decide +kernel
theorem dL_law_435 : decode cL_law 435 = .ok (.ireturn, 1) := by decide +kernel
theorem dL_law_436 : decode cL_law 436 = .ok (.aload_n 1, 1) := by decide +kernel
theorem dL_law_437 : decode cL_law 437 = .ok (.aload_n 0, 1) := by decide +kernel
theorem dL_law_438 : decode cL_law 438 = .ok (.iload_n 3, 1) := by decide +kernel
theorem dL_law_439 : decode cL_law 439 = .ok (.iconst 1, 1) := by decide +kernel
theorem dL_law_440 : decode cL_law 440 = .ok (.iadd, 1) := by decide +kernel
theorem dL_law_441 : decode cL_law 441 = .ok (.iaload, 1) := by decide +kernel
theorem dL_law_442 : decode cL_law 442 = .ok (.aload_n 0, 1) := by decide +kernel
theorem dL_law_443 : decode cL_law 443 = .ok (.iload_n 3, 1) := by decide +kernel
theorem dL_law_444 : decode cL_law 444 = .ok (.iconst 2, 1) := by decide +kernel
theorem dL_law_445 : decode cL_law 445 = .ok (.iadd, 1) := by decide +kernel
theorem dL_law_446 : decode cL_law 446 = .ok (.iaload, 1) := by decide +kernel
theorem dL_law_447 : decode cL_law 447 = .ok (.aload_n 0, 1) := by decide +kernel
theorem dL_law_448 : decode cL_law 448 = .ok (.iload_n 3, 1) := by decide +kernel
theorem dL_law_449 : decode cL_law 449 = .ok (.iconst 3, 1) := by decide +kernel
theorem dL_law_450 : decode cL_law 450 = .ok (.iadd, 1) := by decide +kernel
theorem dL_law_451 : decode cL_law 451 = .ok (.iaload, 1) := by decide +kernel
theorem dL_law_452 : decode cL_law 452 = .ok (.invokevirtual 47, 3) := by decide +kernel
theorem dL_law_455 : decode cL_law 455 = .ok (.aload_n 2, 1) := by decide +kernel
theorem dL_law_456 : decode cL_law 456 = .ok (.aload_n 0, 1) := by decide +kernel
theorem dL_law_457 : decode cL_law 457 = .ok (.iload_n 3, 1) := by decide +kernel
theorem dL_law_458 : decode cL_law 458 = .ok (.iconst 1, 1) := by decide +kernel
theorem dL_law_459 : decode cL_law 459 = .ok (.iadd, 1) := by decide +kernel
theorem dL_law_460 : decode cL_law 460 = .ok (.iaload, 1) := by decide +kernel
theorem dL_law_461 : decode cL_law 461 = .ok (.aload_n 0, 1) := by decide +kernel
theorem dL_law_462 : decode cL_law 462 = .ok (.iload_n 3, 1) := by decide +kernel
theorem dL_law_463 : decode cL_law 463 = .ok (.iconst 2, 1) := by decide +kernel
theorem dL_law_464 : decode cL_law 464 = .ok (.iadd, 1) := by decide +kernel
theorem dL_law_465 : decode cL_law 465 = .ok (.iaload, 1) := by decide +kernel
theorem dL_law_466 : decode cL_law 466 = .ok (.aload_n 0, 1) := by decide +kernel
theorem dL_law_467 : decode cL_law 467 = .ok (.iload_n 3, 1) := by decide +kernel
theorem dL_law_468 : decode cL_law 468 = .ok (.iconst 3, 1) := by decide +kernel
theorem dL_law_469 : decode cL_law 469 = .ok (.iadd, 1) := by decide +kernel
theorem dL_law_470 : decode cL_law 470 = .ok (.iaload, 1) := by decide +kernel
theorem dL_law_471 : decode cL_law 471 = .ok (.invokevirtual 51, 3) := by decide +kernel
theorem dL_law_474 : decode cL_law 474 = .ok (.if_icmp .eq 226, 3) := by decide +kernel
theorem dL_law_477 : decode cL_law 477 = .ok (.iconst 0, 1) := by decide +kernel
theorem dL_law_478 : decode cL_law 478 = .ok (.ireturn, 1) := by decide +kernel
theorem dL_law_479 : decode cL_law 479 = .ok (.aload_n 1, 1) := by decide +kernel
theorem dL_law_480 : decode cL_law 480 = .ok (.aload_n 0, 1) := by decide +kernel
theorem dL_law_481 : decode cL_law 481 = .ok (.iload_n 3, 1) := by decide +kernel
theorem dL_law_482 : decode cL_law 482 = .ok (.iconst 1, 1) := by decide +kernel
theorem dL_law_483 : decode cL_law 483 = .ok (.iadd, 1) := by decide +kernel
theorem dL_law_484 : decode cL_law 484 = .ok (.iaload, 1) := by decide +kernel
theorem dL_law_485 : decode cL_law 485 = .ok (.aload_n 0, 1) := by decide +kernel
theorem dL_law_486 : decode cL_law 486 = .ok (.iload_n 3, 1) := by decide +kernel
theorem dL_law_487 : decode cL_law 487 = .ok (.iconst 2, 1) := by decide +kernel
theorem dL_law_488 : decode cL_law 488 = .ok (.iadd, 1) := by decide +kernel
theorem dL_law_489 : decode cL_law 489 = .ok (.iaload, 1) := by decide +kernel
theorem dL_law_490 : decode cL_law 490 = .ok (.aload_n 0, 1) := by decide +kernel
theorem dL_law_491 : decode cL_law 491 = .ok (.iload_n 3, 1) := by decide +kernel
theorem dL_law_492 : decode cL_law 492 = .ok (.iconst 3, 1) := by decide +kernel
theorem dL_law_493 : decode cL_law 493 = .ok (.iadd, 1) := by decide +kernel
theorem dL_law_494 : decode cL_law 494 = .ok (.iaload, 1) := by decide +kernel
theorem dL_law_495 : decode cL_law 495 = .ok (.invokevirtual 52, 3) := by decide +kernel
theorem dL_law_498 : decode cL_law 498 = .ok (.aload_n 2, 1) := by decide +kernel
theorem dL_law_499 : decode cL_law 499 = .ok (.aload_n 0, 1) := by decide +kernel
theorem dL_law_500 : decode cL_law 500 = .ok (.iload_n 3, 1) := by decide +kernel
theorem dL_law_501 : decode cL_law 501 = .ok (.iconst 1, 1) := by decide +kernel
theorem dL_law_502 : decode cL_law 502 = .ok (.iadd, 1) := by decide +kernel
theorem dL_law_503 : decode cL_law 503 = .ok (.iaload, 1) := by decide +kernel
theorem dL_law_504 : decode cL_law 504 = .ok (.aload_n 0, 1) := by decide +kernel
theorem dL_law_505 : decode cL_law 505 = .ok (.iload_n 3, 1) := by decide +kernel
theorem dL_law_506 : decode cL_law 506 = .ok (.iconst 2, 1) := by decide +kernel
theorem dL_law_507 : decode cL_law 507 = .ok (.iadd, 1) := by decide +kernel
theorem dL_law_508 : decode cL_law 508 = .ok (.iaload, 1) := by decide +kernel
theorem dL_law_509 : decode cL_law 509 = .ok (.aload_n 0, 1) := by decide +kernel
theorem dL_law_510 : decode cL_law 510 = .ok (.iload_n 3, 1) := by decide +kernel
theorem dL_law_511 : decode cL_law 511 = .ok (.iconst 3, 1) := by decide +kernel
theorem dL_law_512 : decode cL_law 512 = .ok (.iadd, 1) := by decide +kernel
theorem dL_law_513 : decode cL_law 513 = .ok (.iaload, 1) := by decide +kernel
theorem dL_law_514 : decode cL_law 514 = .ok (.invokevirtual 55, 3) := by decide +kernel
theorem dL_law_517 : decode cL_law 517 = .ok (.if_icmp .eq 183, 3) := by decide +kernel
theorem dL_law_520 : decode cL_law 520 = .ok (.iconst 0, 1) := by decide +kernel
theorem dL_law_521 : decode cL_law 521 = .ok (.ireturn, 1) := by decide +kernel
theorem dL_law_522 : decode cL_law 522 = .ok (.aload_n 1, 1) := by decide +kernel
theorem dL_law_523 : decode cL_law 523 = .ok (.aload_n 0, 1) := by decide +kernel
theorem dL_law_524 : decode cL_law 524 = .ok (.iload_n 3, 1) := by decide +kernel
theorem dL_law_525 : decode cL_law 525 = .ok (.iconst 1, 1) := by decide +kernel
theorem dL_law_526 : decode cL_law 526 = .ok (.iadd, 1) := by decide +kernel
theorem dL_law_527 : decode cL_law 527 = .ok (.iaload, 1) := by decide +kernel
theorem dL_law_528 : decode cL_law 528 = .ok (.aload_n 0, 1) := by decide +kernel
theorem dL_law_529 : decode cL_law 529 = .ok (.iload_n 3, 1) := by decide +kernel
theorem dL_law_530 : decode cL_law 530 = .ok (.iconst 2, 1) := by decide +kernel
theorem dL_law_531 : decode cL_law 531 = .ok (.iadd, 1) := by decide +kernel
theorem dL_law_532 : decode cL_law 532 = .ok (.iaload, 1) := by decide +kernel
theorem dL_law_533 : decode cL_law 533 = .ok (.aload_n 0, 1) := by decide +kernel
theorem dL_law_534 : decode cL_law 534 = .ok (.iload_n 3, 1) := by decide +kernel
theorem dL_law_535 : decode cL_law 535 = .ok (.iconst 3, 1) := by decide +kernel
theorem dL_law_536 : decode cL_law 536 = .ok (.iadd, 1) := by decide +kernel
theorem dL_law_537 : decode cL_law 537 = .ok (.iaload, 1) := by decide +kernel
theorem dL_law_538 : decode cL_law 538 = .ok (.invokevirtual 56, 3) := by decide +kernel
theorem dL_law_541 : decode cL_law 541 = .ok (.aload_n 2, 1) := by decide +kernel
theorem dL_law_542 : decode cL_law 542 = .ok (.aload_n 0, 1) := by decide +kernel
theorem dL_law_543 : decode cL_law 543 = .ok (.iload_n 3, 1) := by decide +kernel
theorem dL_law_544 : decode cL_law 544 = .ok (.iconst 1, 1) := by decide +kernel
theorem dL_law_545 : decode cL_law 545 = .ok (.iadd, 1) := by decide +kernel
theorem dL_law_546 : decode cL_law 546 = .ok (.iaload, 1) := by decide +kernel
theorem dL_law_547 : decode cL_law 547 = .ok (.aload_n 0, 1) := by decide +kernel
theorem dL_law_548 : decode cL_law 548 = .ok (.iload_n 3, 1) := by decide +kernel
theorem dL_law_549 : decode cL_law 549 = .ok (.iconst 2, 1) := by decide +kernel
theorem dL_law_550 : decode cL_law 550 = .ok (.iadd, 1) := by decide +kernel
theorem dL_law_551 : decode cL_law 551 = .ok (.iaload, 1) := by decide +kernel
theorem dL_law_552 : decode cL_law 552 = .ok (.aload_n 0, 1) := by decide +kernel
theorem dL_law_553 : decode cL_law 553 = .ok (.iload_n 3, 1) := by decide +kernel
theorem dL_law_554 : decode cL_law 554 = .ok (.iconst 3, 1) := by decide +kernel
theorem dL_law_555 : decode cL_law 555 = .ok (.iadd, 1) := by decide +kernel
theorem dL_law_556 : decode cL_law 556 = .ok (.iaload, 1) := by decide +kernel
theorem dL_law_557 : decode cL_law 557 = .ok (.invokevirtual 59, 3) := by decide +kernel
theorem dL_law_560 : decode cL_law 560 = .ok (.if_icmp .eq 140, 3) := by decide +kernel
theorem dL_law_563 : decode cL_law 563 = .ok (.iconst 0, 1) := by decide +kernel
theorem dL_law_564 : decode cL_law 564 = .ok (.ireturn, 1) := by decide +kernel
theorem dL_law_565 : decode cL_law 565 = .ok (.aload_n 1, 1) := by decide +kernel
theorem dL_law_566 : decode cL_law 566 = .ok (.aload_n 0, 1) := by decide +kernel
theorem dL_law_567 : decode cL_law 567 = .ok (.iload_n 3, 1) := by decide +kernel
theorem dL_law_568 : decode cL_law 568 = .ok (.iconst 1, 1) := by decide +kernel
theorem dL_law_569 : decode cL_law 569 = .ok (.iadd, 1) := by decide +kernel
theorem dL_law_570 : decode cL_law 570 = .ok (.iaload, 1) := by decide +kernel
theorem dL_law_571 : decode cL_law 571 = .ok (.aload_n 0, 1) := by decide +kernel
theorem dL_law_572 : decode cL_law 572 = .ok (.iload_n 3, 1) := by decide +kernel
theorem dL_law_573 : decode cL_law 573 = .ok (.iconst 2, 1) := by decide +kernel
theorem dL_law_574 : decode cL_law 574 = .ok (.iadd, 1) := by decide +kernel
theorem dL_law_575 : decode cL_law 575 = .ok (.iaload, 1) := by decide +kernel
theorem dL_law_576 : decode cL_law 576 = .ok (.aload_n 0, 1) := by decide +kernel
theorem dL_law_577 : decode cL_law 577 = .ok (.iload_n 3, 1) := by decide +kernel
theorem dL_law_578 : decode cL_law 578 = .ok (.iconst 3, 1) := by decide +kernel
theorem dL_law_579 : decode cL_law 579 = .ok (.iadd, 1) := by decide +kernel
theorem dL_law_580 : decode cL_law 580 = .ok (.iaload, 1) := by decide +kernel
theorem dL_law_581 : decode cL_law 581 = .ok (.aload_n 0, 1) := by decide +kernel
theorem dL_law_582 : decode cL_law 582 = .ok (.iload_n 3, 1) := by decide +kernel
theorem dL_law_583 : decode cL_law 583 = .ok (.iconst 4, 1) := by decide +kernel
theorem dL_law_584 : decode cL_law 584 = .ok (.iadd, 1) := by decide +kernel
theorem dL_law_585 : decode cL_law 585 = .ok (.iaload, 1) := by decide +kernel
theorem dL_law_586 : decode cL_law 586 = .ok (.ifCond .eq 7, 3) := by decide +kernel
theorem dL_law_589 : decode cL_law 589 = .ok (.iconst 1, 1) := by decide +kernel
theorem dL_law_590 : decode cL_law 590 = .ok (.goto 4, 3) := by decide +kernel
theorem dL_law_593 : decode cL_law 593 = .ok (.iconst 0, 1) := by decide +kernel
theorem dL_law_594 : decode cL_law 594 = .ok (.aload_n 0, 1) := by decide +kernel
theorem dL_law_595 : decode cL_law 595 = .ok (.iload_n 3, 1) := by decide +kernel
theorem dL_law_596 : decode cL_law 596 = .ok (.iconst 5, 1) := by decide +kernel
theorem dL_law_597 : decode cL_law 597 = .ok (.iadd, 1) := by decide +kernel
theorem dL_law_598 : decode cL_law 598 = .ok (.iaload, 1) := by decide +kernel
theorem dL_law_599 : decode cL_law 599 = .ok (.invokevirtual 60, 3) := by decide +kernel
theorem dL_law_602 : decode cL_law 602 = .ok (.aload_n 2, 1) := by decide +kernel
theorem dL_law_603 : decode cL_law 603 = .ok (.aload_n 0, 1) := by decide +kernel
theorem dL_law_604 : decode cL_law 604 = .ok (.iload_n 3, 1) := by decide +kernel
theorem dL_law_605 : decode cL_law 605 = .ok (.iconst 1, 1) := by decide +kernel
theorem dL_law_606 : decode cL_law 606 = .ok (.iadd, 1) := by decide +kernel
theorem dL_law_607 : decode cL_law 607 = .ok (.iaload, 1) := by decide +kernel
theorem dL_law_608 : decode cL_law 608 = .ok (.aload_n 0, 1) := by decide +kernel
theorem dL_law_609 : decode cL_law 609 = .ok (.iload_n 3, 1) := by decide +kernel
theorem dL_law_610 : decode cL_law 610 = .ok (.iconst 2, 1) := by decide +kernel
theorem dL_law_611 : decode cL_law 611 = .ok (.iadd, 1) := by decide +kernel
theorem dL_law_612 : decode cL_law 612 = .ok (.iaload, 1) := by decide +kernel
theorem dL_law_613 : decode cL_law 613 = .ok (.aload_n 0, 1) := by decide +kernel
theorem dL_law_614 : decode cL_law 614 = .ok (.iload_n 3, 1) := by decide +kernel
theorem dL_law_615 : decode cL_law 615 = .ok (.iconst 3, 1) := by decide +kernel
theorem dL_law_616 : decode cL_law 616 = .ok (.iadd, 1) := by decide +kernel
theorem dL_law_617 : decode cL_law 617 = .ok (.iaload, 1) := by decide +kernel
theorem dL_law_618 : decode cL_law 618 = .ok (.aload_n 0, 1) := by decide +kernel
theorem dL_law_619 : decode cL_law 619 = .ok (.iload_n 3, 1) := by decide +kernel
theorem dL_law_620 : decode cL_law 620 = .ok (.iconst 4, 1) := by decide +kernel
theorem dL_law_621 : decode cL_law 621 = .ok (.iadd, 1) := by decide +kernel
theorem dL_law_622 : decode cL_law 622 = .ok (.iaload, 1) := by decide +kernel
theorem dL_law_623 : decode cL_law 623 = .ok (.ifCond .eq 7, 3) := by decide +kernel
theorem dL_law_626 : decode cL_law 626 = .ok (.iconst 1, 1) := by decide +kernel
theorem dL_law_627 : decode cL_law 627 = .ok (.goto 4, 3) := by decide +kernel
theorem dL_law_630 : decode cL_law 630 = .ok (.iconst 0, 1) := by decide +kernel
theorem dL_law_631 : decode cL_law 631 = .ok (.aload_n 0, 1) := by decide +kernel
theorem dL_law_632 : decode cL_law 632 = .ok (.iload_n 3, 1) := by decide +kernel
theorem dL_law_633 : decode cL_law 633 = .ok (.iconst 5, 1) := by decide +kernel
theorem dL_law_634 : decode cL_law 634 = .ok (.iadd, 1) := by decide +kernel
theorem dL_law_635 : decode cL_law 635 = .ok (.iaload, 1) := by decide +kernel
theorem dL_law_636 : decode cL_law 636 = .ok (.invokevirtual 64, 3) := by decide +kernel
theorem dL_law_639 : decode cL_law 639 = .ok (.if_icmp .eq 61, 3) := by decide +kernel
theorem dL_law_642 : decode cL_law 642 = .ok (.iconst 0, 1) := by decide +kernel
theorem dL_law_643 : decode cL_law 643 = .ok (.ireturn, 1) := by decide +kernel
theorem dL_law_644 : decode cL_law 644 = .ok (.aload_n 1, 1) := by decide +kernel
theorem dL_law_645 : decode cL_law 645 = .ok (.aload_n 0, 1) := by decide +kernel
theorem dL_law_646 : decode cL_law 646 = .ok (.iload_n 3, 1) := by decide +kernel
theorem dL_law_647 : decode cL_law 647 = .ok (.iconst 1, 1) := by decide +kernel
theorem dL_law_648 : decode cL_law 648 = .ok (.iadd, 1) := by decide +kernel
theorem dL_law_649 : decode cL_law 649 = .ok (.iaload, 1) := by decide +kernel
theorem dL_law_650 : decode cL_law 650 = .ok (.aload_n 0, 1) := by decide +kernel
theorem dL_law_651 : decode cL_law 651 = .ok (.iload_n 3, 1) := by decide +kernel
theorem dL_law_652 : decode cL_law 652 = .ok (.iconst 2, 1) := by decide +kernel
theorem dL_law_653 : decode cL_law 653 = .ok (.iadd, 1) := by decide +kernel
theorem dL_law_654 : decode cL_law 654 = .ok (.iaload, 1) := by decide +kernel
theorem dL_law_655 : decode cL_law 655 = .ok (.aload_n 0, 1) := by decide +kernel
theorem dL_law_656 : decode cL_law 656 = .ok (.iload_n 3, 1) := by decide +kernel
theorem dL_law_657 : decode cL_law 657 = .ok (.iconst 3, 1) := by decide +kernel
theorem dL_law_658 : decode cL_law 658 = .ok (.iadd, 1) := by decide +kernel
theorem dL_law_659 : decode cL_law 659 = .ok (.iaload, 1) := by decide +kernel
theorem dL_law_660 : decode cL_law 660 = .ok (.invokevirtual 65, 3) := by decide +kernel
theorem dL_law_663 : decode cL_law 663 = .ok (.aload_n 2, 1) := by decide +kernel
theorem dL_law_664 : decode cL_law 664 = .ok (.aload_n 0, 1) := by decide +kernel
theorem dL_law_665 : decode cL_law 665 = .ok (.iload_n 3, 1) := by decide +kernel
theorem dL_law_666 : decode cL_law 666 = .ok (.iconst 1, 1) := by decide +kernel
theorem dL_law_667 : decode cL_law 667 = .ok (.iadd, 1) := by decide +kernel
theorem dL_law_668 : decode cL_law 668 = .ok (.iaload, 1) := by decide +kernel
theorem dL_law_669 : decode cL_law 669 = .ok (.aload_n 0, 1) := by decide +kernel
theorem dL_law_670 : decode cL_law 670 = .ok (.iload_n 3, 1) := by decide +kernel
theorem dL_law_671 : decode cL_law 671 = .ok (.iconst 2, 1) := by decide +kernel
theorem dL_law_672 : decode cL_law 672 = .ok (.iadd, 1) := by decide +kernel
theorem dL_law_673 : decode cL_law 673 = .ok (.iaload, 1) := by decide +kernel
theorem dL_law_674 : decode cL_law 674 = .ok (.aload_n 0, 1) := by decide +kernel
theorem dL_law_675 : decode cL_law 675 = .ok (.iload_n 3, 1) := by decide +kernel
theorem dL_law_676 : decode cL_law 676 = .ok (.iconst 3, 1) := by decide +kernel
theorem dL_law_677 : decode cL_law 677 = .ok (.iadd, 1) := by decide +kernel
theorem dL_law_678 : decode cL_law 678 = .ok (.iaload, 1) := by decide +kernel
theorem dL_law_679 : decode cL_law 679 = .ok (.invokevirtual 68, 3) := by decide +kernel
theorem dL_law_682 : decode cL_law 682 = .ok (.if_icmp .eq 18, 3) := by decide +kernel
theorem dL_law_685 : decode cL_law 685 = .ok (.iconst 0, 1) := by decide +kernel
theorem dL_law_686 : decode cL_law 686 = .ok (.ireturn, 1) := by decide +kernel
theorem dL_law_687 : decode cL_law 687 = .ok (.aload_n 1, 1) := by decide +kernel
theorem dL_law_688 : decode cL_law 688 = .ok (.invokevirtual 69, 3) := by decide +kernel
theorem dL_law_691 : decode cL_law 691 = .ok (.aload_n 2, 1) := by decide +kernel
theorem dL_law_692 : decode cL_law 692 = .ok (.invokevirtual 73, 3) := by decide +kernel
theorem dL_law_695 : decode cL_law 695 = .ok (.if_icmp .eq 5, 3) := by decide +kernel
theorem dL_law_698 : decode cL_law 698 = .ok (.iconst 0, 1) := by decide +kernel
theorem dL_law_699 : decode cL_law 699 = .ok (.ireturn, 1) := by decide +kernel
theorem dL_law_700 : decode cL_law 700 = .ok (.iinc 3 6, 3) := by decide +kernel
theorem dL_law_703 : decode cL_law 703 = .ok (.goto (-685), 3) := by decide +kernel
theorem dL_law_706 : decode cL_law 706 = .ok (.iconst 1, 1) := by decide +kernel
theorem dL_law_707 : decode cL_law 707 = .ok (.ireturn, 1) := by decide +kernel
abbrev vwCl : List vw_C := [(RX0, TX0, 3), (RX1, TX1, 8)]
/-! ===== END printed: names ===== -/
