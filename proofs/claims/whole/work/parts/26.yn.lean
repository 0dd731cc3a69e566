theorem xj_ge {y z : Int32} (e : y = z) (h : 0 ≤ y) : 0 ≤ z := e ▸ h
abbrev cY_set : ByteArray := prog_3_method_2_code
def yY_set : MethodName := ⟨RX1, "set", "(IJ)Z"⟩
abbrev cY_get : ByteArray := prog_3_method_3_code
def yY_get : MethodName := ⟨RX1, "get", "(I)J"⟩
abbrev cY_under : ByteArray := prog_3_method_4_code
def yY_under : MethodName := ⟨RX1, "under", "(Z)V"⟩
abbrev cY_isSize : ByteArray := prog_3_method_5_code
def yY_isSize : MethodName := ⟨RX1, "isSize", "(I)Z"⟩
abbrev cY_isRegister : ByteArray := prog_3_method_6_code
def yY_isRegister : MethodName := ⟨RX1, "isRegister", "(I)Z"⟩
abbrev cY_many : ByteArray := prog_3_method_7_code
def yY_many : MethodName := ⟨RX1, "many", "(I)I"⟩
abbrev cY_in : ByteArray := prog_3_method_8_code
def yY_in : MethodName := ⟨RX1, "in", "(II)J"⟩
abbrev cY_isReserved : ByteArray := prog_3_method_9_code
def yY_isReserved : MethodName := ⟨RX1, "isReserved", "(J)Z"⟩
abbrev cY_isZero : ByteArray := prog_3_method_10_code
def yY_isZero : MethodName := ⟨RX1, "isZero", "(J)Z"⟩
abbrev cY_isBelow : ByteArray := prog_3_method_11_code
def yY_isBelow : MethodName := ⟨RX1, "isBelow", "(J)Z"⟩
abbrev cY_take : ByteArray := prog_3_method_12_code
def yY_take : MethodName := ⟨RX1, "take", "(IJ)V"⟩
abbrev cY_rounds : ByteArray := prog_3_method_13_code
def yY_rounds : MethodName := ⟨RX1, "rounds", "(IZJIZ)J"⟩
abbrev cY_flags : ByteArray := prog_3_method_14_code
def yY_flags : MethodName := ⟨RX1, "flags", "(J)I"⟩
abbrev cY_gives : ByteArray := prog_3_method_15_code
def yY_gives : MethodName := ⟨RX1, "gives", "(JI)I"⟩
abbrev cY_other : ByteArray := prog_3_method_16_code
def yY_other : MethodName := ⟨RX1, "other", "(J)J"⟩
abbrev cY_added : ByteArray := prog_3_method_17_code
def yY_added : MethodName := ⟨RX1, "added", "(IJJ)J"⟩
abbrev cY_two : ByteArray := prog_3_method_18_code
def yY_two : MethodName := ⟨RX1, "two", "(IIII)I"⟩
abbrev cY_sum : ByteArray := prog_3_method_19_code
def yY_sum : MethodName := ⟨RX1, "sum", "(IIII)I"⟩
abbrev cY_less : ByteArray := prog_3_method_20_code
def yY_less : MethodName := ⟨RX1, "less", "(IIII)I"⟩
abbrev cY_product : ByteArray := prog_3_method_21_code
def yY_product : MethodName := ⟨RX1, "product", "(IIII)I"⟩
abbrev cY_quotient : ByteArray := prog_3_method_22_code
def yY_quotient : MethodName := ⟨RX1, "quotient", "(IIII)I"⟩
abbrev cY_one : ByteArray := prog_3_method_23_code
def yY_one : MethodName := ⟨RX1, "one", "(III)I"⟩
abbrev cY_negative : ByteArray := prog_3_method_24_code
def yY_negative : MethodName := ⟨RX1, "negative", "(III)I"⟩
abbrev cY_compare : ByteArray := prog_3_method_25_code
def yY_compare : MethodName := ⟨RX1, "compare", "(III)I"⟩
abbrev cY_change : ByteArray := prog_3_method_26_code
def yY_change : MethodName := ⟨RX1, "change", "(III)I"⟩
abbrev cY_whole : ByteArray := prog_3_method_27_code
def yY_whole : MethodName := ⟨RX1, "whole", "(IIIZI)I"⟩
abbrev cY_number : ByteArray := prog_3_method_28_code
def yY_number : MethodName := ⟨RX1, "number", "(III)I"⟩
abbrev cY_lost : ByteArray := prog_3_method_29_code
def yY_lost : MethodName := ⟨RX1, "lost", "()Z"⟩
def waY : List Cond := [.code yY_set cY_set 4 (some .boolean), .code yY_get cY_get 2 (some .long), .code yY_under cY_under 2 none, .code yY_isSize cY_isSize 1 (some .boolean), .code yY_isRegister cY_isRegister 1 (some .boolean), .code yY_many cY_many 1 (some .int), .code yY_in cY_in 3 (some .long), .code yY_isReserved cY_isReserved 2 (some .boolean), .code yY_isZero cY_isZero 2 (some .boolean), .code yY_isBelow cY_isBelow 2 (some .boolean), .code yY_take cY_take 6 none, .code yY_rounds cY_rounds 17 (some .long), .code yY_flags cY_flags 2 (some .int), .code yY_gives cY_gives 4 (some .int), .code yY_other cY_other 2 (some .long), .code yY_added cY_added 26 (some .long), .code yY_two cY_two 5 (some .int), .code yY_sum cY_sum 6 (some .int), .code yY_less cY_less 6 (some .int), .code yY_product cY_product 20 (some .int), .code yY_quotient cY_quotient 16 (some .int), .code yY_one cY_one 4 (some .int), .code yY_negative cY_negative 5 (some .int), .code yY_compare cY_compare 15 (some .int), .code yY_change cY_change 5 (some .int), .code yY_whole cY_whole 13 (some .int), .code yY_number cY_number 6 (some .int), .code yY_lost cY_lost 1 (some .boolean), .initialized RX1, .fieldLink RX1 7 "ExactFloatsModel" "register" "[J", .fieldLink RX1 13 "ExactFloatsModel" "asked" "Z", .constantLong RX1 17 (4294967295 : Int64), .constantLong RX1 19 (65408 : Int64), .constantLong RX1 21 (32768 : Int64), .constantLong RX1 23 (32640 : Int64), .methodLink RX1 25 yY_isBelow, .static yY_isBelow, .fieldLink RX1 29 "ExactFloatsModel" "minus" "Z", .constantLong RX1 32 (255 : Int64), .fieldLink RX1 34 "ExactFloatsModel" "exponent" "I", .constantLong RX1 38 (127 : Int64), .constantLong RX1 40 (65535 : Int64), .constantLong RX1 42 (36028797018963968 : Int64), .fieldLink RX1 44 "ExactFloatsModel" "bits" "J", .fieldLink RX1 48 "ExactFloatsModel" "fault" "I", .fieldLink RX1 51 "ExactFloatsModel" "cut" "Z", .methodLink RX1 54 yY_many, .static yY_many, .constantLong RX1 58 (36028797018963967 : Int64), .methodLink RX1 60 yY_isZero, .static yY_isZero, .fieldLink RX1 63 "ExactFloatsModel" "isLost" "Z", .methodLink RX1 66 yY_flags, .static yY_flags, .methodLink RX1 70 yY_take, .instanceMethod yY_take, .selects RX1 yY_take yY_take, .methodLink RX1 74 yY_rounds, .instanceMethod yY_rounds, .selects RX1 yY_rounds yY_rounds, .methodLink RX1 78 yY_isSize, .static yY_isSize, .methodLink RX1 82 yY_isRegister, .static yY_isRegister, .methodLink RX1 85 yY_in, .instanceMethod yY_in, .selects RX1 yY_in yY_in, .methodLink RX1 89 yY_isReserved, .static yY_isReserved, .methodLink RX1 92 yY_two, .instanceMethod yY_two, .selects RX1 yY_two yY_two, .methodLink RX1 96 yY_added, .instanceMethod yY_added, .selects RX1 yY_added yY_added, .methodLink RX1 100 yY_gives, .instanceMethod yY_gives, .selects RX1 yY_gives yY_gives, .methodLink RX1 104 yY_other, .static yY_other, .constantLong RX1 108 (268435455 : Int64), .constantLong RX1 110 (4194303 : Int64), .methodLink RX1 112 yY_one, .instanceMethod yY_one, .selects RX1 yY_one yY_one, .instanceMethod yY_set, .selects RX1 yY_set yY_set, .instanceMethod yY_get, .selects RX1 yY_get yY_get, .instanceMethod yY_under, .selects RX1 yY_under yY_under, .instanceMethod yY_sum, .selects RX1 yY_sum yY_sum, .instanceMethod yY_less, .selects RX1 yY_less yY_less, .instanceMethod yY_product, .selects RX1 yY_product yY_product, .instanceMethod yY_quotient, .selects RX1 yY_quotient yY_quotient, .instanceMethod yY_negative, .selects RX1 yY_negative yY_negative, .instanceMethod yY_compare, .selects RX1 yY_compare yY_compare, .instanceMethod yY_change, .selects RX1 yY_change yY_change, .instanceMethod yY_whole, .selects RX1 yY_whole yY_whole, .instanceMethod yY_number, .selects RX1 yY_number yY_number, .instanceMethod yY_lost, .selects RX1 yY_lost yY_lost] ++ wsX10
def wsY_set : List Cond := .code yY_set cY_set 4 (some .boolean) :: waY
def wsY_get : List Cond := .code yY_get cY_get 2 (some .long) :: waY
def wsY_under : List Cond := .code yY_under cY_under 2 none :: waY
def wsY_isSize : List Cond := .code yY_isSize cY_isSize 1 (some .boolean) :: waY
def wsY_isRegister : List Cond := .code yY_isRegister cY_isRegister 1 (some .boolean) :: waY
def wsY_many : List Cond := .code yY_many cY_many 1 (some .int) :: waY
def wsY_in : List Cond := .code yY_in cY_in 3 (some .long) :: waY
def wsY_isReserved : List Cond := .code yY_isReserved cY_isReserved 2 (some .boolean) :: waY
def wsY_isZero : List Cond := .code yY_isZero cY_isZero 2 (some .boolean) :: waY
def wsY_isBelow : List Cond := .code yY_isBelow cY_isBelow 2 (some .boolean) :: waY
def wsY_take : List Cond := .code yY_take cY_take 6 none :: waY
def wsY_rounds : List Cond := .code yY_rounds cY_rounds 17 (some .long) :: waY
def wsY_flags : List Cond := .code yY_flags cY_flags 2 (some .int) :: waY
def wsY_gives : List Cond := .code yY_gives cY_gives 4 (some .int) :: waY
def wsY_other : List Cond := .code yY_other cY_other 2 (some .long) :: waY
def wsY_added : List Cond := .code yY_added cY_added 26 (some .long) :: waY
def wsY_two : List Cond := .code yY_two cY_two 5 (some .int) :: waY
def wsY_sum : List Cond := .code yY_sum cY_sum 6 (some .int) :: waY
def wsY_less : List Cond := .code yY_less cY_less 6 (some .int) :: waY
def wsY_product : List Cond := .code yY_product cY_product 20 (some .int) :: waY
def wsY_quotient : List Cond := .code yY_quotient cY_quotient 16 (some .int) :: waY
def wsY_one : List Cond := .code yY_one cY_one 4 (some .int) :: waY
def wsY_negative : List Cond := .code yY_negative cY_negative 5 (some .int) :: waY
def wsY_compare : List Cond := .code yY_compare cY_compare 15 (some .int) :: waY
def wsY_change : List Cond := .code yY_change cY_change 5 (some .int) :: waY
def wsY_whole : List Cond := .code yY_whole cY_whole 13 (some .int) :: waY
def wsY_number : List Cond := .code yY_number cY_number 6 (some .int) :: waY
def wsY_lost : List Cond := .code yY_lost cY_lost 1 (some .boolean) :: waY
abbrev cY_init : ByteArray := cX1_init
abbrev yY_init : MethodName := yX1_init
abbrev wsY_init : List Cond := wsX1_init
theorem inY : ∀ w ∈ wsX10, w ∈ waY := fun w h => List.mem_append_right _ h
theorem mY_0 : (.code yY_set cY_set 4 (some .boolean) : Cond) ∈ waY := List.mem_of_getElem? (i := 0) rfl
theorem mY_1 : (.code yY_get cY_get 2 (some .long) : Cond) ∈ waY := List.mem_of_getElem? (i := 1) rfl
theorem mY_2 : (.code yY_under cY_under 2 none : Cond) ∈ waY := List.mem_of_getElem? (i := 2) rfl
theorem mY_3 : (.code yY_isSize cY_isSize 1 (some .boolean) : Cond) ∈ waY := List.mem_of_getElem? (i := 3) rfl
theorem mY_4 : (.code yY_isRegister cY_isRegister 1 (some .boolean) : Cond) ∈ waY := List.mem_of_getElem? (i := 4) rfl
theorem mY_5 : (.code yY_many cY_many 1 (some .int) : Cond) ∈ waY := List.mem_of_getElem? (i := 5) rfl
theorem mY_6 : (.code yY_in cY_in 3 (some .long) : Cond) ∈ waY := List.mem_of_getElem? (i := 6) rfl
theorem mY_7 : (.code yY_isReserved cY_isReserved 2 (some .boolean) : Cond) ∈ waY := List.mem_of_getElem? (i := 7) rfl
theorem mY_8 : (.code yY_isZero cY_isZero 2 (some .boolean) : Cond) ∈ waY := List.mem_of_getElem? (i := 8) rfl
theorem mY_9 : (.code yY_isBelow cY_isBelow 2 (some .boolean) : Cond) ∈ waY := List.mem_of_getElem? (i := 9) rfl
theorem mY_10 : (.code yY_take cY_take 6 none : Cond) ∈ waY := List.mem_of_getElem? (i := 10) rfl
theorem mY_11 : (.code yY_rounds cY_rounds 17 (some .long) : Cond) ∈ waY := List.mem_of_getElem? (i := 11) rfl
theorem mY_12 : (.code yY_flags cY_flags 2 (some .int) : Cond) ∈ waY := List.mem_of_getElem? (i := 12) rfl
theorem mY_13 : (.code yY_gives cY_gives 4 (some .int) : Cond) ∈ waY := List.mem_of_getElem? (i := 13) rfl
theorem mY_14 : (.code yY_other cY_other 2 (some .long) : Cond) ∈ waY := List.mem_of_getElem? (i := 14) rfl
theorem mY_15 : (.code yY_added cY_added 26 (some .long) : Cond) ∈ waY := List.mem_of_getElem? (i := 15) rfl
theorem mY_16 : (.code yY_two cY_two 5 (some .int) : Cond) ∈ waY := List.mem_of_getElem? (i := 16) rfl
theorem mY_17 : (.code yY_sum cY_sum 6 (some .int) : Cond) ∈ waY := List.mem_of_getElem? (i := 17) rfl
theorem mY_18 : (.code yY_less cY_less 6 (some .int) : Cond) ∈ waY := List.mem_of_getElem? (i := 18) rfl
theorem mY_19 : (.code yY_product cY_product 20 (some .int) : Cond) ∈ waY := List.mem_of_getElem? (i := 19) rfl
theorem mY_20 : (.code yY_quotient cY_quotient 16 (some .int) : Cond) ∈ waY := List.mem_of_getElem? (i := 20) rfl
theorem mY_21 : (.code yY_one cY_one 4 (some .int) : Cond) ∈ waY := List.mem_of_getElem? (i := 21) rfl
theorem mY_22 : (.code yY_negative cY_negative 5 (some .int) : Cond) ∈ waY := List.mem_of_getElem? (i := 22) rfl
theorem mY_23 : (.code yY_compare cY_compare 15 (some .int) : Cond) ∈ waY := List.mem_of_getElem? (i := 23) rfl
theorem mY_24 : (.code yY_change cY_change 5 (some .int) : Cond) ∈ waY := List.mem_of_getElem? (i := 24) rfl
theorem mY_25 : (.code yY_whole cY_whole 13 (some .int) : Cond) ∈ waY := List.mem_of_getElem? (i := 25) rfl
theorem mY_26 : (.code yY_number cY_number 6 (some .int) : Cond) ∈ waY := List.mem_of_getElem? (i := 26) rfl
theorem mY_27 : (.code yY_lost cY_lost 1 (some .boolean) : Cond) ∈ waY := List.mem_of_getElem? (i := 27) rfl
theorem mY_28 : (.initialized RX1 : Cond) ∈ waY := List.mem_of_getElem? (i := 28) rfl
theorem mY_29 : (.fieldLink RX1 7 "ExactFloatsModel" "register" "[J" : Cond) ∈ waY := List.mem_of_getElem? (i := 29) rfl
theorem mY_30 : (.fieldLink RX1 13 "ExactFloatsModel" "asked" "Z" : Cond) ∈ waY := List.mem_of_getElem? (i := 30) rfl
theorem mY_31 : (.constantLong RX1 17 (4294967295 : Int64) : Cond) ∈ waY := List.mem_of_getElem? (i := 31) rfl
theorem mY_32 : (.constantLong RX1 19 (65408 : Int64) : Cond) ∈ waY := List.mem_of_getElem? (i := 32) rfl
theorem mY_33 : (.constantLong RX1 21 (32768 : Int64) : Cond) ∈ waY := List.mem_of_getElem? (i := 33) rfl
theorem mY_34 : (.constantLong RX1 23 (32640 : Int64) : Cond) ∈ waY := List.mem_of_getElem? (i := 34) rfl
theorem mY_35 : (.methodLink RX1 25 yY_isBelow : Cond) ∈ waY := List.mem_of_getElem? (i := 35) rfl
theorem mY_36 : (.static yY_isBelow : Cond) ∈ waY := List.mem_of_getElem? (i := 36) rfl
theorem mY_37 : (.fieldLink RX1 29 "ExactFloatsModel" "minus" "Z" : Cond) ∈ waY := List.mem_of_getElem? (i := 37) rfl
theorem mY_38 : (.constantLong RX1 32 (255 : Int64) : Cond) ∈ waY := List.mem_of_getElem? (i := 38) rfl
theorem mY_39 : (.fieldLink RX1 34 "ExactFloatsModel" "exponent" "I" : Cond) ∈ waY := List.mem_of_getElem? (i := 39) rfl
theorem mY_40 : (.constantLong RX1 38 (127 : Int64) : Cond) ∈ waY := List.mem_of_getElem? (i := 40) rfl
theorem mY_41 : (.constantLong RX1 40 (65535 : Int64) : Cond) ∈ waY := List.mem_of_getElem? (i := 41) rfl
theorem mY_42 : (.constantLong RX1 42 (36028797018963968 : Int64) : Cond) ∈ waY := List.mem_of_getElem? (i := 42) rfl
theorem mY_43 : (.fieldLink RX1 44 "ExactFloatsModel" "bits" "J" : Cond) ∈ waY := List.mem_of_getElem? (i := 43) rfl
theorem mY_44 : (.fieldLink RX1 48 "ExactFloatsModel" "fault" "I" : Cond) ∈ waY := List.mem_of_getElem? (i := 44) rfl
theorem mY_45 : (.fieldLink RX1 51 "ExactFloatsModel" "cut" "Z" : Cond) ∈ waY := List.mem_of_getElem? (i := 45) rfl
theorem mY_46 : (.methodLink RX1 54 yY_many : Cond) ∈ waY := List.mem_of_getElem? (i := 46) rfl
theorem mY_47 : (.static yY_many : Cond) ∈ waY := List.mem_of_getElem? (i := 47) rfl
theorem mY_48 : (.constantLong RX1 58 (36028797018963967 : Int64) : Cond) ∈ waY := List.mem_of_getElem? (i := 48) rfl
theorem mY_49 : (.methodLink RX1 60 yY_isZero : Cond) ∈ waY := List.mem_of_getElem? (i := 49) rfl
theorem mY_50 : (.static yY_isZero : Cond) ∈ waY := List.mem_of_getElem? (i := 50) rfl
theorem mY_51 : (.fieldLink RX1 63 "ExactFloatsModel" "isLost" "Z" : Cond) ∈ waY := List.mem_of_getElem? (i := 51) rfl
theorem mY_52 : (.methodLink RX1 66 yY_flags : Cond) ∈ waY := List.mem_of_getElem? (i := 52) rfl
theorem mY_53 : (.static yY_flags : Cond) ∈ waY := List.mem_of_getElem? (i := 53) rfl
theorem mY_54 : (.methodLink RX1 70 yY_take : Cond) ∈ waY := List.mem_of_getElem? (i := 54) rfl
theorem mY_55 : (.instanceMethod yY_take : Cond) ∈ waY := List.mem_of_getElem? (i := 55) rfl
theorem mY_56 : (.selects RX1 yY_take yY_take : Cond) ∈ waY := List.mem_of_getElem? (i := 56) rfl
theorem mY_57 : (.methodLink RX1 74 yY_rounds : Cond) ∈ waY := List.mem_of_getElem? (i := 57) rfl
theorem mY_58 : (.instanceMethod yY_rounds : Cond) ∈ waY := List.mem_of_getElem? (i := 58) rfl
theorem mY_59 : (.selects RX1 yY_rounds yY_rounds : Cond) ∈ waY := List.mem_of_getElem? (i := 59) rfl
theorem mY_60 : (.methodLink RX1 78 yY_isSize : Cond) ∈ waY := List.mem_of_getElem? (i := 60) rfl
theorem mY_61 : (.static yY_isSize : Cond) ∈ waY := List.mem_of_getElem? (i := 61) rfl
theorem mY_62 : (.methodLink RX1 82 yY_isRegister : Cond) ∈ waY := List.mem_of_getElem? (i := 62) rfl
theorem mY_63 : (.static yY_isRegister : Cond) ∈ waY := List.mem_of_getElem? (i := 63) rfl
theorem mY_64 : (.methodLink RX1 85 yY_in : Cond) ∈ waY := List.mem_of_getElem? (i := 64) rfl
theorem mY_65 : (.instanceMethod yY_in : Cond) ∈ waY := List.mem_of_getElem? (i := 65) rfl
theorem mY_66 : (.selects RX1 yY_in yY_in : Cond) ∈ waY := List.mem_of_getElem? (i := 66) rfl
theorem mY_67 : (.methodLink RX1 89 yY_isReserved : Cond) ∈ waY := List.mem_of_getElem? (i := 67) rfl
theorem mY_68 : (.static yY_isReserved : Cond) ∈ waY := List.mem_of_getElem? (i := 68) rfl
theorem mY_69 : (.methodLink RX1 92 yY_two : Cond) ∈ waY := List.mem_of_getElem? (i := 69) rfl
theorem mY_70 : (.instanceMethod yY_two : Cond) ∈ waY := List.mem_of_getElem? (i := 70) rfl
theorem mY_71 : (.selects RX1 yY_two yY_two : Cond) ∈ waY := List.mem_of_getElem? (i := 71) rfl
theorem mY_72 : (.methodLink RX1 96 yY_added : Cond) ∈ waY := List.mem_of_getElem? (i := 72) rfl
theorem mY_73 : (.instanceMethod yY_added : Cond) ∈ waY := List.mem_of_getElem? (i := 73) rfl
theorem mY_74 : (.selects RX1 yY_added yY_added : Cond) ∈ waY := List.mem_of_getElem? (i := 74) rfl
theorem mY_75 : (.methodLink RX1 100 yY_gives : Cond) ∈ waY := List.mem_of_getElem? (i := 75) rfl
theorem mY_76 : (.instanceMethod yY_gives : Cond) ∈ waY := List.mem_of_getElem? (i := 76) rfl
theorem mY_77 : (.selects RX1 yY_gives yY_gives : Cond) ∈ waY := List.mem_of_getElem? (i := 77) rfl
theorem mY_78 : (.methodLink RX1 104 yY_other : Cond) ∈ waY := List.mem_of_getElem? (i := 78) rfl
theorem mY_79 : (.static yY_other : Cond) ∈ waY := List.mem_of_getElem? (i := 79) rfl
theorem mY_80 : (.constantLong RX1 108 (268435455 : Int64) : Cond) ∈ waY := List.mem_of_getElem? (i := 80) rfl
theorem mY_81 : (.constantLong RX1 110 (4194303 : Int64) : Cond) ∈ waY := List.mem_of_getElem? (i := 81) rfl
theorem mY_82 : (.methodLink RX1 112 yY_one : Cond) ∈ waY := List.mem_of_getElem? (i := 82) rfl
theorem mY_83 : (.instanceMethod yY_one : Cond) ∈ waY := List.mem_of_getElem? (i := 83) rfl
theorem mY_84 : (.selects RX1 yY_one yY_one : Cond) ∈ waY := List.mem_of_getElem? (i := 84) rfl
theorem mY_85 : (.instanceMethod yY_set : Cond) ∈ waY := List.mem_of_getElem? (i := 85) rfl
theorem mY_86 : (.selects RX1 yY_set yY_set : Cond) ∈ waY := List.mem_of_getElem? (i := 86) rfl
theorem mY_87 : (.instanceMethod yY_get : Cond) ∈ waY := List.mem_of_getElem? (i := 87) rfl
theorem mY_88 : (.selects RX1 yY_get yY_get : Cond) ∈ waY := List.mem_of_getElem? (i := 88) rfl
theorem mY_89 : (.instanceMethod yY_under : Cond) ∈ waY := List.mem_of_getElem? (i := 89) rfl
theorem mY_90 : (.selects RX1 yY_under yY_under : Cond) ∈ waY := List.mem_of_getElem? (i := 90) rfl
theorem mY_91 : (.instanceMethod yY_sum : Cond) ∈ waY := List.mem_of_getElem? (i := 91) rfl
theorem mY_92 : (.selects RX1 yY_sum yY_sum : Cond) ∈ waY := List.mem_of_getElem? (i := 92) rfl
theorem mY_93 : (.instanceMethod yY_less : Cond) ∈ waY := List.mem_of_getElem? (i := 93) rfl
theorem mY_94 : (.selects RX1 yY_less yY_less : Cond) ∈ waY := List.mem_of_getElem? (i := 94) rfl
theorem mY_95 : (.instanceMethod yY_product : Cond) ∈ waY := List.mem_of_getElem? (i := 95) rfl
theorem mY_96 : (.selects RX1 yY_product yY_product : Cond) ∈ waY := List.mem_of_getElem? (i := 96) rfl
theorem mY_97 : (.instanceMethod yY_quotient : Cond) ∈ waY := List.mem_of_getElem? (i := 97) rfl
theorem mY_98 : (.selects RX1 yY_quotient yY_quotient : Cond) ∈ waY := List.mem_of_getElem? (i := 98) rfl
theorem mY_99 : (.instanceMethod yY_negative : Cond) ∈ waY := List.mem_of_getElem? (i := 99) rfl
theorem mY_100 : (.selects RX1 yY_negative yY_negative : Cond) ∈ waY := List.mem_of_getElem? (i := 100) rfl
theorem mY_101 : (.instanceMethod yY_compare : Cond) ∈ waY := List.mem_of_getElem? (i := 101) rfl
theorem mY_102 : (.selects RX1 yY_compare yY_compare : Cond) ∈ waY := List.mem_of_getElem? (i := 102) rfl
theorem mY_103 : (.instanceMethod yY_change : Cond) ∈ waY := List.mem_of_getElem? (i := 103) rfl
theorem mY_104 : (.selects RX1 yY_change yY_change : Cond) ∈ waY := List.mem_of_getElem? (i := 104) rfl
theorem mY_105 : (.instanceMethod yY_whole : Cond) ∈ waY := List.mem_of_getElem? (i := 105) rfl
theorem mY_106 : (.selects RX1 yY_whole yY_whole : Cond) ∈ waY := List.mem_of_getElem? (i := 106) rfl
theorem mY_107 : (.instanceMethod yY_number : Cond) ∈ waY := List.mem_of_getElem? (i := 107) rfl
theorem mY_108 : (.selects RX1 yY_number yY_number : Cond) ∈ waY := List.mem_of_getElem? (i := 108) rfl
theorem mY_109 : (.instanceMethod yY_lost : Cond) ∈ waY := List.mem_of_getElem? (i := 109) rfl
theorem mY_110 : (.selects RX1 yY_lost yY_lost : Cond) ∈ waY := List.mem_of_getElem? (i := 110) rfl
set_option maxRecDepth 100000 in
theorem gwY : waY.all goodWord = true := by decide +kernel
theorem gaY : GoodIn waY waY := fun w h => ⟨h, good_of_word (List.all_eq_true.mp gwY w h)⟩
theorem gcY {c0 cd : Cond} {pre : List Cond} (hpre : ∀ w ∈ pre, w ∈ waY) (hcd : cd ∈ waY) : GoodIn (c0 :: waY) (pre ++ (cd :: waY)) := by
  intro w h
  have hw : w ∈ waY := by
    rcases List.mem_append.mp h with h | h
    · exact hpre w h
    · rcases List.mem_cons.mp h with h | h
      · rw [h]; exact hcd
      · exact h
  exact ⟨List.mem_cons_of_mem _ hw, (gaY w hw).2⟩
theorem m4Y {a b c d : Cond} (h1 : a ∈ waY) (h2 : b ∈ waY) (h3 : c ∈ waY) (h4 : d ∈ waY) : ∀ w ∈ [a, b, c, d], w ∈ waY := by
  intro w h
  simp only [List.mem_cons, List.not_mem_nil, or_false] at h
  rcases h with rfl | rfl | rfl | rfl <;> assumption
theorem m3Y {a b c : Cond} (h1 : a ∈ waY) (h2 : b ∈ waY) (h3 : c ∈ waY) : ∀ w ∈ [a, b, c], w ∈ waY := by
  intro w h
  simp only [List.mem_cons, List.not_mem_nil, or_false] at h
  rcases h with rfl | rfl | rfl <;> assumption
theorem gY_isBelow (c0 : Cond) : GoodIn (c0 :: waY) (va_wsS RX1 25 yY_isBelow wsY_isBelow) := gcY (m3Y mY_35 mY_36 mY_28) mY_9
theorem gY_many (c0 : Cond) : GoodIn (c0 :: waY) (va_wsS RX1 54 yY_many wsY_many) := gcY (m3Y mY_46 mY_47 mY_28) mY_5
theorem gY_isZero (c0 : Cond) : GoodIn (c0 :: waY) (va_wsS RX1 60 yY_isZero wsY_isZero) := gcY (m3Y mY_49 mY_50 mY_28) mY_8
theorem gY_flags (c0 : Cond) : GoodIn (c0 :: waY) (va_wsS RX1 66 yY_flags wsY_flags) := gcY (m3Y mY_52 mY_53 mY_28) mY_12
theorem gY_take (c0 : Cond) : GoodIn (c0 :: waY) (wsV RX1 70 RX1 yY_take wsY_take) := gcY (m4Y mY_54 mY_55 mY_56 mY_28) mY_10
theorem gY_rounds (c0 : Cond) : GoodIn (c0 :: waY) (wsV RX1 74 RX1 yY_rounds wsY_rounds) := gcY (m4Y mY_57 mY_58 mY_59 mY_28) mY_11
theorem gY_isSize (c0 : Cond) : GoodIn (c0 :: waY) (va_wsS RX1 78 yY_isSize wsY_isSize) := gcY (m3Y mY_60 mY_61 mY_28) mY_3
theorem gY_isRegister (c0 : Cond) : GoodIn (c0 :: waY) (va_wsS RX1 82 yY_isRegister wsY_isRegister) := gcY (m3Y mY_62 mY_63 mY_28) mY_4
theorem gY_in (c0 : Cond) : GoodIn (c0 :: waY) (wsV RX1 85 RX1 yY_in wsY_in) := gcY (m4Y mY_64 mY_65 mY_66 mY_28) mY_6
theorem gY_isReserved (c0 : Cond) : GoodIn (c0 :: waY) (va_wsS RX1 89 yY_isReserved wsY_isReserved) := gcY (m3Y mY_67 mY_68 mY_28) mY_7
theorem gY_two (c0 : Cond) : GoodIn (c0 :: waY) (wsV RX1 92 RX1 yY_two wsY_two) := gcY (m4Y mY_69 mY_70 mY_71 mY_28) mY_16
theorem gY_added (c0 : Cond) : GoodIn (c0 :: waY) (wsV RX1 96 RX1 yY_added wsY_added) := gcY (m4Y mY_72 mY_73 mY_74 mY_28) mY_15
theorem gY_gives (c0 : Cond) : GoodIn (c0 :: waY) (wsV RX1 100 RX1 yY_gives wsY_gives) := gcY (m4Y mY_75 mY_76 mY_77 mY_28) mY_13
theorem gY_other (c0 : Cond) : GoodIn (c0 :: waY) (va_wsS RX1 104 yY_other wsY_other) := gcY (m3Y mY_78 mY_79 mY_28) mY_14
theorem gY_one (c0 : Cond) : GoodIn (c0 :: waY) (wsV RX1 112 RX1 yY_one wsY_one) := gcY (m4Y mY_82 mY_83 mY_84 mY_28) mY_21
