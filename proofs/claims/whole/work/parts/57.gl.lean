set_option maxRecDepth 100000 in
theorem gLX_init : GoodIn lw_tbl wsX0_init := goodIn_of _ (by decide +kernel)
set_option maxRecDepth 100000 in
theorem gLY_init : GoodIn lw_tbl wsX1_init := goodIn_of _ (by decide +kernel)
theorem gL_of (big ws : List Cond) (is : List Nat) (h : ws.map some = is.map (fun i => big[i]?)) (g : ws.all goodWord = true) : GoodIn big ws := by
  intro w hw
  have h1 : some w ∈ is.map (fun i => big[i]?) := by rw [← h]; exact List.mem_map_of_mem hw
  obtain ⟨i, _, hi⟩ := List.mem_map.mp h1
  exact ⟨List.mem_of_getElem? hi, good_of_word (List.all_eq_true.mp g w hw)⟩
set_option maxRecDepth 100000 in
theorem gLwaY : GoodIn lw_tbl waY := by
  show GoodIn lw_tbl (_ ++ wsX10)
  exact goodIn_app (gL_of _ _ [213, 217, 221, 232, 235, 256, 239, 243, 252, 263, 260, 271, 279, 276, 286, 249, 229, 225, 283, 290, 296, 304, 300, 308, 312, 316, 320, 324, 18, 185, 186, 240, 244, 245, 253, 261, 262, 188, 264, 189, 265, 266, 267, 190, 191, 192, 254, 255, 272, 250, 251, 187, 277, 278, 257, 259, 12, 268, 270, 13, 230, 231, 233, 234, 236, 238, 10, 241, 242, 226, 228, 9, 246, 248, 11, 273, 275, 14, 284, 285, 291, 292, 301, 303, 15, 211, 212, 215, 216, 219, 220, 223, 224, 281, 282, 288, 289, 294, 295, 298, 299, 306, 307, 310, 311, 314, 315, 318, 319, 322, 323] rfl (by decide +kernel)) (goodIn_of _ (by decide +kernel))
theorem gLcY {cd : Cond} {pre : List Cond} (hpre : GoodIn lw_tbl pre) (hcd : cd ∈ waY) : GoodIn lw_tbl (pre ++ (cd :: waY)) := goodIn_app hpre (fun w h => by rcases List.mem_cons.mp h with h | h; rw [h]; exact gLwaY _ hcd; exact gLwaY w h)
set_option maxRecDepth 100000 in
theorem gLX_set : GoodIn lw_tbl (wsV RL 15 RX0 yX0_set wsX0_set) := goodIn_of _ (by decide +kernel)
set_option maxRecDepth 100000 in
theorem gLY_set : GoodIn lw_tbl (wsV RL 19 RX1 yY_set wsY_set) := gLcY (goodIn_of _ (by decide +kernel)) mY_0
set_option maxRecDepth 100000 in
theorem gLX_get : GoodIn lw_tbl (wsV RL 20 RX0 yX0_get wsX0_get) := goodIn_of _ (by decide +kernel)
set_option maxRecDepth 100000 in
theorem gLY_get : GoodIn lw_tbl (wsV RL 24 RX1 yY_get wsY_get) := gLcY (goodIn_of _ (by decide +kernel)) mY_1
set_option maxRecDepth 100000 in
theorem gLX_under : GoodIn lw_tbl (wsV RL 25 RX0 yX0_under wsX0_under) := goodIn_of _ (by decide +kernel)
set_option maxRecDepth 100000 in
theorem gLY_under : GoodIn lw_tbl (wsV RL 29 RX1 yY_under wsY_under) := gLcY (goodIn_of _ (by decide +kernel)) mY_2
set_option maxRecDepth 100000 in
theorem gLX_sum : GoodIn lw_tbl (wsV RL 30 RX0 yX0_sum wsX0_sum) := goodIn_of _ (by decide +kernel)
set_option maxRecDepth 100000 in
theorem gLY_sum : GoodIn lw_tbl (wsV RL 34 RX1 yY_sum wsY_sum) := gLcY (goodIn_of _ (by decide +kernel)) mY_17
set_option maxRecDepth 100000 in
theorem gLX_less : GoodIn lw_tbl (wsV RL 35 RX0 yX0_less wsX0_less) := goodIn_of _ (by decide +kernel)
set_option maxRecDepth 100000 in
theorem gLY_less : GoodIn lw_tbl (wsV RL 38 RX1 yY_less wsY_less) := gLcY (goodIn_of _ (by decide +kernel)) mY_18
set_option maxRecDepth 100000 in
theorem gLX_product : GoodIn lw_tbl (wsV RL 39 RX0 yX0_product wsX0_product) := goodIn_of _ (by decide +kernel)
set_option maxRecDepth 100000 in
theorem gLY_product : GoodIn lw_tbl (wsV RL 42 RX1 yY_product wsY_product) := gLcY (goodIn_of _ (by decide +kernel)) mY_19
set_option maxRecDepth 100000 in
theorem gLX_quotient : GoodIn lw_tbl (wsV RL 43 RX0 yX0_quotient wsX0_quotient) := goodIn_of _ (by decide +kernel)
set_option maxRecDepth 100000 in
theorem gLY_quotient : GoodIn lw_tbl (wsV RL 46 RX1 yY_quotient wsY_quotient) := gLcY (goodIn_of _ (by decide +kernel)) mY_20
set_option maxRecDepth 100000 in
theorem gLX_negative : GoodIn lw_tbl (wsV RL 47 RX0 yX0_negative wsX0_negative) := goodIn_of _ (by decide +kernel)
set_option maxRecDepth 100000 in
theorem gLY_negative : GoodIn lw_tbl (wsV RL 51 RX1 yY_negative wsY_negative) := gLcY (goodIn_of _ (by decide +kernel)) mY_22
set_option maxRecDepth 100000 in
theorem gLX_compare : GoodIn lw_tbl (wsV RL 52 RX0 yX0_compare wsX0_compare) := goodIn_of _ (by decide +kernel)
set_option maxRecDepth 100000 in
theorem gLY_compare : GoodIn lw_tbl (wsV RL 55 RX1 yY_compare wsY_compare) := gLcY (goodIn_of _ (by decide +kernel)) mY_23
set_option maxRecDepth 100000 in
theorem gLX_change : GoodIn lw_tbl (wsV RL 56 RX0 yX0_change wsX0_change) := goodIn_of _ (by decide +kernel)
set_option maxRecDepth 100000 in
theorem gLY_change : GoodIn lw_tbl (wsV RL 59 RX1 yY_change wsY_change) := gLcY (goodIn_of _ (by decide +kernel)) mY_24
set_option maxRecDepth 100000 in
theorem gLX_whole : GoodIn lw_tbl (wsV RL 60 RX0 yX0_whole wsX0_whole) := goodIn_of _ (by decide +kernel)
set_option maxRecDepth 100000 in
theorem gLY_whole : GoodIn lw_tbl (wsV RL 64 RX1 yY_whole wsY_whole) := gLcY (goodIn_of _ (by decide +kernel)) mY_25
set_option maxRecDepth 100000 in
theorem gLX_number : GoodIn lw_tbl (wsV RL 65 RX0 yX0_number wsX0_number) := goodIn_of _ (by decide +kernel)
set_option maxRecDepth 100000 in
theorem gLY_number : GoodIn lw_tbl (wsV RL 68 RX1 yY_number wsY_number) := gLcY (goodIn_of _ (by decide +kernel)) mY_26
set_option maxRecDepth 100000 in
theorem gLX_lost : GoodIn lw_tbl (wsV RL 69 RX0 yX0_lost wsX0_lost) := goodIn_of _ (by decide +kernel)
set_option maxRecDepth 100000 in
theorem gLY_lost : GoodIn lw_tbl (wsV RL 73 RX1 yY_lost wsY_lost) := gLcY (goodIn_of _ (by decide +kernel)) mY_27
