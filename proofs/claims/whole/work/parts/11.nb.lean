theorem dX0_init_0 : decode cX0_init 0 = .ok (.aload_n 0, 1) := by decide +kernel
theorem dX0_init_1 : decode cX0_init 1 = .ok (.invokespecial 3, 3) := by decide +kernel
theorem dX0_init_4 : decode cX0_init 4 = .ok (.aload_n 0, 1) := by decide +kernel
theorem dX0_init_5 : decode cX0_init 5 = .ok (.bipush 8, 2) := by decide +kernel
theorem dX0_init_7 : decode cX0_init 7 = .ok (.newarray .long, 2) := by decide +kernel
theorem dX0_init_9 : decode cX0_init 9 = .ok (.putfield 9, 3) := by decide +kernel
theorem dX0_init_12 : decode cX0_init 12 = .ok (.aload_n 0, 1) := by decide +kernel
theorem dX0_init_13 : decode cX0_init 13 = .ok (.iconst 0, 1) := by decide +kernel
theorem dX0_init_14 : decode cX0_init 14 = .ok (.putfield 13, 3) := by decide +kernel
theorem dX0_init_17 : decode cX0_init 17 = .ok (.aload_n 0, 1) := by decide +kernel
theorem dX0_init_18 : decode cX0_init 18 = .ok (.iconst 0, 1) := by decide +kernel
theorem dX0_init_19 : decode cX0_init 19 = .ok (.putfield 17, 3) := by decide +kernel
theorem dX0_init_22 : decode cX0_init 22 = .ok (.return_, 1) := by decide +kernel
set_option maxRecDepth 20000 in
theorem ggX0_set_X0_isRegister : GoodIn wsX0_set wsX0_isRegister := goodIn_r _ [5] (by decide +kernel) (by decide +kernel)
set_option maxRecDepth 20000 in
theorem gX0_set_X0_isRegister : GoodIn wsX0_set (va_wsS RX0 20 yX0_isRegister wsX0_isRegister) := goodIn_app (goodIn_of _ (by decide +kernel)) ggX0_set_X0_isRegister
theorem dX0_set_0 : decode cX0_set 0 = .ok (.iload_n 1, 1) := by decide +kernel
theorem dX0_set_1 : decode cX0_set 1 = .ok (.invokestatic 20, 3) := by decide +kernel
theorem dX0_set_4 : decode cX0_set 4 = .ok (.ifCond .ne 5, 3) := by decide +kernel
theorem dX0_set_7 : decode cX0_set 7 = .ok (.iconst 0, 1) := by decide +kernel
theorem dX0_set_8 : decode cX0_set 8 = .ok (.ireturn, 1) := by decide +kernel
theorem dX0_set_9 : decode cX0_set 9 = .ok (.aload_n 0, 1) := by decide +kernel
theorem dX0_set_10 : decode cX0_set 10 = .ok (.getfield 9, 3) := by decide +kernel
theorem dX0_set_13 : decode cX0_set 13 = .ok (.iload_n 1, 1) := by decide +kernel
theorem dX0_set_14 : decode cX0_set 14 = .ok (.lload_n 2, 1) := by decide +kernel
theorem dX0_set_15 : decode cX0_set 15 = .ok (.lastore, 1) := by decide +kernel
theorem dX0_set_16 : decode cX0_set 16 = .ok (.iconst 1, 1) := by decide +kernel
theorem dX0_set_17 : decode cX0_set 17 = .ok (.ireturn, 1) := by decide +kernel
set_option maxRecDepth 20000 in
theorem ggX0_get_X0_isRegister : GoodIn wsX0_get wsX0_isRegister := goodIn_r _ [5] (by decide +kernel) (by decide +kernel)
set_option maxRecDepth 20000 in
theorem gX0_get_X0_isRegister : GoodIn wsX0_get (va_wsS RX0 20 yX0_isRegister wsX0_isRegister) := goodIn_app (goodIn_of _ (by decide +kernel)) ggX0_get_X0_isRegister
theorem dX0_get_0 : decode cX0_get 0 = .ok (.iload_n 1, 1) := by decide +kernel
theorem dX0_get_1 : decode cX0_get 1 = .ok (.invokestatic 20, 3) := by decide +kernel
theorem dX0_get_4 : decode cX0_get 4 = .ok (.ifCond .eq 12, 3) := by decide +kernel
theorem dX0_get_7 : decode cX0_get 7 = .ok (.aload_n 0, 1) := by decide +kernel
theorem dX0_get_8 : decode cX0_get 8 = .ok (.getfield 9, 3) := by decide +kernel
theorem dX0_get_11 : decode cX0_get 11 = .ok (.iload_n 1, 1) := by decide +kernel
theorem dX0_get_12 : decode cX0_get 12 = .ok (.laload, 1) := by decide +kernel
theorem dX0_get_13 : decode cX0_get 13 = .ok (.goto 4, 3) := by decide +kernel
theorem dX0_get_16 : decode cX0_get 16 = .ok (.lconst 0, 1) := by decide +kernel
theorem dX0_get_17 : decode cX0_get 17 = .ok (.lreturn, 1) := by decide +kernel
theorem dX0_under_0 : decode cX0_under 0 = .ok (.aload_n 0, 1) := by decide +kernel
theorem dX0_under_1 : decode cX0_under 1 = .ok (.iload_n 1, 1) := by decide +kernel
theorem dX0_under_2 : decode cX0_under 2 = .ok (.putfield 13, 3) := by decide +kernel
theorem dX0_under_5 : decode cX0_under 5 = .ok (.return_, 1) := by decide +kernel
set_option maxRecDepth 20000 in
theorem ggX0_sum_X0_refusalOf : GoodIn wsX0_sum wsX0_refusalOf := goodIn_r _ [5, 6, 7, 4, 8, 9, 10, 11, 12, 13, 14, 15, 16, 17, 18, 65, 66, 67] (by decide +kernel) (by decide +kernel)
set_option maxRecDepth 20000 in
theorem gX0_sum_X0_refusalOf : GoodIn wsX0_sum (wsV RX0 24 RX0 yX0_refusalOf wsX0_refusalOf) := goodIn_app (goodIn_of _ (by decide +kernel)) ggX0_sum_X0_refusalOf
set_option maxRecDepth 20000 in
theorem ggX0_sum_X0_valueIn : GoodIn wsX0_sum wsX0_valueIn := goodIn_r _ [22, 16, 23, 24, 25, 26, 18, 65, 66, 67] (by decide +kernel) (by decide +kernel)
set_option maxRecDepth 20000 in
theorem gX0_sum_X0_valueIn : GoodIn wsX0_sum (wsV RX0 28 RX0 yX0_valueIn wsX0_valueIn) := goodIn_app (goodIn_of _ (by decide +kernel)) ggX0_sum_X0_valueIn
set_option maxRecDepth 20000 in
theorem ggX0_sum_X0_storeSum : GoodIn wsX0_sum wsX0_storeSum := goodIn_r _ [30, 31, 32, 33, 34, 35, 36, 37, 4, 38, 39, 40, 41, 42, 16, 43, 44, 45, 46, 47, 48, 49, 50, 51, 52, 53, 54, 55, 56, 57, 58, 59, 60, 61, 26, 62, 63, 64, 65, 66, 67] (by decide +kernel) (by decide +kernel)
set_option maxRecDepth 20000 in
theorem gX0_sum_X0_storeSum : GoodIn wsX0_sum (wsV RX0 32 RX0 yX0_storeSum wsX0_storeSum) := goodIn_app (goodIn_of _ (by decide +kernel)) ggX0_sum_X0_storeSum
theorem dX0_sum_0 : decode cX0_sum 0 = .ok (.aload_n 0, 1) := by decide +kernel
theorem dX0_sum_1 : decode cX0_sum 1 = .ok (.iload_n 1, 1) := by decide +kernel
theorem dX0_sum_2 : decode cX0_sum 2 = .ok (.iload_n 2, 1) := by decide +kernel
theorem dX0_sum_3 : decode cX0_sum 3 = .ok (.iload_n 3, 1) := by decide +kernel
theorem dX0_sum_4 : decode cX0_sum 4 = .ok (.iload 4, 2) := by decide +kernel
theorem dX0_sum_6 : decode cX0_sum 6 = .ok (.invokevirtual 24, 3) := by decide +kernel
theorem dX0_sum_9 : decode cX0_sum 9 = .ok (.istore 5, 2) := by decide +kernel
theorem dX0_sum_11 : decode cX0_sum 11 = .ok (.iload 5, 2) := by decide +kernel
theorem dX0_sum_13 : decode cX0_sum 13 = .ok (.ifCond .eq 8, 3) := by decide +kernel
theorem dX0_sum_16 : decode cX0_sum 16 = .ok (.iload 5, 2) := by decide +kernel
theorem dX0_sum_18 : decode cX0_sum 18 = .ok (.goto 22, 3) := by decide +kernel
theorem dX0_sum_21 : decode cX0_sum 21 = .ok (.aload_n 0, 1) := by decide +kernel
theorem dX0_sum_22 : decode cX0_sum 22 = .ok (.iload_n 1, 1) := by decide +kernel
theorem dX0_sum_23 : decode cX0_sum 23 = .ok (.iload 4, 2) := by decide +kernel
theorem dX0_sum_25 : decode cX0_sum 25 = .ok (.aload_n 0, 1) := by decide +kernel
theorem dX0_sum_26 : decode cX0_sum 26 = .ok (.iload_n 1, 1) := by decide +kernel
theorem dX0_sum_27 : decode cX0_sum 27 = .ok (.iload_n 3, 1) := by decide +kernel
theorem dX0_sum_28 : decode cX0_sum 28 = .ok (.invokevirtual 28, 3) := by decide +kernel
theorem dX0_sum_31 : decode cX0_sum 31 = .ok (.aload_n 0, 1) := by decide +kernel
theorem dX0_sum_32 : decode cX0_sum 32 = .ok (.iload_n 1, 1) := by decide +kernel
theorem dX0_sum_33 : decode cX0_sum 33 = .ok (.iload_n 2, 1) := by decide +kernel
theorem dX0_sum_34 : decode cX0_sum 34 = .ok (.invokevirtual 28, 3) := by decide +kernel
theorem dX0_sum_37 : decode cX0_sum 37 = .ok (.invokevirtual 32, 3) := by decide +kernel
theorem dX0_sum_40 : decode cX0_sum 40 = .ok (.ireturn, 1) := by decide +kernel
set_option maxRecDepth 20000 in
theorem ggX0_less_X0_refusalOf : GoodIn wsX0_less wsX0_refusalOf := goodIn_r _ [5, 6, 7, 4, 8, 9, 10, 11, 12, 13, 14, 15, 16, 17, 18, 65, 66, 67] (by decide +kernel) (by decide +kernel)
set_option maxRecDepth 20000 in
theorem gX0_less_X0_refusalOf : GoodIn wsX0_less (wsV RX0 24 RX0 yX0_refusalOf wsX0_refusalOf) := goodIn_app (goodIn_of _ (by decide +kernel)) ggX0_less_X0_refusalOf
set_option maxRecDepth 20000 in
theorem ggX0_less_X0_valueIn : GoodIn wsX0_less wsX0_valueIn := goodIn_r _ [22, 16, 23, 24, 25, 26, 18, 65, 66, 67] (by decide +kernel) (by decide +kernel)
set_option maxRecDepth 20000 in
theorem gX0_less_X0_valueIn : GoodIn wsX0_less (wsV RX0 28 RX0 yX0_valueIn wsX0_valueIn) := goodIn_app (goodIn_of _ (by decide +kernel)) ggX0_less_X0_valueIn
set_option maxRecDepth 20000 in
theorem ggX0_less_X0_storeSum : GoodIn wsX0_less wsX0_storeSum := goodIn_r _ [30, 31, 32, 33, 34, 35, 36, 37, 4, 38, 39, 40, 41, 42, 16, 43, 44, 45, 46, 47, 48, 49, 50, 51, 52, 53, 54, 55, 56, 57, 58, 59, 60, 61, 26, 62, 63, 64, 65, 66, 67] (by decide +kernel) (by decide +kernel)
set_option maxRecDepth 20000 in
theorem gX0_less_X0_storeSum : GoodIn wsX0_less (wsV RX0 32 RX0 yX0_storeSum wsX0_storeSum) := goodIn_app (goodIn_of _ (by decide +kernel)) ggX0_less_X0_storeSum
theorem dX0_less_0 : decode cX0_less 0 = .ok (.aload_n 0, 1) := by decide +kernel
theorem dX0_less_1 : decode cX0_less 1 = .ok (.iload_n 1, 1) := by decide +kernel
theorem dX0_less_2 : decode cX0_less 2 = .ok (.iload_n 2, 1) := by decide +kernel
theorem dX0_less_3 : decode cX0_less 3 = .ok (.iload_n 3, 1) := by decide +kernel
theorem dX0_less_4 : decode cX0_less 4 = .ok (.iload 4, 2) := by decide +kernel
theorem dX0_less_6 : decode cX0_less 6 = .ok (.invokevirtual 24, 3) := by decide +kernel
theorem dX0_less_9 : decode cX0_less 9 = .ok (.istore 5, 2) := by decide +kernel
theorem dX0_less_11 : decode cX0_less 11 = .ok (.iload 5, 2) := by decide +kernel
theorem dX0_less_13 : decode cX0_less 13 = .ok (.ifCond .eq 8, 3) := by decide +kernel
theorem dX0_less_16 : decode cX0_less 16 = .ok (.iload 5, 2) := by decide +kernel
theorem dX0_less_18 : decode cX0_less 18 = .ok (.goto 23, 3) := by decide +kernel
theorem dX0_less_21 : decode cX0_less 21 = .ok (.aload_n 0, 1) := by decide +kernel
theorem dX0_less_22 : decode cX0_less 22 = .ok (.iload_n 1, 1) := by decide +kernel
theorem dX0_less_23 : decode cX0_less 23 = .ok (.iload 4, 2) := by decide +kernel
theorem dX0_less_25 : decode cX0_less 25 = .ok (.aload_n 0, 1) := by decide +kernel
theorem dX0_less_26 : decode cX0_less 26 = .ok (.iload_n 1, 1) := by decide +kernel
theorem dX0_less_27 : decode cX0_less 27 = .ok (.iload_n 3, 1) := by decide +kernel
theorem dX0_less_28 : decode cX0_less 28 = .ok (.invokevirtual 28, 3) := by decide +kernel
theorem dX0_less_31 : decode cX0_less 31 = .ok (.aload_n 0, 1) := by decide +kernel
theorem dX0_less_32 : decode cX0_less 32 = .ok (.iload_n 1, 1) := by decide +kernel
theorem dX0_less_33 : decode cX0_less 33 = .ok (.iload_n 2, 1) := by decide +kernel
theorem dX0_less_34 : decode cX0_less 34 = .ok (.invokevirtual 28, 3) := by decide +kernel
theorem dX0_less_37 : decode cX0_less 37 = .ok (.lneg, 1) := by decide +kernel
theorem dX0_less_38 : decode cX0_less 38 = .ok (.invokevirtual 32, 3) := by decide +kernel
theorem dX0_less_41 : decode cX0_less 41 = .ok (.ireturn, 1) := by decide +kernel
set_option maxRecDepth 20000 in
theorem ggX0_product_X0_refusalOf : GoodIn wsX0_product wsX0_refusalOf := goodIn_r _ [5, 6, 7, 4, 8, 9, 10, 11, 12, 13, 14, 15, 16, 17, 18, 63, 64, 65] (by decide +kernel) (by decide +kernel)
set_option maxRecDepth 20000 in
theorem gX0_product_X0_refusalOf : GoodIn wsX0_product (wsV RX0 24 RX0 yX0_refusalOf wsX0_refusalOf) := goodIn_app (goodIn_of _ (by decide +kernel)) ggX0_product_X0_refusalOf
set_option maxRecDepth 20000 in
theorem ggX0_product_X0_valueIn : GoodIn wsX0_product wsX0_valueIn := goodIn_r _ [22, 16, 23, 24, 25, 26, 18, 63, 64, 65] (by decide +kernel) (by decide +kernel)
set_option maxRecDepth 20000 in
theorem gX0_product_X0_valueIn : GoodIn wsX0_product (wsV RX0 28 RX0 yX0_valueIn wsX0_valueIn) := goodIn_app (goodIn_of _ (by decide +kernel)) ggX0_product_X0_valueIn
set_option maxRecDepth 20000 in
theorem ggX0_product_X0_storeProduct : GoodIn wsX0_product wsX0_storeProduct := goodIn_r _ [30, 31, 32, 33, 4, 34, 16, 35, 36, 37, 38, 39, 40, 41, 42, 43, 44, 45, 46, 47, 48, 49, 50, 51, 52, 53, 54, 55, 56, 57, 58, 59, 60, 61, 62, 26, 63, 64, 65] (by decide +kernel) (by decide +kernel)
set_option maxRecDepth 20000 in
theorem gX0_product_X0_storeProduct : GoodIn wsX0_product (wsV RX0 36 RX0 yX0_storeProduct wsX0_storeProduct) := goodIn_app (goodIn_of _ (by decide +kernel)) ggX0_product_X0_storeProduct
theorem dX0_product_0 : decode cX0_product 0 = .ok (.aload_n 0, 1) := by decide +kernel
theorem dX0_product_1 : decode cX0_product 1 = .ok (.iload_n 1, 1) := by decide +kernel
theorem dX0_product_2 : decode cX0_product 2 = .ok (.iload_n 2, 1) := by decide +kernel
theorem dX0_product_3 : decode cX0_product 3 = .ok (.iload_n 3, 1) := by decide +kernel
theorem dX0_product_4 : decode cX0_product 4 = .ok (.iload 4, 2) := by decide +kernel
theorem dX0_product_6 : decode cX0_product 6 = .ok (.invokevirtual 24, 3) := by decide +kernel
theorem dX0_product_9 : decode cX0_product 9 = .ok (.istore 5, 2) := by decide +kernel
theorem dX0_product_11 : decode cX0_product 11 = .ok (.iload 5, 2) := by decide +kernel
theorem dX0_product_13 : decode cX0_product 13 = .ok (.ifCond .eq 8, 3) := by decide +kernel
theorem dX0_product_16 : decode cX0_product 16 = .ok (.iload 5, 2) := by decide +kernel
theorem dX0_product_18 : decode cX0_product 18 = .ok (.goto 22, 3) := by decide +kernel
theorem dX0_product_21 : decode cX0_product 21 = .ok (.aload_n 0, 1) := by decide +kernel
theorem dX0_product_22 : decode cX0_product 22 = .ok (.iload_n 1, 1) := by decide +kernel
theorem dX0_product_23 : decode cX0_product 23 = .ok (.iload 4, 2) := by decide +kernel
theorem dX0_product_25 : decode cX0_product 25 = .ok (.aload_n 0, 1) := by decide +kernel
theorem dX0_product_26 : decode cX0_product 26 = .ok (.iload_n 1, 1) := by decide +kernel
theorem dX0_product_27 : decode cX0_product 27 = .ok (.iload_n 2, 1) := by decide +kernel
theorem dX0_product_28 : decode cX0_product 28 = .ok (.invokevirtual 28, 3) := by decide +kernel
theorem dX0_product_31 : decode cX0_product 31 = .ok (.aload_n 0, 1) := by decide +kernel
theorem dX0_product_32 : decode cX0_product 32 = .ok (.iload_n 1, 1) := by decide +kernel
theorem dX0_product_33 : decode cX0_product 33 = .ok (.iload_n 3, 1) := by decide +kernel
theorem dX0_product_34 : decode cX0_product 34 = .ok (.invokevirtual 28, 3) := by decide +kernel
theorem dX0_product_37 : decode cX0_product 37 = .ok (.invokevirtual 36, 3) := by decide +kernel
theorem dX0_product_40 : decode cX0_product 40 = .ok (.ireturn, 1) := by decide +kernel
set_option maxRecDepth 20000 in
theorem ggX0_quotient_X0_refusalOf : GoodIn wsX0_quotient wsX0_refusalOf := goodIn_r _ [5, 6, 7, 4, 8, 9, 10, 11, 12, 13, 14, 15, 16, 17, 18, 61, 62, 63] (by decide +kernel) (by decide +kernel)
set_option maxRecDepth 20000 in
theorem gX0_quotient_X0_refusalOf : GoodIn wsX0_quotient (wsV RX0 24 RX0 yX0_refusalOf wsX0_refusalOf) := goodIn_app (goodIn_of _ (by decide +kernel)) ggX0_quotient_X0_refusalOf
set_option maxRecDepth 20000 in
theorem ggX0_quotient_X0_valueIn : GoodIn wsX0_quotient wsX0_valueIn := goodIn_r _ [22, 16, 23, 24, 25, 26, 18, 61, 62, 63] (by decide +kernel) (by decide +kernel)
set_option maxRecDepth 20000 in
theorem gX0_quotient_X0_valueIn : GoodIn wsX0_quotient (wsV RX0 28 RX0 yX0_valueIn wsX0_valueIn) := goodIn_app (goodIn_of _ (by decide +kernel)) ggX0_quotient_X0_valueIn
set_option maxRecDepth 20000 in
theorem ggX0_quotient_X0_storeQuotient : GoodIn wsX0_quotient wsX0_storeQuotient := goodIn_r _ [30, 31, 32, 33, 4, 34, 16, 35, 36, 37, 38, 39, 40, 41, 42, 43, 44, 45, 46, 47, 48, 49, 50, 51, 52, 53, 54, 55, 56, 57, 58, 59, 60, 26, 61, 62, 63] (by decide +kernel) (by decide +kernel)
set_option maxRecDepth 20000 in
theorem gX0_quotient_X0_storeQuotient : GoodIn wsX0_quotient (wsV RX0 39 RX0 yX0_storeQuotient wsX0_storeQuotient) := goodIn_app (goodIn_of _ (by decide +kernel)) ggX0_quotient_X0_storeQuotient
theorem dX0_quotient_0 : decode cX0_quotient 0 = .ok (.aload_n 0, 1) := by decide +kernel
theorem dX0_quotient_1 : decode cX0_quotient 1 = .ok (.iload_n 1, 1) := by decide +kernel
theorem dX0_quotient_2 : decode cX0_quotient 2 = .ok (.iload_n 2, 1) := by decide +kernel
theorem dX0_quotient_3 : decode cX0_quotient 3 = .ok (.iload_n 3, 1) := by decide +kernel
theorem dX0_quotient_4 : decode cX0_quotient 4 = .ok (.iload 4, 2) := by decide +kernel
theorem dX0_quotient_6 : decode cX0_quotient 6 = .ok (.invokevirtual 24, 3) := by decide +kernel
theorem dX0_quotient_9 : decode cX0_quotient 9 = .ok (.istore 5, 2) := by decide +kernel
theorem dX0_quotient_11 : decode cX0_quotient 11 = .ok (.iload 5, 2) := by decide +kernel
theorem dX0_quotient_13 : decode cX0_quotient 13 = .ok (.ifCond .eq 6, 3) := by decide +kernel
theorem dX0_quotient_16 : decode cX0_quotient 16 = .ok (.iload 5, 2) := by decide +kernel
theorem dX0_quotient_18 : decode cX0_quotient 18 = .ok (.ireturn, 1) := by decide +kernel
theorem dX0_quotient_19 : decode cX0_quotient 19 = .ok (.aload_n 0, 1) := by decide +kernel
theorem dX0_quotient_20 : decode cX0_quotient 20 = .ok (.iload_n 1, 1) := by decide +kernel
theorem dX0_quotient_21 : decode cX0_quotient 21 = .ok (.iload_n 2, 1) := by decide +kernel
theorem dX0_quotient_22 : decode cX0_quotient 22 = .ok (.invokevirtual 28, 3) := by decide +kernel
theorem dX0_quotient_25 : decode cX0_quotient 25 = .ok (.lstore 6, 2) := by decide +kernel
theorem dX0_quotient_27 : decode cX0_quotient 27 = .ok (.lload 6, 2) := by decide +kernel
theorem dX0_quotient_29 : decode cX0_quotient 29 = .ok (.lconst 0, 1) := by decide +kernel
theorem dX0_quotient_30 : decode cX0_quotient 30 = .ok (.lcmp, 1) := by decide +kernel
theorem dX0_quotient_31 : decode cX0_quotient 31 = .ok (.ifCond .ne 8, 3) := by decide +kernel
theorem dX0_quotient_34 : decode cX0_quotient 34 = .ok (.bipush (-4), 2) := by decide +kernel
theorem dX0_quotient_36 : decode cX0_quotient 36 = .ok (.goto 18, 3) := by decide +kernel
theorem dX0_quotient_39 : decode cX0_quotient 39 = .ok (.aload_n 0, 1) := by decide +kernel
theorem dX0_quotient_40 : decode cX0_quotient 40 = .ok (.iload_n 1, 1) := by decide +kernel
theorem dX0_quotient_41 : decode cX0_quotient 41 = .ok (.iload 4, 2) := by decide +kernel
theorem dX0_quotient_43 : decode cX0_quotient 43 = .ok (.aload_n 0, 1) := by decide +kernel
theorem dX0_quotient_44 : decode cX0_quotient 44 = .ok (.iload_n 1, 1) := by decide +kernel
theorem dX0_quotient_45 : decode cX0_quotient 45 = .ok (.iload_n 3, 1) := by decide +kernel
theorem dX0_quotient_46 : decode cX0_quotient 46 = .ok (.invokevirtual 28, 3) := by decide +kernel
theorem dX0_quotient_49 : decode cX0_quotient 49 = .ok (.lload 6, 2) := by decide +kernel
theorem dX0_quotient_51 : decode cX0_quotient 51 = .ok (.invokevirtual 39, 3) := by decide +kernel
theorem dX0_quotient_54 : decode cX0_quotient 54 = .ok (.ireturn, 1) := by decide +kernel
set_option maxRecDepth 20000 in
theorem ggX0_negative_X0_refusalOf : GoodIn wsX0_negative wsX0_refusalOf := goodIn_r _ [5, 6, 7, 4, 8, 9, 10, 11, 12, 13, 14, 15, 16, 17, 18, 58, 59, 60] (by decide +kernel) (by decide +kernel)
set_option maxRecDepth 20000 in
theorem gX0_negative_X0_refusalOf : GoodIn wsX0_negative (wsV RX0 24 RX0 yX0_refusalOf wsX0_refusalOf) := goodIn_app (goodIn_of _ (by decide +kernel)) ggX0_negative_X0_refusalOf
set_option maxRecDepth 20000 in
theorem ggX0_negative_X0_valueIn : GoodIn wsX0_negative wsX0_valueIn := goodIn_r _ [22, 16, 23, 24, 25, 26, 18, 58, 59, 60] (by decide +kernel) (by decide +kernel)
set_option maxRecDepth 20000 in
theorem gX0_negative_X0_valueIn : GoodIn wsX0_negative (wsV RX0 28 RX0 yX0_valueIn wsX0_valueIn) := goodIn_app (goodIn_of _ (by decide +kernel)) ggX0_negative_X0_valueIn
set_option maxRecDepth 20000 in
theorem ggX0_negative_X0_storeValue : GoodIn wsX0_negative wsX0_storeValue := goodIn_r _ [30, 31, 32, 33, 4, 34, 16, 35, 36, 37, 38, 39, 40, 41, 42, 43, 44, 45, 46, 47, 48, 49, 50, 51, 52, 53, 54, 55, 56, 57, 26, 58, 59, 60] (by decide +kernel) (by decide +kernel)
set_option maxRecDepth 20000 in
theorem gX0_negative_X0_storeValue : GoodIn wsX0_negative (wsV RX0 42 RX0 yX0_storeValue wsX0_storeValue) := goodIn_app (goodIn_of _ (by decide +kernel)) ggX0_negative_X0_storeValue
theorem dX0_negative_0 : decode cX0_negative 0 = .ok (.aload_n 0, 1) := by decide +kernel
theorem dX0_negative_1 : decode cX0_negative 1 = .ok (.iload_n 1, 1) := by decide +kernel
theorem dX0_negative_2 : decode cX0_negative 2 = .ok (.iload_n 2, 1) := by decide +kernel
theorem dX0_negative_3 : decode cX0_negative 3 = .ok (.iload_n 2, 1) := by decide +kernel
theorem dX0_negative_4 : decode cX0_negative 4 = .ok (.iload_n 3, 1) := by decide +kernel
theorem dX0_negative_5 : decode cX0_negative 5 = .ok (.invokevirtual 24, 3) := by decide +kernel
theorem dX0_negative_8 : decode cX0_negative 8 = .ok (.istore 4, 2) := by decide +kernel
theorem dX0_negative_10 : decode cX0_negative 10 = .ok (.iload 4, 2) := by decide +kernel
theorem dX0_negative_12 : decode cX0_negative 12 = .ok (.ifCond .eq 8, 3) := by decide +kernel
theorem dX0_negative_15 : decode cX0_negative 15 = .ok (.iload 4, 2) := by decide +kernel
theorem dX0_negative_17 : decode cX0_negative 17 = .ok (.goto 16, 3) := by decide +kernel
theorem dX0_negative_20 : decode cX0_negative 20 = .ok (.aload_n 0, 1) := by decide +kernel
theorem dX0_negative_21 : decode cX0_negative 21 = .ok (.iload_n 1, 1) := by decide +kernel
theorem dX0_negative_22 : decode cX0_negative 22 = .ok (.iload_n 3, 1) := by decide +kernel
theorem dX0_negative_23 : decode cX0_negative 23 = .ok (.aload_n 0, 1) := by decide +kernel
theorem dX0_negative_24 : decode cX0_negative 24 = .ok (.iload_n 1, 1) := by decide +kernel
theorem dX0_negative_25 : decode cX0_negative 25 = .ok (.iload_n 2, 1) := by decide +kernel
theorem dX0_negative_26 : decode cX0_negative 26 = .ok (.invokevirtual 28, 3) := by decide +kernel
theorem dX0_negative_29 : decode cX0_negative 29 = .ok (.lneg, 1) := by decide +kernel
theorem dX0_negative_30 : decode cX0_negative 30 = .ok (.invokevirtual 42, 3) := by decide +kernel
theorem dX0_negative_33 : decode cX0_negative 33 = .ok (.ireturn, 1) := by decide +kernel
set_option maxRecDepth 20000 in
theorem ggX0_compare_X0_refusalOf : GoodIn wsX0_compare wsX0_refusalOf := goodIn_r _ [5, 6, 7, 4, 8, 9, 10, 11, 12, 13, 14, 15, 16, 17, 18, 34, 35, 36] (by decide +kernel) (by decide +kernel)
set_option maxRecDepth 20000 in
theorem gX0_compare_X0_refusalOf : GoodIn wsX0_compare (wsV RX0 24 RX0 yX0_refusalOf wsX0_refusalOf) := goodIn_app (goodIn_of _ (by decide +kernel)) ggX0_compare_X0_refusalOf
set_option maxRecDepth 20000 in
theorem ggX0_compare_X0_valueIn : GoodIn wsX0_compare wsX0_valueIn := goodIn_r _ [22, 16, 23, 24, 25, 26, 18, 34, 35, 36] (by decide +kernel) (by decide +kernel)
set_option maxRecDepth 20000 in
theorem gX0_compare_X0_valueIn : GoodIn wsX0_compare (wsV RX0 28 RX0 yX0_valueIn wsX0_valueIn) := goodIn_app (goodIn_of _ (by decide +kernel)) ggX0_compare_X0_valueIn
set_option maxRecDepth 20000 in
theorem ggX0_compare_J13_compare_74951 : GoodIn wsX0_compare wsJ13_compare_74951 := goodIn_r _ [30] (by decide +kernel) (by decide +kernel)
set_option maxRecDepth 20000 in
theorem gX0_compare_J13_compare_74951 : GoodIn wsX0_compare (va_wsS RX0 46 yJ13_compare_74951 wsJ13_compare_74951) := goodIn_app (goodIn_of _ (by decide +kernel)) ggX0_compare_J13_compare_74951
set_option maxRecDepth 20000 in
theorem ggX0_compare_X0_flagsOf : GoodIn wsX0_compare wsX0_flagsOf := goodIn_r _ [33] (by decide +kernel) (by decide +kernel)
set_option maxRecDepth 20000 in
theorem gX0_compare_X0_flagsOf : GoodIn wsX0_compare (va_wsS RX0 52 yX0_flagsOf wsX0_flagsOf) := goodIn_app (goodIn_of _ (by decide +kernel)) ggX0_compare_X0_flagsOf
theorem dX0_compare_0 : decode cX0_compare 0 = .ok (.aload_n 0, 1) := by decide +kernel
theorem dX0_compare_1 : decode cX0_compare 1 = .ok (.iload_n 1, 1) := by decide +kernel
theorem dX0_compare_2 : decode cX0_compare 2 = .ok (.iload_n 2, 1) := by decide +kernel
theorem dX0_compare_3 : decode cX0_compare 3 = .ok (.iload_n 3, 1) := by decide +kernel
theorem dX0_compare_4 : decode cX0_compare 4 = .ok (.iload_n 2, 1) := by decide +kernel
theorem dX0_compare_5 : decode cX0_compare 5 = .ok (.invokevirtual 24, 3) := by decide +kernel
theorem dX0_compare_8 : decode cX0_compare 8 = .ok (.istore 4, 2) := by decide +kernel
theorem dX0_compare_10 : decode cX0_compare 10 = .ok (.iload 4, 2) := by decide +kernel
theorem dX0_compare_12 : decode cX0_compare 12 = .ok (.ifCond .eq 6, 3) := by decide +kernel
theorem dX0_compare_15 : decode cX0_compare 15 = .ok (.iload 4, 2) := by decide +kernel
theorem dX0_compare_17 : decode cX0_compare 17 = .ok (.ireturn, 1) := by decide +kernel
theorem dX0_compare_18 : decode cX0_compare 18 = .ok (.aload_n 0, 1) := by decide +kernel
theorem dX0_compare_19 : decode cX0_compare 19 = .ok (.iload_n 1, 1) := by decide +kernel
theorem dX0_compare_20 : decode cX0_compare 20 = .ok (.iload_n 2, 1) := by decide +kernel
theorem dX0_compare_21 : decode cX0_compare 21 = .ok (.invokevirtual 28, 3) := by decide +kernel
theorem dX0_compare_24 : decode cX0_compare 24 = .ok (.aload_n 0, 1) := by decide +kernel
theorem dX0_compare_25 : decode cX0_compare 25 = .ok (.iload_n 1, 1) := by decide +kernel
theorem dX0_compare_26 : decode cX0_compare 26 = .ok (.iload_n 3, 1) := by decide +kernel
theorem dX0_compare_27 : decode cX0_compare 27 = .ok (.invokevirtual 28, 3) := by decide +kernel
theorem dX0_compare_30 : decode cX0_compare 30 = .ok (.invokestatic 46, 3) := by decide +kernel
theorem dX0_compare_33 : decode cX0_compare 33 = .ok (.i2l, 1) := by decide +kernel
theorem dX0_compare_34 : decode cX0_compare 34 = .ok (.invokestatic 52, 3) := by decide +kernel
theorem dX0_compare_37 : decode cX0_compare 37 = .ok (.ireturn, 1) := by decide +kernel
set_option maxRecDepth 20000 in
theorem ggX0_change_X0_refusalOf : GoodIn wsX0_change wsX0_refusalOf := goodIn_r _ [5, 6, 7, 4, 8, 9, 10, 11, 12, 13, 14, 15, 16, 17, 18, 58, 59, 60] (by decide +kernel) (by decide +kernel)
set_option maxRecDepth 20000 in
theorem gX0_change_X0_refusalOf : GoodIn wsX0_change (wsV RX0 24 RX0 yX0_refusalOf wsX0_refusalOf) := goodIn_app (goodIn_of _ (by decide +kernel)) ggX0_change_X0_refusalOf
set_option maxRecDepth 20000 in
theorem ggX0_change_X0_valueIn : GoodIn wsX0_change wsX0_valueIn := goodIn_r _ [22, 16, 23, 24, 25, 26, 18, 58, 59, 60] (by decide +kernel) (by decide +kernel)
set_option maxRecDepth 20000 in
theorem gX0_change_X0_valueIn : GoodIn wsX0_change (wsV RX0 28 RX0 yX0_valueIn wsX0_valueIn) := goodIn_app (goodIn_of _ (by decide +kernel)) ggX0_change_X0_valueIn
set_option maxRecDepth 20000 in
theorem ggX0_change_X0_storeValue : GoodIn wsX0_change wsX0_storeValue := goodIn_r _ [30, 31, 32, 33, 4, 34, 16, 35, 36, 37, 38, 39, 40, 41, 42, 43, 44, 45, 46, 47, 48, 49, 50, 51, 52, 53, 54, 55, 56, 57, 26, 58, 59, 60] (by decide +kernel) (by decide +kernel)
set_option maxRecDepth 20000 in
theorem gX0_change_X0_storeValue : GoodIn wsX0_change (wsV RX0 42 RX0 yX0_storeValue wsX0_storeValue) := goodIn_app (goodIn_of _ (by decide +kernel)) ggX0_change_X0_storeValue
theorem dX0_change_0 : decode cX0_change 0 = .ok (.aload_n 0, 1) := by decide +kernel
theorem dX0_change_1 : decode cX0_change 1 = .ok (.iload_n 1, 1) := by decide +kernel
theorem dX0_change_2 : decode cX0_change 2 = .ok (.iload_n 2, 1) := by decide +kernel
theorem dX0_change_3 : decode cX0_change 3 = .ok (.iload_n 2, 1) := by decide +kernel
theorem dX0_change_4 : decode cX0_change 4 = .ok (.iload_n 3, 1) := by decide +kernel
theorem dX0_change_5 : decode cX0_change 5 = .ok (.invokevirtual 24, 3) := by decide +kernel
theorem dX0_change_8 : decode cX0_change 8 = .ok (.istore 4, 2) := by decide +kernel
theorem dX0_change_10 : decode cX0_change 10 = .ok (.iload_n 1, 1) := by decide +kernel
theorem dX0_change_11 : decode cX0_change 11 = .ok (.iconst 4, 1) := by decide +kernel
theorem dX0_change_12 : decode cX0_change 12 = .ok (.if_icmp .ne 8, 3) := by decide +kernel
theorem dX0_change_15 : decode cX0_change 15 = .ok (.bipush 8, 2) := by decide +kernel
theorem dX0_change_17 : decode cX0_change 17 = .ok (.goto 4, 3) := by decide +kernel
theorem dX0_change_20 : decode cX0_change 20 = .ok (.iconst 4, 1) := by decide +kernel
theorem dX0_change_21 : decode cX0_change 21 = .ok (.istore 5, 2) := by decide +kernel
theorem dX0_change_23 : decode cX0_change 23 = .ok (.iload 4, 2) := by decide +kernel
theorem dX0_change_25 : decode cX0_change 25 = .ok (.ifCond .eq 8, 3) := by decide +kernel
theorem dX0_change_28 : decode cX0_change 28 = .ok (.iload 4, 2) := by decide +kernel
theorem dX0_change_30 : decode cX0_change 30 = .ok (.goto 16, 3) := by decide +kernel
theorem dX0_change_33 : decode cX0_change 33 = .ok (.aload_n 0, 1) := by decide +kernel
theorem dX0_change_34 : decode cX0_change 34 = .ok (.iload 5, 2) := by decide +kernel
theorem dX0_change_36 : decode cX0_change 36 = .ok (.iload_n 3, 1) := by decide +kernel
theorem dX0_change_37 : decode cX0_change 37 = .ok (.aload_n 0, 1) := by decide +kernel
theorem dX0_change_38 : decode cX0_change 38 = .ok (.iload_n 1, 1) := by decide +kernel
theorem dX0_change_39 : decode cX0_change 39 = .ok (.iload_n 2, 1) := by decide +kernel
theorem dX0_change_40 : decode cX0_change 40 = .ok (.invokevirtual 28, 3) := by decide +kernel
theorem dX0_change_43 : decode cX0_change 43 = .ok (.invokevirtual 42, 3) := by decide +kernel
theorem dX0_change_46 : decode cX0_change 46 = .ok (.ireturn, 1) := by decide +kernel
set_option maxRecDepth 20000 in
theorem ggX0_whole_X0_refusalOf : GoodIn wsX0_whole wsX0_refusalOf := goodIn_r _ [6, 7, 8, 5, 9, 10, 11, 12, 13, 14, 15, 16, 1, 17, 18, 48, 49, 50] (by decide +kernel) (by decide +kernel)
set_option maxRecDepth 20000 in
theorem gX0_whole_X0_refusalOf : GoodIn wsX0_whole (wsV RX0 24 RX0 yX0_refusalOf wsX0_refusalOf) := goodIn_app (goodIn_of _ (by decide +kernel)) ggX0_whole_X0_refusalOf
set_option maxRecDepth 20000 in
theorem ggX0_whole_X0_valueIn : GoodIn wsX0_whole wsX0_valueIn := goodIn_r _ [22, 1, 23, 24, 25, 26, 18, 48, 49, 50] (by decide +kernel) (by decide +kernel)
set_option maxRecDepth 20000 in
theorem gX0_whole_X0_valueIn : GoodIn wsX0_whole (wsV RX0 28 RX0 yX0_valueIn wsX0_valueIn) := goodIn_app (goodIn_of _ (by decide +kernel)) ggX0_whole_X0_valueIn
set_option maxRecDepth 20000 in
theorem ggX0_whole_X0_wholeOf : GoodIn wsX0_whole wsX0_wholeOf := goodIn_r _ [29, 30, 31, 5, 32, 33, 34, 35, 36, 37, 38, 39, 40, 41, 42, 43, 44, 23] (by decide +kernel) (by decide +kernel)
set_option maxRecDepth 20000 in
theorem gX0_whole_X0_wholeOf : GoodIn wsX0_whole (va_wsS RX0 56 yX0_wholeOf wsX0_wholeOf) := goodIn_app (goodIn_of _ (by decide +kernel)) ggX0_whole_X0_wholeOf
set_option maxRecDepth 20000 in
theorem ggX0_whole_X0_flagsOf : GoodIn wsX0_whole wsX0_flagsOf := goodIn_r _ [47] (by decide +kernel) (by decide +kernel)
set_option maxRecDepth 20000 in
theorem gX0_whole_X0_flagsOf : GoodIn wsX0_whole (va_wsS RX0 52 yX0_flagsOf wsX0_flagsOf) := goodIn_app (goodIn_of _ (by decide +kernel)) ggX0_whole_X0_flagsOf
theorem dX0_whole_0 : decode cX0_whole 0 = .ok (.iload_n 3, 1) := by decide +kernel
theorem dX0_whole_1 : decode cX0_whole 1 = .ok (.iconst 1, 1) := by decide +kernel
theorem dX0_whole_2 : decode cX0_whole 2 = .ok (.if_icmp .eq 16, 3) := by decide +kernel
theorem dX0_whole_5 : decode cX0_whole 5 = .ok (.iload_n 3, 1) := by decide +kernel
theorem dX0_whole_6 : decode cX0_whole 6 = .ok (.iconst 2, 1) := by decide +kernel
theorem dX0_whole_7 : decode cX0_whole 7 = .ok (.if_icmp .eq 11, 3) := by decide +kernel
theorem dX0_whole_10 : decode cX0_whole 10 = .ok (.iload_n 3, 1) := by decide +kernel
theorem dX0_whole_11 : decode cX0_whole 11 = .ok (.iconst 4, 1) := by decide +kernel
theorem dX0_whole_12 : decode cX0_whole 12 = .ok (.if_icmp .eq 6, 3) := by decide +kernel
theorem dX0_whole_15 : decode cX0_whole 15 = .ok (.bipush (-5), 2) := by decide +kernel
theorem dX0_whole_17 : decode cX0_whole 17 = .ok (.ireturn, 1) := by decide +kernel
theorem dX0_whole_18 : decode cX0_whole 18 = .ok (.aload_n 0, 1) := by decide +kernel
theorem dX0_whole_19 : decode cX0_whole 19 = .ok (.iload_n 1, 1) := by decide +kernel
theorem dX0_whole_20 : decode cX0_whole 20 = .ok (.iload_n 2, 1) := by decide +kernel
theorem dX0_whole_21 : decode cX0_whole 21 = .ok (.iload_n 2, 1) := by decide +kernel
theorem dX0_whole_22 : decode cX0_whole 22 = .ok (.iload 5, 2) := by decide +kernel
theorem dX0_whole_24 : decode cX0_whole 24 = .ok (.invokevirtual 24, 3) := by decide +kernel
theorem dX0_whole_27 : decode cX0_whole 27 = .ok (.istore 6, 2) := by decide +kernel
theorem dX0_whole_29 : decode cX0_whole 29 = .ok (.iload 6, 2) := by decide +kernel
theorem dX0_whole_31 : decode cX0_whole 31 = .ok (.ifCond .eq 6, 3) := by decide +kernel
theorem dX0_whole_34 : decode cX0_whole 34 = .ok (.iload 6, 2) := by decide +kernel
theorem dX0_whole_36 : decode cX0_whole 36 = .ok (.ireturn, 1) := by decide +kernel
theorem dX0_whole_37 : decode cX0_whole 37 = .ok (.aload_n 0, 1) := by decide +kernel
theorem dX0_whole_38 : decode cX0_whole 38 = .ok (.iload_n 1, 1) := by decide +kernel
theorem dX0_whole_39 : decode cX0_whole 39 = .ok (.iload_n 2, 1) := by decide +kernel
theorem dX0_whole_40 : decode cX0_whole 40 = .ok (.invokevirtual 28, 3) := by decide +kernel
theorem dX0_whole_43 : decode cX0_whole 43 = .ok (.iload 4, 2) := by decide +kernel
theorem dX0_whole_45 : decode cX0_whole 45 = .ok (.invokestatic 56, 3) := by decide +kernel
theorem dX0_whole_48 : decode cX0_whole 48 = .ok (.lstore 7, 2) := by decide +kernel
theorem dX0_whole_50 : decode cX0_whole 50 = .ok (.bipush 64, 2) := by decide +kernel
theorem dX0_whole_52 : decode cX0_whole 52 = .ok (.bipush 8, 2) := by decide +kernel
theorem dX0_whole_54 : decode cX0_whole 54 = .ok (.iload_n 3, 1) := by decide +kernel
theorem dX0_whole_55 : decode cX0_whole 55 = .ok (.imul, 1) := by decide +kernel
theorem dX0_whole_56 : decode cX0_whole 56 = .ok (.isub, 1) := by decide +kernel
theorem dX0_whole_57 : decode cX0_whole 57 = .ok (.istore 9, 2) := by decide +kernel
theorem dX0_whole_59 : decode cX0_whole 59 = .ok (.lload 7, 2) := by decide +kernel
theorem dX0_whole_61 : decode cX0_whole 61 = .ok (.iload 9, 2) := by decide +kernel
theorem dX0_whole_63 : decode cX0_whole 63 = .ok (.lshl, 1) := by decide +kernel
theorem dX0_whole_64 : decode cX0_whole 64 = .ok (.iload 9, 2) := by decide +kernel
theorem dX0_whole_66 : decode cX0_whole 66 = .ok (.lshr, 1) := by decide +kernel
theorem dX0_whole_67 : decode cX0_whole 67 = .ok (.lstore 10, 2) := by decide +kernel
theorem dX0_whole_69 : decode cX0_whole 69 = .ok (.aload_n 0, 1) := by decide +kernel
theorem dX0_whole_70 : decode cX0_whole 70 = .ok (.getfield 9, 3) := by decide +kernel
theorem dX0_whole_73 : decode cX0_whole 73 = .ok (.iload 5, 2) := by decide +kernel
theorem dX0_whole_75 : decode cX0_whole 75 = .ok (.lload 10, 2) := by decide +kernel
theorem dX0_whole_77 : decode cX0_whole 77 = .ok (.lastore, 1) := by decide +kernel
theorem dX0_whole_78 : decode cX0_whole 78 = .ok (.lload 10, 2) := by decide +kernel
theorem dX0_whole_80 : decode cX0_whole 80 = .ok (.invokestatic 52, 3) := by decide +kernel
theorem dX0_whole_83 : decode cX0_whole 83 = .ok (.lload 10, 2) := by decide +kernel
theorem dX0_whole_85 : decode cX0_whole 85 = .ok (.lload 7, 2) := by decide +kernel
theorem dX0_whole_87 : decode cX0_whole 87 = .ok (.lcmp, 1) := by decide +kernel
theorem dX0_whole_88 : decode cX0_whole 88 = .ok (.ifCond .eq 7, 3) := by decide +kernel
theorem dX0_whole_91 : decode cX0_whole 91 = .ok (.iconst 2, 1) := by decide +kernel
theorem dX0_whole_92 : decode cX0_whole 92 = .ok (.goto 4, 3) := by decide +kernel
theorem dX0_whole_95 : decode cX0_whole 95 = .ok (.iconst 0, 1) := by decide +kernel
theorem dX0_whole_96 : decode cX0_whole 96 = .ok (.ior, 1) := by decide +kernel
theorem dX0_whole_97 : decode cX0_whole 97 = .ok (.ireturn, 1) := by decide +kernel
set_option maxRecDepth 20000 in
theorem ggX0_number_X0_isSize : GoodIn wsX0_number wsX0_isSize := goodIn_r _ [8] (by decide +kernel) (by decide +kernel)
set_option maxRecDepth 20000 in
theorem gX0_number_X0_isSize : GoodIn wsX0_number (va_wsS RX0 60 yX0_isSize wsX0_isSize) := goodIn_app (goodIn_of _ (by decide +kernel)) ggX0_number_X0_isSize
set_option maxRecDepth 20000 in
theorem ggX0_number_X0_isRegister : GoodIn wsX0_number wsX0_isRegister := goodIn_r _ [11] (by decide +kernel) (by decide +kernel)
set_option maxRecDepth 20000 in
theorem gX0_number_X0_isRegister : GoodIn wsX0_number (va_wsS RX0 20 yX0_isRegister wsX0_isRegister) := goodIn_app (goodIn_of _ (by decide +kernel)) ggX0_number_X0_isRegister
set_option maxRecDepth 20000 in
theorem ggX0_number_X0_storeRounded : GoodIn wsX0_number wsX0_storeRounded := goodIn_r _ [15, 16, 17, 18, 19, 20, 21, 22, 23, 7, 24, 25, 26, 27, 28, 29, 30, 31, 32] (by decide +kernel) (by decide +kernel)
set_option maxRecDepth 20000 in
theorem gX0_number_X0_storeRounded : GoodIn wsX0_number (wsV RX0 69 RX0 yX0_storeRounded wsX0_storeRounded) := goodIn_app (goodIn_of _ (by decide +kernel)) ggX0_number_X0_storeRounded
theorem dX0_number_0 : decode cX0_number 0 = .ok (.iload_n 1, 1) := by decide +kernel
theorem dX0_number_1 : decode cX0_number 1 = .ok (.invokestatic 60, 3) := by decide +kernel
theorem dX0_number_4 : decode cX0_number 4 = .ok (.ifCond .eq 10, 3) := by decide +kernel
theorem dX0_number_7 : decode cX0_number 7 = .ok (.iload_n 3, 1) := by decide +kernel
theorem dX0_number_8 : decode cX0_number 8 = .ok (.invokestatic 20, 3) := by decide +kernel
theorem dX0_number_11 : decode cX0_number 11 = .ok (.ifCond .ne 6, 3) := by decide +kernel
theorem dX0_number_14 : decode cX0_number 14 = .ok (.bipush (-5), 2) := by decide +kernel
theorem dX0_number_16 : decode cX0_number 16 = .ok (.ireturn, 1) := by decide +kernel
theorem dX0_number_17 : decode cX0_number 17 = .ok (.aload_n 0, 1) := by decide +kernel
theorem dX0_number_18 : decode cX0_number 18 = .ok (.iload_n 1, 1) := by decide +kernel
theorem dX0_number_19 : decode cX0_number 19 = .ok (.iload_n 3, 1) := by decide +kernel
theorem dX0_number_20 : decode cX0_number 20 = .ok (.iload_n 2, 1) := by decide +kernel
theorem dX0_number_21 : decode cX0_number 21 = .ok (.ifCond .ge 7, 3) := by decide +kernel
theorem dX0_number_24 : decode cX0_number 24 = .ok (.iconst 1, 1) := by decide +kernel
theorem dX0_number_25 : decode cX0_number 25 = .ok (.goto 4, 3) := by decide +kernel
theorem dX0_number_28 : decode cX0_number 28 = .ok (.iconst 0, 1) := by decide +kernel
theorem dX0_number_29 : decode cX0_number 29 = .ok (.sipush 191, 3) := by decide +kernel
theorem dX0_number_32 : decode cX0_number 32 = .ok (.iload_n 2, 1) := by decide +kernel
theorem dX0_number_33 : decode cX0_number 33 = .ok (.i2l, 1) := by decide +kernel
theorem dX0_number_34 : decode cX0_number 34 = .ok (.invokestatic 63, 3) := by decide +kernel
theorem dX0_number_37 : decode cX0_number 37 = .ok (.invokevirtual 69, 3) := by decide +kernel
theorem dX0_number_40 : decode cX0_number 40 = .ok (.ireturn, 1) := by decide +kernel
theorem dX0_lost_0 : decode cX0_lost 0 = .ok (.aload_n 0, 1) := by decide +kernel
theorem dX0_lost_1 : decode cX0_lost 1 = .ok (.getfield 17, 3) := by decide +kernel
theorem dX0_lost_4 : decode cX0_lost 4 = .ok (.ireturn, 1) := by decide +kernel
theorem dX0_isRegister_0 : decode cX0_isRegister 0 = .ok (.iload_n 0, 1) := by decide +kernel
theorem dX0_isRegister_1 : decode cX0_isRegister 1 = .ok (.ifCond .lt 13, 3) := by decide +kernel
theorem dX0_isRegister_4 : decode cX0_isRegister 4 = .ok (.iload_n 0, 1) := by decide +kernel
theorem dX0_isRegister_5 : decode cX0_isRegister 5 = .ok (.bipush 8, 2) := by decide +kernel
theorem dX0_isRegister_7 : decode cX0_isRegister 7 = .ok (.if_icmp .ge 7, 3) := by decide +kernel
theorem dX0_isRegister_10 : decode cX0_isRegister 10 = .ok (.iconst 1, 1) := by decide +kernel
theorem dX0_isRegister_11 : decode cX0_isRegister 11 = .ok (.goto 4, 3) := by decide +kernel
theorem dX0_isRegister_14 : decode cX0_isRegister 14 = .ok (.iconst 0, 1) := by decide +kernel
theorem dX0_isRegister_15 : decode cX0_isRegister 15 = .ok (.ireturn, 1) := by decide +kernel
theorem dX0_isSize_0 : decode cX0_isSize 0 = .ok (.iload_n 0, 1) := by decide +kernel
theorem dX0_isSize_1 : decode cX0_isSize 1 = .ok (.iconst 4, 1) := by decide +kernel
theorem dX0_isSize_2 : decode cX0_isSize 2 = .ok (.if_icmp .eq 9, 3) := by decide +kernel
theorem dX0_isSize_5 : decode cX0_isSize 5 = .ok (.iload_n 0, 1) := by decide +kernel
theorem dX0_isSize_6 : decode cX0_isSize 6 = .ok (.bipush 8, 2) := by decide +kernel
theorem dX0_isSize_8 : decode cX0_isSize 8 = .ok (.if_icmp .ne 7, 3) := by decide +kernel
theorem dX0_isSize_11 : decode cX0_isSize 11 = .ok (.iconst 1, 1) := by decide +kernel
theorem dX0_isSize_12 : decode cX0_isSize 12 = .ok (.goto 4, 3) := by decide +kernel
theorem dX0_isSize_15 : decode cX0_isSize 15 = .ok (.iconst 0, 1) := by decide +kernel
theorem dX0_isSize_16 : decode cX0_isSize 16 = .ok (.ireturn, 1) := by decide +kernel
theorem dX0_isReserved_0 : decode cX0_isReserved 0 = .ok (.aload_n 0, 1) := by decide +kernel
theorem dX0_isReserved_1 : decode cX0_isReserved 1 = .ok (.getfield 9, 3) := by decide +kernel
theorem dX0_isReserved_4 : decode cX0_isReserved 4 = .ok (.iload_n 1, 1) := by decide +kernel
theorem dX0_isReserved_5 : decode cX0_isReserved 5 = .ok (.laload, 1) := by decide +kernel
theorem dX0_isReserved_6 : decode cX0_isReserved 6 = .ok (.ldc2_w 73, 3) := by decide +kernel
theorem dX0_isReserved_9 : decode cX0_isReserved 9 = .ok (.land, 1) := by decide +kernel
theorem dX0_isReserved_10 : decode cX0_isReserved 10 = .ok (.ldc2_w 75, 3) := by decide +kernel
theorem dX0_isReserved_13 : decode cX0_isReserved 13 = .ok (.lcmp, 1) := by decide +kernel
theorem dX0_isReserved_14 : decode cX0_isReserved 14 = .ok (.ifCond .ne 7, 3) := by decide +kernel
theorem dX0_isReserved_17 : decode cX0_isReserved 17 = .ok (.iconst 1, 1) := by decide +kernel
theorem dX0_isReserved_18 : decode cX0_isReserved 18 = .ok (.goto 4, 3) := by decide +kernel
theorem dX0_isReserved_21 : decode cX0_isReserved 21 = .ok (.iconst 0, 1) := by decide +kernel
theorem dX0_isReserved_22 : decode cX0_isReserved 22 = .ok (.ireturn, 1) := by decide +kernel
set_option maxRecDepth 20000 in
theorem ggX0_refusalOf_X0_isSize : GoodIn wsX0_refusalOf wsX0_isSize := goodIn_r _ [4] (by decide +kernel) (by decide +kernel)
set_option maxRecDepth 20000 in
theorem gX0_refusalOf_X0_isSize : GoodIn wsX0_refusalOf (va_wsS RX0 60 yX0_isSize wsX0_isSize) := goodIn_app (goodIn_of _ (by decide +kernel)) ggX0_refusalOf_X0_isSize
set_option maxRecDepth 20000 in
theorem ggX0_refusalOf_X0_isRegister : GoodIn wsX0_refusalOf wsX0_isRegister := goodIn_r _ [7] (by decide +kernel) (by decide +kernel)
set_option maxRecDepth 20000 in
theorem gX0_refusalOf_X0_isRegister : GoodIn wsX0_refusalOf (va_wsS RX0 20 yX0_isRegister wsX0_isRegister) := goodIn_app (goodIn_of _ (by decide +kernel)) ggX0_refusalOf_X0_isRegister
set_option maxRecDepth 20000 in
theorem ggX0_refusalOf_X0_isReserved : GoodIn wsX0_refusalOf wsX0_isReserved := goodIn_r _ [11, 12, 13, 14, 15, 16, 17] (by decide +kernel) (by decide +kernel)
set_option maxRecDepth 20000 in
theorem gX0_refusalOf_X0_isReserved : GoodIn wsX0_refusalOf (wsV RX0 77 RX0 yX0_isReserved wsX0_isReserved) := goodIn_app (goodIn_of _ (by decide +kernel)) ggX0_refusalOf_X0_isReserved
theorem dX0_refusalOf_0 : decode cX0_refusalOf 0 = .ok (.iload_n 1, 1) := by decide +kernel
theorem dX0_refusalOf_1 : decode cX0_refusalOf 1 = .ok (.invokestatic 60, 3) := by decide +kernel
theorem dX0_refusalOf_4 : decode cX0_refusalOf 4 = .ok (.ifCond .eq 25, 3) := by decide +kernel
theorem dX0_refusalOf_7 : decode cX0_refusalOf 7 = .ok (.iload_n 2, 1) := by decide +kernel
theorem dX0_refusalOf_8 : decode cX0_refusalOf 8 = .ok (.invokestatic 20, 3) := by decide +kernel
theorem dX0_refusalOf_11 : decode cX0_refusalOf 11 = .ok (.ifCond .eq 18, 3) := by decide +kernel
theorem dX0_refusalOf_14 : decode cX0_refusalOf 14 = .ok (.iload_n 3, 1) := by decide +kernel
theorem dX0_refusalOf_15 : decode cX0_refusalOf 15 = .ok (.invokestatic 20, 3) := by decide +kernel
theorem dX0_refusalOf_18 : decode cX0_refusalOf 18 = .ok (.ifCond .eq 11, 3) := by decide +kernel
theorem dX0_refusalOf_21 : decode cX0_refusalOf 21 = .ok (.iload 4, 2) := by decide +kernel
theorem dX0_refusalOf_23 : decode cX0_refusalOf 23 = .ok (.invokestatic 20, 3) := by decide +kernel
theorem dX0_refusalOf_26 : decode cX0_refusalOf 26 = .ok (.ifCond .ne 6, 3) := by decide +kernel
theorem dX0_refusalOf_29 : decode cX0_refusalOf 29 = .ok (.bipush (-5), 2) := by decide +kernel
theorem dX0_refusalOf_31 : decode cX0_refusalOf 31 = .ok (.ireturn, 1) := by decide +kernel
theorem dX0_refusalOf_32 : decode cX0_refusalOf 32 = .ok (.aload_n 0, 1) := by decide +kernel
theorem dX0_refusalOf_33 : decode cX0_refusalOf 33 = .ok (.iload_n 2, 1) := by decide +kernel
theorem dX0_refusalOf_34 : decode cX0_refusalOf 34 = .ok (.invokevirtual 77, 3) := by decide +kernel
theorem dX0_refusalOf_37 : decode cX0_refusalOf 37 = .ok (.ifCond .ne 11, 3) := by decide +kernel
theorem dX0_refusalOf_40 : decode cX0_refusalOf 40 = .ok (.aload_n 0, 1) := by decide +kernel
theorem dX0_refusalOf_41 : decode cX0_refusalOf 41 = .ok (.iload_n 3, 1) := by decide +kernel
theorem dX0_refusalOf_42 : decode cX0_refusalOf 42 = .ok (.invokevirtual 77, 3) := by decide +kernel
theorem dX0_refusalOf_45 : decode cX0_refusalOf 45 = .ok (.ifCond .eq 7, 3) := by decide +kernel
theorem dX0_refusalOf_48 : decode cX0_refusalOf 48 = .ok (.iconst (-1), 1) := by decide +kernel
theorem dX0_refusalOf_49 : decode cX0_refusalOf 49 = .ok (.goto 4, 3) := by decide +kernel
theorem dX0_refusalOf_52 : decode cX0_refusalOf 52 = .ok (.iconst 0, 1) := by decide +kernel
theorem dX0_refusalOf_53 : decode cX0_refusalOf 53 = .ok (.ireturn, 1) := by decide +kernel
theorem dX0_flagsOf_0 : decode cX0_flagsOf 0 = .ok (.lload_n 0, 1) := by decide +kernel
theorem dX0_flagsOf_1 : decode cX0_flagsOf 1 = .ok (.lconst 0, 1) := by decide +kernel
theorem dX0_flagsOf_2 : decode cX0_flagsOf 2 = .ok (.lcmp, 1) := by decide +kernel
theorem dX0_flagsOf_3 : decode cX0_flagsOf 3 = .ok (.ifCond .ne 5, 3) := by decide +kernel
theorem dX0_flagsOf_6 : decode cX0_flagsOf 6 = .ok (.iconst 4, 1) := by decide +kernel
theorem dX0_flagsOf_7 : decode cX0_flagsOf 7 = .ok (.ireturn, 1) := by decide +kernel
theorem dX0_flagsOf_8 : decode cX0_flagsOf 8 = .ok (.lload_n 0, 1) := by decide +kernel
theorem dX0_flagsOf_9 : decode cX0_flagsOf 9 = .ok (.lconst 0, 1) := by decide +kernel
theorem dX0_flagsOf_10 : decode cX0_flagsOf 10 = .ok (.lcmp, 1) := by decide +kernel
theorem dX0_flagsOf_11 : decode cX0_flagsOf 11 = .ok (.ifCond .ge 8, 3) := by decide +kernel
theorem dX0_flagsOf_14 : decode cX0_flagsOf 14 = .ok (.bipush 8, 2) := by decide +kernel
theorem dX0_flagsOf_16 : decode cX0_flagsOf 16 = .ok (.goto 4, 3) := by decide +kernel
theorem dX0_flagsOf_19 : decode cX0_flagsOf 19 = .ok (.iconst 0, 1) := by decide +kernel
theorem dX0_flagsOf_20 : decode cX0_flagsOf 20 = .ok (.ireturn, 1) := by decide +kernel
theorem dX0_valueIn_0 : decode cX0_valueIn 0 = .ok (.iload_n 1, 1) := by decide +kernel
theorem dX0_valueIn_1 : decode cX0_valueIn 1 = .ok (.iconst 4, 1) := by decide +kernel
theorem dX0_valueIn_2 : decode cX0_valueIn 2 = .ok (.if_icmp .ne 16, 3) := by decide +kernel
theorem dX0_valueIn_5 : decode cX0_valueIn 5 = .ok (.aload_n 0, 1) := by decide +kernel
theorem dX0_valueIn_6 : decode cX0_valueIn 6 = .ok (.getfield 9, 3) := by decide +kernel
theorem dX0_valueIn_9 : decode cX0_valueIn 9 = .ok (.iload_n 2, 1) := by decide +kernel
theorem dX0_valueIn_10 : decode cX0_valueIn 10 = .ok (.laload, 1) := by decide +kernel
theorem dX0_valueIn_11 : decode cX0_valueIn 11 = .ok (.ldc2_w 80, 3) := by decide +kernel
theorem dX0_valueIn_14 : decode cX0_valueIn 14 = .ok (.land, 1) := by decide +kernel
theorem dX0_valueIn_15 : decode cX0_valueIn 15 = .ok (.goto 9, 3) := by decide +kernel
theorem dX0_valueIn_18 : decode cX0_valueIn 18 = .ok (.aload_n 0, 1) := by decide +kernel
theorem dX0_valueIn_19 : decode cX0_valueIn 19 = .ok (.getfield 9, 3) := by decide +kernel
theorem dX0_valueIn_22 : decode cX0_valueIn 22 = .ok (.iload_n 2, 1) := by decide +kernel
theorem dX0_valueIn_23 : decode cX0_valueIn 23 = .ok (.laload, 1) := by decide +kernel
theorem dX0_valueIn_24 : decode cX0_valueIn 24 = .ok (.lstore_n 3, 1) := by decide +kernel
theorem dX0_valueIn_25 : decode cX0_valueIn 25 = .ok (.lload_n 3, 1) := by decide +kernel
theorem dX0_valueIn_26 : decode cX0_valueIn 26 = .ok (.bipush 7, 2) := by decide +kernel
theorem dX0_valueIn_28 : decode cX0_valueIn 28 = .ok (.lushr, 1) := by decide +kernel
theorem dX0_valueIn_29 : decode cX0_valueIn 29 = .ok (.ldc2_w 82, 3) := by decide +kernel
theorem dX0_valueIn_32 : decode cX0_valueIn 32 = .ok (.land, 1) := by decide +kernel
theorem dX0_valueIn_33 : decode cX0_valueIn 33 = .ok (.lstore 5, 2) := by decide +kernel
theorem dX0_valueIn_35 : decode cX0_valueIn 35 = .ok (.lload 5, 2) := by decide +kernel
theorem dX0_valueIn_37 : decode cX0_valueIn 37 = .ok (.lconst 0, 1) := by decide +kernel
theorem dX0_valueIn_38 : decode cX0_valueIn 38 = .ok (.lcmp, 1) := by decide +kernel
theorem dX0_valueIn_39 : decode cX0_valueIn 39 = .ok (.ifCond .ne 5, 3) := by decide +kernel
theorem dX0_valueIn_42 : decode cX0_valueIn 42 = .ok (.lconst 0, 1) := by decide +kernel
theorem dX0_valueIn_43 : decode cX0_valueIn 43 = .ok (.lreturn, 1) := by decide +kernel
theorem dX0_valueIn_44 : decode cX0_valueIn 44 = .ok (.lload_n 3, 1) := by decide +kernel
theorem dX0_valueIn_45 : decode cX0_valueIn 45 = .ok (.ldc2_w 84, 3) := by decide +kernel
theorem dX0_valueIn_48 : decode cX0_valueIn 48 = .ok (.land, 1) := by decide +kernel
theorem dX0_valueIn_49 : decode cX0_valueIn 49 = .ok (.bipush 48, 2) := by decide +kernel
theorem dX0_valueIn_51 : decode cX0_valueIn 51 = .ok (.lshl, 1) := by decide +kernel
theorem dX0_valueIn_52 : decode cX0_valueIn 52 = .ok (.lload_n 3, 1) := by decide +kernel
theorem dX0_valueIn_53 : decode cX0_valueIn 53 = .ok (.bipush 16, 2) := by decide +kernel
theorem dX0_valueIn_55 : decode cX0_valueIn 55 = .ok (.lushr, 1) := by decide +kernel
theorem dX0_valueIn_56 : decode cX0_valueIn 56 = .ok (.ldc2_w 86, 3) := by decide +kernel
theorem dX0_valueIn_59 : decode cX0_valueIn 59 = .ok (.land, 1) := by decide +kernel
theorem dX0_valueIn_60 : decode cX0_valueIn 60 = .ok (.bipush 32, 2) := by decide +kernel
theorem dX0_valueIn_62 : decode cX0_valueIn 62 = .ok (.lshl, 1) := by decide +kernel
theorem dX0_valueIn_63 : decode cX0_valueIn 63 = .ok (.lor, 1) := by decide +kernel
theorem dX0_valueIn_64 : decode cX0_valueIn 64 = .ok (.lload_n 3, 1) := by decide +kernel
theorem dX0_valueIn_65 : decode cX0_valueIn 65 = .ok (.bipush 32, 2) := by decide +kernel
theorem dX0_valueIn_67 : decode cX0_valueIn 67 = .ok (.lushr, 1) := by decide +kernel
theorem dX0_valueIn_68 : decode cX0_valueIn 68 = .ok (.ldc2_w 86, 3) := by decide +kernel
theorem dX0_valueIn_71 : decode cX0_valueIn 71 = .ok (.land, 1) := by decide +kernel
theorem dX0_valueIn_72 : decode cX0_valueIn 72 = .ok (.bipush 16, 2) := by decide +kernel
theorem dX0_valueIn_74 : decode cX0_valueIn 74 = .ok (.lshl, 1) := by decide +kernel
theorem dX0_valueIn_75 : decode cX0_valueIn 75 = .ok (.lor, 1) := by decide +kernel
theorem dX0_valueIn_76 : decode cX0_valueIn 76 = .ok (.lload_n 3, 1) := by decide +kernel
theorem dX0_valueIn_77 : decode cX0_valueIn 77 = .ok (.bipush 48, 2) := by decide +kernel
theorem dX0_valueIn_79 : decode cX0_valueIn 79 = .ok (.lushr, 1) := by decide +kernel
theorem dX0_valueIn_80 : decode cX0_valueIn 80 = .ok (.lor, 1) := by decide +kernel
theorem dX0_valueIn_81 : decode cX0_valueIn 81 = .ok (.lstore 7, 2) := by decide +kernel
theorem dX0_valueIn_83 : decode cX0_valueIn 83 = .ok (.lload 5, 2) := by decide +kernel
theorem dX0_valueIn_85 : decode cX0_valueIn 85 = .ok (.bipush 55, 2) := by decide +kernel
theorem dX0_valueIn_87 : decode cX0_valueIn 87 = .ok (.lshl, 1) := by decide +kernel
theorem dX0_valueIn_88 : decode cX0_valueIn 88 = .ok (.lload 7, 2) := by decide +kernel
theorem dX0_valueIn_90 : decode cX0_valueIn 90 = .ok (.lor, 1) := by decide +kernel
theorem dX0_valueIn_91 : decode cX0_valueIn 91 = .ok (.lstore 9, 2) := by decide +kernel
theorem dX0_valueIn_93 : decode cX0_valueIn 93 = .ok (.lload_n 3, 1) := by decide +kernel
theorem dX0_valueIn_94 : decode cX0_valueIn 94 = .ok (.ldc2_w 75, 3) := by decide +kernel
theorem dX0_valueIn_97 : decode cX0_valueIn 97 = .ok (.land, 1) := by decide +kernel
theorem dX0_valueIn_98 : decode cX0_valueIn 98 = .ok (.lconst 0, 1) := by decide +kernel
theorem dX0_valueIn_99 : decode cX0_valueIn 99 = .ok (.lcmp, 1) := by decide +kernel
theorem dX0_valueIn_100 : decode cX0_valueIn 100 = .ok (.ifCond .eq 9, 3) := by decide +kernel
theorem dX0_valueIn_103 : decode cX0_valueIn 103 = .ok (.lload 9, 2) := by decide +kernel
theorem dX0_valueIn_105 : decode cX0_valueIn 105 = .ok (.lneg, 1) := by decide +kernel
theorem dX0_valueIn_106 : decode cX0_valueIn 106 = .ok (.goto 5, 3) := by decide +kernel
theorem dX0_valueIn_109 : decode cX0_valueIn 109 = .ok (.lload 9, 2) := by decide +kernel
theorem dX0_valueIn_111 : decode cX0_valueIn 111 = .ok (.lreturn, 1) := by decide +kernel
theorem dX0_bitsOf_0 : decode cX0_bitsOf 0 = .ok (.iload_n 0, 1) := by decide +kernel
theorem dX0_bitsOf_1 : decode cX0_bitsOf 1 = .ok (.ifCond .eq 8, 3) := by decide +kernel
theorem dX0_bitsOf_4 : decode cX0_bitsOf 4 = .ok (.ldc 88, 2) := by decide +kernel
theorem dX0_bitsOf_6 : decode cX0_bitsOf 6 = .ok (.goto 4, 3) := by decide +kernel
theorem dX0_bitsOf_9 : decode cX0_bitsOf 9 = .ok (.iconst 0, 1) := by decide +kernel
theorem dX0_bitsOf_10 : decode cX0_bitsOf 10 = .ok (.i2l, 1) := by decide +kernel
theorem dX0_bitsOf_11 : decode cX0_bitsOf 11 = .ok (.iload_n 1, 1) := by decide +kernel
theorem dX0_bitsOf_12 : decode cX0_bitsOf 12 = .ok (.i2l, 1) := by decide +kernel
theorem dX0_bitsOf_13 : decode cX0_bitsOf 13 = .ok (.bipush 7, 2) := by decide +kernel
theorem dX0_bitsOf_15 : decode cX0_bitsOf 15 = .ok (.lshl, 1) := by decide +kernel
theorem dX0_bitsOf_16 : decode cX0_bitsOf 16 = .ok (.lor, 1) := by decide +kernel
theorem dX0_bitsOf_17 : decode cX0_bitsOf 17 = .ok (.lload_n 2, 1) := by decide +kernel
theorem dX0_bitsOf_18 : decode cX0_bitsOf 18 = .ok (.bipush 48, 2) := by decide +kernel
theorem dX0_bitsOf_20 : decode cX0_bitsOf 20 = .ok (.lushr, 1) := by decide +kernel
theorem dX0_bitsOf_21 : decode cX0_bitsOf 21 = .ok (.lor, 1) := by decide +kernel
theorem dX0_bitsOf_22 : decode cX0_bitsOf 22 = .ok (.lload_n 2, 1) := by decide +kernel
theorem dX0_bitsOf_23 : decode cX0_bitsOf 23 = .ok (.bipush 32, 2) := by decide +kernel
theorem dX0_bitsOf_25 : decode cX0_bitsOf 25 = .ok (.lushr, 1) := by decide +kernel
theorem dX0_bitsOf_26 : decode cX0_bitsOf 26 = .ok (.ldc2_w 86, 3) := by decide +kernel
theorem dX0_bitsOf_29 : decode cX0_bitsOf 29 = .ok (.land, 1) := by decide +kernel
theorem dX0_bitsOf_30 : decode cX0_bitsOf 30 = .ok (.bipush 16, 2) := by decide +kernel
theorem dX0_bitsOf_32 : decode cX0_bitsOf 32 = .ok (.lshl, 1) := by decide +kernel
theorem dX0_bitsOf_33 : decode cX0_bitsOf 33 = .ok (.lor, 1) := by decide +kernel
theorem dX0_bitsOf_34 : decode cX0_bitsOf 34 = .ok (.lload_n 2, 1) := by decide +kernel
theorem dX0_bitsOf_35 : decode cX0_bitsOf 35 = .ok (.bipush 16, 2) := by decide +kernel
theorem dX0_bitsOf_37 : decode cX0_bitsOf 37 = .ok (.lushr, 1) := by decide +kernel
theorem dX0_bitsOf_38 : decode cX0_bitsOf 38 = .ok (.ldc2_w 86, 3) := by decide +kernel
theorem dX0_bitsOf_41 : decode cX0_bitsOf 41 = .ok (.land, 1) := by decide +kernel
theorem dX0_bitsOf_42 : decode cX0_bitsOf 42 = .ok (.bipush 32, 2) := by decide +kernel
theorem dX0_bitsOf_44 : decode cX0_bitsOf 44 = .ok (.lshl, 1) := by decide +kernel
theorem dX0_bitsOf_45 : decode cX0_bitsOf 45 = .ok (.lor, 1) := by decide +kernel
theorem dX0_bitsOf_46 : decode cX0_bitsOf 46 = .ok (.lload_n 2, 1) := by decide +kernel
theorem dX0_bitsOf_47 : decode cX0_bitsOf 47 = .ok (.ldc2_w 86, 3) := by decide +kernel
theorem dX0_bitsOf_50 : decode cX0_bitsOf 50 = .ok (.land, 1) := by decide +kernel
theorem dX0_bitsOf_51 : decode cX0_bitsOf 51 = .ok (.bipush 48, 2) := by decide +kernel
theorem dX0_bitsOf_53 : decode cX0_bitsOf 53 = .ok (.lshl, 1) := by decide +kernel
theorem dX0_bitsOf_54 : decode cX0_bitsOf 54 = .ok (.lor, 1) := by decide +kernel
theorem dX0_bitsOf_55 : decode cX0_bitsOf 55 = .ok (.lreturn, 1) := by decide +kernel
theorem dX0_exponentOf_0 : decode cX0_exponentOf 0 = .ok (.lload_n 0, 1) := by decide +kernel
theorem dX0_exponentOf_1 : decode cX0_exponentOf 1 = .ok (.invokestatic 63, 3) := by decide +kernel
theorem dX0_exponentOf_4 : decode cX0_exponentOf 4 = .ok (.bipush 55, 2) := by decide +kernel
theorem dX0_exponentOf_6 : decode cX0_exponentOf 6 = .ok (.lushr, 1) := by decide +kernel
theorem dX0_exponentOf_7 : decode cX0_exponentOf 7 = .ok (.l2i, 1) := by decide +kernel
theorem dX0_exponentOf_8 : decode cX0_exponentOf 8 = .ok (.ireturn, 1) := by decide +kernel
theorem dX0_significandOf_0 : decode cX0_significandOf 0 = .ok (.lload_n 0, 1) := by decide +kernel
theorem dX0_significandOf_1 : decode cX0_significandOf 1 = .ok (.invokestatic 63, 3) := by decide +kernel
theorem dX0_significandOf_4 : decode cX0_significandOf 4 = .ok (.ldc2_w 89, 3) := by decide +kernel
theorem dX0_significandOf_7 : decode cX0_significandOf 7 = .ok (.land, 1) := by decide +kernel
theorem dX0_significandOf_8 : decode cX0_significandOf 8 = .ok (.ldc2_w 91, 3) := by decide +kernel
theorem dX0_significandOf_11 : decode cX0_significandOf 11 = .ok (.lor, 1) := by decide +kernel
theorem dX0_significandOf_12 : decode cX0_significandOf 12 = .ok (.lreturn, 1) := by decide +kernel
theorem dX0_storeZero_0 : decode cX0_storeZero 0 = .ok (.aload_n 0, 1) := by decide +kernel
theorem dX0_storeZero_1 : decode cX0_storeZero 1 = .ok (.getfield 9, 3) := by decide +kernel
theorem dX0_storeZero_4 : decode cX0_storeZero 4 = .ok (.iload_n 1, 1) := by decide +kernel
theorem dX0_storeZero_5 : decode cX0_storeZero 5 = .ok (.lconst 0, 1) := by decide +kernel
theorem dX0_storeZero_6 : decode cX0_storeZero 6 = .ok (.lastore, 1) := by decide +kernel
theorem dX0_storeZero_7 : decode cX0_storeZero 7 = .ok (.aload_n 0, 1) := by decide +kernel
theorem dX0_storeZero_8 : decode cX0_storeZero 8 = .ok (.iload_n 2, 1) := by decide +kernel
theorem dX0_storeZero_9 : decode cX0_storeZero 9 = .ok (.putfield 17, 3) := by decide +kernel
theorem dX0_storeZero_12 : decode cX0_storeZero 12 = .ok (.iconst 4, 1) := by decide +kernel
theorem dX0_storeZero_13 : decode cX0_storeZero 13 = .ok (.ireturn, 1) := by decide +kernel
set_option maxRecDepth 20000 in
theorem ggX0_storeValue_X0_storeZero : GoodIn wsX0_storeValue wsX0_storeZero := goodIn_r _ [5, 6, 7, 31, 32, 33] (by decide +kernel) (by decide +kernel)
set_option maxRecDepth 20000 in
theorem gX0_storeValue_X0_storeZero : GoodIn wsX0_storeValue (wsV RX0 93 RX0 yX0_storeZero wsX0_storeZero) := goodIn_app (goodIn_of _ (by decide +kernel)) ggX0_storeValue_X0_storeZero
set_option maxRecDepth 20000 in
theorem ggX0_storeValue_X0_exponentOf : GoodIn wsX0_storeValue wsX0_exponentOf := goodIn_r _ [10, 11, 12, 13, 14] (by decide +kernel) (by decide +kernel)
set_option maxRecDepth 20000 in
theorem gX0_storeValue_X0_exponentOf : GoodIn wsX0_storeValue (va_wsS RX0 97 yX0_exponentOf wsX0_exponentOf) := goodIn_app (goodIn_of _ (by decide +kernel)) ggX0_storeValue_X0_exponentOf
set_option maxRecDepth 20000 in
theorem ggX0_storeValue_X0_significandOf : GoodIn wsX0_storeValue wsX0_significandOf := goodIn_r _ [17, 11, 12, 13, 14, 18, 19] (by decide +kernel) (by decide +kernel)
set_option maxRecDepth 20000 in
theorem gX0_storeValue_X0_significandOf : GoodIn wsX0_storeValue (va_wsS RX0 100 yX0_significandOf wsX0_significandOf) := goodIn_app (goodIn_of _ (by decide +kernel)) ggX0_storeValue_X0_significandOf
set_option maxRecDepth 20000 in
theorem ggX0_storeValue_X0_storeRounded : GoodIn wsX0_storeValue wsX0_storeRounded := goodIn_r _ [23, 24, 25, 6, 18, 7, 1, 2, 3, 4, 5, 26, 27, 28, 29, 30, 31, 32, 33] (by decide +kernel) (by decide +kernel)
set_option maxRecDepth 20000 in
theorem gX0_storeValue_X0_storeRounded : GoodIn wsX0_storeValue (wsV RX0 69 RX0 yX0_storeRounded wsX0_storeRounded) := goodIn_app (goodIn_of _ (by decide +kernel)) ggX0_storeValue_X0_storeRounded
theorem dX0_storeValue_0 : decode cX0_storeValue 0 = .ok (.lload_n 3, 1) := by decide +kernel
theorem dX0_storeValue_1 : decode cX0_storeValue 1 = .ok (.lconst 0, 1) := by decide +kernel
theorem dX0_storeValue_2 : decode cX0_storeValue 2 = .ok (.lcmp, 1) := by decide +kernel
theorem dX0_storeValue_3 : decode cX0_storeValue 3 = .ok (.ifCond .ne 10, 3) := by decide +kernel
theorem dX0_storeValue_6 : decode cX0_storeValue 6 = .ok (.aload_n 0, 1) := by decide +kernel
theorem dX0_storeValue_7 : decode cX0_storeValue 7 = .ok (.iload_n 2, 1) := by decide +kernel
theorem dX0_storeValue_8 : decode cX0_storeValue 8 = .ok (.iconst 0, 1) := by decide +kernel
theorem dX0_storeValue_9 : decode cX0_storeValue 9 = .ok (.invokevirtual 93, 3) := by decide +kernel
theorem dX0_storeValue_12 : decode cX0_storeValue 12 = .ok (.ireturn, 1) := by decide +kernel
theorem dX0_storeValue_13 : decode cX0_storeValue 13 = .ok (.aload_n 0, 1) := by decide +kernel
theorem dX0_storeValue_14 : decode cX0_storeValue 14 = .ok (.iload_n 1, 1) := by decide +kernel
theorem dX0_storeValue_15 : decode cX0_storeValue 15 = .ok (.iload_n 2, 1) := by decide +kernel
theorem dX0_storeValue_16 : decode cX0_storeValue 16 = .ok (.lload_n 3, 1) := by decide +kernel
theorem dX0_storeValue_17 : decode cX0_storeValue 17 = .ok (.lconst 0, 1) := by decide +kernel
theorem dX0_storeValue_18 : decode cX0_storeValue 18 = .ok (.lcmp, 1) := by decide +kernel
theorem dX0_storeValue_19 : decode cX0_storeValue 19 = .ok (.ifCond .ge 7, 3) := by decide +kernel
theorem dX0_storeValue_22 : decode cX0_storeValue 22 = .ok (.iconst 1, 1) := by decide +kernel
theorem dX0_storeValue_23 : decode cX0_storeValue 23 = .ok (.goto 4, 3) := by decide +kernel
theorem dX0_storeValue_26 : decode cX0_storeValue 26 = .ok (.iconst 0, 1) := by decide +kernel
