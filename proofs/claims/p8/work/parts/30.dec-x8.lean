theorem dX8_init_0 : decode cX8_init 0 = .ok (.aload_n 0, 1) := by decide +kernel
theorem dX8_init_1 : decode cX8_init 1 = .ok (.invokespecial 1, 3) := by decide +kernel
theorem dX8_init_4 : decode cX8_init 4 = .ok (.aload_n 0, 1) := by decide +kernel
theorem dX8_init_5 : decode cX8_init 5 = .ok (.bipush 9, 2) := by decide +kernel
theorem dX8_init_7 : decode cX8_init 7 = .ok (.newarray .long, 2) := by decide +kernel
theorem dX8_init_9 : decode cX8_init 9 = .ok (.putfield 7, 3) := by decide +kernel
theorem dX8_init_12 : decode cX8_init 12 = .ok (.return_, 1) := by decide +kernel
theorem dX8_become_0 : decode cX8_become 0 = .ok (.iconst 0, 1) := by decide +kernel
theorem dX8_become_1 : decode cX8_become 1 = .ok (.istore_n 2, 1) := by decide +kernel
theorem dX8_become_2 : decode cX8_become 2 = .ok (.iload_n 2, 1) := by decide +kernel
theorem dX8_become_3 : decode cX8_become 3 = .ok (.bipush 9, 2) := by decide +kernel
theorem dX8_become_5 : decode cX8_become 5 = .ok (.if_icmp .ge 21, 3) := by decide +kernel
theorem dX8_become_8 : decode cX8_become 8 = .ok (.aload_n 0, 1) := by decide +kernel
theorem dX8_become_9 : decode cX8_become 9 = .ok (.getfield 7, 3) := by decide +kernel
theorem dX8_become_12 : decode cX8_become 12 = .ok (.iload_n 2, 1) := by decide +kernel
theorem dX8_become_13 : decode cX8_become 13 = .ok (.aload_n 1, 1) := by decide +kernel
theorem dX8_become_14 : decode cX8_become 14 = .ok (.getfield 7, 3) := by decide +kernel
theorem dX8_become_17 : decode cX8_become 17 = .ok (.iload_n 2, 1) := by decide +kernel
theorem dX8_become_18 : decode cX8_become 18 = .ok (.laload, 1) := by decide +kernel
theorem dX8_become_19 : decode cX8_become 19 = .ok (.lastore, 1) := by decide +kernel
theorem dX8_become_20 : decode cX8_become 20 = .ok (.iinc 2 1, 3) := by decide +kernel
theorem dX8_become_23 : decode cX8_become 23 = .ok (.goto (-21), 3) := by decide +kernel
theorem dX8_become_26 : decode cX8_become 26 = .ok (.return_, 1) := by decide +kernel
theorem dX8_becomeNumber_0 : decode cX8_becomeNumber 0 = .ok (.iconst 0, 1) := by decide +kernel
theorem dX8_becomeNumber_1 : decode cX8_becomeNumber 1 = .ok (.istore_n 3, 1) := by decide +kernel
theorem dX8_becomeNumber_2 : decode cX8_becomeNumber 2 = .ok (.iload_n 3, 1) := by decide +kernel
theorem dX8_becomeNumber_3 : decode cX8_becomeNumber 3 = .ok (.bipush 9, 2) := by decide +kernel
theorem dX8_becomeNumber_5 : decode cX8_becomeNumber 5 = .ok (.if_icmp .ge 16, 3) := by decide +kernel
theorem dX8_becomeNumber_8 : decode cX8_becomeNumber 8 = .ok (.aload_n 0, 1) := by decide +kernel
theorem dX8_becomeNumber_9 : decode cX8_becomeNumber 9 = .ok (.getfield 7, 3) := by decide +kernel
theorem dX8_becomeNumber_12 : decode cX8_becomeNumber 12 = .ok (.iload_n 3, 1) := by decide +kernel
theorem dX8_becomeNumber_13 : decode cX8_becomeNumber 13 = .ok (.lconst 0, 1) := by decide +kernel
theorem dX8_becomeNumber_14 : decode cX8_becomeNumber 14 = .ok (.lastore, 1) := by decide +kernel
theorem dX8_becomeNumber_15 : decode cX8_becomeNumber 15 = .ok (.iinc 3 1, 3) := by decide +kernel
theorem dX8_becomeNumber_18 : decode cX8_becomeNumber 18 = .ok (.goto (-16), 3) := by decide +kernel
theorem dX8_becomeNumber_21 : decode cX8_becomeNumber 21 = .ok (.aload_n 0, 1) := by decide +kernel
theorem dX8_becomeNumber_22 : decode cX8_becomeNumber 22 = .ok (.getfield 7, 3) := by decide +kernel
theorem dX8_becomeNumber_25 : decode cX8_becomeNumber 25 = .ok (.iconst 0, 1) := by decide +kernel
theorem dX8_becomeNumber_26 : decode cX8_becomeNumber 26 = .ok (.lload_n 1, 1) := by decide +kernel
theorem dX8_becomeNumber_27 : decode cX8_becomeNumber 27 = .ok (.ldc2_w 13, 3) := by decide +kernel
theorem dX8_becomeNumber_30 : decode cX8_becomeNumber 30 = .ok (.land, 1) := by decide +kernel
theorem dX8_becomeNumber_31 : decode cX8_becomeNumber 31 = .ok (.lastore, 1) := by decide +kernel
theorem dX8_becomeNumber_32 : decode cX8_becomeNumber 32 = .ok (.aload_n 0, 1) := by decide +kernel
theorem dX8_becomeNumber_33 : decode cX8_becomeNumber 33 = .ok (.getfield 7, 3) := by decide +kernel
theorem dX8_becomeNumber_36 : decode cX8_becomeNumber 36 = .ok (.iconst 1, 1) := by decide +kernel
theorem dX8_becomeNumber_37 : decode cX8_becomeNumber 37 = .ok (.lload_n 1, 1) := by decide +kernel
theorem dX8_becomeNumber_38 : decode cX8_becomeNumber 38 = .ok (.bipush 32, 2) := by decide +kernel
theorem dX8_becomeNumber_40 : decode cX8_becomeNumber 40 = .ok (.lushr, 1) := by decide +kernel
theorem dX8_becomeNumber_41 : decode cX8_becomeNumber 41 = .ok (.lastore, 1) := by decide +kernel
theorem dX8_becomeNumber_42 : decode cX8_becomeNumber 42 = .ok (.return_, 1) := by decide +kernel
set_option maxRecDepth 20000 in
theorem ggX8_take_X0_number : GoodIn wsX8_take wsX0_number := goodIn_r _ [6, 7, 8, 9, 5, 10, 11, 19, 20] (by decide +kernel) (by decide +kernel)
set_option maxRecDepth 20000 in
theorem gX8_take_X0_number : GoodIn wsX8_take (wsV RX8 15 RX0 yX0_number wsX0_number) := goodIn_app (goodIn_of _ (by decide +kernel)) ggX8_take_X0_number
set_option maxRecDepth 20000 in
theorem ggX8_take_X8_isBelowN : GoodIn wsX8_take wsX8_isBelowN := goodIn_r _ [16, 1, 17, 18] (by decide +kernel) (by decide +kernel)
set_option maxRecDepth 20000 in
theorem gX8_take_X8_isBelowN : GoodIn wsX8_take (wsV RX8 21 RX8 yX8_isBelowN wsX8_isBelowN) := goodIn_app (goodIn_of _ (by decide +kernel)) ggX8_take_X8_isBelowN
theorem dX8_take_0 : decode cX8_take 0 = .ok (.iconst 0, 1) := by decide +kernel
theorem dX8_take_1 : decode cX8_take 1 = .ok (.istore_n 3, 1) := by decide +kernel
theorem dX8_take_2 : decode cX8_take 2 = .ok (.iload_n 3, 1) := by decide +kernel
theorem dX8_take_3 : decode cX8_take 3 = .ok (.bipush 8, 2) := by decide +kernel
theorem dX8_take_5 : decode cX8_take 5 = .ok (.if_icmp .ge 28, 3) := by decide +kernel
theorem dX8_take_8 : decode cX8_take 8 = .ok (.aload_n 0, 1) := by decide +kernel
theorem dX8_take_9 : decode cX8_take 9 = .ok (.getfield 7, 3) := by decide +kernel
theorem dX8_take_12 : decode cX8_take 12 = .ok (.iload_n 3, 1) := by decide +kernel
theorem dX8_take_13 : decode cX8_take 13 = .ok (.aload_n 1, 1) := by decide +kernel
theorem dX8_take_14 : decode cX8_take 14 = .ok (.iload_n 2, 1) := by decide +kernel
theorem dX8_take_15 : decode cX8_take 15 = .ok (.bipush 28, 2) := by decide +kernel
theorem dX8_take_17 : decode cX8_take 17 = .ok (.iadd, 1) := by decide +kernel
theorem dX8_take_18 : decode cX8_take 18 = .ok (.iconst 4, 1) := by decide +kernel
theorem dX8_take_19 : decode cX8_take 19 = .ok (.iload_n 3, 1) := by decide +kernel
theorem dX8_take_20 : decode cX8_take 20 = .ok (.imul, 1) := by decide +kernel
theorem dX8_take_21 : decode cX8_take 21 = .ok (.isub, 1) := by decide +kernel
theorem dX8_take_22 : decode cX8_take 22 = .ok (.iconst 4, 1) := by decide +kernel
theorem dX8_take_23 : decode cX8_take 23 = .ok (.invokevirtual 15, 3) := by decide +kernel
theorem dX8_take_26 : decode cX8_take 26 = .ok (.lastore, 1) := by decide +kernel
theorem dX8_take_27 : decode cX8_take 27 = .ok (.iinc 3 1, 3) := by decide +kernel
theorem dX8_take_30 : decode cX8_take 30 = .ok (.goto (-28), 3) := by decide +kernel
theorem dX8_take_33 : decode cX8_take 33 = .ok (.aload_n 0, 1) := by decide +kernel
theorem dX8_take_34 : decode cX8_take 34 = .ok (.getfield 7, 3) := by decide +kernel
theorem dX8_take_37 : decode cX8_take 37 = .ok (.bipush 8, 2) := by decide +kernel
theorem dX8_take_39 : decode cX8_take 39 = .ok (.lconst 0, 1) := by decide +kernel
theorem dX8_take_40 : decode cX8_take 40 = .ok (.lastore, 1) := by decide +kernel
theorem dX8_take_41 : decode cX8_take 41 = .ok (.aload_n 0, 1) := by decide +kernel
theorem dX8_take_42 : decode cX8_take 42 = .ok (.invokevirtual 21, 3) := by decide +kernel
theorem dX8_take_45 : decode cX8_take 45 = .ok (.ireturn, 1) := by decide +kernel
set_option maxRecDepth 20000 in
theorem ggX8_takeDigest_X8_take : GoodIn wsX8_takeDigest wsX8_take := goodIn_r _ [5, 6, 7, 8, 9, 10, 11, 12, 13, 14, 15, 16, 17, 18, 19, 4, 20, 21, 32, 33, 34] (by decide +kernel) (by decide +kernel)
set_option maxRecDepth 20000 in
theorem gX8_takeDigest_X8_take : GoodIn wsX8_takeDigest (wsV RX8 25 RX8 yX8_take wsX8_take) := goodIn_app (goodIn_of _ (by decide +kernel)) ggX8_takeDigest_X8_take
set_option maxRecDepth 20000 in
theorem ggX8_takeDigest_X8_reduce : GoodIn wsX8_takeDigest wsX8_reduce := goodIn_r _ [25, 6, 26, 27, 28, 29, 4, 30, 31, 17, 18, 19, 20, 21, 32] (by decide +kernel) (by decide +kernel)
set_option maxRecDepth 20000 in
theorem gX8_takeDigest_X8_reduce : GoodIn wsX8_takeDigest (wsV RX8 29 RX8 yX8_reduce wsX8_reduce) := goodIn_app (goodIn_of _ (by decide +kernel)) ggX8_takeDigest_X8_reduce
theorem dX8_takeDigest_0 : decode cX8_takeDigest 0 = .ok (.aload_n 0, 1) := by decide +kernel
theorem dX8_takeDigest_1 : decode cX8_takeDigest 1 = .ok (.aload_n 1, 1) := by decide +kernel
theorem dX8_takeDigest_2 : decode cX8_takeDigest 2 = .ok (.iconst 0, 1) := by decide +kernel
theorem dX8_takeDigest_3 : decode cX8_takeDigest 3 = .ok (.invokevirtual 25, 3) := by decide +kernel
theorem dX8_takeDigest_6 : decode cX8_takeDigest 6 = .ok (.pop, 1) := by decide +kernel
theorem dX8_takeDigest_7 : decode cX8_takeDigest 7 = .ok (.aload_n 0, 1) := by decide +kernel
theorem dX8_takeDigest_8 : decode cX8_takeDigest 8 = .ok (.invokevirtual 29, 3) := by decide +kernel
theorem dX8_takeDigest_11 : decode cX8_takeDigest 11 = .ok (.return_, 1) := by decide +kernel
set_option maxRecDepth 20000 in
theorem ggX8_addTo_X0_addNumber : GoodIn wsX8_addTo wsX0_addNumber := goodIn_r _ [6, 7, 8, 9, 5, 10, 11, 12, 14, 15] (by decide +kernel) (by decide +kernel)
set_option maxRecDepth 20000 in
theorem gX8_addTo_X0_addNumber : GoodIn wsX8_addTo (wsV RX8 32 RX0 yX0_addNumber wsX0_addNumber) := goodIn_app (goodIn_of _ (by decide +kernel)) ggX8_addTo_X0_addNumber
theorem dX8_addTo_0 : decode cX8_addTo 0 = .ok (.bipush 7, 2) := by decide +kernel
theorem dX8_addTo_2 : decode cX8_addTo 2 = .ok (.istore_n 2, 1) := by decide +kernel
theorem dX8_addTo_3 : decode cX8_addTo 3 = .ok (.iload_n 2, 1) := by decide +kernel
theorem dX8_addTo_4 : decode cX8_addTo 4 = .ok (.ifCond .lt 20, 3) := by decide +kernel
theorem dX8_addTo_7 : decode cX8_addTo 7 = .ok (.aload_n 1, 1) := by decide +kernel
theorem dX8_addTo_8 : decode cX8_addTo 8 = .ok (.aload_n 0, 1) := by decide +kernel
theorem dX8_addTo_9 : decode cX8_addTo 9 = .ok (.getfield 7, 3) := by decide +kernel
theorem dX8_addTo_12 : decode cX8_addTo 12 = .ok (.iload_n 2, 1) := by decide +kernel
theorem dX8_addTo_13 : decode cX8_addTo 13 = .ok (.laload, 1) := by decide +kernel
theorem dX8_addTo_14 : decode cX8_addTo 14 = .ok (.iconst 4, 1) := by decide +kernel
theorem dX8_addTo_15 : decode cX8_addTo 15 = .ok (.invokevirtual 32, 3) := by decide +kernel
theorem dX8_addTo_18 : decode cX8_addTo 18 = .ok (.iinc 2 (-1), 3) := by decide +kernel
theorem dX8_addTo_21 : decode cX8_addTo 21 = .ok (.goto (-18), 3) := by decide +kernel
theorem dX8_addTo_24 : decode cX8_addTo 24 = .ok (.return_, 1) := by decide +kernel
theorem dX8_isZero_0 : decode cX8_isZero 0 = .ok (.lconst 0, 1) := by decide +kernel
theorem dX8_isZero_1 : decode cX8_isZero 1 = .ok (.lstore_n 1, 1) := by decide +kernel
theorem dX8_isZero_2 : decode cX8_isZero 2 = .ok (.iconst 0, 1) := by decide +kernel
theorem dX8_isZero_3 : decode cX8_isZero 3 = .ok (.istore_n 3, 1) := by decide +kernel
theorem dX8_isZero_4 : decode cX8_isZero 4 = .ok (.iload_n 3, 1) := by decide +kernel
theorem dX8_isZero_5 : decode cX8_isZero 5 = .ok (.bipush 9, 2) := by decide +kernel
theorem dX8_isZero_7 : decode cX8_isZero 7 = .ok (.if_icmp .ge 18, 3) := by decide +kernel
theorem dX8_isZero_10 : decode cX8_isZero 10 = .ok (.lload_n 1, 1) := by decide +kernel
theorem dX8_isZero_11 : decode cX8_isZero 11 = .ok (.aload_n 0, 1) := by decide +kernel
theorem dX8_isZero_12 : decode cX8_isZero 12 = .ok (.getfield 7, 3) := by decide +kernel
theorem dX8_isZero_15 : decode cX8_isZero 15 = .ok (.iload_n 3, 1) := by decide +kernel
theorem dX8_isZero_16 : decode cX8_isZero 16 = .ok (.laload, 1) := by decide +kernel
theorem dX8_isZero_17 : decode cX8_isZero 17 = .ok (.lor, 1) := by decide +kernel
theorem dX8_isZero_18 : decode cX8_isZero 18 = .ok (.lstore_n 1, 1) := by decide +kernel
theorem dX8_isZero_19 : decode cX8_isZero 19 = .ok (.iinc 3 1, 3) := by decide +kernel
theorem dX8_isZero_22 : decode cX8_isZero 22 = .ok (.goto (-18), 3) := by decide +kernel
theorem dX8_isZero_25 : decode cX8_isZero 25 = .ok (.lload_n 1, 1) := by decide +kernel
theorem dX8_isZero_26 : decode cX8_isZero 26 = .ok (.lconst 0, 1) := by decide +kernel
theorem dX8_isZero_27 : decode cX8_isZero 27 = .ok (.lcmp, 1) := by decide +kernel
theorem dX8_isZero_28 : decode cX8_isZero 28 = .ok (.ifCond .ne 7, 3) := by decide +kernel
theorem dX8_isZero_31 : decode cX8_isZero 31 = .ok (.iconst 1, 1) := by decide +kernel
theorem dX8_isZero_32 : decode cX8_isZero 32 = .ok (.goto 4, 3) := by decide +kernel
theorem dX8_isZero_35 : decode cX8_isZero 35 = .ok (.iconst 0, 1) := by decide +kernel
theorem dX8_isZero_36 : decode cX8_isZero 36 = .ok (.ireturn, 1) := by decide +kernel
theorem dX8_digit_0 : decode cX8_digit 0 = .ok (.iload_n 1, 1) := by decide +kernel
theorem dX8_digit_1 : decode cX8_digit 1 = .ok (.iconst 3, 1) := by decide +kernel
theorem dX8_digit_2 : decode cX8_digit 2 = .ok (.ishr, 1) := by decide +kernel
theorem dX8_digit_3 : decode cX8_digit 3 = .ok (.istore_n 2, 1) := by decide +kernel
theorem dX8_digit_4 : decode cX8_digit 4 = .ok (.iload_n 2, 1) := by decide +kernel
theorem dX8_digit_5 : decode cX8_digit 5 = .ok (.ifCond .lt 29, 3) := by decide +kernel
theorem dX8_digit_8 : decode cX8_digit 8 = .ok (.iload_n 2, 1) := by decide +kernel
theorem dX8_digit_9 : decode cX8_digit 9 = .ok (.bipush 8, 2) := by decide +kernel
theorem dX8_digit_11 : decode cX8_digit 11 = .ok (.if_icmp .ge 23, 3) := by decide +kernel
theorem dX8_digit_14 : decode cX8_digit 14 = .ok (.aload_n 0, 1) := by decide +kernel
theorem dX8_digit_15 : decode cX8_digit 15 = .ok (.getfield 7, 3) := by decide +kernel
theorem dX8_digit_18 : decode cX8_digit 18 = .ok (.iload_n 2, 1) := by decide +kernel
theorem dX8_digit_19 : decode cX8_digit 19 = .ok (.laload, 1) := by decide +kernel
theorem dX8_digit_20 : decode cX8_digit 20 = .ok (.iconst 4, 1) := by decide +kernel
theorem dX8_digit_21 : decode cX8_digit 21 = .ok (.iload_n 1, 1) := by decide +kernel
theorem dX8_digit_22 : decode cX8_digit 22 = .ok (.bipush 7, 2) := by decide +kernel
theorem dX8_digit_24 : decode cX8_digit 24 = .ok (.iand, 1) := by decide +kernel
theorem dX8_digit_25 : decode cX8_digit 25 = .ok (.imul, 1) := by decide +kernel
theorem dX8_digit_26 : decode cX8_digit 26 = .ok (.lushr, 1) := by decide +kernel
theorem dX8_digit_27 : decode cX8_digit 27 = .ok (.l2i, 1) := by decide +kernel
theorem dX8_digit_28 : decode cX8_digit 28 = .ok (.bipush 15, 2) := by decide +kernel
theorem dX8_digit_30 : decode cX8_digit 30 = .ok (.iand, 1) := by decide +kernel
theorem dX8_digit_31 : decode cX8_digit 31 = .ok (.goto 4, 3) := by decide +kernel
theorem dX8_digit_34 : decode cX8_digit 34 = .ok (.iconst 0, 1) := by decide +kernel
theorem dX8_digit_35 : decode cX8_digit 35 = .ok (.ireturn, 1) := by decide +kernel
set_option maxRecDepth 20000 in
theorem ggX8_sum_X8_reduce : GoodIn wsX8_sum wsX8_reduce := goodIn_r _ [7, 1, 8, 9, 10, 11, 6, 12, 2, 13, 14, 15, 16, 17, 18] (by decide +kernel) (by decide +kernel)
set_option maxRecDepth 20000 in
theorem gX8_sum_X8_reduce : GoodIn wsX8_sum (wsV RX8 29 RX8 yX8_reduce wsX8_reduce) := goodIn_app (goodIn_of _ (by decide +kernel)) ggX8_sum_X8_reduce
theorem dX8_sum_0 : decode cX8_sum 0 = .ok (.lconst 0, 1) := by decide +kernel
theorem dX8_sum_1 : decode cX8_sum 1 = .ok (.lstore_n 3, 1) := by decide +kernel
theorem dX8_sum_2 : decode cX8_sum 2 = .ok (.iconst 0, 1) := by decide +kernel
theorem dX8_sum_3 : decode cX8_sum 3 = .ok (.istore 5, 2) := by decide +kernel
theorem dX8_sum_5 : decode cX8_sum 5 = .ok (.iload 5, 2) := by decide +kernel
theorem dX8_sum_7 : decode cX8_sum 7 = .ok (.bipush 8, 2) := by decide +kernel
theorem dX8_sum_9 : decode cX8_sum 9 = .ok (.if_icmp .ge 44, 3) := by decide +kernel
theorem dX8_sum_12 : decode cX8_sum 12 = .ok (.lload_n 3, 1) := by decide +kernel
theorem dX8_sum_13 : decode cX8_sum 13 = .ok (.aload_n 1, 1) := by decide +kernel
theorem dX8_sum_14 : decode cX8_sum 14 = .ok (.getfield 7, 3) := by decide +kernel
theorem dX8_sum_17 : decode cX8_sum 17 = .ok (.iload 5, 2) := by decide +kernel
theorem dX8_sum_19 : decode cX8_sum 19 = .ok (.laload, 1) := by decide +kernel
theorem dX8_sum_20 : decode cX8_sum 20 = .ok (.aload_n 2, 1) := by decide +kernel
theorem dX8_sum_21 : decode cX8_sum 21 = .ok (.getfield 7, 3) := by decide +kernel
theorem dX8_sum_24 : decode cX8_sum 24 = .ok (.iload 5, 2) := by decide +kernel
theorem dX8_sum_26 : decode cX8_sum 26 = .ok (.laload, 1) := by decide +kernel
theorem dX8_sum_27 : decode cX8_sum 27 = .ok (.ladd, 1) := by decide +kernel
theorem dX8_sum_28 : decode cX8_sum 28 = .ok (.ladd, 1) := by decide +kernel
theorem dX8_sum_29 : decode cX8_sum 29 = .ok (.lstore_n 3, 1) := by decide +kernel
theorem dX8_sum_30 : decode cX8_sum 30 = .ok (.aload_n 0, 1) := by decide +kernel
theorem dX8_sum_31 : decode cX8_sum 31 = .ok (.getfield 7, 3) := by decide +kernel
theorem dX8_sum_34 : decode cX8_sum 34 = .ok (.iload 5, 2) := by decide +kernel
theorem dX8_sum_36 : decode cX8_sum 36 = .ok (.lload_n 3, 1) := by decide +kernel
theorem dX8_sum_37 : decode cX8_sum 37 = .ok (.ldc2_w 13, 3) := by decide +kernel
theorem dX8_sum_40 : decode cX8_sum 40 = .ok (.land, 1) := by decide +kernel
theorem dX8_sum_41 : decode cX8_sum 41 = .ok (.lastore, 1) := by decide +kernel
theorem dX8_sum_42 : decode cX8_sum 42 = .ok (.lload_n 3, 1) := by decide +kernel
theorem dX8_sum_43 : decode cX8_sum 43 = .ok (.bipush 32, 2) := by decide +kernel
theorem dX8_sum_45 : decode cX8_sum 45 = .ok (.lushr, 1) := by decide +kernel
theorem dX8_sum_46 : decode cX8_sum 46 = .ok (.lstore_n 3, 1) := by decide +kernel
theorem dX8_sum_47 : decode cX8_sum 47 = .ok (.iinc 5 1, 3) := by decide +kernel
theorem dX8_sum_50 : decode cX8_sum 50 = .ok (.goto (-45), 3) := by decide +kernel
theorem dX8_sum_53 : decode cX8_sum 53 = .ok (.aload_n 0, 1) := by decide +kernel
theorem dX8_sum_54 : decode cX8_sum 54 = .ok (.getfield 7, 3) := by decide +kernel
theorem dX8_sum_57 : decode cX8_sum 57 = .ok (.bipush 8, 2) := by decide +kernel
theorem dX8_sum_59 : decode cX8_sum 59 = .ok (.lload_n 3, 1) := by decide +kernel
theorem dX8_sum_60 : decode cX8_sum 60 = .ok (.lastore, 1) := by decide +kernel
theorem dX8_sum_61 : decode cX8_sum 61 = .ok (.aload_n 0, 1) := by decide +kernel
theorem dX8_sum_62 : decode cX8_sum 62 = .ok (.invokevirtual 29, 3) := by decide +kernel
theorem dX8_sum_65 : decode cX8_sum 65 = .ok (.return_, 1) := by decide +kernel
set_option maxRecDepth 20000 in
theorem ggX8_negate_X8_isZero : GoodIn wsX8_negate wsX8_isZero := goodIn_r _ [8, 2, 9] (by decide +kernel) (by decide +kernel)
set_option maxRecDepth 20000 in
theorem gX8_negate_X8_isZero : GoodIn wsX8_negate (wsV RX8 36 RX8 yX8_isZero wsX8_isZero) := goodIn_app (goodIn_of _ (by decide +kernel)) ggX8_negate_X8_isZero
theorem dX8_negate_0 : decode cX8_negate 0 = .ok (.aload_n 0, 1) := by decide +kernel
theorem dX8_negate_1 : decode cX8_negate 1 = .ok (.invokevirtual 36, 3) := by decide +kernel
theorem dX8_negate_4 : decode cX8_negate 4 = .ok (.ifCond .eq 4, 3) := by decide +kernel
theorem dX8_negate_7 : decode cX8_negate 7 = .ok (.return_, 1) := by decide +kernel
theorem dX8_negate_8 : decode cX8_negate 8 = .ok (.lconst 0, 1) := by decide +kernel
theorem dX8_negate_9 : decode cX8_negate 9 = .ok (.lstore_n 1, 1) := by decide +kernel
theorem dX8_negate_10 : decode cX8_negate 10 = .ok (.iconst 0, 1) := by decide +kernel
theorem dX8_negate_11 : decode cX8_negate 11 = .ok (.istore_n 3, 1) := by decide +kernel
theorem dX8_negate_12 : decode cX8_negate 12 = .ok (.iload_n 3, 1) := by decide +kernel
theorem dX8_negate_13 : decode cX8_negate 13 = .ok (.bipush 8, 2) := by decide +kernel
theorem dX8_negate_15 : decode cX8_negate 15 = .ok (.if_icmp .ge 40, 3) := by decide +kernel
theorem dX8_negate_18 : decode cX8_negate 18 = .ok (.lload_n 1, 1) := by decide +kernel
theorem dX8_negate_19 : decode cX8_negate 19 = .ok (.getstatic 39, 3) := by decide +kernel
theorem dX8_negate_22 : decode cX8_negate 22 = .ok (.iload_n 3, 1) := by decide +kernel
theorem dX8_negate_23 : decode cX8_negate 23 = .ok (.laload, 1) := by decide +kernel
theorem dX8_negate_24 : decode cX8_negate 24 = .ok (.aload_n 0, 1) := by decide +kernel
theorem dX8_negate_25 : decode cX8_negate 25 = .ok (.getfield 7, 3) := by decide +kernel
theorem dX8_negate_28 : decode cX8_negate 28 = .ok (.iload_n 3, 1) := by decide +kernel
theorem dX8_negate_29 : decode cX8_negate 29 = .ok (.laload, 1) := by decide +kernel
theorem dX8_negate_30 : decode cX8_negate 30 = .ok (.lsub, 1) := by decide +kernel
theorem dX8_negate_31 : decode cX8_negate 31 = .ok (.ladd, 1) := by decide +kernel
theorem dX8_negate_32 : decode cX8_negate 32 = .ok (.lstore_n 1, 1) := by decide +kernel
theorem dX8_negate_33 : decode cX8_negate 33 = .ok (.aload_n 0, 1) := by decide +kernel
theorem dX8_negate_34 : decode cX8_negate 34 = .ok (.getfield 7, 3) := by decide +kernel
theorem dX8_negate_37 : decode cX8_negate 37 = .ok (.iload_n 3, 1) := by decide +kernel
theorem dX8_negate_38 : decode cX8_negate 38 = .ok (.lload_n 1, 1) := by decide +kernel
theorem dX8_negate_39 : decode cX8_negate 39 = .ok (.ldc2_w 13, 3) := by decide +kernel
theorem dX8_negate_42 : decode cX8_negate 42 = .ok (.land, 1) := by decide +kernel
theorem dX8_negate_43 : decode cX8_negate 43 = .ok (.lastore, 1) := by decide +kernel
theorem dX8_negate_44 : decode cX8_negate 44 = .ok (.lload_n 1, 1) := by decide +kernel
theorem dX8_negate_45 : decode cX8_negate 45 = .ok (.bipush 32, 2) := by decide +kernel
theorem dX8_negate_47 : decode cX8_negate 47 = .ok (.lshr, 1) := by decide +kernel
theorem dX8_negate_48 : decode cX8_negate 48 = .ok (.lstore_n 1, 1) := by decide +kernel
theorem dX8_negate_49 : decode cX8_negate 49 = .ok (.iinc 3 1, 3) := by decide +kernel
theorem dX8_negate_52 : decode cX8_negate 52 = .ok (.goto (-40), 3) := by decide +kernel
theorem dX8_negate_55 : decode cX8_negate 55 = .ok (.return_, 1) := by decide +kernel
set_option maxRecDepth 20000 in
theorem ggX8_product_X8_becomeNumber : GoodIn wsX8_product wsX8_becomeNumber := goodIn_r _ [6, 1, 7, 22] (by decide +kernel) (by decide +kernel)
set_option maxRecDepth 20000 in
theorem gX8_product_X8_becomeNumber : GoodIn wsX8_product (wsV RX8 42 RX8 yX8_becomeNumber wsX8_becomeNumber) := goodIn_app (goodIn_of _ (by decide +kernel)) ggX8_product_X8_becomeNumber
set_option maxRecDepth 20000 in
theorem ggX8_product_X8_reduce : GoodIn wsX8_product wsX8_reduce := goodIn_r _ [11, 1, 12, 13, 14, 15, 5, 16, 7, 17, 18, 19, 20, 21, 22] (by decide +kernel) (by decide +kernel)
set_option maxRecDepth 20000 in
theorem gX8_product_X8_reduce : GoodIn wsX8_product (wsV RX8 29 RX8 yX8_reduce wsX8_reduce) := goodIn_app (goodIn_of _ (by decide +kernel)) ggX8_product_X8_reduce
set_option maxRecDepth 20000 in
theorem ggX8_product_X8_addMultiple : GoodIn wsX8_product wsX8_addMultiple := goodIn_r _ [16, 1, 7, 22] (by decide +kernel) (by decide +kernel)
set_option maxRecDepth 20000 in
theorem gX8_product_X8_addMultiple : GoodIn wsX8_product (wsV RX8 46 RX8 yX8_addMultiple wsX8_addMultiple) := goodIn_app (goodIn_of _ (by decide +kernel)) ggX8_product_X8_addMultiple
theorem dX8_product_0 : decode cX8_product 0 = .ok (.aload_n 0, 1) := by decide +kernel
theorem dX8_product_1 : decode cX8_product 1 = .ok (.lconst 0, 1) := by decide +kernel
theorem dX8_product_2 : decode cX8_product 2 = .ok (.invokevirtual 42, 3) := by decide +kernel
theorem dX8_product_5 : decode cX8_product 5 = .ok (.bipush 7, 2) := by decide +kernel
theorem dX8_product_7 : decode cX8_product 7 = .ok (.istore_n 3, 1) := by decide +kernel
theorem dX8_product_8 : decode cX8_product 8 = .ok (.iload_n 3, 1) := by decide +kernel
theorem dX8_product_9 : decode cX8_product 9 = .ok (.ifCond .lt 69, 3) := by decide +kernel
theorem dX8_product_12 : decode cX8_product 12 = .ok (.bipush 8, 2) := by decide +kernel
theorem dX8_product_14 : decode cX8_product 14 = .ok (.istore 4, 2) := by decide +kernel
theorem dX8_product_16 : decode cX8_product 16 = .ok (.iload 4, 2) := by decide +kernel
theorem dX8_product_18 : decode cX8_product 18 = .ok (.ifCond .le 25, 3) := by decide +kernel
theorem dX8_product_21 : decode cX8_product 21 = .ok (.aload_n 0, 1) := by decide +kernel
theorem dX8_product_22 : decode cX8_product 22 = .ok (.getfield 7, 3) := by decide +kernel
theorem dX8_product_25 : decode cX8_product 25 = .ok (.iload 4, 2) := by decide +kernel
theorem dX8_product_27 : decode cX8_product 27 = .ok (.aload_n 0, 1) := by decide +kernel
theorem dX8_product_28 : decode cX8_product 28 = .ok (.getfield 7, 3) := by decide +kernel
theorem dX8_product_31 : decode cX8_product 31 = .ok (.iload 4, 2) := by decide +kernel
theorem dX8_product_33 : decode cX8_product 33 = .ok (.iconst 1, 1) := by decide +kernel
theorem dX8_product_34 : decode cX8_product 34 = .ok (.isub, 1) := by decide +kernel
theorem dX8_product_35 : decode cX8_product 35 = .ok (.laload, 1) := by decide +kernel
theorem dX8_product_36 : decode cX8_product 36 = .ok (.lastore, 1) := by decide +kernel
theorem dX8_product_37 : decode cX8_product 37 = .ok (.iinc 4 (-1), 3) := by decide +kernel
theorem dX8_product_40 : decode cX8_product 40 = .ok (.goto (-24), 3) := by decide +kernel
theorem dX8_product_43 : decode cX8_product 43 = .ok (.aload_n 0, 1) := by decide +kernel
theorem dX8_product_44 : decode cX8_product 44 = .ok (.getfield 7, 3) := by decide +kernel
theorem dX8_product_47 : decode cX8_product 47 = .ok (.iconst 0, 1) := by decide +kernel
theorem dX8_product_48 : decode cX8_product 48 = .ok (.lconst 0, 1) := by decide +kernel
theorem dX8_product_49 : decode cX8_product 49 = .ok (.lastore, 1) := by decide +kernel
theorem dX8_product_50 : decode cX8_product 50 = .ok (.aload_n 0, 1) := by decide +kernel
theorem dX8_product_51 : decode cX8_product 51 = .ok (.invokevirtual 29, 3) := by decide +kernel
theorem dX8_product_54 : decode cX8_product 54 = .ok (.aload_n 0, 1) := by decide +kernel
theorem dX8_product_55 : decode cX8_product 55 = .ok (.aload_n 1, 1) := by decide +kernel
theorem dX8_product_56 : decode cX8_product 56 = .ok (.getfield 7, 3) := by decide +kernel
theorem dX8_product_59 : decode cX8_product 59 = .ok (.aload_n 2, 1) := by decide +kernel
theorem dX8_product_60 : decode cX8_product 60 = .ok (.getfield 7, 3) := by decide +kernel
theorem dX8_product_63 : decode cX8_product 63 = .ok (.iload_n 3, 1) := by decide +kernel
theorem dX8_product_64 : decode cX8_product 64 = .ok (.laload, 1) := by decide +kernel
theorem dX8_product_65 : decode cX8_product 65 = .ok (.invokevirtual 46, 3) := by decide +kernel
theorem dX8_product_68 : decode cX8_product 68 = .ok (.aload_n 0, 1) := by decide +kernel
theorem dX8_product_69 : decode cX8_product 69 = .ok (.invokevirtual 29, 3) := by decide +kernel
theorem dX8_product_72 : decode cX8_product 72 = .ok (.iinc 3 (-1), 3) := by decide +kernel
theorem dX8_product_75 : decode cX8_product 75 = .ok (.goto (-67), 3) := by decide +kernel
theorem dX8_product_78 : decode cX8_product 78 = .ok (.return_, 1) := by decide +kernel
theorem dX8_isBelowN_0 : decode cX8_isBelowN 0 = .ok (.bipush 7, 2) := by decide +kernel
theorem dX8_isBelowN_2 : decode cX8_isBelowN 2 = .ok (.istore_n 1, 1) := by decide +kernel
theorem dX8_isBelowN_3 : decode cX8_isBelowN 3 = .ok (.iload_n 1, 1) := by decide +kernel
theorem dX8_isBelowN_4 : decode cX8_isBelowN 4 = .ok (.ifCond .lt 45, 3) := by decide +kernel
theorem dX8_isBelowN_7 : decode cX8_isBelowN 7 = .ok (.aload_n 0, 1) := by decide +kernel
theorem dX8_isBelowN_8 : decode cX8_isBelowN 8 = .ok (.getfield 7, 3) := by decide +kernel
theorem dX8_isBelowN_11 : decode cX8_isBelowN 11 = .ok (.iload_n 1, 1) := by decide +kernel
theorem dX8_isBelowN_12 : decode cX8_isBelowN 12 = .ok (.laload, 1) := by decide +kernel
theorem dX8_isBelowN_13 : decode cX8_isBelowN 13 = .ok (.getstatic 39, 3) := by decide +kernel
theorem dX8_isBelowN_16 : decode cX8_isBelowN 16 = .ok (.iload_n 1, 1) := by decide +kernel
theorem dX8_isBelowN_17 : decode cX8_isBelowN 17 = .ok (.laload, 1) := by decide +kernel
theorem dX8_isBelowN_18 : decode cX8_isBelowN 18 = .ok (.lcmp, 1) := by decide +kernel
theorem dX8_isBelowN_19 : decode cX8_isBelowN 19 = .ok (.ifCond .eq 24, 3) := by decide +kernel
theorem dX8_isBelowN_22 : decode cX8_isBelowN 22 = .ok (.aload_n 0, 1) := by decide +kernel
theorem dX8_isBelowN_23 : decode cX8_isBelowN 23 = .ok (.getfield 7, 3) := by decide +kernel
theorem dX8_isBelowN_26 : decode cX8_isBelowN 26 = .ok (.iload_n 1, 1) := by decide +kernel
theorem dX8_isBelowN_27 : decode cX8_isBelowN 27 = .ok (.laload, 1) := by decide +kernel
theorem dX8_isBelowN_28 : decode cX8_isBelowN 28 = .ok (.getstatic 39, 3) := by decide +kernel
theorem dX8_isBelowN_31 : decode cX8_isBelowN 31 = .ok (.iload_n 1, 1) := by decide +kernel
theorem dX8_isBelowN_32 : decode cX8_isBelowN 32 = .ok (.laload, 1) := by decide +kernel
theorem dX8_isBelowN_33 : decode cX8_isBelowN 33 = .ok (.lcmp, 1) := by decide +kernel
theorem dX8_isBelowN_34 : decode cX8_isBelowN 34 = .ok (.ifCond .ge 7, 3) := by decide +kernel
theorem dX8_isBelowN_37 : decode cX8_isBelowN 37 = .ok (.iconst 1, 1) := by decide +kernel
theorem dX8_isBelowN_38 : decode cX8_isBelowN 38 = .ok (.goto 4, 3) := by decide +kernel
theorem dX8_isBelowN_41 : decode cX8_isBelowN 41 = .ok (.iconst 0, 1) := by decide +kernel
theorem dX8_isBelowN_42 : decode cX8_isBelowN 42 = .ok (.ireturn, 1) := by decide +kernel
theorem dX8_isBelowN_43 : decode cX8_isBelowN 43 = .ok (.iinc 1 (-1), 3) := by decide +kernel
theorem dX8_isBelowN_46 : decode cX8_isBelowN 46 = .ok (.goto (-43), 3) := by decide +kernel
theorem dX8_isBelowN_49 : decode cX8_isBelowN 49 = .ok (.iconst 0, 1) := by decide +kernel
theorem dX8_isBelowN_50 : decode cX8_isBelowN 50 = .ok (.ireturn, 1) := by decide +kernel
set_option maxRecDepth 20000 in
theorem ggX8_reduce_X8_addMultiple : GoodIn wsX8_reduce wsX8_addMultiple := goodIn_r _ [7, 1, 8, 14] (by decide +kernel) (by decide +kernel)
set_option maxRecDepth 20000 in
theorem gX8_reduce_X8_addMultiple : GoodIn wsX8_reduce (wsV RX8 46 RX8 yX8_addMultiple wsX8_addMultiple) := goodIn_app (goodIn_of _ (by decide +kernel)) ggX8_reduce_X8_addMultiple
set_option maxRecDepth 20000 in
theorem ggX8_reduce_X8_isBelowN : GoodIn wsX8_reduce wsX8_isBelowN := goodIn_r _ [12, 1, 13, 14] (by decide +kernel) (by decide +kernel)
set_option maxRecDepth 20000 in
theorem gX8_reduce_X8_isBelowN : GoodIn wsX8_reduce (wsV RX8 21 RX8 yX8_isBelowN wsX8_isBelowN) := goodIn_app (goodIn_of _ (by decide +kernel)) ggX8_reduce_X8_isBelowN
theorem dX8_reduce_0 : decode cX8_reduce 0 = .ok (.iconst 0, 1) := by decide +kernel
theorem dX8_reduce_1 : decode cX8_reduce 1 = .ok (.istore_n 1, 1) := by decide +kernel
theorem dX8_reduce_2 : decode cX8_reduce 2 = .ok (.iload_n 1, 1) := by decide +kernel
theorem dX8_reduce_3 : decode cX8_reduce 3 = .ok (.iconst 2, 1) := by decide +kernel
theorem dX8_reduce_4 : decode cX8_reduce 4 = .ok (.if_icmp .ge 33, 3) := by decide +kernel
theorem dX8_reduce_7 : decode cX8_reduce 7 = .ok (.aload_n 0, 1) := by decide +kernel
theorem dX8_reduce_8 : decode cX8_reduce 8 = .ok (.getfield 7, 3) := by decide +kernel
theorem dX8_reduce_11 : decode cX8_reduce 11 = .ok (.bipush 8, 2) := by decide +kernel
theorem dX8_reduce_13 : decode cX8_reduce 13 = .ok (.laload, 1) := by decide +kernel
theorem dX8_reduce_14 : decode cX8_reduce 14 = .ok (.lstore_n 2, 1) := by decide +kernel
theorem dX8_reduce_15 : decode cX8_reduce 15 = .ok (.aload_n 0, 1) := by decide +kernel
theorem dX8_reduce_16 : decode cX8_reduce 16 = .ok (.getfield 7, 3) := by decide +kernel
theorem dX8_reduce_19 : decode cX8_reduce 19 = .ok (.bipush 8, 2) := by decide +kernel
theorem dX8_reduce_21 : decode cX8_reduce 21 = .ok (.lconst 0, 1) := by decide +kernel
theorem dX8_reduce_22 : decode cX8_reduce 22 = .ok (.lastore, 1) := by decide +kernel
theorem dX8_reduce_23 : decode cX8_reduce 23 = .ok (.aload_n 0, 1) := by decide +kernel
theorem dX8_reduce_24 : decode cX8_reduce 24 = .ok (.getstatic 50, 3) := by decide +kernel
theorem dX8_reduce_27 : decode cX8_reduce 27 = .ok (.lload_n 2, 1) := by decide +kernel
theorem dX8_reduce_28 : decode cX8_reduce 28 = .ok (.invokevirtual 46, 3) := by decide +kernel
theorem dX8_reduce_31 : decode cX8_reduce 31 = .ok (.iinc 1 1, 3) := by decide +kernel
theorem dX8_reduce_34 : decode cX8_reduce 34 = .ok (.goto (-32), 3) := by decide +kernel
theorem dX8_reduce_37 : decode cX8_reduce 37 = .ok (.aload_n 0, 1) := by decide +kernel
theorem dX8_reduce_38 : decode cX8_reduce 38 = .ok (.invokevirtual 21, 3) := by decide +kernel
theorem dX8_reduce_41 : decode cX8_reduce 41 = .ok (.ifCond .ne 19, 3) := by decide +kernel
theorem dX8_reduce_44 : decode cX8_reduce 44 = .ok (.aload_n 0, 1) := by decide +kernel
theorem dX8_reduce_45 : decode cX8_reduce 45 = .ok (.getstatic 50, 3) := by decide +kernel
theorem dX8_reduce_48 : decode cX8_reduce 48 = .ok (.lconst 1, 1) := by decide +kernel
theorem dX8_reduce_49 : decode cX8_reduce 49 = .ok (.invokevirtual 46, 3) := by decide +kernel
theorem dX8_reduce_52 : decode cX8_reduce 52 = .ok (.aload_n 0, 1) := by decide +kernel
theorem dX8_reduce_53 : decode cX8_reduce 53 = .ok (.getfield 7, 3) := by decide +kernel
theorem dX8_reduce_56 : decode cX8_reduce 56 = .ok (.bipush 8, 2) := by decide +kernel
theorem dX8_reduce_58 : decode cX8_reduce 58 = .ok (.lconst 0, 1) := by decide +kernel
theorem dX8_reduce_59 : decode cX8_reduce 59 = .ok (.lastore, 1) := by decide +kernel
theorem dX8_reduce_60 : decode cX8_reduce 60 = .ok (.return_, 1) := by decide +kernel
theorem dX8_addMultiple_0 : decode cX8_addMultiple 0 = .ok (.lconst 0, 1) := by decide +kernel
theorem dX8_addMultiple_1 : decode cX8_addMultiple 1 = .ok (.lstore 4, 2) := by decide +kernel
theorem dX8_addMultiple_3 : decode cX8_addMultiple 3 = .ok (.iconst 0, 1) := by decide +kernel
theorem dX8_addMultiple_4 : decode cX8_addMultiple 4 = .ok (.istore 6, 2) := by decide +kernel
theorem dX8_addMultiple_6 : decode cX8_addMultiple 6 = .ok (.iload 6, 2) := by decide +kernel
theorem dX8_addMultiple_8 : decode cX8_addMultiple 8 = .ok (.bipush 8, 2) := by decide +kernel
theorem dX8_addMultiple_10 : decode cX8_addMultiple 10 = .ok (.if_icmp .ge 59, 3) := by decide +kernel
theorem dX8_addMultiple_13 : decode cX8_addMultiple 13 = .ok (.lload 4, 2) := by decide +kernel
theorem dX8_addMultiple_15 : decode cX8_addMultiple 15 = .ok (.aload_n 0, 1) := by decide +kernel
theorem dX8_addMultiple_16 : decode cX8_addMultiple 16 = .ok (.getfield 7, 3) := by decide +kernel
theorem dX8_addMultiple_19 : decode cX8_addMultiple 19 = .ok (.iload 6, 2) := by decide +kernel
theorem dX8_addMultiple_21 : decode cX8_addMultiple 21 = .ok (.laload, 1) := by decide +kernel
theorem dX8_addMultiple_22 : decode cX8_addMultiple 22 = .ok (.ladd, 1) := by decide +kernel
theorem dX8_addMultiple_23 : decode cX8_addMultiple 23 = .ok (.lstore 4, 2) := by decide +kernel
theorem dX8_addMultiple_25 : decode cX8_addMultiple 25 = .ok (.iload 6, 2) := by decide +kernel
theorem dX8_addMultiple_27 : decode cX8_addMultiple 27 = .ok (.aload_n 1, 1) := by decide +kernel
theorem dX8_addMultiple_28 : decode cX8_addMultiple 28 = .ok (.arraylength, 1) := by decide +kernel
theorem dX8_addMultiple_29 : decode cX8_addMultiple 29 = .ok (.if_icmp .ge 14, 3) := by decide +kernel
theorem dX8_addMultiple_32 : decode cX8_addMultiple 32 = .ok (.lload 4, 2) := by decide +kernel
theorem dX8_addMultiple_34 : decode cX8_addMultiple 34 = .ok (.aload_n 1, 1) := by decide +kernel
theorem dX8_addMultiple_35 : decode cX8_addMultiple 35 = .ok (.iload 6, 2) := by decide +kernel
theorem dX8_addMultiple_37 : decode cX8_addMultiple 37 = .ok (.laload, 1) := by decide +kernel
theorem dX8_addMultiple_38 : decode cX8_addMultiple 38 = .ok (.lload_n 2, 1) := by decide +kernel
theorem dX8_addMultiple_39 : decode cX8_addMultiple 39 = .ok (.lmul, 1) := by decide +kernel
theorem dX8_addMultiple_40 : decode cX8_addMultiple 40 = .ok (.ladd, 1) := by decide +kernel
theorem dX8_addMultiple_41 : decode cX8_addMultiple 41 = .ok (.lstore 4, 2) := by decide +kernel
theorem dX8_addMultiple_43 : decode cX8_addMultiple 43 = .ok (.aload_n 0, 1) := by decide +kernel
theorem dX8_addMultiple_44 : decode cX8_addMultiple 44 = .ok (.getfield 7, 3) := by decide +kernel
theorem dX8_addMultiple_47 : decode cX8_addMultiple 47 = .ok (.iload 6, 2) := by decide +kernel
theorem dX8_addMultiple_49 : decode cX8_addMultiple 49 = .ok (.lload 4, 2) := by decide +kernel
theorem dX8_addMultiple_51 : decode cX8_addMultiple 51 = .ok (.ldc2_w 13, 3) := by decide +kernel
theorem dX8_addMultiple_54 : decode cX8_addMultiple 54 = .ok (.land, 1) := by decide +kernel
theorem dX8_addMultiple_55 : decode cX8_addMultiple 55 = .ok (.lastore, 1) := by decide +kernel
theorem dX8_addMultiple_56 : decode cX8_addMultiple 56 = .ok (.lload 4, 2) := by decide +kernel
theorem dX8_addMultiple_58 : decode cX8_addMultiple 58 = .ok (.bipush 32, 2) := by decide +kernel
theorem dX8_addMultiple_60 : decode cX8_addMultiple 60 = .ok (.lushr, 1) := by decide +kernel
theorem dX8_addMultiple_61 : decode cX8_addMultiple 61 = .ok (.lstore 4, 2) := by decide +kernel
theorem dX8_addMultiple_63 : decode cX8_addMultiple 63 = .ok (.iinc 6 1, 3) := by decide +kernel
theorem dX8_addMultiple_66 : decode cX8_addMultiple 66 = .ok (.goto (-60), 3) := by decide +kernel
theorem dX8_addMultiple_69 : decode cX8_addMultiple 69 = .ok (.aload_n 0, 1) := by decide +kernel
theorem dX8_addMultiple_70 : decode cX8_addMultiple 70 = .ok (.getfield 7, 3) := by decide +kernel
theorem dX8_addMultiple_73 : decode cX8_addMultiple 73 = .ok (.bipush 8, 2) := by decide +kernel
theorem dX8_addMultiple_75 : decode cX8_addMultiple 75 = .ok (.dup2, 1) := by decide +kernel
theorem dX8_addMultiple_76 : decode cX8_addMultiple 76 = .ok (.laload, 1) := by decide +kernel
theorem dX8_addMultiple_77 : decode cX8_addMultiple 77 = .ok (.lload 4, 2) := by decide +kernel
theorem dX8_addMultiple_79 : decode cX8_addMultiple 79 = .ok (.ladd, 1) := by decide +kernel
theorem dX8_addMultiple_80 : decode cX8_addMultiple 80 = .ok (.lastore, 1) := by decide +kernel
theorem dX8_addMultiple_81 : decode cX8_addMultiple 81 = .ok (.return_, 1) := by decide +kernel
