theorem dX12_in_0 : decode cX12_in 0 = .ok (.lload_n 0, 1) := by decide +kernel
theorem dX12_in_1 : decode cX12_in 1 = .ok (.lload_n 2, 1) := by decide +kernel
theorem dX12_in_2 : decode cX12_in 2 = .ok (.lcmp, 1) := by decide +kernel
theorem dX12_in_3 : decode cX12_in 3 = .ok (.ifCond .lt 14, 3) := by decide +kernel
theorem dX12_in_6 : decode cX12_in 6 = .ok (.lload_n 0, 1) := by decide +kernel
theorem dX12_in_7 : decode cX12_in 7 = .ok (.lload 4, 2) := by decide +kernel
theorem dX12_in_9 : decode cX12_in 9 = .ok (.lcmp, 1) := by decide +kernel
theorem dX12_in_10 : decode cX12_in 10 = .ok (.ifCond .gt 7, 3) := by decide +kernel
theorem dX12_in_13 : decode cX12_in 13 = .ok (.iconst 1, 1) := by decide +kernel
theorem dX12_in_14 : decode cX12_in 14 = .ok (.goto 4, 3) := by decide +kernel
theorem dX12_in_17 : decode cX12_in 17 = .ok (.iconst 0, 1) := by decide +kernel
theorem dX12_in_18 : decode cX12_in 18 = .ok (.ireturn, 1) := by decide +kernel
set_option maxRecDepth 20000 in
theorem ggX12_isRow_X12_in : GoodIn wsX12_isRow wsX12_in := goodIn_r _ [5] rfl (by decide +kernel)
set_option maxRecDepth 20000 in
theorem gX12_isRow_X12_in : GoodIn wsX12_isRow (va_wsS RX12 361 yX12_in wsX12_in) := goodIn_app (goodIn_of _ (by decide +kernel)) ggX12_isRow_X12_in
theorem dX12_isRow_0 : decode cX12_isRow 0 = .ok (.iload_n 0, 1) := by decide +kernel
theorem dX12_isRow_1 : decode cX12_isRow 1 = .ok (.i2l, 1) := by decide +kernel
theorem dX12_isRow_2 : decode cX12_isRow 2 = .ok (.lconst 0, 1) := by decide +kernel
theorem dX12_isRow_3 : decode cX12_isRow 3 = .ok (.ldc2_w 359, 3) := by decide +kernel
theorem dX12_isRow_6 : decode cX12_isRow 6 = .ok (.invokestatic 361, 3) := by decide +kernel
theorem dX12_isRow_9 : decode cX12_isRow 9 = .ok (.ireturn, 1) := by decide +kernel
theorem dX12_set_0 : decode cX12_set 0 = .ok (.iconst 0, 1) := by decide +kernel
theorem dX12_set_1 : decode cX12_set 1 = .ok (.istore_n 2, 1) := by decide +kernel
theorem dX12_set_2 : decode cX12_set 2 = .ok (.iload_n 2, 1) := by decide +kernel
theorem dX12_set_3 : decode cX12_set 3 = .ok (.bipush 8, 2) := by decide +kernel
theorem dX12_set_5 : decode cX12_set 5 = .ok (.if_icmp .ge 15, 3) := by decide +kernel
theorem dX12_set_8 : decode cX12_set 8 = .ok (.aload_n 0, 1) := by decide +kernel
theorem dX12_set_9 : decode cX12_set 9 = .ok (.iload_n 2, 1) := by decide +kernel
theorem dX12_set_10 : decode cX12_set 10 = .ok (.aload_n 1, 1) := by decide +kernel
theorem dX12_set_11 : decode cX12_set 11 = .ok (.iload_n 2, 1) := by decide +kernel
theorem dX12_set_12 : decode cX12_set 12 = .ok (.laload, 1) := by decide +kernel
theorem dX12_set_13 : decode cX12_set 13 = .ok (.lastore, 1) := by decide +kernel
theorem dX12_set_14 : decode cX12_set 14 = .ok (.iinc 2 1, 3) := by decide +kernel
theorem dX12_set_17 : decode cX12_set 17 = .ok (.goto (-15), 3) := by decide +kernel
theorem dX12_set_20 : decode cX12_set 20 = .ok (.return_, 1) := by decide +kernel
theorem dX12_small_0 : decode cX12_small 0 = .ok (.iconst 0, 1) := by decide +kernel
theorem dX12_small_1 : decode cX12_small 1 = .ok (.istore_n 3, 1) := by decide +kernel
theorem dX12_small_2 : decode cX12_small 2 = .ok (.iload_n 3, 1) := by decide +kernel
theorem dX12_small_3 : decode cX12_small 3 = .ok (.bipush 8, 2) := by decide +kernel
theorem dX12_small_5 : decode cX12_small 5 = .ok (.if_icmp .ge 13, 3) := by decide +kernel
theorem dX12_small_8 : decode cX12_small 8 = .ok (.aload_n 0, 1) := by decide +kernel
theorem dX12_small_9 : decode cX12_small 9 = .ok (.iload_n 3, 1) := by decide +kernel
theorem dX12_small_10 : decode cX12_small 10 = .ok (.lconst 0, 1) := by decide +kernel
theorem dX12_small_11 : decode cX12_small 11 = .ok (.lastore, 1) := by decide +kernel
theorem dX12_small_12 : decode cX12_small 12 = .ok (.iinc 3 1, 3) := by decide +kernel
theorem dX12_small_15 : decode cX12_small 15 = .ok (.goto (-13), 3) := by decide +kernel
theorem dX12_small_18 : decode cX12_small 18 = .ok (.aload_n 0, 1) := by decide +kernel
theorem dX12_small_19 : decode cX12_small 19 = .ok (.iconst 0, 1) := by decide +kernel
theorem dX12_small_20 : decode cX12_small 20 = .ok (.lload_n 1, 1) := by decide +kernel
theorem dX12_small_21 : decode cX12_small 21 = .ok (.ldc2_w 13, 3) := by decide +kernel
theorem dX12_small_24 : decode cX12_small 24 = .ok (.land, 1) := by decide +kernel
theorem dX12_small_25 : decode cX12_small 25 = .ok (.lastore, 1) := by decide +kernel
theorem dX12_small_26 : decode cX12_small 26 = .ok (.aload_n 0, 1) := by decide +kernel
theorem dX12_small_27 : decode cX12_small 27 = .ok (.iconst 1, 1) := by decide +kernel
theorem dX12_small_28 : decode cX12_small 28 = .ok (.lload_n 1, 1) := by decide +kernel
theorem dX12_small_29 : decode cX12_small 29 = .ok (.bipush 32, 2) := by decide +kernel
theorem dX12_small_31 : decode cX12_small 31 = .ok (.lushr, 1) := by decide +kernel
theorem dX12_small_32 : decode cX12_small 32 = .ok (.lastore, 1) := by decide +kernel
theorem dX12_small_33 : decode cX12_small 33 = .ok (.return_, 1) := by decide +kernel
theorem dX12_isNull_0 : decode cX12_isNull 0 = .ok (.aload_n 0, 1) := by decide +kernel
theorem dX12_isNull_1 : decode cX12_isNull 1 = .ok (.iconst 0, 1) := by decide +kernel
theorem dX12_isNull_2 : decode cX12_isNull 2 = .ok (.laload, 1) := by decide +kernel
theorem dX12_isNull_3 : decode cX12_isNull 3 = .ok (.aload_n 0, 1) := by decide +kernel
theorem dX12_isNull_4 : decode cX12_isNull 4 = .ok (.iconst 1, 1) := by decide +kernel
theorem dX12_isNull_5 : decode cX12_isNull 5 = .ok (.laload, 1) := by decide +kernel
theorem dX12_isNull_6 : decode cX12_isNull 6 = .ok (.lor, 1) := by decide +kernel
theorem dX12_isNull_7 : decode cX12_isNull 7 = .ok (.aload_n 0, 1) := by decide +kernel
theorem dX12_isNull_8 : decode cX12_isNull 8 = .ok (.iconst 2, 1) := by decide +kernel
theorem dX12_isNull_9 : decode cX12_isNull 9 = .ok (.laload, 1) := by decide +kernel
theorem dX12_isNull_10 : decode cX12_isNull 10 = .ok (.lor, 1) := by decide +kernel
theorem dX12_isNull_11 : decode cX12_isNull 11 = .ok (.aload_n 0, 1) := by decide +kernel
theorem dX12_isNull_12 : decode cX12_isNull 12 = .ok (.iconst 3, 1) := by decide +kernel
theorem dX12_isNull_13 : decode cX12_isNull 13 = .ok (.laload, 1) := by decide +kernel
theorem dX12_isNull_14 : decode cX12_isNull 14 = .ok (.lor, 1) := by decide +kernel
theorem dX12_isNull_15 : decode cX12_isNull 15 = .ok (.aload_n 0, 1) := by decide +kernel
theorem dX12_isNull_16 : decode cX12_isNull 16 = .ok (.iconst 4, 1) := by decide +kernel
theorem dX12_isNull_17 : decode cX12_isNull 17 = .ok (.laload, 1) := by decide +kernel
theorem dX12_isNull_18 : decode cX12_isNull 18 = .ok (.lor, 1) := by decide +kernel
theorem dX12_isNull_19 : decode cX12_isNull 19 = .ok (.aload_n 0, 1) := by decide +kernel
theorem dX12_isNull_20 : decode cX12_isNull 20 = .ok (.iconst 5, 1) := by decide +kernel
theorem dX12_isNull_21 : decode cX12_isNull 21 = .ok (.laload, 1) := by decide +kernel
theorem dX12_isNull_22 : decode cX12_isNull 22 = .ok (.lor, 1) := by decide +kernel
theorem dX12_isNull_23 : decode cX12_isNull 23 = .ok (.aload_n 0, 1) := by decide +kernel
theorem dX12_isNull_24 : decode cX12_isNull 24 = .ok (.bipush 6, 2) := by decide +kernel
theorem dX12_isNull_26 : decode cX12_isNull 26 = .ok (.laload, 1) := by decide +kernel
theorem dX12_isNull_27 : decode cX12_isNull 27 = .ok (.lor, 1) := by decide +kernel
theorem dX12_isNull_28 : decode cX12_isNull 28 = .ok (.aload_n 0, 1) := by decide +kernel
theorem dX12_isNull_29 : decode cX12_isNull 29 = .ok (.bipush 7, 2) := by decide +kernel
theorem dX12_isNull_31 : decode cX12_isNull 31 = .ok (.laload, 1) := by decide +kernel
theorem dX12_isNull_32 : decode cX12_isNull 32 = .ok (.lor, 1) := by decide +kernel
theorem dX12_isNull_33 : decode cX12_isNull 33 = .ok (.lconst 0, 1) := by decide +kernel
theorem dX12_isNull_34 : decode cX12_isNull 34 = .ok (.lcmp, 1) := by decide +kernel
theorem dX12_isNull_35 : decode cX12_isNull 35 = .ok (.ifCond .ne 7, 3) := by decide +kernel
theorem dX12_isNull_38 : decode cX12_isNull 38 = .ok (.iconst 1, 1) := by decide +kernel
theorem dX12_isNull_39 : decode cX12_isNull 39 = .ok (.goto 4, 3) := by decide +kernel
theorem dX12_isNull_42 : decode cX12_isNull 42 = .ok (.iconst 0, 1) := by decide +kernel
theorem dX12_isNull_43 : decode cX12_isNull 43 = .ok (.ireturn, 1) := by decide +kernel
theorem dX12_isSame_0 : decode cX12_isSame 0 = .ok (.iconst 1, 1) := by decide +kernel
theorem dX12_isSame_1 : decode cX12_isSame 1 = .ok (.istore_n 2, 1) := by decide +kernel
theorem dX12_isSame_2 : decode cX12_isSame 2 = .ok (.iconst 0, 1) := by decide +kernel
theorem dX12_isSame_3 : decode cX12_isSame 3 = .ok (.istore_n 3, 1) := by decide +kernel
theorem dX12_isSame_4 : decode cX12_isSame 4 = .ok (.iload_n 3, 1) := by decide +kernel
theorem dX12_isSame_5 : decode cX12_isSame 5 = .ok (.bipush 8, 2) := by decide +kernel
theorem dX12_isSame_7 : decode cX12_isSame 7 = .ok (.if_icmp .ge 29, 3) := by decide +kernel
theorem dX12_isSame_10 : decode cX12_isSame 10 = .ok (.iload_n 2, 1) := by decide +kernel
theorem dX12_isSame_11 : decode cX12_isSame 11 = .ok (.ifCond .eq 17, 3) := by decide +kernel
theorem dX12_isSame_14 : decode cX12_isSame 14 = .ok (.aload_n 0, 1) := by decide +kernel
theorem dX12_isSame_15 : decode cX12_isSame 15 = .ok (.iload_n 3, 1) := by decide +kernel
theorem dX12_isSame_16 : decode cX12_isSame 16 = .ok (.laload, 1) := by decide +kernel
theorem dX12_isSame_17 : decode cX12_isSame 17 = .ok (.aload_n 1, 1) := by decide +kernel
theorem dX12_isSame_18 : decode cX12_isSame 18 = .ok (.iload_n 3, 1) := by decide +kernel
theorem dX12_isSame_19 : decode cX12_isSame 19 = .ok (.laload, 1) := by decide +kernel
theorem dX12_isSame_20 : decode cX12_isSame 20 = .ok (.lcmp, 1) := by decide +kernel
theorem dX12_isSame_21 : decode cX12_isSame 21 = .ok (.ifCond .ne 7, 3) := by decide +kernel
theorem dX12_isSame_24 : decode cX12_isSame 24 = .ok (.iconst 1, 1) := by decide +kernel
theorem dX12_isSame_25 : decode cX12_isSame 25 = .ok (.goto 4, 3) := by decide +kernel
theorem dX12_isSame_28 : decode cX12_isSame 28 = .ok (.iconst 0, 1) := by decide +kernel
theorem dX12_isSame_29 : decode cX12_isSame 29 = .ok (.istore_n 2, 1) := by decide +kernel
theorem dX12_isSame_30 : decode cX12_isSame 30 = .ok (.iinc 3 1, 3) := by decide +kernel
theorem dX12_isSame_33 : decode cX12_isSame 33 = .ok (.goto (-29), 3) := by decide +kernel
theorem dX12_isSame_36 : decode cX12_isSame 36 = .ok (.iload_n 2, 1) := by decide +kernel
theorem dX12_isSame_37 : decode cX12_isSame 37 = .ok (.ireturn, 1) := by decide +kernel
theorem dX12_isBelow_0 : decode cX12_isBelow 0 = .ok (.bipush 7, 2) := by decide +kernel
theorem dX12_isBelow_2 : decode cX12_isBelow 2 = .ok (.istore_n 2, 1) := by decide +kernel
theorem dX12_isBelow_3 : decode cX12_isBelow 3 = .ok (.iload_n 2, 1) := by decide +kernel
theorem dX12_isBelow_4 : decode cX12_isBelow 4 = .ok (.ifCond .lt 35, 3) := by decide +kernel
theorem dX12_isBelow_7 : decode cX12_isBelow 7 = .ok (.aload_n 0, 1) := by decide +kernel
theorem dX12_isBelow_8 : decode cX12_isBelow 8 = .ok (.iload_n 2, 1) := by decide +kernel
theorem dX12_isBelow_9 : decode cX12_isBelow 9 = .ok (.laload, 1) := by decide +kernel
theorem dX12_isBelow_10 : decode cX12_isBelow 10 = .ok (.aload_n 1, 1) := by decide +kernel
theorem dX12_isBelow_11 : decode cX12_isBelow 11 = .ok (.iload_n 2, 1) := by decide +kernel
theorem dX12_isBelow_12 : decode cX12_isBelow 12 = .ok (.laload, 1) := by decide +kernel
theorem dX12_isBelow_13 : decode cX12_isBelow 13 = .ok (.lcmp, 1) := by decide +kernel
theorem dX12_isBelow_14 : decode cX12_isBelow 14 = .ok (.ifCond .eq 19, 3) := by decide +kernel
theorem dX12_isBelow_17 : decode cX12_isBelow 17 = .ok (.aload_n 0, 1) := by decide +kernel
theorem dX12_isBelow_18 : decode cX12_isBelow 18 = .ok (.iload_n 2, 1) := by decide +kernel
theorem dX12_isBelow_19 : decode cX12_isBelow 19 = .ok (.laload, 1) := by decide +kernel
theorem dX12_isBelow_20 : decode cX12_isBelow 20 = .ok (.aload_n 1, 1) := by decide +kernel
theorem dX12_isBelow_21 : decode cX12_isBelow 21 = .ok (.iload_n 2, 1) := by decide +kernel
theorem dX12_isBelow_22 : decode cX12_isBelow 22 = .ok (.laload, 1) := by decide +kernel
theorem dX12_isBelow_23 : decode cX12_isBelow 23 = .ok (.lcmp, 1) := by decide +kernel
theorem dX12_isBelow_24 : decode cX12_isBelow 24 = .ok (.ifCond .ge 7, 3) := by decide +kernel
theorem dX12_isBelow_27 : decode cX12_isBelow 27 = .ok (.iconst 1, 1) := by decide +kernel
theorem dX12_isBelow_28 : decode cX12_isBelow 28 = .ok (.goto 4, 3) := by decide +kernel
theorem dX12_isBelow_31 : decode cX12_isBelow 31 = .ok (.iconst 0, 1) := by decide +kernel
theorem dX12_isBelow_32 : decode cX12_isBelow 32 = .ok (.ireturn, 1) := by decide +kernel
theorem dX12_isBelow_33 : decode cX12_isBelow 33 = .ok (.iinc 2 (-1), 3) := by decide +kernel
theorem dX12_isBelow_36 : decode cX12_isBelow 36 = .ok (.goto (-33), 3) := by decide +kernel
theorem dX12_isBelow_39 : decode cX12_isBelow 39 = .ok (.iconst 0, 1) := by decide +kernel
theorem dX12_isBelow_40 : decode cX12_isBelow 40 = .ok (.ireturn, 1) := by decide +kernel
theorem dX12_take_0 : decode cX12_take 0 = .ok (.lconst 0, 1) := by decide +kernel
theorem dX12_take_1 : decode cX12_take 1 = .ok (.lstore_n 3, 1) := by decide +kernel
theorem dX12_take_2 : decode cX12_take 2 = .ok (.iconst 0, 1) := by decide +kernel
theorem dX12_take_3 : decode cX12_take 3 = .ok (.istore 5, 2) := by decide +kernel
theorem dX12_take_5 : decode cX12_take 5 = .ok (.iload 5, 2) := by decide +kernel
theorem dX12_take_7 : decode cX12_take 7 = .ok (.bipush 8, 2) := by decide +kernel
theorem dX12_take_9 : decode cX12_take 9 = .ok (.if_icmp .ge 45, 3) := by decide +kernel
theorem dX12_take_12 : decode cX12_take 12 = .ok (.aload_n 1, 1) := by decide +kernel
theorem dX12_take_13 : decode cX12_take 13 = .ok (.iload 5, 2) := by decide +kernel
theorem dX12_take_15 : decode cX12_take 15 = .ok (.laload, 1) := by decide +kernel
theorem dX12_take_16 : decode cX12_take 16 = .ok (.aload_n 2, 1) := by decide +kernel
theorem dX12_take_17 : decode cX12_take 17 = .ok (.iload 5, 2) := by decide +kernel
theorem dX12_take_19 : decode cX12_take 19 = .ok (.laload, 1) := by decide +kernel
theorem dX12_take_20 : decode cX12_take 20 = .ok (.lsub, 1) := by decide +kernel
theorem dX12_take_21 : decode cX12_take 21 = .ok (.lload_n 3, 1) := by decide +kernel
theorem dX12_take_22 : decode cX12_take 22 = .ok (.lsub, 1) := by decide +kernel
theorem dX12_take_23 : decode cX12_take 23 = .ok (.lstore 6, 2) := by decide +kernel
theorem dX12_take_25 : decode cX12_take 25 = .ok (.aload_n 0, 1) := by decide +kernel
theorem dX12_take_26 : decode cX12_take 26 = .ok (.iload 5, 2) := by decide +kernel
theorem dX12_take_28 : decode cX12_take 28 = .ok (.lload 6, 2) := by decide +kernel
theorem dX12_take_30 : decode cX12_take 30 = .ok (.ldc2_w 13, 3) := by decide +kernel
theorem dX12_take_33 : decode cX12_take 33 = .ok (.land, 1) := by decide +kernel
theorem dX12_take_34 : decode cX12_take 34 = .ok (.lastore, 1) := by decide +kernel
theorem dX12_take_35 : decode cX12_take 35 = .ok (.lload 6, 2) := by decide +kernel
theorem dX12_take_37 : decode cX12_take 37 = .ok (.lconst 0, 1) := by decide +kernel
theorem dX12_take_38 : decode cX12_take 38 = .ok (.lcmp, 1) := by decide +kernel
theorem dX12_take_39 : decode cX12_take 39 = .ok (.ifCond .ge 7, 3) := by decide +kernel
theorem dX12_take_42 : decode cX12_take 42 = .ok (.lconst 1, 1) := by decide +kernel
theorem dX12_take_43 : decode cX12_take 43 = .ok (.goto 4, 3) := by decide +kernel
theorem dX12_take_46 : decode cX12_take 46 = .ok (.lconst 0, 1) := by decide +kernel
theorem dX12_take_47 : decode cX12_take 47 = .ok (.lstore_n 3, 1) := by decide +kernel
theorem dX12_take_48 : decode cX12_take 48 = .ok (.iinc 5 1, 3) := by decide +kernel
theorem dX12_take_51 : decode cX12_take 51 = .ok (.goto (-46), 3) := by decide +kernel
theorem dX12_take_54 : decode cX12_take 54 = .ok (.return_, 1) := by decide +kernel
set_option maxRecDepth 20000 in
theorem ggX12_reduce_X12_isBelow : GoodIn wsX12_reduce wsX12_isBelow := goodIn_r _ [11] rfl (by decide +kernel)
set_option maxRecDepth 20000 in
theorem gX12_reduce_X12_isBelow : GoodIn wsX12_reduce (va_wsS RX12 365 yX12_isBelow wsX12_isBelow) := goodIn_app (goodIn_of _ (by decide +kernel)) ggX12_reduce_X12_isBelow
set_option maxRecDepth 20000 in
theorem ggX12_reduce_X12_take : GoodIn wsX12_reduce wsX12_take := goodIn_r _ [14, 5] rfl (by decide +kernel)
set_option maxRecDepth 20000 in
theorem gX12_reduce_X12_take : GoodIn wsX12_reduce (va_wsS RX12 369 yX12_take wsX12_take) := goodIn_app (goodIn_of _ (by decide +kernel)) ggX12_reduce_X12_take
theorem dX12_reduce_0 : decode cX12_reduce 0 = .ok (.iload_n 2, 1) := by decide +kernel
theorem dX12_reduce_1 : decode cX12_reduce 1 = .ok (.ifCond .eq 10, 3) := by decide +kernel
theorem dX12_reduce_4 : decode cX12_reduce 4 = .ok (.aload_n 0, 1) := by decide +kernel
theorem dX12_reduce_5 : decode cX12_reduce 5 = .ok (.getfield 43, 3) := by decide +kernel
theorem dX12_reduce_8 : decode cX12_reduce 8 = .ok (.goto 7, 3) := by decide +kernel
theorem dX12_reduce_11 : decode cX12_reduce 11 = .ok (.aload_n 0, 1) := by decide +kernel
theorem dX12_reduce_12 : decode cX12_reduce 12 = .ok (.getfield 32, 3) := by decide +kernel
theorem dX12_reduce_15 : decode cX12_reduce 15 = .ok (.astore_n 3, 1) := by decide +kernel
theorem dX12_reduce_16 : decode cX12_reduce 16 = .ok (.iconst 1, 1) := by decide +kernel
theorem dX12_reduce_17 : decode cX12_reduce 17 = .ok (.istore 4, 2) := by decide +kernel
theorem dX12_reduce_19 : decode cX12_reduce 19 = .ok (.iload 4, 2) := by decide +kernel
theorem dX12_reduce_21 : decode cX12_reduce 21 = .ok (.ifCond .eq 238, 3) := by decide +kernel
theorem dX12_reduce_24 : decode cX12_reduce 24 = .ok (.iconst 0, 1) := by decide +kernel
theorem dX12_reduce_25 : decode cX12_reduce 25 = .ok (.istore 4, 2) := by decide +kernel
theorem dX12_reduce_27 : decode cX12_reduce 27 = .ok (.iconst 0, 1) := by decide +kernel
theorem dX12_reduce_28 : decode cX12_reduce 28 = .ok (.istore 5, 2) := by decide +kernel
theorem dX12_reduce_30 : decode cX12_reduce 30 = .ok (.iload 5, 2) := by decide +kernel
theorem dX12_reduce_32 : decode cX12_reduce 32 = .ok (.bipush 18, 2) := by decide +kernel
theorem dX12_reduce_34 : decode cX12_reduce 34 = .ok (.if_icmp .ge 65, 3) := by decide +kernel
theorem dX12_reduce_37 : decode cX12_reduce 37 = .ok (.aload_n 0, 1) := by decide +kernel
theorem dX12_reduce_38 : decode cX12_reduce 38 = .ok (.getfield 155, 3) := by decide +kernel
theorem dX12_reduce_41 : decode cX12_reduce 41 = .ok (.iload 5, 2) := by decide +kernel
theorem dX12_reduce_43 : decode cX12_reduce 43 = .ok (.iload 5, 2) := by decide +kernel
theorem dX12_reduce_45 : decode cX12_reduce 45 = .ok (.bipush 8, 2) := by decide +kernel
theorem dX12_reduce_47 : decode cX12_reduce 47 = .ok (.if_icmp .ge 13, 3) := by decide +kernel
theorem dX12_reduce_50 : decode cX12_reduce 50 = .ok (.aload_n 0, 1) := by decide +kernel
theorem dX12_reduce_51 : decode cX12_reduce 51 = .ok (.getfield 152, 3) := by decide +kernel
theorem dX12_reduce_54 : decode cX12_reduce 54 = .ok (.iload 5, 2) := by decide +kernel
theorem dX12_reduce_56 : decode cX12_reduce 56 = .ok (.laload, 1) := by decide +kernel
theorem dX12_reduce_57 : decode cX12_reduce 57 = .ok (.goto 4, 3) := by decide +kernel
theorem dX12_reduce_60 : decode cX12_reduce 60 = .ok (.lconst 0, 1) := by decide +kernel
theorem dX12_reduce_61 : decode cX12_reduce 61 = .ok (.lastore, 1) := by decide +kernel
theorem dX12_reduce_62 : decode cX12_reduce 62 = .ok (.iload 4, 2) := by decide +kernel
theorem dX12_reduce_64 : decode cX12_reduce 64 = .ok (.ifCond .ne 22, 3) := by decide +kernel
theorem dX12_reduce_67 : decode cX12_reduce 67 = .ok (.iload 5, 2) := by decide +kernel
theorem dX12_reduce_69 : decode cX12_reduce 69 = .ok (.bipush 8, 2) := by decide +kernel
theorem dX12_reduce_71 : decode cX12_reduce 71 = .ok (.if_icmp .lt 19, 3) := by decide +kernel
theorem dX12_reduce_74 : decode cX12_reduce 74 = .ok (.aload_n 0, 1) := by decide +kernel
theorem dX12_reduce_75 : decode cX12_reduce 75 = .ok (.getfield 152, 3) := by decide +kernel
theorem dX12_reduce_78 : decode cX12_reduce 78 = .ok (.iload 5, 2) := by decide +kernel
theorem dX12_reduce_80 : decode cX12_reduce 80 = .ok (.laload, 1) := by decide +kernel
theorem dX12_reduce_81 : decode cX12_reduce 81 = .ok (.lconst 0, 1) := by decide +kernel
theorem dX12_reduce_82 : decode cX12_reduce 82 = .ok (.lcmp, 1) := by decide +kernel
theorem dX12_reduce_83 : decode cX12_reduce 83 = .ok (.ifCond .eq 7, 3) := by decide +kernel
theorem dX12_reduce_86 : decode cX12_reduce 86 = .ok (.iconst 1, 1) := by decide +kernel
theorem dX12_reduce_87 : decode cX12_reduce 87 = .ok (.goto 4, 3) := by decide +kernel
theorem dX12_reduce_90 : decode cX12_reduce 90 = .ok (.iconst 0, 1) := by decide +kernel
theorem dX12_reduce_91 : decode cX12_reduce 91 = .ok (.istore 4, 2) := by decide +kernel
theorem dX12_reduce_93 : decode cX12_reduce 93 = .ok (.iinc 5 1, 3) := by decide +kernel
theorem dX12_reduce_96 : decode cX12_reduce 96 = .ok (.goto (-66), 3) := by decide +kernel
theorem dX12_reduce_99 : decode cX12_reduce 99 = .ok (.iconst 0, 1) := by decide +kernel
theorem dX12_reduce_100 : decode cX12_reduce 100 = .ok (.istore 5, 2) := by decide +kernel
theorem dX12_reduce_102 : decode cX12_reduce 102 = .ok (.iload 5, 2) := by decide +kernel
theorem dX12_reduce_104 : decode cX12_reduce 104 = .ok (.bipush 10, 2) := by decide +kernel
theorem dX12_reduce_106 : decode cX12_reduce 106 = .ok (.if_icmp .ge 115, 3) := by decide +kernel
theorem dX12_reduce_109 : decode cX12_reduce 109 = .ok (.iload 4, 2) := by decide +kernel
theorem dX12_reduce_111 : decode cX12_reduce 111 = .ok (.ifCond .eq 110, 3) := by decide +kernel
theorem dX12_reduce_114 : decode cX12_reduce 114 = .ok (.lconst 0, 1) := by decide +kernel
theorem dX12_reduce_115 : decode cX12_reduce 115 = .ok (.lstore 6, 2) := by decide +kernel
theorem dX12_reduce_117 : decode cX12_reduce 117 = .ok (.iconst 0, 1) := by decide +kernel
theorem dX12_reduce_118 : decode cX12_reduce 118 = .ok (.istore 8, 2) := by decide +kernel
theorem dX12_reduce_120 : decode cX12_reduce 120 = .ok (.iload 5, 2) := by decide +kernel
theorem dX12_reduce_122 : decode cX12_reduce 122 = .ok (.iload 8, 2) := by decide +kernel
theorem dX12_reduce_124 : decode cX12_reduce 124 = .ok (.iadd, 1) := by decide +kernel
theorem dX12_reduce_125 : decode cX12_reduce 125 = .ok (.bipush 18, 2) := by decide +kernel
theorem dX12_reduce_127 : decode cX12_reduce 127 = .ok (.if_icmp .ge 88, 3) := by decide +kernel
theorem dX12_reduce_130 : decode cX12_reduce 130 = .ok (.aload_n 0, 1) := by decide +kernel
theorem dX12_reduce_131 : decode cX12_reduce 131 = .ok (.getfield 152, 3) := by decide +kernel
theorem dX12_reduce_134 : decode cX12_reduce 134 = .ok (.bipush 8, 2) := by decide +kernel
theorem dX12_reduce_136 : decode cX12_reduce 136 = .ok (.iload 5, 2) := by decide +kernel
theorem dX12_reduce_138 : decode cX12_reduce 138 = .ok (.iadd, 1) := by decide +kernel
theorem dX12_reduce_139 : decode cX12_reduce 139 = .ok (.laload, 1) := by decide +kernel
theorem dX12_reduce_140 : decode cX12_reduce 140 = .ok (.lconst 0, 1) := by decide +kernel
theorem dX12_reduce_141 : decode cX12_reduce 141 = .ok (.lcmp, 1) := by decide +kernel
theorem dX12_reduce_142 : decode cX12_reduce 142 = .ok (.ifCond .eq 73, 3) := by decide +kernel
theorem dX12_reduce_145 : decode cX12_reduce 145 = .ok (.iload 8, 2) := by decide +kernel
theorem dX12_reduce_147 : decode cX12_reduce 147 = .ok (.iconst 5, 1) := by decide +kernel
theorem dX12_reduce_148 : decode cX12_reduce 148 = .ok (.if_icmp .ge 21, 3) := by decide +kernel
theorem dX12_reduce_151 : decode cX12_reduce 151 = .ok (.aload_n 0, 1) := by decide +kernel
theorem dX12_reduce_152 : decode cX12_reduce 152 = .ok (.getfield 152, 3) := by decide +kernel
theorem dX12_reduce_155 : decode cX12_reduce 155 = .ok (.bipush 8, 2) := by decide +kernel
theorem dX12_reduce_157 : decode cX12_reduce 157 = .ok (.iload 5, 2) := by decide +kernel
theorem dX12_reduce_159 : decode cX12_reduce 159 = .ok (.iadd, 1) := by decide +kernel
theorem dX12_reduce_160 : decode cX12_reduce 160 = .ok (.laload, 1) := by decide +kernel
theorem dX12_reduce_161 : decode cX12_reduce 161 = .ok (.aload_n 3, 1) := by decide +kernel
theorem dX12_reduce_162 : decode cX12_reduce 162 = .ok (.iload 8, 2) := by decide +kernel
theorem dX12_reduce_164 : decode cX12_reduce 164 = .ok (.laload, 1) := by decide +kernel
theorem dX12_reduce_165 : decode cX12_reduce 165 = .ok (.lmul, 1) := by decide +kernel
theorem dX12_reduce_166 : decode cX12_reduce 166 = .ok (.goto 4, 3) := by decide +kernel
theorem dX12_reduce_169 : decode cX12_reduce 169 = .ok (.lconst 0, 1) := by decide +kernel
theorem dX12_reduce_170 : decode cX12_reduce 170 = .ok (.aload_n 0, 1) := by decide +kernel
theorem dX12_reduce_171 : decode cX12_reduce 171 = .ok (.getfield 155, 3) := by decide +kernel
theorem dX12_reduce_174 : decode cX12_reduce 174 = .ok (.iload 5, 2) := by decide +kernel
theorem dX12_reduce_176 : decode cX12_reduce 176 = .ok (.iload 8, 2) := by decide +kernel
theorem dX12_reduce_178 : decode cX12_reduce 178 = .ok (.iadd, 1) := by decide +kernel
theorem dX12_reduce_179 : decode cX12_reduce 179 = .ok (.laload, 1) := by decide +kernel
theorem dX12_reduce_180 : decode cX12_reduce 180 = .ok (.ladd, 1) := by decide +kernel
theorem dX12_reduce_181 : decode cX12_reduce 181 = .ok (.lload 6, 2) := by decide +kernel
theorem dX12_reduce_183 : decode cX12_reduce 183 = .ok (.ladd, 1) := by decide +kernel
theorem dX12_reduce_184 : decode cX12_reduce 184 = .ok (.lstore 9, 2) := by decide +kernel
theorem dX12_reduce_186 : decode cX12_reduce 186 = .ok (.aload_n 0, 1) := by decide +kernel
theorem dX12_reduce_187 : decode cX12_reduce 187 = .ok (.getfield 155, 3) := by decide +kernel
theorem dX12_reduce_190 : decode cX12_reduce 190 = .ok (.iload 5, 2) := by decide +kernel
theorem dX12_reduce_192 : decode cX12_reduce 192 = .ok (.iload 8, 2) := by decide +kernel
theorem dX12_reduce_194 : decode cX12_reduce 194 = .ok (.iadd, 1) := by decide +kernel
theorem dX12_reduce_195 : decode cX12_reduce 195 = .ok (.lload 9, 2) := by decide +kernel
theorem dX12_reduce_197 : decode cX12_reduce 197 = .ok (.ldc2_w 13, 3) := by decide +kernel
theorem dX12_reduce_200 : decode cX12_reduce 200 = .ok (.land, 1) := by decide +kernel
theorem dX12_reduce_201 : decode cX12_reduce 201 = .ok (.lastore, 1) := by decide +kernel
theorem dX12_reduce_202 : decode cX12_reduce 202 = .ok (.lload 9, 2) := by decide +kernel
theorem dX12_reduce_204 : decode cX12_reduce 204 = .ok (.bipush 32, 2) := by decide +kernel
theorem dX12_reduce_206 : decode cX12_reduce 206 = .ok (.lushr, 1) := by decide +kernel
theorem dX12_reduce_207 : decode cX12_reduce 207 = .ok (.lstore 6, 2) := by decide +kernel
theorem dX12_reduce_209 : decode cX12_reduce 209 = .ok (.iinc 8 1, 3) := by decide +kernel
theorem dX12_reduce_212 : decode cX12_reduce 212 = .ok (.goto (-92), 3) := by decide +kernel
theorem dX12_reduce_215 : decode cX12_reduce 215 = .ok (.iinc 5 1, 3) := by decide +kernel
theorem dX12_reduce_218 : decode cX12_reduce 218 = .ok (.goto (-116), 3) := by decide +kernel
theorem dX12_reduce_221 : decode cX12_reduce 221 = .ok (.iconst 0, 1) := by decide +kernel
theorem dX12_reduce_222 : decode cX12_reduce 222 = .ok (.istore 5, 2) := by decide +kernel
theorem dX12_reduce_224 : decode cX12_reduce 224 = .ok (.iload 5, 2) := by decide +kernel
theorem dX12_reduce_226 : decode cX12_reduce 226 = .ok (.bipush 18, 2) := by decide +kernel
theorem dX12_reduce_228 : decode cX12_reduce 228 = .ok (.if_icmp .ge 28, 3) := by decide +kernel
theorem dX12_reduce_231 : decode cX12_reduce 231 = .ok (.iload 4, 2) := by decide +kernel
theorem dX12_reduce_233 : decode cX12_reduce 233 = .ok (.ifCond .eq 23, 3) := by decide +kernel
theorem dX12_reduce_236 : decode cX12_reduce 236 = .ok (.aload_n 0, 1) := by decide +kernel
theorem dX12_reduce_237 : decode cX12_reduce 237 = .ok (.getfield 152, 3) := by decide +kernel
theorem dX12_reduce_240 : decode cX12_reduce 240 = .ok (.iload 5, 2) := by decide +kernel
theorem dX12_reduce_242 : decode cX12_reduce 242 = .ok (.aload_n 0, 1) := by decide +kernel
theorem dX12_reduce_243 : decode cX12_reduce 243 = .ok (.getfield 155, 3) := by decide +kernel
theorem dX12_reduce_246 : decode cX12_reduce 246 = .ok (.iload 5, 2) := by decide +kernel
theorem dX12_reduce_248 : decode cX12_reduce 248 = .ok (.laload, 1) := by decide +kernel
theorem dX12_reduce_249 : decode cX12_reduce 249 = .ok (.lastore, 1) := by decide +kernel
theorem dX12_reduce_250 : decode cX12_reduce 250 = .ok (.iinc 5 1, 3) := by decide +kernel
theorem dX12_reduce_253 : decode cX12_reduce 253 = .ok (.goto (-29), 3) := by decide +kernel
theorem dX12_reduce_256 : decode cX12_reduce 256 = .ok (.goto (-237), 3) := by decide +kernel
theorem dX12_reduce_259 : decode cX12_reduce 259 = .ok (.iconst 0, 1) := by decide +kernel
theorem dX12_reduce_260 : decode cX12_reduce 260 = .ok (.istore 5, 2) := by decide +kernel
theorem dX12_reduce_262 : decode cX12_reduce 262 = .ok (.iload 5, 2) := by decide +kernel
theorem dX12_reduce_264 : decode cX12_reduce 264 = .ok (.bipush 8, 2) := by decide +kernel
theorem dX12_reduce_266 : decode cX12_reduce 266 = .ok (.if_icmp .ge 20, 3) := by decide +kernel
theorem dX12_reduce_269 : decode cX12_reduce 269 = .ok (.aload_n 1, 1) := by decide +kernel
theorem dX12_reduce_270 : decode cX12_reduce 270 = .ok (.iload 5, 2) := by decide +kernel
theorem dX12_reduce_272 : decode cX12_reduce 272 = .ok (.aload_n 0, 1) := by decide +kernel
theorem dX12_reduce_273 : decode cX12_reduce 273 = .ok (.getfield 152, 3) := by decide +kernel
theorem dX12_reduce_276 : decode cX12_reduce 276 = .ok (.iload 5, 2) := by decide +kernel
theorem dX12_reduce_278 : decode cX12_reduce 278 = .ok (.laload, 1) := by decide +kernel
theorem dX12_reduce_279 : decode cX12_reduce 279 = .ok (.lastore, 1) := by decide +kernel
theorem dX12_reduce_280 : decode cX12_reduce 280 = .ok (.iinc 5 1, 3) := by decide +kernel
theorem dX12_reduce_283 : decode cX12_reduce 283 = .ok (.goto (-21), 3) := by decide +kernel
theorem dX12_reduce_286 : decode cX12_reduce 286 = .ok (.iload_n 2, 1) := by decide +kernel
theorem dX12_reduce_287 : decode cX12_reduce 287 = .ok (.ifCond .eq 10, 3) := by decide +kernel
theorem dX12_reduce_290 : decode cX12_reduce 290 = .ok (.aload_n 0, 1) := by decide +kernel
theorem dX12_reduce_291 : decode cX12_reduce 291 = .ok (.getfield 27, 3) := by decide +kernel
theorem dX12_reduce_294 : decode cX12_reduce 294 = .ok (.goto 7, 3) := by decide +kernel
theorem dX12_reduce_297 : decode cX12_reduce 297 = .ok (.aload_n 0, 1) := by decide +kernel
theorem dX12_reduce_298 : decode cX12_reduce 298 = .ok (.getfield 15, 3) := by decide +kernel
theorem dX12_reduce_301 : decode cX12_reduce 301 = .ok (.astore 5, 2) := by decide +kernel
theorem dX12_reduce_303 : decode cX12_reduce 303 = .ok (.aload_n 1, 1) := by decide +kernel
theorem dX12_reduce_304 : decode cX12_reduce 304 = .ok (.aload 5, 2) := by decide +kernel
theorem dX12_reduce_306 : decode cX12_reduce 306 = .ok (.invokestatic 365, 3) := by decide +kernel
theorem dX12_reduce_309 : decode cX12_reduce 309 = .ok (.ifCond .ne 10, 3) := by decide +kernel
theorem dX12_reduce_312 : decode cX12_reduce 312 = .ok (.aload_n 1, 1) := by decide +kernel
theorem dX12_reduce_313 : decode cX12_reduce 313 = .ok (.aload_n 1, 1) := by decide +kernel
theorem dX12_reduce_314 : decode cX12_reduce 314 = .ok (.aload 5, 2) := by decide +kernel
theorem dX12_reduce_316 : decode cX12_reduce 316 = .ok (.invokestatic 369, 3) := by decide +kernel
theorem dX12_reduce_319 : decode cX12_reduce 319 = .ok (.return_, 1) := by decide +kernel
set_option maxRecDepth 20000 in
theorem ggX12_times_X12_reduce : GoodIn wsX12_times wsX12_reduce := goodIn_r _ [7, 8, 9, 10, 1, 2, 11, 12, 13, 14, 6, 15, 16, 17, 18, 19, 20, 21, 22, 23, 24, 25, 26, 27, 28, 29, 30, 31, 32, 33, 34, 35, 36, 37, 38, 39, 40, 41, 42, 43, 44, 45, 46, 47, 48, 49, 50, 51, 52, 53, 54, 55, 56, 57, 58, 59, 60, 61, 62, 63, 64, 65, 66, 67, 68, 69, 70, 71, 72, 73, 74, 75, 76, 77, 78, 79, 80, 81, 82, 83, 84, 85, 86, 87, 88, 89, 90, 91, 92, 93, 94, 95, 96, 97, 98, 99] rfl (by decide +kernel)
set_option maxRecDepth 20000 in
theorem gX12_times_X12_reduce : GoodIn wsX12_times (wsV RX12 373 RX12 yX12_reduce wsX12_reduce) := goodIn_app (goodIn_of _ (by decide +kernel)) ggX12_times_X12_reduce
theorem dX12_times_0 : decode cX12_times 0 = .ok (.iconst 0, 1) := by decide +kernel
theorem dX12_times_1 : decode cX12_times 1 = .ok (.istore 5, 2) := by decide +kernel
theorem dX12_times_3 : decode cX12_times 3 = .ok (.iload 5, 2) := by decide +kernel
theorem dX12_times_5 : decode cX12_times 5 = .ok (.bipush 18, 2) := by decide +kernel
theorem dX12_times_7 : decode cX12_times 7 = .ok (.if_icmp .ge 17, 3) := by decide +kernel
theorem dX12_times_10 : decode cX12_times 10 = .ok (.aload_n 0, 1) := by decide +kernel
theorem dX12_times_11 : decode cX12_times 11 = .ok (.getfield 152, 3) := by decide +kernel
theorem dX12_times_14 : decode cX12_times 14 = .ok (.iload 5, 2) := by decide +kernel
theorem dX12_times_16 : decode cX12_times 16 = .ok (.lconst 0, 1) := by decide +kernel
theorem dX12_times_17 : decode cX12_times 17 = .ok (.lastore, 1) := by decide +kernel
theorem dX12_times_18 : decode cX12_times 18 = .ok (.iinc 5 1, 3) := by decide +kernel
theorem dX12_times_21 : decode cX12_times 21 = .ok (.goto (-18), 3) := by decide +kernel
theorem dX12_times_24 : decode cX12_times 24 = .ok (.iconst 0, 1) := by decide +kernel
theorem dX12_times_25 : decode cX12_times 25 = .ok (.istore 5, 2) := by decide +kernel
theorem dX12_times_27 : decode cX12_times 27 = .ok (.iload 5, 2) := by decide +kernel
theorem dX12_times_29 : decode cX12_times 29 = .ok (.bipush 8, 2) := by decide +kernel
theorem dX12_times_31 : decode cX12_times 31 = .ok (.if_icmp .ge 88, 3) := by decide +kernel
theorem dX12_times_34 : decode cX12_times 34 = .ok (.lconst 0, 1) := by decide +kernel
theorem dX12_times_35 : decode cX12_times 35 = .ok (.lstore 6, 2) := by decide +kernel
theorem dX12_times_37 : decode cX12_times 37 = .ok (.iconst 0, 1) := by decide +kernel
theorem dX12_times_38 : decode cX12_times 38 = .ok (.istore 8, 2) := by decide +kernel
theorem dX12_times_40 : decode cX12_times 40 = .ok (.iload 8, 2) := by decide +kernel
theorem dX12_times_42 : decode cX12_times 42 = .ok (.bipush 8, 2) := by decide +kernel
theorem dX12_times_44 : decode cX12_times 44 = .ok (.if_icmp .ge 57, 3) := by decide +kernel
theorem dX12_times_47 : decode cX12_times 47 = .ok (.aload_n 2, 1) := by decide +kernel
theorem dX12_times_48 : decode cX12_times 48 = .ok (.iload 5, 2) := by decide +kernel
theorem dX12_times_50 : decode cX12_times 50 = .ok (.laload, 1) := by decide +kernel
theorem dX12_times_51 : decode cX12_times 51 = .ok (.aload_n 3, 1) := by decide +kernel
theorem dX12_times_52 : decode cX12_times 52 = .ok (.iload 8, 2) := by decide +kernel
theorem dX12_times_54 : decode cX12_times 54 = .ok (.laload, 1) := by decide +kernel
theorem dX12_times_55 : decode cX12_times 55 = .ok (.lmul, 1) := by decide +kernel
theorem dX12_times_56 : decode cX12_times 56 = .ok (.aload_n 0, 1) := by decide +kernel
theorem dX12_times_57 : decode cX12_times 57 = .ok (.getfield 152, 3) := by decide +kernel
theorem dX12_times_60 : decode cX12_times 60 = .ok (.iload 5, 2) := by decide +kernel
theorem dX12_times_62 : decode cX12_times 62 = .ok (.iload 8, 2) := by decide +kernel
theorem dX12_times_64 : decode cX12_times 64 = .ok (.iadd, 1) := by decide +kernel
theorem dX12_times_65 : decode cX12_times 65 = .ok (.laload, 1) := by decide +kernel
theorem dX12_times_66 : decode cX12_times 66 = .ok (.ladd, 1) := by decide +kernel
theorem dX12_times_67 : decode cX12_times 67 = .ok (.lload 6, 2) := by decide +kernel
theorem dX12_times_69 : decode cX12_times 69 = .ok (.ladd, 1) := by decide +kernel
theorem dX12_times_70 : decode cX12_times 70 = .ok (.lstore 9, 2) := by decide +kernel
theorem dX12_times_72 : decode cX12_times 72 = .ok (.aload_n 0, 1) := by decide +kernel
theorem dX12_times_73 : decode cX12_times 73 = .ok (.getfield 152, 3) := by decide +kernel
theorem dX12_times_76 : decode cX12_times 76 = .ok (.iload 5, 2) := by decide +kernel
theorem dX12_times_78 : decode cX12_times 78 = .ok (.iload 8, 2) := by decide +kernel
theorem dX12_times_80 : decode cX12_times 80 = .ok (.iadd, 1) := by decide +kernel
theorem dX12_times_81 : decode cX12_times 81 = .ok (.lload 9, 2) := by decide +kernel
theorem dX12_times_83 : decode cX12_times 83 = .ok (.ldc2_w 13, 3) := by decide +kernel
theorem dX12_times_86 : decode cX12_times 86 = .ok (.land, 1) := by decide +kernel
theorem dX12_times_87 : decode cX12_times 87 = .ok (.lastore, 1) := by decide +kernel
theorem dX12_times_88 : decode cX12_times 88 = .ok (.lload 9, 2) := by decide +kernel
theorem dX12_times_90 : decode cX12_times 90 = .ok (.bipush 32, 2) := by decide +kernel
theorem dX12_times_92 : decode cX12_times 92 = .ok (.lushr, 1) := by decide +kernel
theorem dX12_times_93 : decode cX12_times 93 = .ok (.lstore 6, 2) := by decide +kernel
theorem dX12_times_95 : decode cX12_times 95 = .ok (.iinc 8 1, 3) := by decide +kernel
theorem dX12_times_98 : decode cX12_times 98 = .ok (.goto (-58), 3) := by decide +kernel
theorem dX12_times_101 : decode cX12_times 101 = .ok (.aload_n 0, 1) := by decide +kernel
theorem dX12_times_102 : decode cX12_times 102 = .ok (.getfield 152, 3) := by decide +kernel
theorem dX12_times_105 : decode cX12_times 105 = .ok (.iload 5, 2) := by decide +kernel
theorem dX12_times_107 : decode cX12_times 107 = .ok (.bipush 8, 2) := by decide +kernel
theorem dX12_times_109 : decode cX12_times 109 = .ok (.iadd, 1) := by decide +kernel
theorem dX12_times_110 : decode cX12_times 110 = .ok (.lload 6, 2) := by decide +kernel
theorem dX12_times_112 : decode cX12_times 112 = .ok (.lastore, 1) := by decide +kernel
theorem dX12_times_113 : decode cX12_times 113 = .ok (.iinc 5 1, 3) := by decide +kernel
theorem dX12_times_116 : decode cX12_times 116 = .ok (.goto (-89), 3) := by decide +kernel
theorem dX12_times_119 : decode cX12_times 119 = .ok (.aload_n 0, 1) := by decide +kernel
theorem dX12_times_120 : decode cX12_times 120 = .ok (.aload_n 1, 1) := by decide +kernel
theorem dX12_times_121 : decode cX12_times 121 = .ok (.iload 4, 2) := by decide +kernel
theorem dX12_times_123 : decode cX12_times 123 = .ok (.invokevirtual 373, 3) := by decide +kernel
theorem dX12_times_126 : decode cX12_times 126 = .ok (.return_, 1) := by decide +kernel
set_option maxRecDepth 20000 in
theorem ggX12_add_X12_reduce : GoodIn wsX12_add wsX12_reduce := goodIn_r _ [7, 8, 9, 10, 1, 2, 11, 12, 13, 14, 6, 15, 16, 17, 18, 19, 20, 21, 22, 23, 24, 25, 26, 27, 28, 29, 30, 31, 32, 33, 34, 35, 36, 37, 38, 39, 40, 41, 42, 43, 44, 45, 46, 47, 48, 49, 50, 51, 52, 53, 54, 55, 56, 57, 58, 59, 60, 61, 62, 63, 64, 65, 66, 67, 68, 69, 70, 71, 72, 73, 74, 75, 76, 77, 78, 79, 80, 81, 82, 83, 84, 85, 86, 87, 88, 89, 90, 91, 92, 93, 94, 95, 96, 97, 98, 99] rfl (by decide +kernel)
set_option maxRecDepth 20000 in
theorem gX12_add_X12_reduce : GoodIn wsX12_add (wsV RX12 373 RX12 yX12_reduce wsX12_reduce) := goodIn_app (goodIn_of _ (by decide +kernel)) ggX12_add_X12_reduce
theorem dX12_add_0 : decode cX12_add 0 = .ok (.lconst 0, 1) := by decide +kernel
theorem dX12_add_1 : decode cX12_add 1 = .ok (.lstore 5, 2) := by decide +kernel
theorem dX12_add_3 : decode cX12_add 3 = .ok (.iconst 0, 1) := by decide +kernel
theorem dX12_add_4 : decode cX12_add 4 = .ok (.istore 7, 2) := by decide +kernel
theorem dX12_add_6 : decode cX12_add 6 = .ok (.iload 7, 2) := by decide +kernel
theorem dX12_add_8 : decode cX12_add 8 = .ok (.bipush 18, 2) := by decide +kernel
theorem dX12_add_10 : decode cX12_add 10 = .ok (.if_icmp .ge 54, 3) := by decide +kernel
theorem dX12_add_13 : decode cX12_add 13 = .ok (.iload 7, 2) := by decide +kernel
theorem dX12_add_15 : decode cX12_add 15 = .ok (.bipush 8, 2) := by decide +kernel
theorem dX12_add_17 : decode cX12_add 17 = .ok (.if_icmp .ge 15, 3) := by decide +kernel
theorem dX12_add_20 : decode cX12_add 20 = .ok (.aload_n 2, 1) := by decide +kernel
theorem dX12_add_21 : decode cX12_add 21 = .ok (.iload 7, 2) := by decide +kernel
theorem dX12_add_23 : decode cX12_add 23 = .ok (.laload, 1) := by decide +kernel
theorem dX12_add_24 : decode cX12_add 24 = .ok (.aload_n 3, 1) := by decide +kernel
theorem dX12_add_25 : decode cX12_add 25 = .ok (.iload 7, 2) := by decide +kernel
theorem dX12_add_27 : decode cX12_add 27 = .ok (.laload, 1) := by decide +kernel
theorem dX12_add_28 : decode cX12_add 28 = .ok (.ladd, 1) := by decide +kernel
theorem dX12_add_29 : decode cX12_add 29 = .ok (.goto 4, 3) := by decide +kernel
theorem dX12_add_32 : decode cX12_add 32 = .ok (.lconst 0, 1) := by decide +kernel
theorem dX12_add_33 : decode cX12_add 33 = .ok (.lload 5, 2) := by decide +kernel
theorem dX12_add_35 : decode cX12_add 35 = .ok (.ladd, 1) := by decide +kernel
theorem dX12_add_36 : decode cX12_add 36 = .ok (.lstore 8, 2) := by decide +kernel
theorem dX12_add_38 : decode cX12_add 38 = .ok (.aload_n 0, 1) := by decide +kernel
theorem dX12_add_39 : decode cX12_add 39 = .ok (.getfield 152, 3) := by decide +kernel
theorem dX12_add_42 : decode cX12_add 42 = .ok (.iload 7, 2) := by decide +kernel
theorem dX12_add_44 : decode cX12_add 44 = .ok (.lload 8, 2) := by decide +kernel
theorem dX12_add_46 : decode cX12_add 46 = .ok (.ldc2_w 13, 3) := by decide +kernel
theorem dX12_add_49 : decode cX12_add 49 = .ok (.land, 1) := by decide +kernel
theorem dX12_add_50 : decode cX12_add 50 = .ok (.lastore, 1) := by decide +kernel
theorem dX12_add_51 : decode cX12_add 51 = .ok (.lload 8, 2) := by decide +kernel
theorem dX12_add_53 : decode cX12_add 53 = .ok (.bipush 32, 2) := by decide +kernel
theorem dX12_add_55 : decode cX12_add 55 = .ok (.lushr, 1) := by decide +kernel
theorem dX12_add_56 : decode cX12_add 56 = .ok (.lstore 5, 2) := by decide +kernel
theorem dX12_add_58 : decode cX12_add 58 = .ok (.iinc 7 1, 3) := by decide +kernel
theorem dX12_add_61 : decode cX12_add 61 = .ok (.goto (-55), 3) := by decide +kernel
theorem dX12_add_64 : decode cX12_add 64 = .ok (.aload_n 0, 1) := by decide +kernel
theorem dX12_add_65 : decode cX12_add 65 = .ok (.aload_n 1, 1) := by decide +kernel
theorem dX12_add_66 : decode cX12_add 66 = .ok (.iload 4, 2) := by decide +kernel
theorem dX12_add_68 : decode cX12_add 68 = .ok (.invokevirtual 373, 3) := by decide +kernel
theorem dX12_add_71 : decode cX12_add 71 = .ok (.return_, 1) := by decide +kernel
set_option maxRecDepth 20000 in
theorem ggX12_less_X12_isNull : GoodIn wsX12_less wsX12_isNull := goodIn_r _ [7] rfl (by decide +kernel)
set_option maxRecDepth 20000 in
theorem gX12_less_X12_isNull : GoodIn wsX12_less (va_wsS RX12 377 yX12_isNull wsX12_isNull) := goodIn_app (goodIn_of _ (by decide +kernel)) ggX12_less_X12_isNull
set_option maxRecDepth 20000 in
theorem ggX12_less_X12_set : GoodIn wsX12_less wsX12_set := goodIn_r _ [10] rfl (by decide +kernel)
set_option maxRecDepth 20000 in
theorem gX12_less_X12_set : GoodIn wsX12_less (va_wsS RX12 381 yX12_set wsX12_set) := goodIn_app (goodIn_of _ (by decide +kernel)) ggX12_less_X12_set
set_option maxRecDepth 20000 in
theorem ggX12_less_X12_take : GoodIn wsX12_less wsX12_take := goodIn_r _ [13, 14] rfl (by decide +kernel)
set_option maxRecDepth 20000 in
theorem gX12_less_X12_take : GoodIn wsX12_less (va_wsS RX12 369 yX12_take wsX12_take) := goodIn_app (goodIn_of _ (by decide +kernel)) ggX12_less_X12_take
set_option maxRecDepth 20000 in
theorem ggX12_less_X12_add : GoodIn wsX12_less wsX12_add := goodIn_r _ [18, 19, 14, 20, 21, 22, 6, 23, 24, 25, 26, 2, 3, 27, 28, 29, 11, 12, 13, 30, 31, 32, 33, 34, 35, 36, 37, 38, 39, 40, 41, 42, 43, 44, 45, 46, 47, 48, 49, 50, 51, 52, 53, 54, 55, 56, 57, 58, 59, 60, 61, 62, 63, 64, 65, 66, 67, 68, 69, 70, 71, 72, 73, 74, 75, 76, 77, 78, 79, 80, 81, 82, 83, 84, 85, 86, 87, 88, 89, 90, 91, 92, 93, 94, 95, 96, 97, 98, 99, 100, 101, 102, 103, 104, 105, 106, 107, 108, 109, 110] rfl (by decide +kernel)
set_option maxRecDepth 20000 in
theorem gX12_less_X12_add : GoodIn wsX12_less (wsV RX12 385 RX12 yX12_add wsX12_add) := goodIn_app (goodIn_of _ (by decide +kernel)) ggX12_less_X12_add
theorem dX12_less_0 : decode cX12_less 0 = .ok (.aload_n 3, 1) := by decide +kernel
theorem dX12_less_1 : decode cX12_less 1 = .ok (.invokestatic 377, 3) := by decide +kernel
theorem dX12_less_4 : decode cX12_less 4 = .ok (.ifCond .eq 9, 3) := by decide +kernel
theorem dX12_less_7 : decode cX12_less 7 = .ok (.aload_n 1, 1) := by decide +kernel
theorem dX12_less_8 : decode cX12_less 8 = .ok (.aload_n 2, 1) := by decide +kernel
theorem dX12_less_9 : decode cX12_less 9 = .ok (.invokestatic 381, 3) := by decide +kernel
theorem dX12_less_12 : decode cX12_less 12 = .ok (.return_, 1) := by decide +kernel
theorem dX12_less_13 : decode cX12_less 13 = .ok (.aload_n 0, 1) := by decide +kernel
theorem dX12_less_14 : decode cX12_less 14 = .ok (.getfield 158, 3) := by decide +kernel
theorem dX12_less_17 : decode cX12_less 17 = .ok (.iload 4, 2) := by decide +kernel
theorem dX12_less_19 : decode cX12_less 19 = .ok (.ifCond .eq 10, 3) := by decide +kernel
theorem dX12_less_22 : decode cX12_less 22 = .ok (.aload_n 0, 1) := by decide +kernel
theorem dX12_less_23 : decode cX12_less 23 = .ok (.getfield 27, 3) := by decide +kernel
theorem dX12_less_26 : decode cX12_less 26 = .ok (.goto 7, 3) := by decide +kernel
theorem dX12_less_29 : decode cX12_less 29 = .ok (.aload_n 0, 1) := by decide +kernel
theorem dX12_less_30 : decode cX12_less 30 = .ok (.getfield 15, 3) := by decide +kernel
theorem dX12_less_33 : decode cX12_less 33 = .ok (.aload_n 3, 1) := by decide +kernel
theorem dX12_less_34 : decode cX12_less 34 = .ok (.invokestatic 369, 3) := by decide +kernel
theorem dX12_less_37 : decode cX12_less 37 = .ok (.aload_n 0, 1) := by decide +kernel
theorem dX12_less_38 : decode cX12_less 38 = .ok (.aload_n 1, 1) := by decide +kernel
theorem dX12_less_39 : decode cX12_less 39 = .ok (.aload_n 2, 1) := by decide +kernel
theorem dX12_less_40 : decode cX12_less 40 = .ok (.aload_n 0, 1) := by decide +kernel
theorem dX12_less_41 : decode cX12_less 41 = .ok (.getfield 158, 3) := by decide +kernel
theorem dX12_less_44 : decode cX12_less 44 = .ok (.iload 4, 2) := by decide +kernel
theorem dX12_less_46 : decode cX12_less 46 = .ok (.invokevirtual 385, 3) := by decide +kernel
theorem dX12_less_49 : decode cX12_less 49 = .ok (.return_, 1) := by decide +kernel
set_option maxRecDepth 20000 in
theorem ggX12_raise_X12_set : GoodIn wsX12_raise wsX12_set := goodIn_r _ [6] rfl (by decide +kernel)
set_option maxRecDepth 20000 in
theorem gX12_raise_X12_set : GoodIn wsX12_raise (va_wsS RX12 381 yX12_set wsX12_set) := goodIn_app (goodIn_of _ (by decide +kernel)) ggX12_raise_X12_set
set_option maxRecDepth 20000 in
theorem ggX12_raise_X12_small : GoodIn wsX12_raise wsX12_small := goodIn_r _ [9, 10] rfl (by decide +kernel)
set_option maxRecDepth 20000 in
theorem gX12_raise_X12_small : GoodIn wsX12_raise (va_wsS RX12 389 yX12_small wsX12_small) := goodIn_app (goodIn_of _ (by decide +kernel)) ggX12_raise_X12_small
set_option maxRecDepth 20000 in
theorem ggX12_raise_X12_times : GoodIn wsX12_raise wsX12_times := goodIn_r _ [14, 15, 10, 16, 17, 18, 5, 19, 20, 21, 22, 23, 24, 25, 26, 27, 28, 29, 30, 31, 32, 33, 34, 35, 36, 37, 38, 39, 40, 41, 42, 43, 44, 45, 46, 47, 48, 49, 50, 51, 52, 53, 54, 55, 56, 57, 58, 59, 60, 61, 62, 63, 64, 65, 66, 67, 68, 69, 70, 71, 72, 73, 74, 75, 76, 77, 78, 79, 80, 81, 82, 83, 84, 85, 86, 87, 88, 89, 90, 91, 92, 93, 94, 95, 96, 97, 98, 99, 100, 101, 102, 103, 104, 105, 106, 107, 108, 109, 110, 111] rfl (by decide +kernel)
set_option maxRecDepth 20000 in
theorem gX12_raise_X12_times : GoodIn wsX12_raise (wsV RX12 393 RX12 yX12_times wsX12_times) := goodIn_app (goodIn_of _ (by decide +kernel)) ggX12_raise_X12_times
theorem dX12_raise_0 : decode cX12_raise 0 = .ok (.aload_n 0, 1) := by decide +kernel
theorem dX12_raise_1 : decode cX12_raise 1 = .ok (.getfield 161, 3) := by decide +kernel
theorem dX12_raise_4 : decode cX12_raise 4 = .ok (.aload_n 2, 1) := by decide +kernel
theorem dX12_raise_5 : decode cX12_raise 5 = .ok (.invokestatic 381, 3) := by decide +kernel
theorem dX12_raise_8 : decode cX12_raise 8 = .ok (.aload_n 0, 1) := by decide +kernel
theorem dX12_raise_9 : decode cX12_raise 9 = .ok (.getfield 164, 3) := by decide +kernel
theorem dX12_raise_12 : decode cX12_raise 12 = .ok (.lconst 1, 1) := by decide +kernel
theorem dX12_raise_13 : decode cX12_raise 13 = .ok (.invokestatic 389, 3) := by decide +kernel
theorem dX12_raise_16 : decode cX12_raise 16 = .ok (.sipush 255, 3) := by decide +kernel
theorem dX12_raise_19 : decode cX12_raise 19 = .ok (.istore 4, 2) := by decide +kernel
theorem dX12_raise_21 : decode cX12_raise 21 = .ok (.iload 4, 2) := by decide +kernel
theorem dX12_raise_23 : decode cX12_raise 23 = .ok (.ifCond .lt 62, 3) := by decide +kernel
theorem dX12_raise_26 : decode cX12_raise 26 = .ok (.aload_n 0, 1) := by decide +kernel
theorem dX12_raise_27 : decode cX12_raise 27 = .ok (.aload_n 0, 1) := by decide +kernel
theorem dX12_raise_28 : decode cX12_raise 28 = .ok (.getfield 164, 3) := by decide +kernel
theorem dX12_raise_31 : decode cX12_raise 31 = .ok (.aload_n 0, 1) := by decide +kernel
theorem dX12_raise_32 : decode cX12_raise 32 = .ok (.getfield 164, 3) := by decide +kernel
theorem dX12_raise_35 : decode cX12_raise 35 = .ok (.aload_n 0, 1) := by decide +kernel
theorem dX12_raise_36 : decode cX12_raise 36 = .ok (.getfield 164, 3) := by decide +kernel
theorem dX12_raise_39 : decode cX12_raise 39 = .ok (.iconst 0, 1) := by decide +kernel
theorem dX12_raise_40 : decode cX12_raise 40 = .ok (.invokevirtual 393, 3) := by decide +kernel
theorem dX12_raise_43 : decode cX12_raise 43 = .ok (.aload_n 3, 1) := by decide +kernel
theorem dX12_raise_44 : decode cX12_raise 44 = .ok (.iload 4, 2) := by decide +kernel
theorem dX12_raise_46 : decode cX12_raise 46 = .ok (.iconst 5, 1) := by decide +kernel
theorem dX12_raise_47 : decode cX12_raise 47 = .ok (.ishr, 1) := by decide +kernel
theorem dX12_raise_48 : decode cX12_raise 48 = .ok (.laload, 1) := by decide +kernel
theorem dX12_raise_49 : decode cX12_raise 49 = .ok (.iload 4, 2) := by decide +kernel
theorem dX12_raise_51 : decode cX12_raise 51 = .ok (.bipush 31, 2) := by decide +kernel
theorem dX12_raise_53 : decode cX12_raise 53 = .ok (.iand, 1) := by decide +kernel
theorem dX12_raise_54 : decode cX12_raise 54 = .ok (.lshr, 1) := by decide +kernel
theorem dX12_raise_55 : decode cX12_raise 55 = .ok (.lconst 1, 1) := by decide +kernel
theorem dX12_raise_56 : decode cX12_raise 56 = .ok (.land, 1) := by decide +kernel
theorem dX12_raise_57 : decode cX12_raise 57 = .ok (.lconst 1, 1) := by decide +kernel
theorem dX12_raise_58 : decode cX12_raise 58 = .ok (.lcmp, 1) := by decide +kernel
theorem dX12_raise_59 : decode cX12_raise 59 = .ok (.ifCond .ne 20, 3) := by decide +kernel
theorem dX12_raise_62 : decode cX12_raise 62 = .ok (.aload_n 0, 1) := by decide +kernel
theorem dX12_raise_63 : decode cX12_raise 63 = .ok (.aload_n 0, 1) := by decide +kernel
theorem dX12_raise_64 : decode cX12_raise 64 = .ok (.getfield 164, 3) := by decide +kernel
theorem dX12_raise_67 : decode cX12_raise 67 = .ok (.aload_n 0, 1) := by decide +kernel
theorem dX12_raise_68 : decode cX12_raise 68 = .ok (.getfield 164, 3) := by decide +kernel
theorem dX12_raise_71 : decode cX12_raise 71 = .ok (.aload_n 0, 1) := by decide +kernel
theorem dX12_raise_72 : decode cX12_raise 72 = .ok (.getfield 161, 3) := by decide +kernel
theorem dX12_raise_75 : decode cX12_raise 75 = .ok (.iconst 0, 1) := by decide +kernel
theorem dX12_raise_76 : decode cX12_raise 76 = .ok (.invokevirtual 393, 3) := by decide +kernel
theorem dX12_raise_79 : decode cX12_raise 79 = .ok (.iinc 4 (-1), 3) := by decide +kernel
theorem dX12_raise_82 : decode cX12_raise 82 = .ok (.goto (-61), 3) := by decide +kernel
theorem dX12_raise_85 : decode cX12_raise 85 = .ok (.aload_n 1, 1) := by decide +kernel
theorem dX12_raise_86 : decode cX12_raise 86 = .ok (.aload_n 0, 1) := by decide +kernel
theorem dX12_raise_87 : decode cX12_raise 87 = .ok (.getfield 164, 3) := by decide +kernel
theorem dX12_raise_90 : decode cX12_raise 90 = .ok (.invokestatic 381, 3) := by decide +kernel
theorem dX12_raise_93 : decode cX12_raise 93 = .ok (.return_, 1) := by decide +kernel
theorem dX12_numberOf_0 : decode cX12_numberOf 0 = .ok (.iconst 0, 1) := by decide +kernel
theorem dX12_numberOf_1 : decode cX12_numberOf 1 = .ok (.istore_n 3, 1) := by decide +kernel
theorem dX12_numberOf_2 : decode cX12_numberOf 2 = .ok (.iload_n 3, 1) := by decide +kernel
theorem dX12_numberOf_3 : decode cX12_numberOf 3 = .ok (.bipush 8, 2) := by decide +kernel
theorem dX12_numberOf_5 : decode cX12_numberOf 5 = .ok (.if_icmp .ge 54, 3) := by decide +kernel
theorem dX12_numberOf_8 : decode cX12_numberOf 8 = .ok (.lconst 0, 1) := by decide +kernel
theorem dX12_numberOf_9 : decode cX12_numberOf 9 = .ok (.lstore 4, 2) := by decide +kernel
theorem dX12_numberOf_11 : decode cX12_numberOf 11 = .ok (.iconst 0, 1) := by decide +kernel
theorem dX12_numberOf_12 : decode cX12_numberOf 12 = .ok (.istore 6, 2) := by decide +kernel
theorem dX12_numberOf_14 : decode cX12_numberOf 14 = .ok (.iload 6, 2) := by decide +kernel
theorem dX12_numberOf_16 : decode cX12_numberOf 16 = .ok (.iconst 4, 1) := by decide +kernel
theorem dX12_numberOf_17 : decode cX12_numberOf 17 = .ok (.if_icmp .ge 31, 3) := by decide +kernel
theorem dX12_numberOf_20 : decode cX12_numberOf 20 = .ok (.lload 4, 2) := by decide +kernel
theorem dX12_numberOf_22 : decode cX12_numberOf 22 = .ok (.bipush 8, 2) := by decide +kernel
theorem dX12_numberOf_24 : decode cX12_numberOf 24 = .ok (.lshl, 1) := by decide +kernel
theorem dX12_numberOf_25 : decode cX12_numberOf 25 = .ok (.aload_n 1, 1) := by decide +kernel
theorem dX12_numberOf_26 : decode cX12_numberOf 26 = .ok (.iload_n 2, 1) := by decide +kernel
theorem dX12_numberOf_27 : decode cX12_numberOf 27 = .ok (.bipush 28, 2) := by decide +kernel
theorem dX12_numberOf_29 : decode cX12_numberOf 29 = .ok (.iadd, 1) := by decide +kernel
theorem dX12_numberOf_30 : decode cX12_numberOf 30 = .ok (.iconst 4, 1) := by decide +kernel
theorem dX12_numberOf_31 : decode cX12_numberOf 31 = .ok (.iload_n 3, 1) := by decide +kernel
theorem dX12_numberOf_32 : decode cX12_numberOf 32 = .ok (.imul, 1) := by decide +kernel
theorem dX12_numberOf_33 : decode cX12_numberOf 33 = .ok (.isub, 1) := by decide +kernel
theorem dX12_numberOf_34 : decode cX12_numberOf 34 = .ok (.iload 6, 2) := by decide +kernel
theorem dX12_numberOf_36 : decode cX12_numberOf 36 = .ok (.iadd, 1) := by decide +kernel
theorem dX12_numberOf_37 : decode cX12_numberOf 37 = .ok (.iaload, 1) := by decide +kernel
theorem dX12_numberOf_38 : decode cX12_numberOf 38 = .ok (.i2l, 1) := by decide +kernel
theorem dX12_numberOf_39 : decode cX12_numberOf 39 = .ok (.lor, 1) := by decide +kernel
theorem dX12_numberOf_40 : decode cX12_numberOf 40 = .ok (.lstore 4, 2) := by decide +kernel
theorem dX12_numberOf_42 : decode cX12_numberOf 42 = .ok (.iinc 6 1, 3) := by decide +kernel
theorem dX12_numberOf_45 : decode cX12_numberOf 45 = .ok (.goto (-31), 3) := by decide +kernel
theorem dX12_numberOf_48 : decode cX12_numberOf 48 = .ok (.aload_n 0, 1) := by decide +kernel
theorem dX12_numberOf_49 : decode cX12_numberOf 49 = .ok (.iload_n 3, 1) := by decide +kernel
theorem dX12_numberOf_50 : decode cX12_numberOf 50 = .ok (.lload 4, 2) := by decide +kernel
theorem dX12_numberOf_52 : decode cX12_numberOf 52 = .ok (.lastore, 1) := by decide +kernel
theorem dX12_numberOf_53 : decode cX12_numberOf 53 = .ok (.iinc 3 1, 3) := by decide +kernel
theorem dX12_numberOf_56 : decode cX12_numberOf 56 = .ok (.goto (-54), 3) := by decide +kernel
theorem dX12_numberOf_59 : decode cX12_numberOf 59 = .ok (.return_, 1) := by decide +kernel
theorem dX12_bytesOf_0 : decode cX12_bytesOf 0 = .ok (.iconst 0, 1) := by decide +kernel
theorem dX12_bytesOf_1 : decode cX12_bytesOf 1 = .ok (.istore_n 3, 1) := by decide +kernel
theorem dX12_bytesOf_2 : decode cX12_bytesOf 2 = .ok (.iload_n 3, 1) := by decide +kernel
theorem dX12_bytesOf_3 : decode cX12_bytesOf 3 = .ok (.bipush 32, 2) := by decide +kernel
theorem dX12_bytesOf_5 : decode cX12_bytesOf 5 = .ok (.if_icmp .ge 37, 3) := by decide +kernel
theorem dX12_bytesOf_8 : decode cX12_bytesOf 8 = .ok (.aload_n 0, 1) := by decide +kernel
theorem dX12_bytesOf_9 : decode cX12_bytesOf 9 = .ok (.iload_n 1, 1) := by decide +kernel
theorem dX12_bytesOf_10 : decode cX12_bytesOf 10 = .ok (.iload_n 3, 1) := by decide +kernel
theorem dX12_bytesOf_11 : decode cX12_bytesOf 11 = .ok (.iadd, 1) := by decide +kernel
theorem dX12_bytesOf_12 : decode cX12_bytesOf 12 = .ok (.aload_n 2, 1) := by decide +kernel
theorem dX12_bytesOf_13 : decode cX12_bytesOf 13 = .ok (.bipush 7, 2) := by decide +kernel
theorem dX12_bytesOf_15 : decode cX12_bytesOf 15 = .ok (.iload_n 3, 1) := by decide +kernel
theorem dX12_bytesOf_16 : decode cX12_bytesOf 16 = .ok (.iconst 4, 1) := by decide +kernel
theorem dX12_bytesOf_17 : decode cX12_bytesOf 17 = .ok (.idiv, 1) := by decide +kernel
theorem dX12_bytesOf_18 : decode cX12_bytesOf 18 = .ok (.isub, 1) := by decide +kernel
theorem dX12_bytesOf_19 : decode cX12_bytesOf 19 = .ok (.laload, 1) := by decide +kernel
theorem dX12_bytesOf_20 : decode cX12_bytesOf 20 = .ok (.bipush 24, 2) := by decide +kernel
theorem dX12_bytesOf_22 : decode cX12_bytesOf 22 = .ok (.bipush 8, 2) := by decide +kernel
theorem dX12_bytesOf_24 : decode cX12_bytesOf 24 = .ok (.iload_n 3, 1) := by decide +kernel
theorem dX12_bytesOf_25 : decode cX12_bytesOf 25 = .ok (.iconst 4, 1) := by decide +kernel
theorem dX12_bytesOf_26 : decode cX12_bytesOf 26 = .ok (.irem, 1) := by decide +kernel
theorem dX12_bytesOf_27 : decode cX12_bytesOf 27 = .ok (.imul, 1) := by decide +kernel
theorem dX12_bytesOf_28 : decode cX12_bytesOf 28 = .ok (.isub, 1) := by decide +kernel
theorem dX12_bytesOf_29 : decode cX12_bytesOf 29 = .ok (.lshr, 1) := by decide +kernel
theorem dX12_bytesOf_30 : decode cX12_bytesOf 30 = .ok (.ldc2_w 417, 3) := by decide +kernel
theorem dX12_bytesOf_33 : decode cX12_bytesOf 33 = .ok (.land, 1) := by decide +kernel
theorem dX12_bytesOf_34 : decode cX12_bytesOf 34 = .ok (.l2i, 1) := by decide +kernel
theorem dX12_bytesOf_35 : decode cX12_bytesOf 35 = .ok (.iastore, 1) := by decide +kernel
theorem dX12_bytesOf_36 : decode cX12_bytesOf 36 = .ok (.iinc 3 1, 3) := by decide +kernel
theorem dX12_bytesOf_39 : decode cX12_bytesOf 39 = .ok (.goto (-37), 3) := by decide +kernel
theorem dX12_bytesOf_42 : decode cX12_bytesOf 42 = .ok (.return_, 1) := by decide +kernel
theorem dX12_turn_0 : decode cX12_turn 0 = .ok (.iload_n 0, 1) := by decide +kernel
theorem dX12_turn_1 : decode cX12_turn 1 = .ok (.iload_n 1, 1) := by decide +kernel
theorem dX12_turn_2 : decode cX12_turn 2 = .ok (.iushr, 1) := by decide +kernel
theorem dX12_turn_3 : decode cX12_turn 3 = .ok (.iload_n 0, 1) := by decide +kernel
theorem dX12_turn_4 : decode cX12_turn 4 = .ok (.bipush 32, 2) := by decide +kernel
theorem dX12_turn_6 : decode cX12_turn 6 = .ok (.iload_n 1, 1) := by decide +kernel
theorem dX12_turn_7 : decode cX12_turn 7 = .ok (.isub, 1) := by decide +kernel
theorem dX12_turn_8 : decode cX12_turn 8 = .ok (.ishl, 1) := by decide +kernel
theorem dX12_turn_9 : decode cX12_turn 9 = .ok (.ior, 1) := by decide +kernel
theorem dX12_turn_10 : decode cX12_turn 10 = .ok (.ireturn, 1) := by decide +kernel
