set_option maxRecDepth 20000 in
theorem ggX6_init_X1_init : GoodIn wsX6_init wsX1_init := goodIn_r _ [12, 13, 2, 3] rfl (by decide +kernel)
set_option maxRecDepth 20000 in
theorem gX6_init_X1_init_n9 : GoodIn wsX6_init (wsX1_init) := ggX6_init_X1_init
theorem dX6_init_0 : decode cX6_init 0 = .ok (.aload_n 0, 1) := by decide +kernel
theorem dX6_init_1 : decode cX6_init 1 = .ok (.invokespecial 1, 3) := by decide +kernel
theorem dX6_init_4 : decode cX6_init 4 = .ok (.aload_n 0, 1) := by decide +kernel
theorem dX6_init_5 : decode cX6_init 5 = .ok (.new 7, 3) := by decide +kernel
theorem dX6_init_8 : decode cX6_init 8 = .ok (.dup, 1) := by decide +kernel
theorem dX6_init_9 : decode cX6_init 9 = .ok (.invokespecial 9, 3) := by decide +kernel
theorem dX6_init_12 : decode cX6_init 12 = .ok (.putfield 10, 3) := by decide +kernel
theorem dX6_init_15 : decode cX6_init 15 = .ok (.aload_n 0, 1) := by decide +kernel
theorem dX6_init_16 : decode cX6_init 16 = .ok (.new 7, 3) := by decide +kernel
theorem dX6_init_19 : decode cX6_init 19 = .ok (.dup, 1) := by decide +kernel
theorem dX6_init_20 : decode cX6_init 20 = .ok (.invokespecial 9, 3) := by decide +kernel
theorem dX6_init_23 : decode cX6_init 23 = .ok (.putfield 16, 3) := by decide +kernel
theorem dX6_init_26 : decode cX6_init 26 = .ok (.aload_n 0, 1) := by decide +kernel
theorem dX6_init_27 : decode cX6_init 27 = .ok (.new 7, 3) := by decide +kernel
theorem dX6_init_30 : decode cX6_init 30 = .ok (.dup, 1) := by decide +kernel
theorem dX6_init_31 : decode cX6_init 31 = .ok (.invokespecial 9, 3) := by decide +kernel
theorem dX6_init_34 : decode cX6_init 34 = .ok (.putfield 19, 3) := by decide +kernel
theorem dX6_init_37 : decode cX6_init 37 = .ok (.aload_n 0, 1) := by decide +kernel
theorem dX6_init_38 : decode cX6_init 38 = .ok (.iconst 1, 1) := by decide +kernel
theorem dX6_init_39 : decode cX6_init 39 = .ok (.putfield 22, 3) := by decide +kernel
theorem dX6_init_42 : decode cX6_init 42 = .ok (.return_, 1) := by decide +kernel
set_option maxRecDepth 20000 in
theorem ggX6_become_X1_become : GoodIn wsX6_become wsX1_become := goodIn_r _ [9, 10, 11, 12, 13, 14, 15, 16, 17, 18, 23, 24, 25, 26, 27, 28, 29, 30, 31] rfl (by decide +kernel)
set_option maxRecDepth 20000 in
theorem gX6_become_X1_become : GoodIn wsX6_become (wsV RX6 26 RX1 yX1_become wsX1_become) := goodIn_app (goodIn_of _ (by decide +kernel)) ggX6_become_X1_become
theorem dX6_become_0 : decode cX6_become 0 = .ok (.aload_n 0, 1) := by decide +kernel
theorem dX6_become_1 : decode cX6_become 1 = .ok (.getfield 10, 3) := by decide +kernel
theorem dX6_become_4 : decode cX6_become 4 = .ok (.aload_n 1, 1) := by decide +kernel
theorem dX6_become_5 : decode cX6_become 5 = .ok (.getfield 10, 3) := by decide +kernel
theorem dX6_become_8 : decode cX6_become 8 = .ok (.invokevirtual 26, 3) := by decide +kernel
theorem dX6_become_11 : decode cX6_become 11 = .ok (.aload_n 0, 1) := by decide +kernel
theorem dX6_become_12 : decode cX6_become 12 = .ok (.getfield 16, 3) := by decide +kernel
theorem dX6_become_15 : decode cX6_become 15 = .ok (.aload_n 1, 1) := by decide +kernel
theorem dX6_become_16 : decode cX6_become 16 = .ok (.getfield 16, 3) := by decide +kernel
theorem dX6_become_19 : decode cX6_become 19 = .ok (.invokevirtual 26, 3) := by decide +kernel
theorem dX6_become_22 : decode cX6_become 22 = .ok (.aload_n 0, 1) := by decide +kernel
theorem dX6_become_23 : decode cX6_become 23 = .ok (.getfield 19, 3) := by decide +kernel
theorem dX6_become_26 : decode cX6_become 26 = .ok (.aload_n 1, 1) := by decide +kernel
theorem dX6_become_27 : decode cX6_become 27 = .ok (.getfield 19, 3) := by decide +kernel
theorem dX6_become_30 : decode cX6_become 30 = .ok (.invokevirtual 26, 3) := by decide +kernel
theorem dX6_become_33 : decode cX6_become 33 = .ok (.aload_n 0, 1) := by decide +kernel
theorem dX6_become_34 : decode cX6_become 34 = .ok (.aload_n 1, 1) := by decide +kernel
theorem dX6_become_35 : decode cX6_become 35 = .ok (.getfield 22, 3) := by decide +kernel
theorem dX6_become_38 : decode cX6_become 38 = .ok (.putfield 22, 3) := by decide +kernel
theorem dX6_become_41 : decode cX6_become 41 = .ok (.return_, 1) := by decide +kernel
set_option maxRecDepth 20000 in
theorem ggX6_negate_X1_multiple : GoodIn wsX6_negate wsX1_multiple := goodIn_r _ [6, 7, 8, 9, 10, 11, 12, 13, 14, 15, 16, 17, 18, 5, 19, 20, 21, 22, 27, 28, 29, 30, 31, 32, 33, 34, 35] rfl (by decide +kernel)
set_option maxRecDepth 20000 in
theorem gX6_negate_X1_multiple : GoodIn wsX6_negate (wsV RX6 30 RX1 yX1_multiple wsX1_multiple) := goodIn_app (goodIn_of _ (by decide +kernel)) ggX6_negate_X1_multiple
theorem dX6_negate_0 : decode cX6_negate 0 = .ok (.aload_n 0, 1) := by decide +kernel
theorem dX6_negate_1 : decode cX6_negate 1 = .ok (.getfield 16, 3) := by decide +kernel
theorem dX6_negate_4 : decode cX6_negate 4 = .ok (.aload_n 0, 1) := by decide +kernel
theorem dX6_negate_5 : decode cX6_negate 5 = .ok (.getfield 16, 3) := by decide +kernel
theorem dX6_negate_8 : decode cX6_negate 8 = .ok (.iconst (-1), 1) := by decide +kernel
theorem dX6_negate_9 : decode cX6_negate 9 = .ok (.invokevirtual 30, 3) := by decide +kernel
theorem dX6_negate_12 : decode cX6_negate 12 = .ok (.return_, 1) := by decide +kernel
set_option maxRecDepth 20000 in
theorem ggX6_addTo_X0_add : GoodIn wsX6_addTo wsX0_add := goodIn_r _ [8, 9, 10, 58, 59] rfl (by decide +kernel)
set_option maxRecDepth 20000 in
theorem gX6_addTo_X0_add : GoodIn wsX6_addTo (wsV RX6 34 RX0 yX0_add wsX0_add) := goodIn_app (goodIn_of _ (by decide +kernel)) ggX6_addTo_X0_add
set_option maxRecDepth 20000 in
theorem ggX6_addTo_X1_isOdd : GoodIn wsX6_addTo wsX1_isOdd := goodIn_r _ [15, 16, 17, 18, 19, 14, 20, 21, 22, 23, 24, 25, 26, 27, 28, 29, 30, 31, 32, 33, 34, 35, 36, 37, 38, 39, 40, 41, 42, 43, 44, 60, 61, 62, 63, 64, 65, 66, 67, 68] rfl (by decide +kernel)
set_option maxRecDepth 20000 in
theorem gX6_addTo_X1_isOdd : GoodIn wsX6_addTo (wsV RX6 40 RX1 yX1_isOdd wsX1_isOdd) := goodIn_app (goodIn_of _ (by decide +kernel)) ggX6_addTo_X1_isOdd
set_option maxRecDepth 20000 in
theorem ggX6_addTo_X1_addTo : GoodIn wsX6_addTo wsX1_addTo := goodIn_r _ [48, 34, 35, 27, 32, 33, 30, 31, 16, 21, 17, 18, 19, 14, 20, 22, 23, 24, 25, 26, 28, 29, 36, 37, 38, 39, 40, 41, 42, 43, 44, 49, 50, 51, 7, 52, 53, 5, 6, 8, 9, 10, 60, 61, 62, 63, 64, 65, 66, 67, 68, 58, 59] rfl (by decide +kernel)
set_option maxRecDepth 20000 in
theorem gX6_addTo_X1_addTo : GoodIn wsX6_addTo (wsV RX6 44 RX1 yX1_addTo wsX1_addTo) := goodIn_app (goodIn_of _ (by decide +kernel)) ggX6_addTo_X1_addTo
theorem dX6_addTo_0 : decode cX6_addTo 0 = .ok (.aload_n 0, 1) := by decide +kernel
theorem dX6_addTo_1 : decode cX6_addTo 1 = .ok (.getfield 22, 3) := by decide +kernel
theorem dX6_addTo_4 : decode cX6_addTo 4 = .ok (.ifCond .eq 23, 3) := by decide +kernel
theorem dX6_addTo_7 : decode cX6_addTo 7 = .ok (.iconst 0, 1) := by decide +kernel
theorem dX6_addTo_8 : decode cX6_addTo 8 = .ok (.istore_n 2, 1) := by decide +kernel
theorem dX6_addTo_9 : decode cX6_addTo 9 = .ok (.iload_n 2, 1) := by decide +kernel
theorem dX6_addTo_10 : decode cX6_addTo 10 = .ok (.bipush 33, 2) := by decide +kernel
theorem dX6_addTo_12 : decode cX6_addTo 12 = .ok (.if_icmp .ge 14, 3) := by decide +kernel
theorem dX6_addTo_15 : decode cX6_addTo 15 = .ok (.aload_n 1, 1) := by decide +kernel
theorem dX6_addTo_16 : decode cX6_addTo 16 = .ok (.iconst 0, 1) := by decide +kernel
theorem dX6_addTo_17 : decode cX6_addTo 17 = .ok (.invokevirtual 34, 3) := by decide +kernel
theorem dX6_addTo_20 : decode cX6_addTo 20 = .ok (.iinc 2 1, 3) := by decide +kernel
theorem dX6_addTo_23 : decode cX6_addTo 23 = .ok (.goto (-14), 3) := by decide +kernel
theorem dX6_addTo_26 : decode cX6_addTo 26 = .ok (.return_, 1) := by decide +kernel
theorem dX6_addTo_27 : decode cX6_addTo 27 = .ok (.aload_n 1, 1) := by decide +kernel
theorem dX6_addTo_28 : decode cX6_addTo 28 = .ok (.aload_n 0, 1) := by decide +kernel
theorem dX6_addTo_29 : decode cX6_addTo 29 = .ok (.getfield 16, 3) := by decide +kernel
theorem dX6_addTo_32 : decode cX6_addTo 32 = .ok (.invokevirtual 40, 3) := by decide +kernel
theorem dX6_addTo_35 : decode cX6_addTo 35 = .ok (.ifCond .eq 7, 3) := by decide +kernel
theorem dX6_addTo_38 : decode cX6_addTo 38 = .ok (.iconst 3, 1) := by decide +kernel
theorem dX6_addTo_39 : decode cX6_addTo 39 = .ok (.goto 4, 3) := by decide +kernel
theorem dX6_addTo_42 : decode cX6_addTo 42 = .ok (.iconst 2, 1) := by decide +kernel
theorem dX6_addTo_43 : decode cX6_addTo 43 = .ok (.invokevirtual 34, 3) := by decide +kernel
theorem dX6_addTo_46 : decode cX6_addTo 46 = .ok (.aload_n 0, 1) := by decide +kernel
theorem dX6_addTo_47 : decode cX6_addTo 47 = .ok (.getfield 10, 3) := by decide +kernel
theorem dX6_addTo_50 : decode cX6_addTo 50 = .ok (.aload_n 1, 1) := by decide +kernel
theorem dX6_addTo_51 : decode cX6_addTo 51 = .ok (.invokevirtual 44, 3) := by decide +kernel
theorem dX6_addTo_54 : decode cX6_addTo 54 = .ok (.return_, 1) := by decide +kernel
