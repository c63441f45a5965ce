set_option maxRecDepth 20000 in
theorem ggX10_init_X8_init : GoodIn wsX10_init wsX8_init := goodIn_r _ [30, 31, 2, 3, 32, 33, 56] rfl (by decide +kernel)
set_option maxRecDepth 20000 in
theorem gX10_init_X8_init_n9 : GoodIn wsX10_init (wsX8_init) := ggX10_init_X8_init
set_option maxRecDepth 20000 in
theorem ggX10_init_X0_init : GoodIn wsX10_init wsX0_init := goodIn_r _ [36, 37, 2, 3, 38, 39, 40, 41, 42, 43, 44, 70, 71] rfl (by decide +kernel)
set_option maxRecDepth 20000 in
theorem gX10_init_X0_init : GoodIn wsX10_init (wsX0_init) := ggX10_init_X0_init
set_option maxRecDepth 20000 in
theorem ggX10_init_X6_init : GoodIn wsX10_init wsX6_init := goodIn_r _ [46, 47, 2, 3, 48, 23, 24, 49, 50, 51, 52, 53, 54, 55, 76, 77, 78, 79, 80, 81, 82, 83, 84, 72, 73, 74, 75] rfl (by decide +kernel)
set_option maxRecDepth 20000 in
theorem gX10_init_X6_init_n42 : GoodIn wsX10_init (wsX6_init) := ggX10_init_X6_init
set_option maxRecDepth 20000 in
theorem ggX10_init_X1_init : GoodIn wsX10_init wsX1_init := goodIn_r _ [54, 55, 2, 3] rfl (by decide +kernel)
set_option maxRecDepth 20000 in
theorem gX10_init_X1_init_n52 : GoodIn wsX10_init (wsX1_init) := ggX10_init_X1_init
theorem dX10_init_0 : decode cX10_init 0 = .ok (.aload_n 0, 1) := by decide +kernel
theorem dX10_init_1 : decode cX10_init 1 = .ok (.invokespecial 1, 3) := by decide +kernel
theorem dX10_init_4 : decode cX10_init 4 = .ok (.aload_n 0, 1) := by decide +kernel
theorem dX10_init_5 : decode cX10_init 5 = .ok (.new 7, 3) := by decide +kernel
theorem dX10_init_8 : decode cX10_init 8 = .ok (.dup, 1) := by decide +kernel
theorem dX10_init_9 : decode cX10_init 9 = .ok (.invokespecial 9, 3) := by decide +kernel
theorem dX10_init_12 : decode cX10_init 12 = .ok (.putfield 10, 3) := by decide +kernel
theorem dX10_init_15 : decode cX10_init 15 = .ok (.aload_n 0, 1) := by decide +kernel
theorem dX10_init_16 : decode cX10_init 16 = .ok (.new 16, 3) := by decide +kernel
theorem dX10_init_19 : decode cX10_init 19 = .ok (.dup, 1) := by decide +kernel
theorem dX10_init_20 : decode cX10_init 20 = .ok (.bipush 33, 2) := by decide +kernel
theorem dX10_init_22 : decode cX10_init 22 = .ok (.invokespecial 18, 3) := by decide +kernel
theorem dX10_init_25 : decode cX10_init 25 = .ok (.putfield 21, 3) := by decide +kernel
theorem dX10_init_28 : decode cX10_init 28 = .ok (.aload_n 0, 1) := by decide +kernel
theorem dX10_init_29 : decode cX10_init 29 = .ok (.new 16, 3) := by decide +kernel
theorem dX10_init_32 : decode cX10_init 32 = .ok (.dup, 1) := by decide +kernel
theorem dX10_init_33 : decode cX10_init 33 = .ok (.bipush 32, 2) := by decide +kernel
theorem dX10_init_35 : decode cX10_init 35 = .ok (.invokespecial 18, 3) := by decide +kernel
theorem dX10_init_38 : decode cX10_init 38 = .ok (.putfield 25, 3) := by decide +kernel
theorem dX10_init_41 : decode cX10_init 41 = .ok (.aload_n 0, 1) := by decide +kernel
theorem dX10_init_42 : decode cX10_init 42 = .ok (.new 7, 3) := by decide +kernel
theorem dX10_init_45 : decode cX10_init 45 = .ok (.dup, 1) := by decide +kernel
theorem dX10_init_46 : decode cX10_init 46 = .ok (.invokespecial 9, 3) := by decide +kernel
theorem dX10_init_49 : decode cX10_init 49 = .ok (.putfield 28, 3) := by decide +kernel
theorem dX10_init_52 : decode cX10_init 52 = .ok (.aload_n 0, 1) := by decide +kernel
theorem dX10_init_53 : decode cX10_init 53 = .ok (.new 7, 3) := by decide +kernel
theorem dX10_init_56 : decode cX10_init 56 = .ok (.dup, 1) := by decide +kernel
theorem dX10_init_57 : decode cX10_init 57 = .ok (.invokespecial 9, 3) := by decide +kernel
theorem dX10_init_60 : decode cX10_init 60 = .ok (.putfield 31, 3) := by decide +kernel
theorem dX10_init_63 : decode cX10_init 63 = .ok (.aload_n 0, 1) := by decide +kernel
theorem dX10_init_64 : decode cX10_init 64 = .ok (.new 7, 3) := by decide +kernel
theorem dX10_init_67 : decode cX10_init 67 = .ok (.dup, 1) := by decide +kernel
theorem dX10_init_68 : decode cX10_init 68 = .ok (.invokespecial 9, 3) := by decide +kernel
theorem dX10_init_71 : decode cX10_init 71 = .ok (.putfield 34, 3) := by decide +kernel
theorem dX10_init_74 : decode cX10_init 74 = .ok (.aload_n 0, 1) := by decide +kernel
theorem dX10_init_75 : decode cX10_init 75 = .ok (.new 7, 3) := by decide +kernel
theorem dX10_init_78 : decode cX10_init 78 = .ok (.dup, 1) := by decide +kernel
theorem dX10_init_79 : decode cX10_init 79 = .ok (.invokespecial 9, 3) := by decide +kernel
theorem dX10_init_82 : decode cX10_init 82 = .ok (.putfield 37, 3) := by decide +kernel
theorem dX10_init_85 : decode cX10_init 85 = .ok (.aload_n 0, 1) := by decide +kernel
theorem dX10_init_86 : decode cX10_init 86 = .ok (.new 40, 3) := by decide +kernel
theorem dX10_init_89 : decode cX10_init 89 = .ok (.dup, 1) := by decide +kernel
theorem dX10_init_90 : decode cX10_init 90 = .ok (.invokespecial 42, 3) := by decide +kernel
theorem dX10_init_93 : decode cX10_init 93 = .ok (.putfield 43, 3) := by decide +kernel
theorem dX10_init_96 : decode cX10_init 96 = .ok (.aload_n 0, 1) := by decide +kernel
theorem dX10_init_97 : decode cX10_init 97 = .ok (.new 40, 3) := by decide +kernel
theorem dX10_init_100 : decode cX10_init 100 = .ok (.dup, 1) := by decide +kernel
theorem dX10_init_101 : decode cX10_init 101 = .ok (.invokespecial 42, 3) := by decide +kernel
theorem dX10_init_104 : decode cX10_init 104 = .ok (.putfield 47, 3) := by decide +kernel
theorem dX10_init_107 : decode cX10_init 107 = .ok (.aload_n 0, 1) := by decide +kernel
theorem dX10_init_108 : decode cX10_init 108 = .ok (.new 50, 3) := by decide +kernel
theorem dX10_init_111 : decode cX10_init 111 = .ok (.dup, 1) := by decide +kernel
theorem dX10_init_112 : decode cX10_init 112 = .ok (.invokespecial 52, 3) := by decide +kernel
theorem dX10_init_115 : decode cX10_init 115 = .ok (.putfield 53, 3) := by decide +kernel
theorem dX10_init_118 : decode cX10_init 118 = .ok (.aload_n 0, 1) := by decide +kernel
theorem dX10_init_119 : decode cX10_init 119 = .ok (.new 16, 3) := by decide +kernel
theorem dX10_init_122 : decode cX10_init 122 = .ok (.dup, 1) := by decide +kernel
theorem dX10_init_123 : decode cX10_init 123 = .ok (.bipush 32, 2) := by decide +kernel
theorem dX10_init_125 : decode cX10_init 125 = .ok (.invokespecial 18, 3) := by decide +kernel
theorem dX10_init_128 : decode cX10_init 128 = .ok (.putfield 57, 3) := by decide +kernel
theorem dX10_init_131 : decode cX10_init 131 = .ok (.aload_n 0, 1) := by decide +kernel
theorem dX10_init_132 : decode cX10_init 132 = .ok (.aload_n 1, 1) := by decide +kernel
theorem dX10_init_133 : decode cX10_init 133 = .ok (.putfield 60, 3) := by decide +kernel
theorem dX10_init_136 : decode cX10_init 136 = .ok (.aload_n 0, 1) := by decide +kernel
theorem dX10_init_137 : decode cX10_init 137 = .ok (.aload_n 2, 1) := by decide +kernel
theorem dX10_init_138 : decode cX10_init 138 = .ok (.putfield 64, 3) := by decide +kernel
theorem dX10_init_141 : decode cX10_init 141 = .ok (.return_, 1) := by decide +kernel
set_option maxRecDepth 20000 in
theorem ggX10_takeSecret_X8_take : GoodIn wsX10_takeSecret wsX8_take := goodIn_r _ [7, 8, 9, 10, 11, 12, 13, 14, 15, 16, 17, 18, 19, 20, 21, 6, 22, 23, 43, 28, 29] rfl (by decide +kernel)
set_option maxRecDepth 20000 in
theorem gX10_takeSecret_X8_take : GoodIn wsX10_takeSecret (wsV RX10 72 RX8 yX8_take wsX8_take) := goodIn_app (goodIn_of _ (by decide +kernel)) ggX10_takeSecret_X8_take
set_option maxRecDepth 20000 in
theorem ggX10_takeSecret_X8_isZero : GoodIn wsX10_takeSecret wsX8_isZero := goodIn_r _ [27, 8, 43] rfl (by decide +kernel)
set_option maxRecDepth 20000 in
theorem gX10_takeSecret_X8_isZero : GoodIn wsX10_takeSecret (wsV RX10 76 RX8 yX8_isZero wsX8_isZero) := goodIn_app (goodIn_of _ (by decide +kernel)) ggX10_takeSecret_X8_isZero
theorem dX10_takeSecret_0 : decode cX10_takeSecret 0 = .ok (.aload_n 1, 1) := by decide +kernel
theorem dX10_takeSecret_1 : decode cX10_takeSecret 1 = .ok (.getfield 68, 3) := by decide +kernel
theorem dX10_takeSecret_4 : decode cX10_takeSecret 4 = .ok (.bipush 32, 2) := by decide +kernel
theorem dX10_takeSecret_6 : decode cX10_takeSecret 6 = .ok (.if_icmp .ne 29, 3) := by decide +kernel
theorem dX10_takeSecret_9 : decode cX10_takeSecret 9 = .ok (.aload_n 0, 1) := by decide +kernel
theorem dX10_takeSecret_10 : decode cX10_takeSecret 10 = .ok (.getfield 10, 3) := by decide +kernel
theorem dX10_takeSecret_13 : decode cX10_takeSecret 13 = .ok (.aload_n 1, 1) := by decide +kernel
theorem dX10_takeSecret_14 : decode cX10_takeSecret 14 = .ok (.iconst 0, 1) := by decide +kernel
theorem dX10_takeSecret_15 : decode cX10_takeSecret 15 = .ok (.invokevirtual 72, 3) := by decide +kernel
theorem dX10_takeSecret_18 : decode cX10_takeSecret 18 = .ok (.ifCond .eq 17, 3) := by decide +kernel
theorem dX10_takeSecret_21 : decode cX10_takeSecret 21 = .ok (.aload_n 0, 1) := by decide +kernel
theorem dX10_takeSecret_22 : decode cX10_takeSecret 22 = .ok (.getfield 10, 3) := by decide +kernel
theorem dX10_takeSecret_25 : decode cX10_takeSecret 25 = .ok (.invokevirtual 76, 3) := by decide +kernel
theorem dX10_takeSecret_28 : decode cX10_takeSecret 28 = .ok (.ifCond .ne 7, 3) := by decide +kernel
theorem dX10_takeSecret_31 : decode cX10_takeSecret 31 = .ok (.iconst 1, 1) := by decide +kernel
theorem dX10_takeSecret_32 : decode cX10_takeSecret 32 = .ok (.goto 4, 3) := by decide +kernel
theorem dX10_takeSecret_35 : decode cX10_takeSecret 35 = .ok (.iconst 0, 1) := by decide +kernel
theorem dX10_takeSecret_36 : decode cX10_takeSecret 36 = .ok (.ireturn, 1) := by decide +kernel
set_option maxRecDepth 20000 in
theorem ggX10_findOwn_X2_times : GoodIn wsX10_findOwn wsX2_times := goodIn_r _ [10, 11, 12, 13, 14, 15, 16, 17, 18, 19, 20, 21, 22, 23, 24, 25, 26, 27, 28, 29, 30, 31, 32, 33, 34, 35, 36, 37, 38, 9, 39, 40, 41, 42, 43, 44, 45, 46, 47, 48, 49, 50, 51, 52, 53, 54, 55, 56, 57, 58, 59, 60, 61, 62, 63, 64, 65, 66, 67, 68, 69, 70, 71, 72, 73, 74, 75, 76, 77, 78, 79, 80, 81, 82, 83, 84, 85, 86, 87, 88, 89, 90, 91, 92, 93, 94, 162, 163, 164, 165, 166, 167, 168, 169, 170, 171, 172, 173, 174, 175, 176, 177, 178, 179, 180, 181, 182, 183, 184] rfl (by decide +kernel)
set_option maxRecDepth 20000 in
theorem gX10_findOwn_X2_times : GoodIn wsX10_findOwn (wsV RX10 85 RX2 yX2_times wsX2_times) := goodIn_app (goodIn_of _ (by decide +kernel)) ggX10_findOwn_X2_times
set_option maxRecDepth 20000 in
theorem ggX10_findOwn_X2_settle : GoodIn wsX10_findOwn wsX2_settle := goodIn_r _ [98, 12, 99, 40, 41, 42, 43, 45, 100, 101, 102, 103, 104, 105, 106, 107, 108, 109, 110, 111, 112, 113, 114, 25, 115, 116, 23, 24, 26, 27, 28, 29, 30, 31, 32, 33, 34, 35, 117, 49, 50, 51, 52, 53, 54, 55, 118, 119, 48, 120, 171, 172, 173, 174, 162, 163, 164, 165, 166, 167, 168, 169, 170, 185, 186, 187, 188, 189, 190, 175, 176, 177, 178, 179, 180, 181, 182, 183] rfl (by decide +kernel)
set_option maxRecDepth 20000 in
theorem gX10_findOwn_X2_settle : GoodIn wsX10_findOwn (wsV RX10 89 RX2 yX2_settle wsX2_settle) := goodIn_app (goodIn_of _ (by decide +kernel)) ggX10_findOwn_X2_settle
set_option maxRecDepth 20000 in
theorem ggX10_findOwn_X0_empty : GoodIn wsX10_findOwn wsX0_empty := goodIn_r _ [125, 126, 191, 192] rfl (by decide +kernel)
set_option maxRecDepth 20000 in
theorem gX10_findOwn_X0_empty : GoodIn wsX10_findOwn (wsV RX10 93 RX0 yX0_empty wsX0_empty) := goodIn_app (goodIn_of _ (by decide +kernel)) ggX10_findOwn_X0_empty
set_option maxRecDepth 20000 in
theorem ggX10_findOwn_X6_addTo : GoodIn wsX10_findOwn wsX6_addTo := goodIn_r _ [130, 21, 19, 18, 131, 132, 133, 124, 134, 126, 135, 136, 137, 138, 25, 139, 27, 68, 69, 70, 71, 28, 72, 60, 61, 62, 63, 35, 55, 52, 29, 30, 31, 32, 33, 34, 54, 73, 74, 75, 76, 77, 78, 79, 80, 140, 141, 142, 143, 144, 145, 146, 147, 148, 171, 172, 173, 174, 191, 192, 175, 176, 177, 178, 179, 180, 181, 182, 183] rfl (by decide +kernel)
set_option maxRecDepth 20000 in
theorem gX10_findOwn_X6_addTo : GoodIn wsX10_findOwn (wsV RX10 96 RX6 yX6_addTo wsX6_addTo) := goodIn_app (goodIn_of _ (by decide +kernel)) ggX10_findOwn_X6_addTo
theorem dX10_findOwn_0 : decode cX10_findOwn 0 = .ok (.aload_n 0, 1) := by decide +kernel
theorem dX10_findOwn_1 : decode cX10_findOwn 1 = .ok (.getfield 64, 3) := by decide +kernel
theorem dX10_findOwn_4 : decode cX10_findOwn 4 = .ok (.aload_n 0, 1) := by decide +kernel
theorem dX10_findOwn_5 : decode cX10_findOwn 5 = .ok (.getfield 43, 3) := by decide +kernel
theorem dX10_findOwn_8 : decode cX10_findOwn 8 = .ok (.aload_n 0, 1) := by decide +kernel
theorem dX10_findOwn_9 : decode cX10_findOwn 9 = .ok (.getfield 64, 3) := by decide +kernel
theorem dX10_findOwn_12 : decode cX10_findOwn 12 = .ok (.getfield 80, 3) := by decide +kernel
theorem dX10_findOwn_15 : decode cX10_findOwn 15 = .ok (.aload_n 0, 1) := by decide +kernel
theorem dX10_findOwn_16 : decode cX10_findOwn 16 = .ok (.getfield 10, 3) := by decide +kernel
theorem dX10_findOwn_19 : decode cX10_findOwn 19 = .ok (.invokevirtual 85, 3) := by decide +kernel
theorem dX10_findOwn_22 : decode cX10_findOwn 22 = .ok (.aload_n 0, 1) := by decide +kernel
theorem dX10_findOwn_23 : decode cX10_findOwn 23 = .ok (.getfield 64, 3) := by decide +kernel
theorem dX10_findOwn_26 : decode cX10_findOwn 26 = .ok (.aload_n 0, 1) := by decide +kernel
theorem dX10_findOwn_27 : decode cX10_findOwn 27 = .ok (.getfield 43, 3) := by decide +kernel
theorem dX10_findOwn_30 : decode cX10_findOwn 30 = .ok (.invokevirtual 89, 3) := by decide +kernel
theorem dX10_findOwn_33 : decode cX10_findOwn 33 = .ok (.aload_n 0, 1) := by decide +kernel
theorem dX10_findOwn_34 : decode cX10_findOwn 34 = .ok (.getfield 21, 3) := by decide +kernel
theorem dX10_findOwn_37 : decode cX10_findOwn 37 = .ok (.invokevirtual 93, 3) := by decide +kernel
theorem dX10_findOwn_40 : decode cX10_findOwn 40 = .ok (.aload_n 0, 1) := by decide +kernel
theorem dX10_findOwn_41 : decode cX10_findOwn 41 = .ok (.getfield 43, 3) := by decide +kernel
theorem dX10_findOwn_44 : decode cX10_findOwn 44 = .ok (.aload_n 0, 1) := by decide +kernel
theorem dX10_findOwn_45 : decode cX10_findOwn 45 = .ok (.getfield 21, 3) := by decide +kernel
theorem dX10_findOwn_48 : decode cX10_findOwn 48 = .ok (.invokevirtual 96, 3) := by decide +kernel
theorem dX10_findOwn_51 : decode cX10_findOwn 51 = .ok (.return_, 1) := by decide +kernel
set_option maxRecDepth 20000 in
theorem ggX10_hideSecret_X9_beginBy : GoodIn wsX10_hideSecret wsX9_beginBy := goodIn_r _ [9, 10, 11, 12, 13, 8, 14, 15, 16, 17, 18, 19, 20, 21, 22, 23, 24, 25, 26, 27, 28, 29, 30, 31, 32, 33, 34, 35, 36, 37, 38, 39, 40, 41, 42, 43, 44, 45, 46, 47, 48, 49, 50, 51, 52, 53, 54, 55, 56, 57, 58, 59, 60, 61, 62, 63, 64, 65, 66, 67, 68, 69, 70, 71, 72, 73, 74, 75, 76, 77, 78, 79, 80, 81, 82, 83, 84, 85, 86, 87, 88, 89, 90, 91, 92, 93, 94, 95, 96, 97, 98, 99, 100, 101, 102, 103, 104, 105, 106, 107, 108, 109, 110, 139, 140, 141, 142, 143, 144] rfl (by decide +kernel)
set_option maxRecDepth 20000 in
theorem gX10_hideSecret_X9_beginBy : GoodIn wsX10_hideSecret (wsV RX10 100 RX9 yX9_beginBy wsX9_beginBy) := goodIn_app (goodIn_of _ (by decide +kernel)) ggX10_hideSecret_X9_beginBy
set_option maxRecDepth 20000 in
theorem ggX10_hideSecret_X9_takeAll : GoodIn wsX10_hideSecret wsX9_takeAll := goodIn_r _ [105, 106, 107, 108, 109, 90, 110, 101, 70, 71, 72, 8, 73, 15, 74, 75, 76, 77, 78, 79, 16, 80, 143, 144, 139, 140, 141, 142] rfl (by decide +kernel)
set_option maxRecDepth 20000 in
theorem gX10_hideSecret_X9_takeAll : GoodIn wsX10_hideSecret (wsV RX10 105 RX9 yX9_takeAll wsX9_takeAll) := goodIn_app (goodIn_of _ (by decide +kernel)) ggX10_hideSecret_X9_takeAll
set_option maxRecDepth 20000 in
theorem ggX10_hideSecret_X9_finish : GoodIn wsX10_hideSecret wsX9_finish := goodIn_r _ [84, 15, 85, 75, 86, 74, 16, 70, 71, 72, 8, 73, 76, 77, 78, 79, 80, 87, 88, 89, 90, 91, 92, 93, 94, 95, 96, 97, 98, 99, 100, 101, 139, 140, 141, 142, 143, 144] rfl (by decide +kernel)
set_option maxRecDepth 20000 in
theorem gX10_hideSecret_X9_finish : GoodIn wsX10_hideSecret (wsV RX10 108 RX9 yX9_finish wsX9_finish) := goodIn_app (goodIn_of _ (by decide +kernel)) ggX10_hideSecret_X9_finish
set_option maxRecDepth 20000 in
theorem ggX10_hideSecret_X0_empty : GoodIn wsX10_hideSecret wsX0_empty := goodIn_r _ [91, 92, 143, 144] rfl (by decide +kernel)
set_option maxRecDepth 20000 in
theorem gX10_hideSecret_X0_empty : GoodIn wsX10_hideSecret (wsV RX10 93 RX0 yX0_empty wsX0_empty) := goodIn_app (goodIn_of _ (by decide +kernel)) ggX10_hideSecret_X0_empty
set_option maxRecDepth 20000 in
theorem ggX10_hideSecret_X8_addTo : GoodIn wsX10_hideSecret wsX8_addTo := goodIn_r _ [118, 119, 120, 94, 95, 90, 96, 97, 98, 99, 100, 92, 101, 145, 143, 144] rfl (by decide +kernel)
set_option maxRecDepth 20000 in
theorem gX10_hideSecret_X8_addTo : GoodIn wsX10_hideSecret (wsV RX10 111 RX8 yX8_addTo wsX8_addTo) := goodIn_app (goodIn_of _ (by decide +kernel)) ggX10_hideSecret_X8_addTo
set_option maxRecDepth 20000 in
theorem ggX10_hideSecret_X0_get : GoodIn wsX10_hideSecret wsX0_get := goodIn_r _ [110, 101, 143, 144] rfl (by decide +kernel)
set_option maxRecDepth 20000 in
theorem gX10_hideSecret_X0_get : GoodIn wsX10_hideSecret (wsV RX10 112 RX0 yX0_get wsX0_get) := goodIn_app (goodIn_of _ (by decide +kernel)) ggX10_hideSecret_X0_get
set_option maxRecDepth 20000 in
theorem ggX10_hideSecret_X0_turn : GoodIn wsX10_hideSecret wsX0_turn := goodIn_r _ [125, 101, 143, 144] rfl (by decide +kernel)
set_option maxRecDepth 20000 in
theorem gX10_hideSecret_X0_turn : GoodIn wsX10_hideSecret (wsV RX10 116 RX0 yX0_turn wsX0_turn) := goodIn_app (goodIn_of _ (by decide +kernel)) ggX10_hideSecret_X0_turn
theorem dX10_hideSecret_0 : decode cX10_hideSecret 0 = .ok (.aload_n 0, 1) := by decide +kernel
theorem dX10_hideSecret_1 : decode cX10_hideSecret 1 = .ok (.getfield 60, 3) := by decide +kernel
theorem dX10_hideSecret_4 : decode cX10_hideSecret 4 = .ok (.iload_n 1, 1) := by decide +kernel
theorem dX10_hideSecret_5 : decode cX10_hideSecret 5 = .ok (.invokevirtual 100, 3) := by decide +kernel
theorem dX10_hideSecret_8 : decode cX10_hideSecret 8 = .ok (.aload_n 0, 1) := by decide +kernel
theorem dX10_hideSecret_9 : decode cX10_hideSecret 9 = .ok (.getfield 60, 3) := by decide +kernel
theorem dX10_hideSecret_12 : decode cX10_hideSecret 12 = .ok (.aload_n 2, 1) := by decide +kernel
theorem dX10_hideSecret_13 : decode cX10_hideSecret 13 = .ok (.invokevirtual 105, 3) := by decide +kernel
theorem dX10_hideSecret_16 : decode cX10_hideSecret 16 = .ok (.aload_n 0, 1) := by decide +kernel
theorem dX10_hideSecret_17 : decode cX10_hideSecret 17 = .ok (.getfield 60, 3) := by decide +kernel
theorem dX10_hideSecret_20 : decode cX10_hideSecret 20 = .ok (.aload_n 0, 1) := by decide +kernel
theorem dX10_hideSecret_21 : decode cX10_hideSecret 21 = .ok (.getfield 25, 3) := by decide +kernel
theorem dX10_hideSecret_24 : decode cX10_hideSecret 24 = .ok (.invokevirtual 108, 3) := by decide +kernel
theorem dX10_hideSecret_27 : decode cX10_hideSecret 27 = .ok (.aload_n 0, 1) := by decide +kernel
theorem dX10_hideSecret_28 : decode cX10_hideSecret 28 = .ok (.getfield 57, 3) := by decide +kernel
theorem dX10_hideSecret_31 : decode cX10_hideSecret 31 = .ok (.invokevirtual 93, 3) := by decide +kernel
theorem dX10_hideSecret_34 : decode cX10_hideSecret 34 = .ok (.aload_n 0, 1) := by decide +kernel
theorem dX10_hideSecret_35 : decode cX10_hideSecret 35 = .ok (.getfield 10, 3) := by decide +kernel
theorem dX10_hideSecret_38 : decode cX10_hideSecret 38 = .ok (.aload_n 0, 1) := by decide +kernel
theorem dX10_hideSecret_39 : decode cX10_hideSecret 39 = .ok (.getfield 57, 3) := by decide +kernel
theorem dX10_hideSecret_42 : decode cX10_hideSecret 42 = .ok (.invokevirtual 111, 3) := by decide +kernel
theorem dX10_hideSecret_45 : decode cX10_hideSecret 45 = .ok (.iconst 0, 1) := by decide +kernel
theorem dX10_hideSecret_46 : decode cX10_hideSecret 46 = .ok (.istore_n 3, 1) := by decide +kernel
theorem dX10_hideSecret_47 : decode cX10_hideSecret 47 = .ok (.iload_n 3, 1) := by decide +kernel
theorem dX10_hideSecret_48 : decode cX10_hideSecret 48 = .ok (.bipush 32, 2) := by decide +kernel
theorem dX10_hideSecret_50 : decode cX10_hideSecret 50 = .ok (.if_icmp .ge 25, 3) := by decide +kernel
theorem dX10_hideSecret_53 : decode cX10_hideSecret 53 = .ok (.aload_n 0, 1) := by decide +kernel
theorem dX10_hideSecret_54 : decode cX10_hideSecret 54 = .ok (.getfield 25, 3) := by decide +kernel
theorem dX10_hideSecret_57 : decode cX10_hideSecret 57 = .ok (.iload_n 3, 1) := by decide +kernel
theorem dX10_hideSecret_58 : decode cX10_hideSecret 58 = .ok (.aload_n 0, 1) := by decide +kernel
theorem dX10_hideSecret_59 : decode cX10_hideSecret 59 = .ok (.getfield 57, 3) := by decide +kernel
theorem dX10_hideSecret_62 : decode cX10_hideSecret 62 = .ok (.iload_n 3, 1) := by decide +kernel
theorem dX10_hideSecret_63 : decode cX10_hideSecret 63 = .ok (.invokevirtual 112, 3) := by decide +kernel
theorem dX10_hideSecret_66 : decode cX10_hideSecret 66 = .ok (.invokevirtual 116, 3) := by decide +kernel
theorem dX10_hideSecret_69 : decode cX10_hideSecret 69 = .ok (.iinc 3 1, 3) := by decide +kernel
theorem dX10_hideSecret_72 : decode cX10_hideSecret 72 = .ok (.goto (-25), 3) := by decide +kernel
theorem dX10_hideSecret_75 : decode cX10_hideSecret 75 = .ok (.return_, 1) := by decide +kernel
set_option maxRecDepth 20000 in
theorem ggX10_drawNonce_X0_get : GoodIn wsX10_drawNonce wsX0_get := goodIn_r _ [10, 11, 187, 188] rfl (by decide +kernel)
set_option maxRecDepth 20000 in
theorem gX10_drawNonce_X0_get : GoodIn wsX10_drawNonce (wsV RX10 112 RX0 yX0_get wsX0_get) := goodIn_app (goodIn_of _ (by decide +kernel)) ggX10_drawNonce_X0_get
set_option maxRecDepth 20000 in
theorem ggX10_drawNonce_X8_negate : GoodIn wsX10_drawNonce wsX8_negate := goodIn_r _ [16, 17, 18, 19, 20, 21, 22, 15, 23, 189] rfl (by decide +kernel)
set_option maxRecDepth 20000 in
theorem gX10_drawNonce_X8_negate : GoodIn wsX10_drawNonce (wsV RX10 120 RX8 yX8_negate wsX8_negate) := goodIn_app (goodIn_of _ (by decide +kernel)) ggX10_drawNonce_X8_negate
set_option maxRecDepth 20000 in
theorem ggX10_drawNonce_X10_hideSecret : GoodIn wsX10_drawNonce wsX10_hideSecret := goodIn_r _ [28, 3, 4, 29, 2, 30, 31, 32, 33, 34, 35, 36, 37, 38, 39, 40, 41, 42, 43, 44, 45, 46, 47, 48, 49, 50, 51, 52, 53, 54, 55, 56, 57, 58, 59, 60, 61, 62, 63, 64, 65, 66, 67, 68, 69, 70, 71, 72, 73, 74, 75, 76, 77, 78, 79, 80, 81, 82, 83, 84, 85, 86, 87, 88, 89, 90, 91, 92, 93, 94, 95, 96, 97, 98, 99, 100, 101, 102, 103, 104, 105, 106, 107, 108, 109, 110, 111, 112, 113, 114, 9, 115, 116, 117, 118, 119, 120, 121, 122, 123, 124, 11, 125, 126, 127, 128, 129, 130, 7, 8, 10, 131, 132, 133, 134, 135, 136, 15, 137, 18, 138, 6, 139, 140, 141, 142, 174, 175, 176, 177, 178, 179, 180, 181, 182, 183, 184, 185, 186, 190, 191, 192, 193, 187, 188, 189] rfl (by decide +kernel)
set_option maxRecDepth 20000 in
theorem gX10_drawNonce_X10_hideSecret : GoodIn wsX10_drawNonce (wsV RX10 123 RX10 yX10_hideSecret wsX10_hideSecret) := goodIn_app (goodIn_of _ (by decide +kernel)) ggX10_drawNonce_X10_hideSecret
set_option maxRecDepth 20000 in
theorem ggX10_drawNonce_X9_beginBy : GoodIn wsX10_drawNonce wsX9_beginBy := goodIn_r _ [34, 35, 36, 37, 38, 33, 39, 40, 41, 42, 43, 44, 45, 46, 47, 48, 49, 50, 51, 52, 53, 54, 55, 56, 57, 58, 59, 60, 61, 62, 63, 64, 65, 66, 67, 68, 69, 70, 71, 72, 73, 74, 75, 76, 77, 78, 79, 80, 81, 82, 83, 84, 85, 86, 87, 88, 89, 90, 91, 92, 93, 94, 95, 96, 97, 98, 99, 100, 101, 102, 103, 104, 105, 106, 107, 108, 109, 110, 111, 112, 113, 114, 9, 115, 116, 117, 118, 119, 120, 121, 122, 123, 124, 11, 125, 126, 127, 128, 129, 130, 7, 8, 10, 190, 191, 192, 193, 187, 188] rfl (by decide +kernel)
set_option maxRecDepth 20000 in
theorem gX10_drawNonce_X9_beginBy : GoodIn wsX10_drawNonce (wsV RX10 100 RX9 yX9_beginBy wsX9_beginBy) := goodIn_app (goodIn_of _ (by decide +kernel)) ggX10_drawNonce_X9_beginBy
set_option maxRecDepth 20000 in
theorem ggX10_drawNonce_X9_takeAll : GoodIn wsX10_drawNonce wsX9_takeAll := goodIn_r _ [128, 129, 130, 7, 8, 9, 10, 11, 95, 96, 97, 33, 98, 40, 99, 100, 101, 102, 103, 104, 41, 105, 187, 188, 190, 191, 192, 193] rfl (by decide +kernel)
set_option maxRecDepth 20000 in
theorem gX10_drawNonce_X9_takeAll : GoodIn wsX10_drawNonce (wsV RX10 105 RX9 yX9_takeAll wsX9_takeAll) := goodIn_app (goodIn_of _ (by decide +kernel)) ggX10_drawNonce_X9_takeAll
set_option maxRecDepth 20000 in
theorem ggX10_drawNonce_X9_takePart : GoodIn wsX10_drawNonce wsX9_takePart := goodIn_r _ [146, 130, 7, 8, 9, 10, 11, 95, 96, 97, 33, 98, 40, 99, 100, 101, 102, 103, 104, 41, 105, 187, 188, 190, 191, 192, 193] rfl (by decide +kernel)
set_option maxRecDepth 20000 in
theorem gX10_drawNonce_X9_takePart : GoodIn wsX10_drawNonce (wsV RX10 127 RX9 yX9_takePart wsX9_takePart) := goodIn_app (goodIn_of _ (by decide +kernel)) ggX10_drawNonce_X9_takePart
set_option maxRecDepth 20000 in
theorem ggX10_drawNonce_X9_finish : GoodIn wsX10_drawNonce wsX9_finish := goodIn_r _ [109, 40, 110, 100, 111, 99, 41, 95, 96, 97, 33, 98, 101, 102, 103, 104, 105, 112, 113, 114, 9, 115, 116, 117, 118, 119, 120, 121, 122, 123, 124, 11, 190, 191, 192, 193, 187, 188] rfl (by decide +kernel)
set_option maxRecDepth 20000 in
theorem gX10_drawNonce_X9_finish : GoodIn wsX10_drawNonce (wsV RX10 108 RX9 yX9_finish wsX9_finish) := goodIn_app (goodIn_of _ (by decide +kernel)) ggX10_drawNonce_X9_finish
set_option maxRecDepth 20000 in
theorem ggX10_drawNonce_X8_takeDigest : GoodIn wsX10_drawNonce wsX8_takeDigest := goodIn_r _ [150, 151, 152, 153, 15, 154, 18, 155, 156, 157, 9, 158, 159, 7, 8, 10, 11, 160, 161, 162, 163, 17, 164, 165, 166, 167, 168, 169, 170, 171, 172, 19, 189, 187, 188] rfl (by decide +kernel)
set_option maxRecDepth 20000 in
theorem gX10_drawNonce_X8_takeDigest : GoodIn wsX10_drawNonce (wsV RX10 131 RX8 yX8_takeDigest wsX8_takeDigest) := goodIn_app (goodIn_of _ (by decide +kernel)) ggX10_drawNonce_X8_takeDigest
set_option maxRecDepth 20000 in
theorem ggX10_drawNonce_X8_isZero : GoodIn wsX10_drawNonce wsX8_isZero := goodIn_r _ [23, 18, 189] rfl (by decide +kernel)
set_option maxRecDepth 20000 in
theorem gX10_drawNonce_X8_isZero : GoodIn wsX10_drawNonce (wsV RX10 76 RX8 yX8_isZero wsX8_isZero) := goodIn_app (goodIn_of _ (by decide +kernel)) ggX10_drawNonce_X8_isZero
theorem dX10_drawNonce_0 : decode cX10_drawNonce 0 = .ok (.aload_n 0, 1) := by decide +kernel
theorem dX10_drawNonce_1 : decode cX10_drawNonce 1 = .ok (.getfield 21, 3) := by decide +kernel
theorem dX10_drawNonce_4 : decode cX10_drawNonce 4 = .ok (.iconst 0, 1) := by decide +kernel
theorem dX10_drawNonce_5 : decode cX10_drawNonce 5 = .ok (.invokevirtual 112, 3) := by decide +kernel
theorem dX10_drawNonce_8 : decode cX10_drawNonce 8 = .ok (.iconst 3, 1) := by decide +kernel
theorem dX10_drawNonce_9 : decode cX10_drawNonce 9 = .ok (.if_icmp .ne 10, 3) := by decide +kernel
theorem dX10_drawNonce_12 : decode cX10_drawNonce 12 = .ok (.aload_n 0, 1) := by decide +kernel
theorem dX10_drawNonce_13 : decode cX10_drawNonce 13 = .ok (.getfield 10, 3) := by decide +kernel
theorem dX10_drawNonce_16 : decode cX10_drawNonce 16 = .ok (.invokevirtual 120, 3) := by decide +kernel
theorem dX10_drawNonce_19 : decode cX10_drawNonce 19 = .ok (.aload_n 0, 1) := by decide +kernel
theorem dX10_drawNonce_20 : decode cX10_drawNonce 20 = .ok (.iconst 0, 1) := by decide +kernel
theorem dX10_drawNonce_21 : decode cX10_drawNonce 21 = .ok (.aload_n 2, 1) := by decide +kernel
theorem dX10_drawNonce_22 : decode cX10_drawNonce 22 = .ok (.invokevirtual 123, 3) := by decide +kernel
theorem dX10_drawNonce_25 : decode cX10_drawNonce 25 = .ok (.aload_n 0, 1) := by decide +kernel
theorem dX10_drawNonce_26 : decode cX10_drawNonce 26 = .ok (.getfield 60, 3) := by decide +kernel
theorem dX10_drawNonce_29 : decode cX10_drawNonce 29 = .ok (.iconst 1, 1) := by decide +kernel
theorem dX10_drawNonce_30 : decode cX10_drawNonce 30 = .ok (.invokevirtual 100, 3) := by decide +kernel
theorem dX10_drawNonce_33 : decode cX10_drawNonce 33 = .ok (.aload_n 0, 1) := by decide +kernel
theorem dX10_drawNonce_34 : decode cX10_drawNonce 34 = .ok (.getfield 60, 3) := by decide +kernel
theorem dX10_drawNonce_37 : decode cX10_drawNonce 37 = .ok (.aload_n 0, 1) := by decide +kernel
theorem dX10_drawNonce_38 : decode cX10_drawNonce 38 = .ok (.getfield 25, 3) := by decide +kernel
theorem dX10_drawNonce_41 : decode cX10_drawNonce 41 = .ok (.invokevirtual 105, 3) := by decide +kernel
theorem dX10_drawNonce_44 : decode cX10_drawNonce 44 = .ok (.aload_n 0, 1) := by decide +kernel
theorem dX10_drawNonce_45 : decode cX10_drawNonce 45 = .ok (.getfield 60, 3) := by decide +kernel
theorem dX10_drawNonce_48 : decode cX10_drawNonce 48 = .ok (.aload_n 0, 1) := by decide +kernel
theorem dX10_drawNonce_49 : decode cX10_drawNonce 49 = .ok (.getfield 21, 3) := by decide +kernel
theorem dX10_drawNonce_52 : decode cX10_drawNonce 52 = .ok (.iconst 1, 1) := by decide +kernel
theorem dX10_drawNonce_53 : decode cX10_drawNonce 53 = .ok (.bipush 32, 2) := by decide +kernel
theorem dX10_drawNonce_55 : decode cX10_drawNonce 55 = .ok (.invokevirtual 127, 3) := by decide +kernel
theorem dX10_drawNonce_58 : decode cX10_drawNonce 58 = .ok (.aload_n 0, 1) := by decide +kernel
theorem dX10_drawNonce_59 : decode cX10_drawNonce 59 = .ok (.getfield 60, 3) := by decide +kernel
theorem dX10_drawNonce_62 : decode cX10_drawNonce 62 = .ok (.aload_n 1, 1) := by decide +kernel
theorem dX10_drawNonce_63 : decode cX10_drawNonce 63 = .ok (.invokevirtual 105, 3) := by decide +kernel
theorem dX10_drawNonce_66 : decode cX10_drawNonce 66 = .ok (.aload_n 0, 1) := by decide +kernel
theorem dX10_drawNonce_67 : decode cX10_drawNonce 67 = .ok (.getfield 60, 3) := by decide +kernel
theorem dX10_drawNonce_70 : decode cX10_drawNonce 70 = .ok (.aload_n 0, 1) := by decide +kernel
theorem dX10_drawNonce_71 : decode cX10_drawNonce 71 = .ok (.getfield 25, 3) := by decide +kernel
theorem dX10_drawNonce_74 : decode cX10_drawNonce 74 = .ok (.invokevirtual 108, 3) := by decide +kernel
theorem dX10_drawNonce_77 : decode cX10_drawNonce 77 = .ok (.aload_n 0, 1) := by decide +kernel
theorem dX10_drawNonce_78 : decode cX10_drawNonce 78 = .ok (.getfield 28, 3) := by decide +kernel
theorem dX10_drawNonce_81 : decode cX10_drawNonce 81 = .ok (.aload_n 0, 1) := by decide +kernel
theorem dX10_drawNonce_82 : decode cX10_drawNonce 82 = .ok (.getfield 25, 3) := by decide +kernel
theorem dX10_drawNonce_85 : decode cX10_drawNonce 85 = .ok (.invokevirtual 131, 3) := by decide +kernel
theorem dX10_drawNonce_88 : decode cX10_drawNonce 88 = .ok (.aload_n 0, 1) := by decide +kernel
theorem dX10_drawNonce_89 : decode cX10_drawNonce 89 = .ok (.getfield 28, 3) := by decide +kernel
theorem dX10_drawNonce_92 : decode cX10_drawNonce 92 = .ok (.invokevirtual 76, 3) := by decide +kernel
theorem dX10_drawNonce_95 : decode cX10_drawNonce 95 = .ok (.ifCond .ne 7, 3) := by decide +kernel
theorem dX10_drawNonce_98 : decode cX10_drawNonce 98 = .ok (.iconst 1, 1) := by decide +kernel
theorem dX10_drawNonce_99 : decode cX10_drawNonce 99 = .ok (.goto 4, 3) := by decide +kernel
theorem dX10_drawNonce_102 : decode cX10_drawNonce 102 = .ok (.iconst 0, 1) := by decide +kernel
theorem dX10_drawNonce_103 : decode cX10_drawNonce 103 = .ok (.ireturn, 1) := by decide +kernel
set_option maxRecDepth 20000 in
theorem ggX10_makeSignature_X2_times : GoodIn wsX10_makeSignature wsX2_times := goodIn_r _ [15, 16, 17, 18, 19, 20, 21, 22, 23, 24, 25, 26, 27, 28, 29, 30, 31, 32, 33, 34, 35, 36, 37, 38, 39, 40, 41, 42, 43, 14, 44, 45, 46, 47, 48, 49, 50, 51, 52, 53, 54, 55, 56, 57, 58, 59, 60, 61, 62, 63, 64, 65, 66, 67, 68, 69, 70, 71, 72, 73, 74, 75, 76, 77, 78, 79, 80, 81, 82, 83, 84, 85, 86, 87, 88, 89, 90, 91, 92, 93, 94, 95, 96, 97, 98, 99, 321, 322, 323, 324, 325, 326, 327, 328, 329, 330, 331, 332, 333, 334, 335, 336, 337, 338, 339, 340, 341, 342, 343] rfl (by decide +kernel)
set_option maxRecDepth 20000 in
theorem gX10_makeSignature_X2_times : GoodIn wsX10_makeSignature (wsV RX10 85 RX2 yX2_times wsX2_times) := goodIn_app (goodIn_of _ (by decide +kernel)) ggX10_makeSignature_X2_times
set_option maxRecDepth 20000 in
theorem ggX10_makeSignature_X2_settle : GoodIn wsX10_makeSignature wsX2_settle := goodIn_r _ [103, 17, 104, 45, 46, 47, 48, 50, 105, 106, 107, 108, 109, 110, 111, 112, 113, 114, 115, 116, 117, 118, 119, 30, 120, 121, 28, 29, 31, 32, 33, 34, 35, 36, 37, 38, 39, 40, 122, 54, 55, 56, 57, 58, 59, 60, 123, 124, 53, 125, 330, 331, 332, 333, 321, 322, 323, 324, 325, 326, 327, 328, 329, 344, 345, 346, 347, 348, 349, 334, 335, 336, 337, 338, 339, 340, 341, 342] rfl (by decide +kernel)
set_option maxRecDepth 20000 in
theorem gX10_makeSignature_X2_settle : GoodIn wsX10_makeSignature (wsV RX10 89 RX2 yX2_settle wsX2_settle) := goodIn_app (goodIn_of _ (by decide +kernel)) ggX10_makeSignature_X2_settle
set_option maxRecDepth 20000 in
theorem ggX10_makeSignature_X1_isOdd : GoodIn wsX10_makeSignature wsX1_isOdd := goodIn_r _ [129, 32, 73, 74, 75, 30, 76, 33, 77, 65, 66, 67, 68, 40, 60, 57, 34, 35, 36, 37, 38, 39, 59, 78, 79, 80, 81, 82, 83, 84, 85, 334, 335, 336, 337, 338, 339, 340, 341, 342] rfl (by decide +kernel)
set_option maxRecDepth 20000 in
theorem gX10_makeSignature_X1_isOdd : GoodIn wsX10_makeSignature (wsV RX10 137 RX1 yX1_isOdd wsX1_isOdd) := goodIn_app (goodIn_of _ (by decide +kernel)) ggX10_makeSignature_X1_isOdd
set_option maxRecDepth 20000 in
theorem ggX10_makeSignature_X8_negate : GoodIn wsX10_makeSignature wsX8_negate := goodIn_r _ [133, 134, 99, 135, 136, 137, 138, 97, 139, 343] rfl (by decide +kernel)
set_option maxRecDepth 20000 in
theorem gX10_makeSignature_X8_negate : GoodIn wsX10_makeSignature (wsV RX10 120 RX8 yX8_negate wsX8_negate) := goodIn_app (goodIn_of _ (by decide +kernel)) ggX10_makeSignature_X8_negate
set_option maxRecDepth 20000 in
theorem ggX10_makeSignature_X0_empty : GoodIn wsX10_makeSignature wsX0_empty := goodIn_r _ [144, 145, 350, 351] rfl (by decide +kernel)
set_option maxRecDepth 20000 in
theorem gX10_makeSignature_X0_empty : GoodIn wsX10_makeSignature (wsV RX10 93 RX0 yX0_empty wsX0_empty) := goodIn_app (goodIn_of _ (by decide +kernel)) ggX10_makeSignature_X0_empty
set_option maxRecDepth 20000 in
theorem ggX10_makeSignature_X1_addTo : GoodIn wsX10_makeSignature wsX1_addTo := goodIn_r _ [149, 38, 39, 40, 36, 37, 34, 35, 32, 33, 73, 74, 75, 30, 76, 77, 65, 66, 67, 68, 60, 57, 59, 78, 79, 80, 81, 82, 83, 84, 85, 150, 151, 152, 143, 153, 154, 155, 156, 157, 145, 158, 334, 335, 336, 337, 338, 339, 340, 341, 342, 350, 351] rfl (by decide +kernel)
set_option maxRecDepth 20000 in
theorem gX10_makeSignature_X1_addTo : GoodIn wsX10_makeSignature (wsV RX10 141 RX1 yX1_addTo wsX1_addTo) := goodIn_app (goodIn_of _ (by decide +kernel)) ggX10_makeSignature_X1_addTo
set_option maxRecDepth 20000 in
theorem ggX10_makeSignature_X10_challenge : GoodIn wsX10_makeSignature wsX10_challenge := goodIn_r _ [163, 164, 165, 166, 167, 168, 169, 170, 171, 172, 173, 174, 175, 176, 177, 178, 179, 180, 181, 182, 183, 184, 185, 186, 187, 188, 189, 190, 191, 192, 193, 194, 195, 196, 197, 198, 199, 200, 201, 202, 203, 204, 205, 206, 207, 208, 209, 210, 211, 212, 213, 214, 215, 216, 217, 218, 219, 220, 221, 222, 223, 224, 225, 226, 227, 228, 229, 230, 231, 232, 233, 234, 235, 236, 237, 238, 239, 240, 241, 242, 243, 244, 245, 246, 247, 248, 141, 142, 143, 144, 145, 249, 151, 152, 153, 154, 155, 156, 157, 158, 250, 251, 252, 253, 254, 255, 256, 257, 258, 259, 260, 261, 262, 263, 264, 265, 266, 267, 97, 268, 269, 270, 271, 272, 99, 273, 274, 275, 276, 277, 278, 279, 280, 281, 134, 282, 283, 284, 285, 286, 287, 288, 289, 290, 135, 308, 309, 310, 311, 312, 313, 314, 315, 316, 317, 318, 319, 320, 352, 353, 354, 355, 350, 351, 343] rfl (by decide +kernel)
set_option maxRecDepth 20000 in
theorem gX10_makeSignature_X10_challenge : GoodIn wsX10_makeSignature (wsV RX10 142 RX10 yX10_challenge wsX10_challenge) := goodIn_app (goodIn_of _ (by decide +kernel)) ggX10_makeSignature_X10_challenge
set_option maxRecDepth 20000 in
theorem ggX10_makeSignature_X8_product : GoodIn wsX10_makeSignature wsX8_product := goodIn_r _ [294, 99, 295, 296, 297, 97, 298, 135, 282, 283, 284, 285, 286, 287, 288, 289, 290, 278, 279, 280, 281, 134, 343] rfl (by decide +kernel)
set_option maxRecDepth 20000 in
theorem gX10_makeSignature_X8_product : GoodIn wsX10_makeSignature (wsV RX10 146 RX8 yX8_product wsX8_product) := goodIn_app (goodIn_of _ (by decide +kernel)) ggX10_makeSignature_X8_product
set_option maxRecDepth 20000 in
theorem ggX10_makeSignature_X8_sum : GoodIn wsX10_makeSignature wsX8_sum := goodIn_r _ [302, 99, 135, 282, 283, 284, 97, 285, 286, 287, 288, 289, 290, 278, 279, 280, 281, 134, 343] rfl (by decide +kernel)
set_option maxRecDepth 20000 in
theorem gX10_makeSignature_X8_sum : GoodIn wsX10_makeSignature (wsV RX10 149 RX8 yX8_sum wsX8_sum) := goodIn_app (goodIn_of _ (by decide +kernel)) ggX10_makeSignature_X8_sum
set_option maxRecDepth 20000 in
theorem ggX10_makeSignature_X8_addTo : GoodIn wsX10_makeSignature wsX8_addTo := goodIn_r _ [306, 99, 307, 151, 152, 143, 153, 154, 155, 156, 157, 145, 158, 343, 350, 351] rfl (by decide +kernel)
set_option maxRecDepth 20000 in
theorem gX10_makeSignature_X8_addTo : GoodIn wsX10_makeSignature (wsV RX10 111 RX8 yX8_addTo wsX8_addTo) := goodIn_app (goodIn_of _ (by decide +kernel)) ggX10_makeSignature_X8_addTo
theorem dX10_makeSignature_0 : decode cX10_makeSignature 0 = .ok (.aload_n 0, 1) := by decide +kernel
theorem dX10_makeSignature_1 : decode cX10_makeSignature 1 = .ok (.getfield 64, 3) := by decide +kernel
theorem dX10_makeSignature_4 : decode cX10_makeSignature 4 = .ok (.aload_n 0, 1) := by decide +kernel
theorem dX10_makeSignature_5 : decode cX10_makeSignature 5 = .ok (.getfield 43, 3) := by decide +kernel
theorem dX10_makeSignature_8 : decode cX10_makeSignature 8 = .ok (.aload_n 0, 1) := by decide +kernel
theorem dX10_makeSignature_9 : decode cX10_makeSignature 9 = .ok (.getfield 64, 3) := by decide +kernel
theorem dX10_makeSignature_12 : decode cX10_makeSignature 12 = .ok (.getfield 80, 3) := by decide +kernel
theorem dX10_makeSignature_15 : decode cX10_makeSignature 15 = .ok (.aload_n 0, 1) := by decide +kernel
theorem dX10_makeSignature_16 : decode cX10_makeSignature 16 = .ok (.getfield 28, 3) := by decide +kernel
theorem dX10_makeSignature_19 : decode cX10_makeSignature 19 = .ok (.invokevirtual 85, 3) := by decide +kernel
theorem dX10_makeSignature_22 : decode cX10_makeSignature 22 = .ok (.aload_n 0, 1) := by decide +kernel
theorem dX10_makeSignature_23 : decode cX10_makeSignature 23 = .ok (.getfield 64, 3) := by decide +kernel
theorem dX10_makeSignature_26 : decode cX10_makeSignature 26 = .ok (.aload_n 0, 1) := by decide +kernel
theorem dX10_makeSignature_27 : decode cX10_makeSignature 27 = .ok (.getfield 43, 3) := by decide +kernel
theorem dX10_makeSignature_30 : decode cX10_makeSignature 30 = .ok (.invokevirtual 89, 3) := by decide +kernel
theorem dX10_makeSignature_33 : decode cX10_makeSignature 33 = .ok (.aload_n 0, 1) := by decide +kernel
theorem dX10_makeSignature_34 : decode cX10_makeSignature 34 = .ok (.getfield 43, 3) := by decide +kernel
theorem dX10_makeSignature_37 : decode cX10_makeSignature 37 = .ok (.getfield 134, 3) := by decide +kernel
theorem dX10_makeSignature_40 : decode cX10_makeSignature 40 = .ok (.invokevirtual 137, 3) := by decide +kernel
theorem dX10_makeSignature_43 : decode cX10_makeSignature 43 = .ok (.ifCond .eq 10, 3) := by decide +kernel
theorem dX10_makeSignature_46 : decode cX10_makeSignature 46 = .ok (.aload_n 0, 1) := by decide +kernel
theorem dX10_makeSignature_47 : decode cX10_makeSignature 47 = .ok (.getfield 28, 3) := by decide +kernel
theorem dX10_makeSignature_50 : decode cX10_makeSignature 50 = .ok (.invokevirtual 120, 3) := by decide +kernel
theorem dX10_makeSignature_53 : decode cX10_makeSignature 53 = .ok (.aload_n 2, 1) := by decide +kernel
theorem dX10_makeSignature_54 : decode cX10_makeSignature 54 = .ok (.invokevirtual 93, 3) := by decide +kernel
theorem dX10_makeSignature_57 : decode cX10_makeSignature 57 = .ok (.aload_n 0, 1) := by decide +kernel
theorem dX10_makeSignature_58 : decode cX10_makeSignature 58 = .ok (.getfield 43, 3) := by decide +kernel
theorem dX10_makeSignature_61 : decode cX10_makeSignature 61 = .ok (.getfield 140, 3) := by decide +kernel
theorem dX10_makeSignature_64 : decode cX10_makeSignature 64 = .ok (.aload_n 2, 1) := by decide +kernel
theorem dX10_makeSignature_65 : decode cX10_makeSignature 65 = .ok (.invokevirtual 141, 3) := by decide +kernel
theorem dX10_makeSignature_68 : decode cX10_makeSignature 68 = .ok (.aload_n 0, 1) := by decide +kernel
theorem dX10_makeSignature_69 : decode cX10_makeSignature 69 = .ok (.aload_n 0, 1) := by decide +kernel
theorem dX10_makeSignature_70 : decode cX10_makeSignature 70 = .ok (.getfield 31, 3) := by decide +kernel
theorem dX10_makeSignature_73 : decode cX10_makeSignature 73 = .ok (.aload_n 2, 1) := by decide +kernel
theorem dX10_makeSignature_74 : decode cX10_makeSignature 74 = .ok (.aload_n 0, 1) := by decide +kernel
theorem dX10_makeSignature_75 : decode cX10_makeSignature 75 = .ok (.getfield 21, 3) := by decide +kernel
theorem dX10_makeSignature_78 : decode cX10_makeSignature 78 = .ok (.iconst 1, 1) := by decide +kernel
theorem dX10_makeSignature_79 : decode cX10_makeSignature 79 = .ok (.aload_n 1, 1) := by decide +kernel
theorem dX10_makeSignature_80 : decode cX10_makeSignature 80 = .ok (.invokevirtual 142, 3) := by decide +kernel
theorem dX10_makeSignature_83 : decode cX10_makeSignature 83 = .ok (.aload_n 0, 1) := by decide +kernel
theorem dX10_makeSignature_84 : decode cX10_makeSignature 84 = .ok (.getfield 34, 3) := by decide +kernel
theorem dX10_makeSignature_87 : decode cX10_makeSignature 87 = .ok (.aload_n 0, 1) := by decide +kernel
theorem dX10_makeSignature_88 : decode cX10_makeSignature 88 = .ok (.getfield 31, 3) := by decide +kernel
theorem dX10_makeSignature_91 : decode cX10_makeSignature 91 = .ok (.aload_n 0, 1) := by decide +kernel
theorem dX10_makeSignature_92 : decode cX10_makeSignature 92 = .ok (.getfield 10, 3) := by decide +kernel
theorem dX10_makeSignature_95 : decode cX10_makeSignature 95 = .ok (.invokevirtual 146, 3) := by decide +kernel
theorem dX10_makeSignature_98 : decode cX10_makeSignature 98 = .ok (.aload_n 0, 1) := by decide +kernel
theorem dX10_makeSignature_99 : decode cX10_makeSignature 99 = .ok (.getfield 34, 3) := by decide +kernel
theorem dX10_makeSignature_102 : decode cX10_makeSignature 102 = .ok (.aload_n 0, 1) := by decide +kernel
theorem dX10_makeSignature_103 : decode cX10_makeSignature 103 = .ok (.getfield 34, 3) := by decide +kernel
theorem dX10_makeSignature_106 : decode cX10_makeSignature 106 = .ok (.aload_n 0, 1) := by decide +kernel
theorem dX10_makeSignature_107 : decode cX10_makeSignature 107 = .ok (.getfield 28, 3) := by decide +kernel
theorem dX10_makeSignature_110 : decode cX10_makeSignature 110 = .ok (.invokevirtual 149, 3) := by decide +kernel
theorem dX10_makeSignature_113 : decode cX10_makeSignature 113 = .ok (.aload_n 0, 1) := by decide +kernel
theorem dX10_makeSignature_114 : decode cX10_makeSignature 114 = .ok (.getfield 34, 3) := by decide +kernel
theorem dX10_makeSignature_117 : decode cX10_makeSignature 117 = .ok (.aload_n 2, 1) := by decide +kernel
theorem dX10_makeSignature_118 : decode cX10_makeSignature 118 = .ok (.invokevirtual 111, 3) := by decide +kernel
theorem dX10_makeSignature_121 : decode cX10_makeSignature 121 = .ok (.return_, 1) := by decide +kernel
set_option maxRecDepth 20000 in
theorem ggX10_challenge_X9_beginBy : GoodIn wsX10_challenge wsX9_beginBy := goodIn_r _ [7, 8, 9, 10, 11, 6, 12, 13, 14, 15, 16, 17, 18, 19, 20, 21, 22, 23, 24, 25, 26, 27, 28, 29, 30, 31, 32, 33, 34, 35, 36, 37, 38, 39, 40, 41, 42, 43, 44, 45, 46, 47, 48, 49, 50, 51, 52, 53, 54, 55, 56, 57, 58, 59, 60, 61, 62, 63, 64, 65, 66, 67, 68, 69, 70, 71, 72, 73, 74, 75, 76, 77, 78, 79, 80, 81, 82, 83, 84, 85, 86, 87, 88, 89, 90, 91, 92, 93, 94, 95, 96, 97, 98, 99, 100, 101, 102, 103, 104, 105, 106, 107, 108, 158, 159, 160, 161, 162, 163] rfl (by decide +kernel)
set_option maxRecDepth 20000 in
theorem gX10_challenge_X9_beginBy : GoodIn wsX10_challenge (wsV RX10 100 RX9 yX9_beginBy wsX9_beginBy) := goodIn_app (goodIn_of _ (by decide +kernel)) ggX10_challenge_X9_beginBy
set_option maxRecDepth 20000 in
theorem ggX10_challenge_X9_takePart : GoodIn wsX10_challenge wsX9_takePart := goodIn_r _ [112, 105, 106, 107, 88, 108, 99, 68, 69, 70, 6, 71, 13, 72, 73, 74, 75, 76, 77, 14, 78, 162, 163, 158, 159, 160, 161] rfl (by decide +kernel)
set_option maxRecDepth 20000 in
theorem gX10_challenge_X9_takePart : GoodIn wsX10_challenge (wsV RX10 127 RX9 yX9_takePart wsX9_takePart) := goodIn_app (goodIn_of _ (by decide +kernel)) ggX10_challenge_X9_takePart
set_option maxRecDepth 20000 in
theorem ggX10_challenge_X9_takeAll : GoodIn wsX10_challenge wsX9_takeAll := goodIn_r _ [103, 104, 105, 106, 107, 88, 108, 99, 68, 69, 70, 6, 71, 13, 72, 73, 74, 75, 76, 77, 14, 78, 162, 163, 158, 159, 160, 161] rfl (by decide +kernel)
set_option maxRecDepth 20000 in
theorem gX10_challenge_X9_takeAll : GoodIn wsX10_challenge (wsV RX10 105 RX9 yX9_takeAll wsX9_takeAll) := goodIn_app (goodIn_of _ (by decide +kernel)) ggX10_challenge_X9_takeAll
set_option maxRecDepth 20000 in
theorem ggX10_challenge_X9_finish : GoodIn wsX10_challenge wsX9_finish := goodIn_r _ [82, 13, 83, 73, 84, 72, 14, 68, 69, 70, 6, 71, 74, 75, 76, 77, 78, 85, 86, 87, 88, 89, 90, 91, 92, 93, 94, 95, 96, 97, 98, 99, 158, 159, 160, 161, 162, 163] rfl (by decide +kernel)
set_option maxRecDepth 20000 in
theorem gX10_challenge_X9_finish : GoodIn wsX10_challenge (wsV RX10 108 RX9 yX9_finish wsX9_finish) := goodIn_app (goodIn_of _ (by decide +kernel)) ggX10_challenge_X9_finish
set_option maxRecDepth 20000 in
theorem ggX10_challenge_X8_takeDigest : GoodIn wsX10_challenge wsX8_takeDigest := goodIn_r _ [119, 120, 121, 122, 118, 123, 124, 125, 126, 127, 88, 128, 129, 106, 107, 108, 99, 130, 131, 132, 133, 134, 135, 136, 137, 138, 139, 140, 141, 142, 143, 144, 164, 162, 163] rfl (by decide +kernel)
set_option maxRecDepth 20000 in
theorem gX10_challenge_X8_takeDigest : GoodIn wsX10_challenge (wsV RX10 131 RX8 yX8_takeDigest wsX8_takeDigest) := goodIn_app (goodIn_of _ (by decide +kernel)) ggX10_challenge_X8_takeDigest
theorem dX10_challenge_0 : decode cX10_challenge 0 = .ok (.aload_n 0, 1) := by decide +kernel
theorem dX10_challenge_1 : decode cX10_challenge 1 = .ok (.getfield 60, 3) := by decide +kernel
theorem dX10_challenge_4 : decode cX10_challenge 4 = .ok (.iconst 2, 1) := by decide +kernel
theorem dX10_challenge_5 : decode cX10_challenge 5 = .ok (.invokevirtual 100, 3) := by decide +kernel
theorem dX10_challenge_8 : decode cX10_challenge 8 = .ok (.aload_n 0, 1) := by decide +kernel
theorem dX10_challenge_9 : decode cX10_challenge 9 = .ok (.getfield 60, 3) := by decide +kernel
theorem dX10_challenge_12 : decode cX10_challenge 12 = .ok (.aload_n 2, 1) := by decide +kernel
theorem dX10_challenge_13 : decode cX10_challenge 13 = .ok (.iconst 0, 1) := by decide +kernel
theorem dX10_challenge_14 : decode cX10_challenge 14 = .ok (.bipush 32, 2) := by decide +kernel
theorem dX10_challenge_16 : decode cX10_challenge 16 = .ok (.invokevirtual 127, 3) := by decide +kernel
theorem dX10_challenge_19 : decode cX10_challenge 19 = .ok (.aload_n 0, 1) := by decide +kernel
theorem dX10_challenge_20 : decode cX10_challenge 20 = .ok (.getfield 60, 3) := by decide +kernel
theorem dX10_challenge_23 : decode cX10_challenge 23 = .ok (.aload_n 3, 1) := by decide +kernel
theorem dX10_challenge_24 : decode cX10_challenge 24 = .ok (.iload 4, 2) := by decide +kernel
theorem dX10_challenge_26 : decode cX10_challenge 26 = .ok (.bipush 32, 2) := by decide +kernel
theorem dX10_challenge_28 : decode cX10_challenge 28 = .ok (.invokevirtual 127, 3) := by decide +kernel
theorem dX10_challenge_31 : decode cX10_challenge 31 = .ok (.aload_n 0, 1) := by decide +kernel
theorem dX10_challenge_32 : decode cX10_challenge 32 = .ok (.getfield 60, 3) := by decide +kernel
theorem dX10_challenge_35 : decode cX10_challenge 35 = .ok (.aload 5, 2) := by decide +kernel
theorem dX10_challenge_37 : decode cX10_challenge 37 = .ok (.invokevirtual 105, 3) := by decide +kernel
theorem dX10_challenge_40 : decode cX10_challenge 40 = .ok (.aload_n 0, 1) := by decide +kernel
theorem dX10_challenge_41 : decode cX10_challenge 41 = .ok (.getfield 60, 3) := by decide +kernel
theorem dX10_challenge_44 : decode cX10_challenge 44 = .ok (.aload_n 0, 1) := by decide +kernel
theorem dX10_challenge_45 : decode cX10_challenge 45 = .ok (.getfield 25, 3) := by decide +kernel
theorem dX10_challenge_48 : decode cX10_challenge 48 = .ok (.invokevirtual 108, 3) := by decide +kernel
theorem dX10_challenge_51 : decode cX10_challenge 51 = .ok (.aload_n 1, 1) := by decide +kernel
theorem dX10_challenge_52 : decode cX10_challenge 52 = .ok (.aload_n 0, 1) := by decide +kernel
theorem dX10_challenge_53 : decode cX10_challenge 53 = .ok (.getfield 25, 3) := by decide +kernel
theorem dX10_challenge_56 : decode cX10_challenge 56 = .ok (.invokevirtual 131, 3) := by decide +kernel
theorem dX10_challenge_59 : decode cX10_challenge 59 = .ok (.return_, 1) := by decide +kernel
set_option maxRecDepth 20000 in
theorem ggX10_canJudge_X2_lift : GoodIn wsX10_canJudge wsX2_lift := goodIn_r _ [10, 11, 12, 13, 14, 15, 16, 17, 18, 19, 20, 21, 22, 23, 24, 25, 26, 27, 28, 29, 30, 31, 32, 33, 34, 35, 36, 37, 38, 39, 40, 41, 42, 43, 44, 45, 46, 47, 48, 49, 50, 51, 52, 53, 54, 55, 56, 57, 58, 59, 60, 61, 62, 63, 64, 65, 66, 67, 68, 69, 70, 71, 72, 73, 74, 75, 76, 77, 78, 79, 80, 81, 82, 83, 84, 85, 86, 87, 88, 89, 90, 91, 92, 93, 94, 95, 96, 97, 98, 99, 100, 101, 102, 103, 104, 105, 106, 107, 108, 109, 110, 111, 140, 141, 142, 143, 144, 145, 146, 147, 148, 149, 150, 151, 152, 125, 126, 153, 154, 155, 156, 157, 158, 159, 160, 161, 162, 163, 164, 165, 166, 167] rfl (by decide +kernel)
set_option maxRecDepth 20000 in
theorem gX10_canJudge_X2_lift : GoodIn wsX10_canJudge (wsV RX10 152 RX2 yX2_lift wsX2_lift) := goodIn_app (goodIn_of _ (by decide +kernel)) ggX10_canJudge_X2_lift
set_option maxRecDepth 20000 in
theorem ggX10_canJudge_X1_take : GoodIn wsX10_canJudge wsX1_take := goodIn_r _ [23, 24, 25, 26, 27, 28, 29, 30, 31, 32, 33, 34, 35, 36, 22, 37, 38, 39, 40, 41, 42, 43, 44, 45, 46, 47, 48, 49, 50, 51, 52, 53, 125, 126, 153, 154, 155, 156, 157, 158, 159, 160, 161] rfl (by decide +kernel)
set_option maxRecDepth 20000 in
theorem gX10_canJudge_X1_take : GoodIn wsX10_canJudge (wsV RX10 156 RX1 yX1_take wsX1_take) := goodIn_app (goodIn_of _ (by decide +kernel)) ggX10_canJudge_X1_take
set_option maxRecDepth 20000 in
theorem ggX10_canJudge_X8_take : GoodIn wsX10_canJudge wsX8_take := goodIn_r _ [117, 118, 119, 25, 26, 27, 28, 29, 30, 31, 32, 33, 120, 121, 122, 116, 123, 124, 168, 125, 126] rfl (by decide +kernel)
set_option maxRecDepth 20000 in
theorem gX10_canJudge_X8_take : GoodIn wsX10_canJudge (wsV RX10 72 RX8 yX8_take wsX8_take) := goodIn_app (goodIn_of _ (by decide +kernel)) ggX10_canJudge_X8_take
theorem dX10_canJudge_0 : decode cX10_canJudge 0 = .ok (.aload_n 1, 1) := by decide +kernel
theorem dX10_canJudge_1 : decode cX10_canJudge 1 = .ok (.getfield 68, 3) := by decide +kernel
theorem dX10_canJudge_4 : decode cX10_canJudge 4 = .ok (.bipush 32, 2) := by decide +kernel
theorem dX10_canJudge_6 : decode cX10_canJudge 6 = .ok (.if_icmp .ne 57, 3) := by decide +kernel
theorem dX10_canJudge_9 : decode cX10_canJudge 9 = .ok (.aload_n 2, 1) := by decide +kernel
theorem dX10_canJudge_10 : decode cX10_canJudge 10 = .ok (.getfield 68, 3) := by decide +kernel
theorem dX10_canJudge_13 : decode cX10_canJudge 13 = .ok (.bipush 64, 2) := by decide +kernel
theorem dX10_canJudge_15 : decode cX10_canJudge 15 = .ok (.if_icmp .ne 48, 3) := by decide +kernel
theorem dX10_canJudge_18 : decode cX10_canJudge 18 = .ok (.aload_n 0, 1) := by decide +kernel
theorem dX10_canJudge_19 : decode cX10_canJudge 19 = .ok (.getfield 64, 3) := by decide +kernel
theorem dX10_canJudge_22 : decode cX10_canJudge 22 = .ok (.aload_n 0, 1) := by decide +kernel
theorem dX10_canJudge_23 : decode cX10_canJudge 23 = .ok (.getfield 47, 3) := by decide +kernel
theorem dX10_canJudge_26 : decode cX10_canJudge 26 = .ok (.aload_n 1, 1) := by decide +kernel
theorem dX10_canJudge_27 : decode cX10_canJudge 27 = .ok (.iconst 0, 1) := by decide +kernel
theorem dX10_canJudge_28 : decode cX10_canJudge 28 = .ok (.invokevirtual 152, 3) := by decide +kernel
theorem dX10_canJudge_31 : decode cX10_canJudge 31 = .ok (.ifCond .eq 32, 3) := by decide +kernel
theorem dX10_canJudge_34 : decode cX10_canJudge 34 = .ok (.aload_n 0, 1) := by decide +kernel
theorem dX10_canJudge_35 : decode cX10_canJudge 35 = .ok (.getfield 53, 3) := by decide +kernel
theorem dX10_canJudge_38 : decode cX10_canJudge 38 = .ok (.aload_n 2, 1) := by decide +kernel
theorem dX10_canJudge_39 : decode cX10_canJudge 39 = .ok (.iconst 0, 1) := by decide +kernel
theorem dX10_canJudge_40 : decode cX10_canJudge 40 = .ok (.invokevirtual 156, 3) := by decide +kernel
theorem dX10_canJudge_43 : decode cX10_canJudge 43 = .ok (.ifCond .eq 20, 3) := by decide +kernel
theorem dX10_canJudge_46 : decode cX10_canJudge 46 = .ok (.aload_n 0, 1) := by decide +kernel
theorem dX10_canJudge_47 : decode cX10_canJudge 47 = .ok (.getfield 34, 3) := by decide +kernel
theorem dX10_canJudge_50 : decode cX10_canJudge 50 = .ok (.aload_n 2, 1) := by decide +kernel
theorem dX10_canJudge_51 : decode cX10_canJudge 51 = .ok (.bipush 32, 2) := by decide +kernel
theorem dX10_canJudge_53 : decode cX10_canJudge 53 = .ok (.invokevirtual 72, 3) := by decide +kernel
theorem dX10_canJudge_56 : decode cX10_canJudge 56 = .ok (.ifCond .eq 7, 3) := by decide +kernel
theorem dX10_canJudge_59 : decode cX10_canJudge 59 = .ok (.iconst 1, 1) := by decide +kernel
theorem dX10_canJudge_60 : decode cX10_canJudge 60 = .ok (.goto 4, 3) := by decide +kernel
theorem dX10_canJudge_63 : decode cX10_canJudge 63 = .ok (.iconst 0, 1) := by decide +kernel
theorem dX10_canJudge_64 : decode cX10_canJudge 64 = .ok (.ireturn, 1) := by decide +kernel
set_option maxRecDepth 20000 in
theorem ggX10_judge_X10_challenge : GoodIn wsX10_judge wsX10_challenge := goodIn_r _ [15, 16, 17, 18, 19, 20, 21, 22, 23, 24, 25, 26, 27, 28, 29, 30, 31, 32, 33, 34, 35, 36, 37, 38, 39, 40, 41, 42, 43, 44, 45, 46, 47, 48, 49, 50, 51, 52, 53, 54, 55, 56, 57, 58, 59, 60, 61, 62, 63, 64, 65, 66, 67, 68, 69, 70, 71, 72, 73, 74, 75, 76, 77, 78, 79, 80, 81, 82, 83, 84, 85, 86, 87, 88, 89, 90, 91, 92, 93, 94, 95, 96, 97, 98, 99, 100, 101, 102, 103, 104, 105, 106, 107, 108, 109, 110, 111, 112, 113, 114, 115, 116, 117, 118, 119, 120, 121, 122, 123, 124, 125, 126, 127, 128, 129, 130, 131, 132, 133, 134, 135, 136, 137, 138, 139, 140, 141, 142, 143, 144, 145, 146, 147, 148, 149, 150, 151, 152, 153, 154, 155, 156, 157, 158, 159, 290, 291, 292, 293, 294, 295, 296, 297, 298, 299, 300, 301, 302, 316, 317, 318, 319, 320, 321, 322] rfl (by decide +kernel)
set_option maxRecDepth 20000 in
theorem gX10_judge_X10_challenge : GoodIn wsX10_judge (wsV RX10 142 RX10 yX10_challenge wsX10_challenge) := goodIn_app (goodIn_of _ (by decide +kernel)) ggX10_judge_X10_challenge
set_option maxRecDepth 20000 in
theorem ggX10_judge_X8_negate : GoodIn wsX10_judge wsX8_negate := goodIn_r _ [163, 149, 139, 159, 164, 165, 166, 133, 167, 322] rfl (by decide +kernel)
set_option maxRecDepth 20000 in
theorem gX10_judge_X8_negate : GoodIn wsX10_judge (wsV RX10 120 RX8 yX8_negate wsX8_negate) := goodIn_app (goodIn_of _ (by decide +kernel)) ggX10_judge_X8_negate
set_option maxRecDepth 20000 in
theorem ggX10_judge_X2_times : GoodIn wsX10_judge wsX2_times := goodIn_r _ [172, 173, 174, 175, 176, 177, 178, 179, 180, 181, 182, 183, 184, 185, 186, 187, 188, 189, 190, 191, 192, 193, 194, 195, 196, 197, 198, 199, 200, 171, 201, 202, 203, 204, 205, 206, 207, 208, 209, 210, 211, 212, 213, 214, 215, 216, 217, 218, 219, 220, 221, 222, 223, 224, 225, 226, 227, 228, 229, 230, 231, 232, 233, 234, 235, 236, 237, 238, 239, 240, 241, 242, 243, 244, 245, 246, 247, 248, 249, 250, 251, 252, 253, 133, 254, 139, 303, 304, 305, 306, 307, 308, 309, 310, 311, 312, 313, 314, 315, 323, 324, 325, 326, 327, 328, 329, 330, 331, 322] rfl (by decide +kernel)
set_option maxRecDepth 20000 in
theorem gX10_judge_X2_times : GoodIn wsX10_judge (wsV RX10 85 RX2 yX2_times wsX2_times) := goodIn_app (goodIn_of _ (by decide +kernel)) ggX10_judge_X2_times
set_option maxRecDepth 20000 in
theorem ggX10_judge_X2_plus : GoodIn wsX10_judge wsX2_plus := goodIn_r _ [201, 174, 202, 203, 204, 205, 206, 207, 208, 209, 175, 176, 177, 178, 179, 180, 181, 182, 183, 184, 185, 186, 187, 188, 189, 190, 191, 192, 193, 194, 195, 196, 197, 210, 211, 212, 213, 214, 215, 216, 217, 218, 219, 220, 221, 222, 223, 224, 225, 226, 227, 228, 229, 230, 231, 232, 233, 234, 235, 236, 237, 238, 239, 240, 241, 242, 243, 244, 245, 171, 246, 247, 248, 249, 250, 312, 313, 314, 315, 303, 304, 305, 306, 307, 308, 309, 310, 311, 323, 324, 325, 326, 327, 328, 329, 330, 331] rfl (by decide +kernel)
set_option maxRecDepth 20000 in
theorem gX10_judge_X2_plus : GoodIn wsX10_judge (wsV RX10 157 RX2 yX2_plus wsX2_plus) := goodIn_app (goodIn_of _ (by decide +kernel)) ggX10_judge_X2_plus
set_option maxRecDepth 20000 in
theorem ggX10_judge_X2_settle : GoodIn wsX10_judge wsX2_settle := goodIn_r _ [259, 174, 260, 202, 203, 204, 205, 207, 261, 262, 263, 264, 265, 266, 267, 268, 269, 270, 271, 272, 273, 274, 275, 187, 276, 277, 185, 186, 188, 189, 190, 191, 192, 193, 194, 195, 196, 197, 278, 211, 212, 213, 214, 215, 216, 217, 279, 280, 210, 281, 312, 313, 314, 315, 303, 304, 305, 306, 307, 308, 309, 310, 311, 332, 333, 334, 335, 336, 337, 323, 324, 325, 326, 327, 328, 329, 330, 331] rfl (by decide +kernel)
set_option maxRecDepth 20000 in
theorem gX10_judge_X2_settle : GoodIn wsX10_judge (wsV RX10 89 RX2 yX2_settle wsX2_settle) := goodIn_app (goodIn_of _ (by decide +kernel)) ggX10_judge_X2_settle
set_option maxRecDepth 20000 in
theorem ggX10_judge_X1_isOdd : GoodIn wsX10_judge wsX1_isOdd := goodIn_r _ [285, 189, 230, 231, 232, 187, 233, 190, 234, 222, 223, 224, 225, 197, 217, 214, 191, 192, 193, 194, 195, 196, 216, 235, 236, 237, 238, 239, 240, 241, 242, 323, 324, 325, 326, 327, 328, 329, 330, 331] rfl (by decide +kernel)
set_option maxRecDepth 20000 in
theorem gX10_judge_X1_isOdd : GoodIn wsX10_judge (wsV RX10 137 RX1 yX1_isOdd wsX1_isOdd) := goodIn_app (goodIn_of _ (by decide +kernel)) ggX10_judge_X1_isOdd
set_option maxRecDepth 20000 in
theorem ggX10_judge_X1_isLike : GoodIn wsX10_judge wsX1_isLike := goodIn_r _ [289, 189, 190, 191, 192, 193, 194, 195, 196, 197, 230, 231, 232, 187, 233, 234, 222, 223, 224, 225, 217, 214, 216, 235, 236, 237, 238, 239, 240, 241, 242, 323, 324, 325, 326, 327, 328, 329, 330, 331] rfl (by decide +kernel)
set_option maxRecDepth 20000 in
theorem gX10_judge_X1_isLike : GoodIn wsX10_judge (wsV RX10 165 RX1 yX1_isLike wsX1_isLike) := goodIn_app (goodIn_of _ (by decide +kernel)) ggX10_judge_X1_isLike
theorem dX10_judge_0 : decode cX10_judge 0 = .ok (.aload_n 0, 1) := by decide +kernel
theorem dX10_judge_1 : decode cX10_judge 1 = .ok (.aload_n 0, 1) := by decide +kernel
theorem dX10_judge_2 : decode cX10_judge 2 = .ok (.getfield 31, 3) := by decide +kernel
theorem dX10_judge_5 : decode cX10_judge 5 = .ok (.aload_n 3, 1) := by decide +kernel
theorem dX10_judge_6 : decode cX10_judge 6 = .ok (.aload_n 1, 1) := by decide +kernel
theorem dX10_judge_7 : decode cX10_judge 7 = .ok (.iconst 0, 1) := by decide +kernel
theorem dX10_judge_8 : decode cX10_judge 8 = .ok (.aload_n 2, 1) := by decide +kernel
theorem dX10_judge_9 : decode cX10_judge 9 = .ok (.invokevirtual 142, 3) := by decide +kernel
theorem dX10_judge_12 : decode cX10_judge 12 = .ok (.aload_n 0, 1) := by decide +kernel
theorem dX10_judge_13 : decode cX10_judge 13 = .ok (.getfield 31, 3) := by decide +kernel
theorem dX10_judge_16 : decode cX10_judge 16 = .ok (.invokevirtual 120, 3) := by decide +kernel
theorem dX10_judge_19 : decode cX10_judge 19 = .ok (.aload_n 0, 1) := by decide +kernel
theorem dX10_judge_20 : decode cX10_judge 20 = .ok (.getfield 64, 3) := by decide +kernel
theorem dX10_judge_23 : decode cX10_judge 23 = .ok (.aload_n 0, 1) := by decide +kernel
theorem dX10_judge_24 : decode cX10_judge 24 = .ok (.getfield 43, 3) := by decide +kernel
theorem dX10_judge_27 : decode cX10_judge 27 = .ok (.aload_n 0, 1) := by decide +kernel
theorem dX10_judge_28 : decode cX10_judge 28 = .ok (.getfield 64, 3) := by decide +kernel
theorem dX10_judge_31 : decode cX10_judge 31 = .ok (.getfield 80, 3) := by decide +kernel
theorem dX10_judge_34 : decode cX10_judge 34 = .ok (.aload_n 0, 1) := by decide +kernel
theorem dX10_judge_35 : decode cX10_judge 35 = .ok (.getfield 34, 3) := by decide +kernel
theorem dX10_judge_38 : decode cX10_judge 38 = .ok (.invokevirtual 85, 3) := by decide +kernel
theorem dX10_judge_41 : decode cX10_judge 41 = .ok (.aload_n 0, 1) := by decide +kernel
theorem dX10_judge_42 : decode cX10_judge 42 = .ok (.getfield 64, 3) := by decide +kernel
theorem dX10_judge_45 : decode cX10_judge 45 = .ok (.aload_n 0, 1) := by decide +kernel
theorem dX10_judge_46 : decode cX10_judge 46 = .ok (.getfield 47, 3) := by decide +kernel
theorem dX10_judge_49 : decode cX10_judge 49 = .ok (.aload_n 0, 1) := by decide +kernel
theorem dX10_judge_50 : decode cX10_judge 50 = .ok (.getfield 47, 3) := by decide +kernel
theorem dX10_judge_53 : decode cX10_judge 53 = .ok (.aload_n 0, 1) := by decide +kernel
theorem dX10_judge_54 : decode cX10_judge 54 = .ok (.getfield 31, 3) := by decide +kernel
theorem dX10_judge_57 : decode cX10_judge 57 = .ok (.invokevirtual 85, 3) := by decide +kernel
theorem dX10_judge_60 : decode cX10_judge 60 = .ok (.aload_n 0, 1) := by decide +kernel
theorem dX10_judge_61 : decode cX10_judge 61 = .ok (.getfield 64, 3) := by decide +kernel
theorem dX10_judge_64 : decode cX10_judge 64 = .ok (.aload_n 0, 1) := by decide +kernel
theorem dX10_judge_65 : decode cX10_judge 65 = .ok (.getfield 43, 3) := by decide +kernel
theorem dX10_judge_68 : decode cX10_judge 68 = .ok (.aload_n 0, 1) := by decide +kernel
theorem dX10_judge_69 : decode cX10_judge 69 = .ok (.getfield 47, 3) := by decide +kernel
theorem dX10_judge_72 : decode cX10_judge 72 = .ok (.invokevirtual 157, 3) := by decide +kernel
theorem dX10_judge_75 : decode cX10_judge 75 = .ok (.aload_n 0, 1) := by decide +kernel
theorem dX10_judge_76 : decode cX10_judge 76 = .ok (.getfield 64, 3) := by decide +kernel
theorem dX10_judge_79 : decode cX10_judge 79 = .ok (.aload_n 0, 1) := by decide +kernel
theorem dX10_judge_80 : decode cX10_judge 80 = .ok (.getfield 43, 3) := by decide +kernel
theorem dX10_judge_83 : decode cX10_judge 83 = .ok (.invokevirtual 89, 3) := by decide +kernel
theorem dX10_judge_86 : decode cX10_judge 86 = .ok (.aload_n 0, 1) := by decide +kernel
theorem dX10_judge_87 : decode cX10_judge 87 = .ok (.getfield 43, 3) := by decide +kernel
theorem dX10_judge_90 : decode cX10_judge 90 = .ok (.getfield 161, 3) := by decide +kernel
theorem dX10_judge_93 : decode cX10_judge 93 = .ok (.ifCond .ne 37, 3) := by decide +kernel
theorem dX10_judge_96 : decode cX10_judge 96 = .ok (.aload_n 0, 1) := by decide +kernel
theorem dX10_judge_97 : decode cX10_judge 97 = .ok (.getfield 43, 3) := by decide +kernel
theorem dX10_judge_100 : decode cX10_judge 100 = .ok (.getfield 134, 3) := by decide +kernel
theorem dX10_judge_103 : decode cX10_judge 103 = .ok (.invokevirtual 137, 3) := by decide +kernel
theorem dX10_judge_106 : decode cX10_judge 106 = .ok (.ifCond .ne 24, 3) := by decide +kernel
theorem dX10_judge_109 : decode cX10_judge 109 = .ok (.aload_n 0, 1) := by decide +kernel
theorem dX10_judge_110 : decode cX10_judge 110 = .ok (.getfield 43, 3) := by decide +kernel
theorem dX10_judge_113 : decode cX10_judge 113 = .ok (.getfield 140, 3) := by decide +kernel
theorem dX10_judge_116 : decode cX10_judge 116 = .ok (.aload_n 0, 1) := by decide +kernel
theorem dX10_judge_117 : decode cX10_judge 117 = .ok (.getfield 53, 3) := by decide +kernel
theorem dX10_judge_120 : decode cX10_judge 120 = .ok (.invokevirtual 165, 3) := by decide +kernel
theorem dX10_judge_123 : decode cX10_judge 123 = .ok (.ifCond .eq 7, 3) := by decide +kernel
theorem dX10_judge_126 : decode cX10_judge 126 = .ok (.iconst 1, 1) := by decide +kernel
theorem dX10_judge_127 : decode cX10_judge 127 = .ok (.goto 4, 3) := by decide +kernel
theorem dX10_judge_130 : decode cX10_judge 130 = .ok (.iconst 0, 1) := by decide +kernel
theorem dX10_judge_131 : decode cX10_judge 131 = .ok (.ireturn, 1) := by decide +kernel
set_option maxRecDepth 20000 in
theorem ggX10_canJoin_X2_lift : GoodIn wsX10_canJoin wsX2_lift := goodIn_r _ [11, 12, 13, 14, 15, 16, 17, 18, 19, 20, 21, 22, 23, 24, 25, 26, 27, 28, 29, 30, 31, 32, 33, 34, 35, 36, 37, 38, 39, 40, 41, 42, 43, 44, 45, 46, 47, 48, 49, 50, 51, 52, 53, 54, 55, 56, 57, 58, 59, 60, 61, 62, 63, 64, 65, 66, 67, 68, 69, 70, 71, 72, 73, 74, 75, 76, 77, 78, 79, 80, 81, 82, 83, 84, 85, 86, 87, 88, 89, 90, 91, 92, 93, 94, 95, 96, 97, 98, 99, 100, 101, 102, 103, 104, 105, 106, 107, 108, 109, 110, 111, 112, 145, 146, 147, 148, 149, 150, 151, 152, 153, 154, 155, 156, 157, 158, 159, 160, 161, 162, 163, 164, 165, 166, 167, 168, 169, 170, 171, 172, 173, 174] rfl (by decide +kernel)
set_option maxRecDepth 20000 in
theorem gX10_canJoin_X2_lift : GoodIn wsX10_canJoin (wsV RX10 152 RX2 yX2_lift wsX2_lift) := goodIn_app (goodIn_of _ (by decide +kernel)) ggX10_canJoin_X2_lift
set_option maxRecDepth 20000 in
theorem ggX10_canJoin_X8_take : GoodIn wsX10_canJoin wsX8_take := goodIn_r _ [117, 118, 119, 26, 27, 28, 29, 30, 31, 32, 33, 34, 120, 121, 122, 116, 123, 124, 175, 158, 159] rfl (by decide +kernel)
set_option maxRecDepth 20000 in
theorem gX10_canJoin_X8_take : GoodIn wsX10_canJoin (wsV RX10 72 RX8 yX8_take wsX8_take) := goodIn_app (goodIn_of _ (by decide +kernel)) ggX10_canJoin_X8_take
theorem dX10_canJoin_0 : decode cX10_canJoin 0 = .ok (.aload_n 0, 1) := by decide +kernel
theorem dX10_canJoin_1 : decode cX10_canJoin 1 = .ok (.getfield 64, 3) := by decide +kernel
theorem dX10_canJoin_4 : decode cX10_canJoin 4 = .ok (.aload_n 1, 1) := by decide +kernel
theorem dX10_canJoin_5 : decode cX10_canJoin 5 = .ok (.getfield 169, 3) := by decide +kernel
theorem dX10_canJoin_8 : decode cX10_canJoin 8 = .ok (.aload_n 1, 1) := by decide +kernel
theorem dX10_canJoin_9 : decode cX10_canJoin 9 = .ok (.getfield 174, 3) := by decide +kernel
theorem dX10_canJoin_12 : decode cX10_canJoin 12 = .ok (.iconst 0, 1) := by decide +kernel
theorem dX10_canJoin_13 : decode cX10_canJoin 13 = .ok (.invokevirtual 152, 3) := by decide +kernel
theorem dX10_canJoin_16 : decode cX10_canJoin 16 = .ok (.ifCond .eq 42, 3) := by decide +kernel
theorem dX10_canJoin_19 : decode cX10_canJoin 19 = .ok (.aload_n 0, 1) := by decide +kernel
theorem dX10_canJoin_20 : decode cX10_canJoin 20 = .ok (.getfield 64, 3) := by decide +kernel
theorem dX10_canJoin_23 : decode cX10_canJoin 23 = .ok (.aload_n 1, 1) := by decide +kernel
theorem dX10_canJoin_24 : decode cX10_canJoin 24 = .ok (.getfield 177, 3) := by decide +kernel
theorem dX10_canJoin_27 : decode cX10_canJoin 27 = .ok (.aload_n 1, 1) := by decide +kernel
theorem dX10_canJoin_28 : decode cX10_canJoin 28 = .ok (.getfield 180, 3) := by decide +kernel
theorem dX10_canJoin_31 : decode cX10_canJoin 31 = .ok (.iconst 0, 1) := by decide +kernel
theorem dX10_canJoin_32 : decode cX10_canJoin 32 = .ok (.invokevirtual 152, 3) := by decide +kernel
theorem dX10_canJoin_35 : decode cX10_canJoin 35 = .ok (.ifCond .eq 23, 3) := by decide +kernel
theorem dX10_canJoin_38 : decode cX10_canJoin 38 = .ok (.aload_n 1, 1) := by decide +kernel
theorem dX10_canJoin_39 : decode cX10_canJoin 39 = .ok (.getfield 183, 3) := by decide +kernel
theorem dX10_canJoin_42 : decode cX10_canJoin 42 = .ok (.aload_n 1, 1) := by decide +kernel
theorem dX10_canJoin_43 : decode cX10_canJoin 43 = .ok (.getfield 180, 3) := by decide +kernel
theorem dX10_canJoin_46 : decode cX10_canJoin 46 = .ok (.bipush 32, 2) := by decide +kernel
theorem dX10_canJoin_48 : decode cX10_canJoin 48 = .ok (.invokevirtual 72, 3) := by decide +kernel
theorem dX10_canJoin_51 : decode cX10_canJoin 51 = .ok (.ifCond .eq 7, 3) := by decide +kernel
theorem dX10_canJoin_54 : decode cX10_canJoin 54 = .ok (.iconst 1, 1) := by decide +kernel
theorem dX10_canJoin_55 : decode cX10_canJoin 55 = .ok (.goto 4, 3) := by decide +kernel
theorem dX10_canJoin_58 : decode cX10_canJoin 58 = .ok (.iconst 0, 1) := by decide +kernel
theorem dX10_canJoin_59 : decode cX10_canJoin 59 = .ok (.ireturn, 1) := by decide +kernel
set_option maxRecDepth 20000 in
theorem ggX10_judgeMany_X8_becomeNumber : GoodIn wsX10_judgeMany wsX8_becomeNumber := goodIn_r _ [20, 21, 22, 307] rfl (by decide +kernel)
set_option maxRecDepth 20000 in
theorem gX10_judgeMany_X8_becomeNumber : GoodIn wsX10_judgeMany (wsV RX10 184 RX8 yX8_becomeNumber wsX8_becomeNumber) := goodIn_app (goodIn_of _ (by decide +kernel)) ggX10_judgeMany_X8_becomeNumber
set_option maxRecDepth 20000 in
theorem ggX10_judgeMany_X8_product : GoodIn wsX10_judgeMany wsX8_product := goodIn_r _ [26, 21, 27, 17, 18, 19, 20, 22, 28, 29, 30, 31, 32, 33, 34, 35, 36, 37, 38, 39, 40, 41, 307] rfl (by decide +kernel)
set_option maxRecDepth 20000 in
theorem gX10_judgeMany_X8_product : GoodIn wsX10_judgeMany (wsV RX10 146 RX8 yX8_product wsX8_product) := goodIn_app (goodIn_of _ (by decide +kernel)) ggX10_judgeMany_X8_product
set_option maxRecDepth 20000 in
theorem ggX10_judgeMany_X8_sum : GoodIn wsX10_judgeMany wsX8_sum := goodIn_r _ [45, 21, 22, 28, 29, 30, 19, 31, 32, 33, 34, 35, 36, 37, 38, 39, 40, 41, 307] rfl (by decide +kernel)
set_option maxRecDepth 20000 in
theorem gX10_judgeMany_X8_sum : GoodIn wsX10_judgeMany (wsV RX10 149 RX8 yX8_sum wsX8_sum) := goodIn_app (goodIn_of _ (by decide +kernel)) ggX10_judgeMany_X8_sum
set_option maxRecDepth 20000 in
theorem ggX10_judgeMany_X2_times : GoodIn wsX10_judgeMany wsX2_times := goodIn_r _ [50, 51, 52, 53, 54, 55, 56, 57, 58, 59, 60, 61, 62, 63, 64, 65, 66, 67, 68, 69, 70, 71, 72, 73, 74, 75, 76, 77, 78, 49, 79, 80, 81, 82, 83, 84, 85, 86, 87, 88, 89, 90, 91, 92, 93, 94, 95, 96, 97, 98, 99, 100, 101, 102, 103, 104, 105, 106, 107, 108, 109, 110, 111, 112, 113, 114, 115, 116, 117, 118, 119, 120, 121, 122, 123, 124, 125, 126, 127, 128, 129, 130, 131, 19, 132, 21, 298, 299, 300, 301, 302, 303, 304, 305, 306, 287, 288, 289, 290, 308, 309, 310, 311, 312, 313, 314, 315, 316, 307] rfl (by decide +kernel)
set_option maxRecDepth 20000 in
theorem gX10_judgeMany_X2_times : GoodIn wsX10_judgeMany (wsV RX10 85 RX2 yX2_times wsX2_times) := goodIn_app (goodIn_of _ (by decide +kernel)) ggX10_judgeMany_X2_times
set_option maxRecDepth 20000 in
theorem ggX10_judgeMany_X2_plus : GoodIn wsX10_judgeMany wsX2_plus := goodIn_r _ [79, 52, 80, 81, 82, 83, 84, 85, 86, 87, 53, 54, 55, 56, 57, 58, 59, 60, 61, 62, 63, 64, 65, 66, 67, 68, 69, 70, 71, 72, 73, 74, 75, 88, 89, 90, 91, 92, 93, 94, 95, 96, 97, 98, 99, 100, 101, 102, 103, 104, 105, 106, 107, 108, 109, 110, 111, 112, 113, 114, 115, 116, 117, 118, 119, 120, 121, 122, 123, 49, 124, 125, 126, 127, 128, 287, 288, 289, 290, 298, 299, 300, 301, 302, 303, 304, 305, 306, 308, 309, 310, 311, 312, 313, 314, 315, 316] rfl (by decide +kernel)
set_option maxRecDepth 20000 in
theorem gX10_judgeMany_X2_plus : GoodIn wsX10_judgeMany (wsV RX10 157 RX2 yX2_plus wsX2_plus) := goodIn_app (goodIn_of _ (by decide +kernel)) ggX10_judgeMany_X2_plus
set_option maxRecDepth 20000 in
theorem ggX10_judgeMany_X10_challenge : GoodIn wsX10_judgeMany wsX10_challenge := goodIn_r _ [138, 139, 140, 141, 142, 143, 144, 145, 146, 147, 148, 149, 150, 151, 152, 153, 154, 155, 156, 157, 158, 159, 160, 161, 162, 163, 164, 165, 166, 167, 168, 169, 170, 171, 172, 173, 174, 175, 176, 177, 178, 179, 180, 181, 182, 183, 184, 185, 186, 187, 188, 189, 190, 191, 192, 193, 194, 195, 196, 197, 198, 199, 200, 201, 202, 203, 204, 205, 206, 207, 208, 209, 210, 211, 212, 213, 214, 215, 216, 217, 218, 219, 220, 221, 222, 223, 224, 225, 226, 227, 228, 229, 230, 231, 232, 233, 234, 235, 236, 237, 238, 239, 240, 241, 242, 243, 244, 245, 246, 247, 248, 249, 250, 251, 252, 253, 254, 255, 19, 256, 257, 258, 259, 260, 21, 261, 262, 263, 264, 265, 37, 38, 39, 40, 41, 28, 29, 30, 31, 32, 33, 34, 35, 36, 22, 274, 275, 276, 277, 278, 279, 280, 281, 282, 283, 284, 285, 286, 317, 318, 319, 320, 321, 322, 307] rfl (by decide +kernel)
set_option maxRecDepth 20000 in
theorem gX10_judgeMany_X10_challenge : GoodIn wsX10_judgeMany (wsV RX10 142 RX10 yX10_challenge wsX10_challenge) := goodIn_app (goodIn_of _ (by decide +kernel)) ggX10_judgeMany_X10_challenge
set_option maxRecDepth 20000 in
theorem ggX10_judgeMany_X8_negate : GoodIn wsX10_judgeMany wsX8_negate := goodIn_r _ [269, 41, 21, 22, 270, 271, 272, 19, 273, 307] rfl (by decide +kernel)
set_option maxRecDepth 20000 in
theorem gX10_judgeMany_X8_negate : GoodIn wsX10_judgeMany (wsV RX10 120 RX8 yX8_negate wsX8_negate) := goodIn_app (goodIn_of _ (by decide +kernel)) ggX10_judgeMany_X8_negate
theorem dX10_judgeMany_0 : decode cX10_judgeMany 0 = .ok (.aload_n 0, 1) := by decide +kernel
theorem dX10_judgeMany_1 : decode cX10_judgeMany 1 = .ok (.getfield 43, 3) := by decide +kernel
theorem dX10_judgeMany_4 : decode cX10_judgeMany 4 = .ok (.iconst 1, 1) := by decide +kernel
theorem dX10_judgeMany_5 : decode cX10_judgeMany 5 = .ok (.putfield 161, 3) := by decide +kernel
theorem dX10_judgeMany_8 : decode cX10_judgeMany 8 = .ok (.aload_n 0, 1) := by decide +kernel
theorem dX10_judgeMany_9 : decode cX10_judgeMany 9 = .ok (.getfield 34, 3) := by decide +kernel
theorem dX10_judgeMany_12 : decode cX10_judgeMany 12 = .ok (.lconst 0, 1) := by decide +kernel
theorem dX10_judgeMany_13 : decode cX10_judgeMany 13 = .ok (.invokevirtual 184, 3) := by decide +kernel
theorem dX10_judgeMany_16 : decode cX10_judgeMany 16 = .ok (.iconst 0, 1) := by decide +kernel
theorem dX10_judgeMany_17 : decode cX10_judgeMany 17 = .ok (.istore_n 3, 1) := by decide +kernel
theorem dX10_judgeMany_18 : decode cX10_judgeMany 18 = .ok (.iload_n 3, 1) := by decide +kernel
theorem dX10_judgeMany_19 : decode cX10_judgeMany 19 = .ok (.iload_n 2, 1) := by decide +kernel
theorem dX10_judgeMany_20 : decode cX10_judgeMany 20 = .ok (.if_icmp .ge 163, 3) := by decide +kernel
theorem dX10_judgeMany_23 : decode cX10_judgeMany 23 = .ok (.iload_n 3, 1) := by decide +kernel
theorem dX10_judgeMany_24 : decode cX10_judgeMany 24 = .ok (.aload_n 1, 1) := by decide +kernel
theorem dX10_judgeMany_25 : decode cX10_judgeMany 25 = .ok (.arraylength, 1) := by decide +kernel
theorem dX10_judgeMany_26 : decode cX10_judgeMany 26 = .ok (.if_icmp .ge 157, 3) := by decide +kernel
theorem dX10_judgeMany_29 : decode cX10_judgeMany 29 = .ok (.aload_n 1, 1) := by decide +kernel
theorem dX10_judgeMany_30 : decode cX10_judgeMany 30 = .ok (.iload_n 3, 1) := by decide +kernel
theorem dX10_judgeMany_31 : decode cX10_judgeMany 31 = .ok (.aaload, 1) := by decide +kernel
theorem dX10_judgeMany_32 : decode cX10_judgeMany 32 = .ok (.astore 4, 2) := by decide +kernel
theorem dX10_judgeMany_34 : decode cX10_judgeMany 34 = .ok (.aload_n 0, 1) := by decide +kernel
theorem dX10_judgeMany_35 : decode cX10_judgeMany 35 = .ok (.getfield 37, 3) := by decide +kernel
theorem dX10_judgeMany_38 : decode cX10_judgeMany 38 = .ok (.aload 4, 2) := by decide +kernel
theorem dX10_judgeMany_40 : decode cX10_judgeMany 40 = .ok (.getfield 188, 3) := by decide +kernel
theorem dX10_judgeMany_43 : decode cX10_judgeMany 43 = .ok (.aload 4, 2) := by decide +kernel
theorem dX10_judgeMany_45 : decode cX10_judgeMany 45 = .ok (.getfield 183, 3) := by decide +kernel
theorem dX10_judgeMany_48 : decode cX10_judgeMany 48 = .ok (.invokevirtual 146, 3) := by decide +kernel
theorem dX10_judgeMany_51 : decode cX10_judgeMany 51 = .ok (.aload_n 0, 1) := by decide +kernel
theorem dX10_judgeMany_52 : decode cX10_judgeMany 52 = .ok (.getfield 34, 3) := by decide +kernel
theorem dX10_judgeMany_55 : decode cX10_judgeMany 55 = .ok (.aload_n 0, 1) := by decide +kernel
theorem dX10_judgeMany_56 : decode cX10_judgeMany 56 = .ok (.getfield 34, 3) := by decide +kernel
theorem dX10_judgeMany_59 : decode cX10_judgeMany 59 = .ok (.aload_n 0, 1) := by decide +kernel
theorem dX10_judgeMany_60 : decode cX10_judgeMany 60 = .ok (.getfield 37, 3) := by decide +kernel
theorem dX10_judgeMany_63 : decode cX10_judgeMany 63 = .ok (.invokevirtual 149, 3) := by decide +kernel
theorem dX10_judgeMany_66 : decode cX10_judgeMany 66 = .ok (.aload_n 0, 1) := by decide +kernel
theorem dX10_judgeMany_67 : decode cX10_judgeMany 67 = .ok (.getfield 64, 3) := by decide +kernel
theorem dX10_judgeMany_70 : decode cX10_judgeMany 70 = .ok (.aload_n 0, 1) := by decide +kernel
theorem dX10_judgeMany_71 : decode cX10_judgeMany 71 = .ok (.getfield 47, 3) := by decide +kernel
theorem dX10_judgeMany_74 : decode cX10_judgeMany 74 = .ok (.aload 4, 2) := by decide +kernel
theorem dX10_judgeMany_76 : decode cX10_judgeMany 76 = .ok (.getfield 177, 3) := by decide +kernel
theorem dX10_judgeMany_79 : decode cX10_judgeMany 79 = .ok (.aload 4, 2) := by decide +kernel
theorem dX10_judgeMany_81 : decode cX10_judgeMany 81 = .ok (.getfield 188, 3) := by decide +kernel
theorem dX10_judgeMany_84 : decode cX10_judgeMany 84 = .ok (.invokevirtual 85, 3) := by decide +kernel
theorem dX10_judgeMany_87 : decode cX10_judgeMany 87 = .ok (.aload_n 0, 1) := by decide +kernel
theorem dX10_judgeMany_88 : decode cX10_judgeMany 88 = .ok (.getfield 64, 3) := by decide +kernel
theorem dX10_judgeMany_91 : decode cX10_judgeMany 91 = .ok (.aload_n 0, 1) := by decide +kernel
theorem dX10_judgeMany_92 : decode cX10_judgeMany 92 = .ok (.getfield 43, 3) := by decide +kernel
theorem dX10_judgeMany_95 : decode cX10_judgeMany 95 = .ok (.aload_n 0, 1) := by decide +kernel
theorem dX10_judgeMany_96 : decode cX10_judgeMany 96 = .ok (.getfield 47, 3) := by decide +kernel
theorem dX10_judgeMany_99 : decode cX10_judgeMany 99 = .ok (.invokevirtual 157, 3) := by decide +kernel
theorem dX10_judgeMany_102 : decode cX10_judgeMany 102 = .ok (.aload_n 0, 1) := by decide +kernel
theorem dX10_judgeMany_103 : decode cX10_judgeMany 103 = .ok (.aload_n 0, 1) := by decide +kernel
theorem dX10_judgeMany_104 : decode cX10_judgeMany 104 = .ok (.getfield 31, 3) := by decide +kernel
theorem dX10_judgeMany_107 : decode cX10_judgeMany 107 = .ok (.aload 4, 2) := by decide +kernel
theorem dX10_judgeMany_109 : decode cX10_judgeMany 109 = .ok (.getfield 180, 3) := by decide +kernel
theorem dX10_judgeMany_112 : decode cX10_judgeMany 112 = .ok (.aload 4, 2) := by decide +kernel
theorem dX10_judgeMany_114 : decode cX10_judgeMany 114 = .ok (.getfield 174, 3) := by decide +kernel
theorem dX10_judgeMany_117 : decode cX10_judgeMany 117 = .ok (.iconst 0, 1) := by decide +kernel
theorem dX10_judgeMany_118 : decode cX10_judgeMany 118 = .ok (.aload 4, 2) := by decide +kernel
theorem dX10_judgeMany_120 : decode cX10_judgeMany 120 = .ok (.getfield 191, 3) := by decide +kernel
theorem dX10_judgeMany_123 : decode cX10_judgeMany 123 = .ok (.invokevirtual 142, 3) := by decide +kernel
theorem dX10_judgeMany_126 : decode cX10_judgeMany 126 = .ok (.aload_n 0, 1) := by decide +kernel
theorem dX10_judgeMany_127 : decode cX10_judgeMany 127 = .ok (.getfield 37, 3) := by decide +kernel
theorem dX10_judgeMany_130 : decode cX10_judgeMany 130 = .ok (.aload 4, 2) := by decide +kernel
theorem dX10_judgeMany_132 : decode cX10_judgeMany 132 = .ok (.getfield 188, 3) := by decide +kernel
theorem dX10_judgeMany_135 : decode cX10_judgeMany 135 = .ok (.aload_n 0, 1) := by decide +kernel
theorem dX10_judgeMany_136 : decode cX10_judgeMany 136 = .ok (.getfield 31, 3) := by decide +kernel
theorem dX10_judgeMany_139 : decode cX10_judgeMany 139 = .ok (.invokevirtual 146, 3) := by decide +kernel
theorem dX10_judgeMany_142 : decode cX10_judgeMany 142 = .ok (.aload_n 0, 1) := by decide +kernel
theorem dX10_judgeMany_143 : decode cX10_judgeMany 143 = .ok (.getfield 64, 3) := by decide +kernel
theorem dX10_judgeMany_146 : decode cX10_judgeMany 146 = .ok (.aload_n 0, 1) := by decide +kernel
theorem dX10_judgeMany_147 : decode cX10_judgeMany 147 = .ok (.getfield 47, 3) := by decide +kernel
theorem dX10_judgeMany_150 : decode cX10_judgeMany 150 = .ok (.aload 4, 2) := by decide +kernel
theorem dX10_judgeMany_152 : decode cX10_judgeMany 152 = .ok (.getfield 169, 3) := by decide +kernel
theorem dX10_judgeMany_155 : decode cX10_judgeMany 155 = .ok (.aload_n 0, 1) := by decide +kernel
theorem dX10_judgeMany_156 : decode cX10_judgeMany 156 = .ok (.getfield 37, 3) := by decide +kernel
theorem dX10_judgeMany_159 : decode cX10_judgeMany 159 = .ok (.invokevirtual 85, 3) := by decide +kernel
theorem dX10_judgeMany_162 : decode cX10_judgeMany 162 = .ok (.aload_n 0, 1) := by decide +kernel
theorem dX10_judgeMany_163 : decode cX10_judgeMany 163 = .ok (.getfield 64, 3) := by decide +kernel
theorem dX10_judgeMany_166 : decode cX10_judgeMany 166 = .ok (.aload_n 0, 1) := by decide +kernel
theorem dX10_judgeMany_167 : decode cX10_judgeMany 167 = .ok (.getfield 43, 3) := by decide +kernel
theorem dX10_judgeMany_170 : decode cX10_judgeMany 170 = .ok (.aload_n 0, 1) := by decide +kernel
theorem dX10_judgeMany_171 : decode cX10_judgeMany 171 = .ok (.getfield 47, 3) := by decide +kernel
theorem dX10_judgeMany_174 : decode cX10_judgeMany 174 = .ok (.invokevirtual 157, 3) := by decide +kernel
theorem dX10_judgeMany_177 : decode cX10_judgeMany 177 = .ok (.iinc 3 1, 3) := by decide +kernel
theorem dX10_judgeMany_180 : decode cX10_judgeMany 180 = .ok (.goto (-162), 3) := by decide +kernel
theorem dX10_judgeMany_183 : decode cX10_judgeMany 183 = .ok (.aload_n 0, 1) := by decide +kernel
theorem dX10_judgeMany_184 : decode cX10_judgeMany 184 = .ok (.getfield 34, 3) := by decide +kernel
theorem dX10_judgeMany_187 : decode cX10_judgeMany 187 = .ok (.invokevirtual 120, 3) := by decide +kernel
theorem dX10_judgeMany_190 : decode cX10_judgeMany 190 = .ok (.aload_n 0, 1) := by decide +kernel
theorem dX10_judgeMany_191 : decode cX10_judgeMany 191 = .ok (.getfield 64, 3) := by decide +kernel
theorem dX10_judgeMany_194 : decode cX10_judgeMany 194 = .ok (.aload_n 0, 1) := by decide +kernel
theorem dX10_judgeMany_195 : decode cX10_judgeMany 195 = .ok (.getfield 47, 3) := by decide +kernel
theorem dX10_judgeMany_198 : decode cX10_judgeMany 198 = .ok (.aload_n 0, 1) := by decide +kernel
theorem dX10_judgeMany_199 : decode cX10_judgeMany 199 = .ok (.getfield 64, 3) := by decide +kernel
theorem dX10_judgeMany_202 : decode cX10_judgeMany 202 = .ok (.getfield 80, 3) := by decide +kernel
theorem dX10_judgeMany_205 : decode cX10_judgeMany 205 = .ok (.aload_n 0, 1) := by decide +kernel
theorem dX10_judgeMany_206 : decode cX10_judgeMany 206 = .ok (.getfield 34, 3) := by decide +kernel
theorem dX10_judgeMany_209 : decode cX10_judgeMany 209 = .ok (.invokevirtual 85, 3) := by decide +kernel
theorem dX10_judgeMany_212 : decode cX10_judgeMany 212 = .ok (.aload_n 0, 1) := by decide +kernel
theorem dX10_judgeMany_213 : decode cX10_judgeMany 213 = .ok (.getfield 64, 3) := by decide +kernel
theorem dX10_judgeMany_216 : decode cX10_judgeMany 216 = .ok (.aload_n 0, 1) := by decide +kernel
theorem dX10_judgeMany_217 : decode cX10_judgeMany 217 = .ok (.getfield 43, 3) := by decide +kernel
theorem dX10_judgeMany_220 : decode cX10_judgeMany 220 = .ok (.aload_n 0, 1) := by decide +kernel
theorem dX10_judgeMany_221 : decode cX10_judgeMany 221 = .ok (.getfield 47, 3) := by decide +kernel
theorem dX10_judgeMany_224 : decode cX10_judgeMany 224 = .ok (.invokevirtual 157, 3) := by decide +kernel
theorem dX10_judgeMany_227 : decode cX10_judgeMany 227 = .ok (.aload_n 0, 1) := by decide +kernel
theorem dX10_judgeMany_228 : decode cX10_judgeMany 228 = .ok (.getfield 43, 3) := by decide +kernel
theorem dX10_judgeMany_231 : decode cX10_judgeMany 231 = .ok (.getfield 161, 3) := by decide +kernel
theorem dX10_judgeMany_234 : decode cX10_judgeMany 234 = .ok (.ireturn, 1) := by decide +kernel
