set_option maxRecDepth 20000 in
theorem ggX11_init_X0_init : GoodIn wsX11_init wsX0_init := goodIn_r _ [32, 33, 2, 3, 34, 35, 36, 37, 38, 39, 40, 225, 226] rfl (by decide +kernel)
set_option maxRecDepth 20000 in
theorem gX11_init_X0_init : GoodIn wsX11_init (wsX0_init) := ggX11_init_X0_init
set_option maxRecDepth 20000 in
theorem ggX11_init_X9_init : GoodIn wsX11_init wsX9_init := goodIn_r _ [42, 43, 2, 3, 44, 45, 46, 47, 6, 7, 48, 49, 50, 31, 32, 33, 34, 35, 36, 37, 38, 39, 40, 227, 228, 229, 230, 225, 226] rfl (by decide +kernel)
set_option maxRecDepth 20000 in
theorem gX11_init_X9_init_n24 : GoodIn wsX11_init (wsX9_init) := ggX11_init_X9_init
set_option maxRecDepth 20000 in
theorem ggX11_init_X2_init : GoodIn wsX11_init wsX2_init := goodIn_r _ [53, 54, 2, 3, 55, 56, 57, 58, 59, 60, 61, 62, 63, 64, 65, 66, 67, 68, 69, 70, 71, 72, 73, 74, 75, 76, 77, 78, 79, 80, 81, 82, 83, 84, 85, 86, 87, 88, 89, 90, 91, 92, 93, 94, 95, 96, 97, 98, 99, 100, 101, 102, 103, 104, 105, 106, 107, 108, 109, 110, 111, 112, 113, 114, 115, 116, 117, 118, 119, 120, 121, 122, 123, 280, 281, 282, 283, 244, 245, 246, 247, 248, 249, 250, 251, 252, 284, 285, 286, 287, 288, 289, 290, 291, 292, 293, 294, 295, 296, 297, 298] rfl (by decide +kernel)
set_option maxRecDepth 20000 in
theorem gX11_init_X2_init : GoodIn wsX11_init (wsX2_init) := ggX11_init_X2_init
set_option maxRecDepth 20000 in
theorem ggX11_init_X10_init : GoodIn wsX11_init wsX10_init := goodIn_r _ [126, 127, 2, 3, 128, 129, 130, 131, 132, 6, 7, 133, 134, 135, 136, 137, 138, 139, 56, 57, 140, 141, 142, 65, 66, 143, 144, 145, 146, 147, 148, 149, 150, 151, 152, 31, 32, 33, 34, 35, 36, 37, 38, 39, 40, 85, 86, 87, 88, 89, 90, 91, 92, 93, 94, 95, 299, 231, 232, 233, 234, 235, 236, 237, 238, 239, 240, 241, 242, 243, 225, 226, 280, 281, 282, 283, 290, 291, 292, 293, 294, 295, 296, 297, 298] rfl (by decide +kernel)
set_option maxRecDepth 20000 in
theorem gX11_init_X10_init : GoodIn wsX11_init (wsX10_init) := ggX11_init_X10_init
set_option maxRecDepth 20000 in
theorem ggX11_init_X4_init : GoodIn wsX11_init wsX4_init := goodIn_r _ [155, 156, 2, 3, 157, 158, 159, 6, 7, 160, 161, 162, 163, 164, 165, 166, 167, 129, 130, 168, 169, 170, 171, 172, 173, 56, 57, 174, 175, 176, 177, 178, 179, 180, 181, 182, 183, 184, 31, 32, 33, 34, 35, 36, 37, 38, 39, 40, 147, 148, 149, 150, 151, 85, 86, 87, 88, 65, 66, 89, 90, 91, 92, 93, 94, 95, 185, 186, 187, 188, 189, 190, 191, 192, 193, 194, 195, 196, 197, 198, 199, 200, 201, 202, 253, 254, 255, 256, 257, 258, 259, 260, 261, 262, 263, 264, 265, 266, 267, 268, 269, 270, 271, 272, 225, 226, 299, 280, 281, 282, 283, 231, 232, 233, 234, 235, 236, 237, 238, 239, 240, 241, 242, 243, 300, 301, 302, 303, 304, 305, 306, 307, 308, 309, 310, 290, 291, 292, 293, 294, 295, 296, 297, 298] rfl (by decide +kernel)
set_option maxRecDepth 20000 in
theorem gX11_init_X4_init : GoodIn wsX11_init (wsX4_init) := ggX11_init_X4_init
set_option maxRecDepth 20000 in
theorem ggX11_init_X3_init : GoodIn wsX11_init wsX3_init := goodIn_r _ [204, 205, 2, 3, 206, 6, 7, 207, 208, 209, 210, 129, 130, 211, 212, 213, 56, 57, 214, 215, 216, 31, 32, 33, 34, 35, 36, 37, 38, 39, 40, 147, 148, 149, 150, 151, 85, 86, 87, 88, 65, 66, 89, 90, 91, 92, 93, 94, 95, 225, 226, 273, 274, 275, 276, 277, 278, 279, 299, 280, 281, 282, 283, 290, 291, 292, 293, 294, 295, 296, 297, 298] rfl (by decide +kernel)
set_option maxRecDepth 20000 in
theorem gX11_init_X3_init_n63 : GoodIn wsX11_init (wsX3_init) := ggX11_init_X3_init
theorem dX11_init_0 : decode cX11_init 0 = .ok (.aload_n 0, 1) := by decide +kernel
theorem dX11_init_1 : decode cX11_init 1 = .ok (.invokespecial 1, 3) := by decide +kernel
theorem dX11_init_4 : decode cX11_init 4 = .ok (.aload_n 0, 1) := by decide +kernel
theorem dX11_init_5 : decode cX11_init 5 = .ok (.bipush 16, 2) := by decide +kernel
theorem dX11_init_7 : decode cX11_init 7 = .ok (.anewarray 9, 3) := by decide +kernel
theorem dX11_init_10 : decode cX11_init 10 = .ok (.putfield 11, 3) := by decide +kernel
theorem dX11_init_13 : decode cX11_init 13 = .ok (.aload_n 0, 1) := by decide +kernel
theorem dX11_init_14 : decode cX11_init 14 = .ok (.new 9, 3) := by decide +kernel
theorem dX11_init_17 : decode cX11_init 17 = .ok (.dup, 1) := by decide +kernel
theorem dX11_init_18 : decode cX11_init 18 = .ok (.bipush 100, 2) := by decide +kernel
theorem dX11_init_20 : decode cX11_init 20 = .ok (.invokespecial 15, 3) := by decide +kernel
theorem dX11_init_23 : decode cX11_init 23 = .ok (.putfield 18, 3) := by decide +kernel
theorem dX11_init_26 : decode cX11_init 26 = .ok (.aload_n 0, 1) := by decide +kernel
theorem dX11_init_27 : decode cX11_init 27 = .ok (.new 22, 3) := by decide +kernel
theorem dX11_init_30 : decode cX11_init 30 = .ok (.dup, 1) := by decide +kernel
theorem dX11_init_31 : decode cX11_init 31 = .ok (.invokespecial 24, 3) := by decide +kernel
theorem dX11_init_34 : decode cX11_init 34 = .ok (.putfield 25, 3) := by decide +kernel
theorem dX11_init_37 : decode cX11_init 37 = .ok (.aload_n 0, 1) := by decide +kernel
theorem dX11_init_38 : decode cX11_init 38 = .ok (.new 29, 3) := by decide +kernel
theorem dX11_init_41 : decode cX11_init 41 = .ok (.dup, 1) := by decide +kernel
theorem dX11_init_42 : decode cX11_init 42 = .ok (.aload_n 0, 1) := by decide +kernel
theorem dX11_init_43 : decode cX11_init 43 = .ok (.getfield 25, 3) := by decide +kernel
theorem dX11_init_46 : decode cX11_init 46 = .ok (.new 31, 3) := by decide +kernel
theorem dX11_init_49 : decode cX11_init 49 = .ok (.dup, 1) := by decide +kernel
theorem dX11_init_50 : decode cX11_init 50 = .ok (.invokespecial 33, 3) := by decide +kernel
theorem dX11_init_53 : decode cX11_init 53 = .ok (.invokespecial 34, 3) := by decide +kernel
theorem dX11_init_56 : decode cX11_init 56 = .ok (.putfield 37, 3) := by decide +kernel
theorem dX11_init_59 : decode cX11_init 59 = .ok (.aload_n 0, 1) := by decide +kernel
theorem dX11_init_60 : decode cX11_init 60 = .ok (.new 41, 3) := by decide +kernel
theorem dX11_init_63 : decode cX11_init 63 = .ok (.dup, 1) := by decide +kernel
theorem dX11_init_64 : decode cX11_init 64 = .ok (.aload_n 0, 1) := by decide +kernel
theorem dX11_init_65 : decode cX11_init 65 = .ok (.getfield 25, 3) := by decide +kernel
theorem dX11_init_68 : decode cX11_init 68 = .ok (.aload_n 0, 1) := by decide +kernel
theorem dX11_init_69 : decode cX11_init 69 = .ok (.getfield 37, 3) := by decide +kernel
theorem dX11_init_72 : decode cX11_init 72 = .ok (.invokespecial 43, 3) := by decide +kernel
theorem dX11_init_75 : decode cX11_init 75 = .ok (.putfield 46, 3) := by decide +kernel
theorem dX11_init_78 : decode cX11_init 78 = .ok (.aload_n 0, 1) := by decide +kernel
theorem dX11_init_79 : decode cX11_init 79 = .ok (.iconst 4, 1) := by decide +kernel
theorem dX11_init_80 : decode cX11_init 80 = .ok (.anewarray 50, 3) := by decide +kernel
theorem dX11_init_83 : decode cX11_init 83 = .ok (.putfield 52, 3) := by decide +kernel
theorem dX11_init_86 : decode cX11_init 86 = .ok (.aload_n 0, 1) := by decide +kernel
theorem dX11_init_87 : decode cX11_init 87 = .ok (.iconst 0, 1) := by decide +kernel
theorem dX11_init_88 : decode cX11_init 88 = .ok (.putfield 56, 3) := by decide +kernel
theorem dX11_init_91 : decode cX11_init 91 = .ok (.aload_n 0, 1) := by decide +kernel
theorem dX11_init_92 : decode cX11_init 92 = .ok (.iconst 0, 1) := by decide +kernel
theorem dX11_init_93 : decode cX11_init 93 = .ok (.putfield 60, 3) := by decide +kernel
theorem dX11_init_96 : decode cX11_init 96 = .ok (.iconst 0, 1) := by decide +kernel
theorem dX11_init_97 : decode cX11_init 97 = .ok (.istore_n 1, 1) := by decide +kernel
theorem dX11_init_98 : decode cX11_init 98 = .ok (.iload_n 1, 1) := by decide +kernel
theorem dX11_init_99 : decode cX11_init 99 = .ok (.bipush 16, 2) := by decide +kernel
theorem dX11_init_101 : decode cX11_init 101 = .ok (.if_icmp .ge 24, 3) := by decide +kernel
theorem dX11_init_104 : decode cX11_init 104 = .ok (.aload_n 0, 1) := by decide +kernel
theorem dX11_init_105 : decode cX11_init 105 = .ok (.getfield 11, 3) := by decide +kernel
theorem dX11_init_108 : decode cX11_init 108 = .ok (.iload_n 1, 1) := by decide +kernel
theorem dX11_init_109 : decode cX11_init 109 = .ok (.new 9, 3) := by decide +kernel
theorem dX11_init_112 : decode cX11_init 112 = .ok (.dup, 1) := by decide +kernel
theorem dX11_init_113 : decode cX11_init 113 = .ok (.bipush 100, 2) := by decide +kernel
theorem dX11_init_115 : decode cX11_init 115 = .ok (.invokespecial 15, 3) := by decide +kernel
theorem dX11_init_118 : decode cX11_init 118 = .ok (.aastore, 1) := by decide +kernel
theorem dX11_init_119 : decode cX11_init 119 = .ok (.iinc 1 1, 3) := by decide +kernel
theorem dX11_init_122 : decode cX11_init 122 = .ok (.goto (-24), 3) := by decide +kernel
theorem dX11_init_125 : decode cX11_init 125 = .ok (.iconst 0, 1) := by decide +kernel
theorem dX11_init_126 : decode cX11_init 126 = .ok (.istore_n 1, 1) := by decide +kernel
theorem dX11_init_127 : decode cX11_init 127 = .ok (.iload_n 1, 1) := by decide +kernel
theorem dX11_init_128 : decode cX11_init 128 = .ok (.iconst 4, 1) := by decide +kernel
theorem dX11_init_129 : decode cX11_init 129 = .ok (.if_icmp .ge 22, 3) := by decide +kernel
theorem dX11_init_132 : decode cX11_init 132 = .ok (.aload_n 0, 1) := by decide +kernel
theorem dX11_init_133 : decode cX11_init 133 = .ok (.getfield 52, 3) := by decide +kernel
theorem dX11_init_136 : decode cX11_init 136 = .ok (.iload_n 1, 1) := by decide +kernel
theorem dX11_init_137 : decode cX11_init 137 = .ok (.new 50, 3) := by decide +kernel
theorem dX11_init_140 : decode cX11_init 140 = .ok (.dup, 1) := by decide +kernel
theorem dX11_init_141 : decode cX11_init 141 = .ok (.invokespecial 63, 3) := by decide +kernel
theorem dX11_init_144 : decode cX11_init 144 = .ok (.aastore, 1) := by decide +kernel
theorem dX11_init_145 : decode cX11_init 145 = .ok (.iinc 1 1, 3) := by decide +kernel
theorem dX11_init_148 : decode cX11_init 148 = .ok (.goto (-21), 3) := by decide +kernel
theorem dX11_init_151 : decode cX11_init 151 = .ok (.return_, 1) := by decide +kernel
set_option maxRecDepth 20000 in
theorem ggX11_put_X11_isRow : GoodIn wsX11_put wsX11_isRow := goodIn_r _ [6] rfl (by decide +kernel)
set_option maxRecDepth 20000 in
theorem gX11_put_X11_isRow : GoodIn wsX11_put (va_wsS RX11 64 yX11_isRow wsX11_isRow) := goodIn_app (goodIn_of _ (by decide +kernel)) ggX11_put_X11_isRow
set_option maxRecDepth 20000 in
theorem ggX11_put_X0_addNumber : GoodIn wsX11_put wsX0_addNumber := goodIn_r _ [11, 12, 13, 14, 10, 15, 16, 17, 26, 27] rfl (by decide +kernel)
set_option maxRecDepth 20000 in
theorem gX11_put_X0_addNumber : GoodIn wsX11_put (wsV RX11 71 RX0 yX0_addNumber wsX0_addNumber) := goodIn_app (goodIn_of _ (by decide +kernel)) ggX11_put_X0_addNumber
theorem dX11_put_0 : decode cX11_put 0 = .ok (.iload_n 1, 1) := by decide +kernel
theorem dX11_put_1 : decode cX11_put 1 = .ok (.invokestatic 64, 3) := by decide +kernel
theorem dX11_put_4 : decode cX11_put 4 = .ok (.ifCond .eq 14, 3) := by decide +kernel
theorem dX11_put_7 : decode cX11_put 7 = .ok (.iload_n 2, 1) := by decide +kernel
theorem dX11_put_8 : decode cX11_put 8 = .ok (.iconst 1, 1) := by decide +kernel
theorem dX11_put_9 : decode cX11_put 9 = .ok (.if_icmp .lt 9, 3) := by decide +kernel
theorem dX11_put_12 : decode cX11_put 12 = .ok (.iload_n 2, 1) := by decide +kernel
theorem dX11_put_13 : decode cX11_put 13 = .ok (.bipush 8, 2) := by decide +kernel
theorem dX11_put_15 : decode cX11_put 15 = .ok (.if_icmp .le 5, 3) := by decide +kernel
theorem dX11_put_18 : decode cX11_put 18 = .ok (.iconst (-1), 1) := by decide +kernel
theorem dX11_put_19 : decode cX11_put 19 = .ok (.ireturn, 1) := by decide +kernel
theorem dX11_put_20 : decode cX11_put 20 = .ok (.aload_n 0, 1) := by decide +kernel
theorem dX11_put_21 : decode cX11_put 21 = .ok (.getfield 11, 3) := by decide +kernel
theorem dX11_put_24 : decode cX11_put 24 = .ok (.iload_n 1, 1) := by decide +kernel
theorem dX11_put_25 : decode cX11_put 25 = .ok (.aaload, 1) := by decide +kernel
theorem dX11_put_26 : decode cX11_put 26 = .ok (.getfield 68, 3) := by decide +kernel
theorem dX11_put_29 : decode cX11_put 29 = .ok (.iload_n 2, 1) := by decide +kernel
theorem dX11_put_30 : decode cX11_put 30 = .ok (.iadd, 1) := by decide +kernel
theorem dX11_put_31 : decode cX11_put 31 = .ok (.bipush 100, 2) := by decide +kernel
theorem dX11_put_33 : decode cX11_put 33 = .ok (.if_icmp .le 6, 3) := by decide +kernel
theorem dX11_put_36 : decode cX11_put 36 = .ok (.bipush (-3), 2) := by decide +kernel
theorem dX11_put_38 : decode cX11_put 38 = .ok (.ireturn, 1) := by decide +kernel
theorem dX11_put_39 : decode cX11_put 39 = .ok (.aload_n 0, 1) := by decide +kernel
theorem dX11_put_40 : decode cX11_put 40 = .ok (.getfield 11, 3) := by decide +kernel
theorem dX11_put_43 : decode cX11_put 43 = .ok (.iload_n 1, 1) := by decide +kernel
theorem dX11_put_44 : decode cX11_put 44 = .ok (.aaload, 1) := by decide +kernel
theorem dX11_put_45 : decode cX11_put 45 = .ok (.lload_n 3, 1) := by decide +kernel
theorem dX11_put_46 : decode cX11_put 46 = .ok (.iload_n 2, 1) := by decide +kernel
theorem dX11_put_47 : decode cX11_put 47 = .ok (.invokevirtual 71, 3) := by decide +kernel
theorem dX11_put_50 : decode cX11_put 50 = .ok (.aload_n 0, 1) := by decide +kernel
theorem dX11_put_51 : decode cX11_put 51 = .ok (.getfield 11, 3) := by decide +kernel
theorem dX11_put_54 : decode cX11_put 54 = .ok (.iload_n 1, 1) := by decide +kernel
theorem dX11_put_55 : decode cX11_put 55 = .ok (.aaload, 1) := by decide +kernel
theorem dX11_put_56 : decode cX11_put 56 = .ok (.getfield 68, 3) := by decide +kernel
theorem dX11_put_59 : decode cX11_put 59 = .ok (.ireturn, 1) := by decide +kernel
set_option maxRecDepth 20000 in
theorem ggX11_clear_X11_isRow : GoodIn wsX11_clear wsX11_isRow := goodIn_r _ [6] rfl (by decide +kernel)
set_option maxRecDepth 20000 in
theorem gX11_clear_X11_isRow : GoodIn wsX11_clear (va_wsS RX11 64 yX11_isRow wsX11_isRow) := goodIn_app (goodIn_of _ (by decide +kernel)) ggX11_clear_X11_isRow
set_option maxRecDepth 20000 in
theorem ggX11_clear_X0_empty : GoodIn wsX11_clear wsX0_empty := goodIn_r _ [11, 12, 21, 22] rfl (by decide +kernel)
set_option maxRecDepth 20000 in
theorem gX11_clear_X0_empty : GoodIn wsX11_clear (wsV RX11 75 RX0 yX0_empty wsX0_empty) := goodIn_app (goodIn_of _ (by decide +kernel)) ggX11_clear_X0_empty
theorem dX11_clear_0 : decode cX11_clear 0 = .ok (.iload_n 1, 1) := by decide +kernel
theorem dX11_clear_1 : decode cX11_clear 1 = .ok (.invokestatic 64, 3) := by decide +kernel
theorem dX11_clear_4 : decode cX11_clear 4 = .ok (.ifCond .ne 5, 3) := by decide +kernel
theorem dX11_clear_7 : decode cX11_clear 7 = .ok (.iconst (-1), 1) := by decide +kernel
theorem dX11_clear_8 : decode cX11_clear 8 = .ok (.ireturn, 1) := by decide +kernel
theorem dX11_clear_9 : decode cX11_clear 9 = .ok (.aload_n 0, 1) := by decide +kernel
theorem dX11_clear_10 : decode cX11_clear 10 = .ok (.getfield 11, 3) := by decide +kernel
theorem dX11_clear_13 : decode cX11_clear 13 = .ok (.iload_n 1, 1) := by decide +kernel
theorem dX11_clear_14 : decode cX11_clear 14 = .ok (.aaload, 1) := by decide +kernel
theorem dX11_clear_15 : decode cX11_clear 15 = .ok (.getfield 68, 3) := by decide +kernel
theorem dX11_clear_18 : decode cX11_clear 18 = .ok (.istore_n 2, 1) := by decide +kernel
theorem dX11_clear_19 : decode cX11_clear 19 = .ok (.aload_n 0, 1) := by decide +kernel
theorem dX11_clear_20 : decode cX11_clear 20 = .ok (.getfield 11, 3) := by decide +kernel
theorem dX11_clear_23 : decode cX11_clear 23 = .ok (.iload_n 1, 1) := by decide +kernel
theorem dX11_clear_24 : decode cX11_clear 24 = .ok (.aaload, 1) := by decide +kernel
theorem dX11_clear_25 : decode cX11_clear 25 = .ok (.invokevirtual 75, 3) := by decide +kernel
theorem dX11_clear_28 : decode cX11_clear 28 = .ok (.iload_n 2, 1) := by decide +kernel
theorem dX11_clear_29 : decode cX11_clear 29 = .ok (.ireturn, 1) := by decide +kernel
set_option maxRecDepth 20000 in
theorem ggX11_at_X11_isRow : GoodIn wsX11_at wsX11_isRow := goodIn_r _ [6] rfl (by decide +kernel)
set_option maxRecDepth 20000 in
theorem gX11_at_X11_isRow : GoodIn wsX11_at (va_wsS RX11 64 yX11_isRow wsX11_isRow) := goodIn_app (goodIn_of _ (by decide +kernel)) ggX11_at_X11_isRow
set_option maxRecDepth 20000 in
theorem ggX11_at_X0_get : GoodIn wsX11_at wsX0_get := goodIn_r _ [11, 12, 21, 22] rfl (by decide +kernel)
set_option maxRecDepth 20000 in
theorem gX11_at_X0_get : GoodIn wsX11_at (wsV RX11 78 RX0 yX0_get wsX0_get) := goodIn_app (goodIn_of _ (by decide +kernel)) ggX11_at_X0_get
theorem dX11_at_0 : decode cX11_at 0 = .ok (.iload_n 1, 1) := by decide +kernel
theorem dX11_at_1 : decode cX11_at 1 = .ok (.invokestatic 64, 3) := by decide +kernel
theorem dX11_at_4 : decode cX11_at 4 = .ok (.ifCond .eq 8, 3) := by decide +kernel
theorem dX11_at_7 : decode cX11_at 7 = .ok (.iload_n 2, 1) := by decide +kernel
theorem dX11_at_8 : decode cX11_at 8 = .ok (.iconst (-1), 1) := by decide +kernel
theorem dX11_at_9 : decode cX11_at 9 = .ok (.if_icmp .ge 5, 3) := by decide +kernel
theorem dX11_at_12 : decode cX11_at 12 = .ok (.iconst (-1), 1) := by decide +kernel
theorem dX11_at_13 : decode cX11_at 13 = .ok (.ireturn, 1) := by decide +kernel
theorem dX11_at_14 : decode cX11_at 14 = .ok (.iload_n 2, 1) := by decide +kernel
theorem dX11_at_15 : decode cX11_at 15 = .ok (.iconst (-1), 1) := by decide +kernel
theorem dX11_at_16 : decode cX11_at 16 = .ok (.if_icmp .ne 13, 3) := by decide +kernel
theorem dX11_at_19 : decode cX11_at 19 = .ok (.aload_n 0, 1) := by decide +kernel
theorem dX11_at_20 : decode cX11_at 20 = .ok (.getfield 11, 3) := by decide +kernel
theorem dX11_at_23 : decode cX11_at 23 = .ok (.iload_n 1, 1) := by decide +kernel
theorem dX11_at_24 : decode cX11_at 24 = .ok (.aaload, 1) := by decide +kernel
theorem dX11_at_25 : decode cX11_at 25 = .ok (.getfield 68, 3) := by decide +kernel
theorem dX11_at_28 : decode cX11_at 28 = .ok (.ireturn, 1) := by decide +kernel
theorem dX11_at_29 : decode cX11_at 29 = .ok (.iload_n 2, 1) := by decide +kernel
theorem dX11_at_30 : decode cX11_at 30 = .ok (.aload_n 0, 1) := by decide +kernel
theorem dX11_at_31 : decode cX11_at 31 = .ok (.getfield 11, 3) := by decide +kernel
theorem dX11_at_34 : decode cX11_at 34 = .ok (.iload_n 1, 1) := by decide +kernel
theorem dX11_at_35 : decode cX11_at 35 = .ok (.aaload, 1) := by decide +kernel
theorem dX11_at_36 : decode cX11_at 36 = .ok (.getfield 68, 3) := by decide +kernel
theorem dX11_at_39 : decode cX11_at 39 = .ok (.if_icmp .ge 16, 3) := by decide +kernel
theorem dX11_at_42 : decode cX11_at 42 = .ok (.aload_n 0, 1) := by decide +kernel
theorem dX11_at_43 : decode cX11_at 43 = .ok (.getfield 11, 3) := by decide +kernel
theorem dX11_at_46 : decode cX11_at 46 = .ok (.iload_n 1, 1) := by decide +kernel
theorem dX11_at_47 : decode cX11_at 47 = .ok (.aaload, 1) := by decide +kernel
theorem dX11_at_48 : decode cX11_at 48 = .ok (.iload_n 2, 1) := by decide +kernel
theorem dX11_at_49 : decode cX11_at 49 = .ok (.invokevirtual 78, 3) := by decide +kernel
theorem dX11_at_52 : decode cX11_at 52 = .ok (.goto 5, 3) := by decide +kernel
theorem dX11_at_55 : decode cX11_at 55 = .ok (.bipush (-4), 2) := by decide +kernel
theorem dX11_at_57 : decode cX11_at 57 = .ok (.ireturn, 1) := by decide +kernel
set_option maxRecDepth 20000 in
theorem ggX11_bend_X11_isRow : GoodIn wsX11_bend wsX11_isRow := goodIn_r _ [6] rfl (by decide +kernel)
set_option maxRecDepth 20000 in
theorem gX11_bend_X11_isRow : GoodIn wsX11_bend (va_wsS RX11 64 yX11_isRow wsX11_isRow) := goodIn_app (goodIn_of _ (by decide +kernel)) ggX11_bend_X11_isRow
set_option maxRecDepth 20000 in
theorem ggX11_bend_X0_turn : GoodIn wsX11_bend wsX0_turn := goodIn_r _ [11, 12, 25, 26] rfl (by decide +kernel)
set_option maxRecDepth 20000 in
theorem gX11_bend_X0_turn : GoodIn wsX11_bend (wsV RX11 82 RX0 yX0_turn wsX0_turn) := goodIn_app (goodIn_of _ (by decide +kernel)) ggX11_bend_X0_turn
set_option maxRecDepth 20000 in
theorem ggX11_bend_X0_get : GoodIn wsX11_bend wsX0_get := goodIn_r _ [16, 12, 25, 26] rfl (by decide +kernel)
set_option maxRecDepth 20000 in
theorem gX11_bend_X0_get : GoodIn wsX11_bend (wsV RX11 78 RX0 yX0_get wsX0_get) := goodIn_app (goodIn_of _ (by decide +kernel)) ggX11_bend_X0_get
theorem dX11_bend_0 : decode cX11_bend 0 = .ok (.iload_n 1, 1) := by decide +kernel
theorem dX11_bend_1 : decode cX11_bend 1 = .ok (.invokestatic 64, 3) := by decide +kernel
theorem dX11_bend_4 : decode cX11_bend 4 = .ok (.ifCond .eq 32, 3) := by decide +kernel
theorem dX11_bend_7 : decode cX11_bend 7 = .ok (.iload_n 2, 1) := by decide +kernel
theorem dX11_bend_8 : decode cX11_bend 8 = .ok (.ifCond .lt 28, 3) := by decide +kernel
theorem dX11_bend_11 : decode cX11_bend 11 = .ok (.iload_n 2, 1) := by decide +kernel
theorem dX11_bend_12 : decode cX11_bend 12 = .ok (.aload_n 0, 1) := by decide +kernel
theorem dX11_bend_13 : decode cX11_bend 13 = .ok (.getfield 11, 3) := by decide +kernel
theorem dX11_bend_16 : decode cX11_bend 16 = .ok (.iload_n 1, 1) := by decide +kernel
theorem dX11_bend_17 : decode cX11_bend 17 = .ok (.aaload, 1) := by decide +kernel
theorem dX11_bend_18 : decode cX11_bend 18 = .ok (.getfield 68, 3) := by decide +kernel
theorem dX11_bend_21 : decode cX11_bend 21 = .ok (.if_icmp .ge 15, 3) := by decide +kernel
theorem dX11_bend_24 : decode cX11_bend 24 = .ok (.iload_n 3, 1) := by decide +kernel
theorem dX11_bend_25 : decode cX11_bend 25 = .ok (.iconst 1, 1) := by decide +kernel
theorem dX11_bend_26 : decode cX11_bend 26 = .ok (.if_icmp .lt 10, 3) := by decide +kernel
theorem dX11_bend_29 : decode cX11_bend 29 = .ok (.iload_n 3, 1) := by decide +kernel
theorem dX11_bend_30 : decode cX11_bend 30 = .ok (.sipush 255, 3) := by decide +kernel
theorem dX11_bend_33 : decode cX11_bend 33 = .ok (.if_icmp .le 5, 3) := by decide +kernel
theorem dX11_bend_36 : decode cX11_bend 36 = .ok (.iconst (-1), 1) := by decide +kernel
theorem dX11_bend_37 : decode cX11_bend 37 = .ok (.ireturn, 1) := by decide +kernel
theorem dX11_bend_38 : decode cX11_bend 38 = .ok (.aload_n 0, 1) := by decide +kernel
theorem dX11_bend_39 : decode cX11_bend 39 = .ok (.getfield 11, 3) := by decide +kernel
theorem dX11_bend_42 : decode cX11_bend 42 = .ok (.iload_n 1, 1) := by decide +kernel
theorem dX11_bend_43 : decode cX11_bend 43 = .ok (.aaload, 1) := by decide +kernel
theorem dX11_bend_44 : decode cX11_bend 44 = .ok (.iload_n 2, 1) := by decide +kernel
theorem dX11_bend_45 : decode cX11_bend 45 = .ok (.iload_n 3, 1) := by decide +kernel
theorem dX11_bend_46 : decode cX11_bend 46 = .ok (.invokevirtual 82, 3) := by decide +kernel
theorem dX11_bend_49 : decode cX11_bend 49 = .ok (.aload_n 0, 1) := by decide +kernel
theorem dX11_bend_50 : decode cX11_bend 50 = .ok (.getfield 11, 3) := by decide +kernel
theorem dX11_bend_53 : decode cX11_bend 53 = .ok (.iload_n 1, 1) := by decide +kernel
theorem dX11_bend_54 : decode cX11_bend 54 = .ok (.aaload, 1) := by decide +kernel
theorem dX11_bend_55 : decode cX11_bend 55 = .ok (.iload_n 2, 1) := by decide +kernel
theorem dX11_bend_56 : decode cX11_bend 56 = .ok (.invokevirtual 78, 3) := by decide +kernel
theorem dX11_bend_59 : decode cX11_bend 59 = .ok (.ireturn, 1) := by decide +kernel
set_option maxRecDepth 20000 in
theorem ggX11_copy_X11_areRows : GoodIn wsX11_copy wsX11_areRows := goodIn_r _ [7, 8, 9, 6, 10] rfl (by decide +kernel)
set_option maxRecDepth 20000 in
theorem gX11_copy_X11_areRows : GoodIn wsX11_copy (va_wsS RX11 86 yX11_areRows wsX11_areRows) := goodIn_app (goodIn_of _ (by decide +kernel)) ggX11_copy_X11_areRows
set_option maxRecDepth 20000 in
theorem ggX11_copy_X11_isRow : GoodIn wsX11_copy wsX11_isRow := goodIn_r _ [10] rfl (by decide +kernel)
set_option maxRecDepth 20000 in
theorem gX11_copy_X11_isRow : GoodIn wsX11_copy (va_wsS RX11 64 yX11_isRow wsX11_isRow) := goodIn_app (goodIn_of _ (by decide +kernel)) ggX11_copy_X11_isRow
set_option maxRecDepth 20000 in
theorem ggX11_copy_X0_become : GoodIn wsX11_copy wsX0_become := goodIn_r _ [15, 16, 17, 18, 14, 19, 20, 21, 22, 23, 24, 25, 26, 27, 28, 29, 30, 31, 32, 33, 34, 35, 36, 37, 51, 52] rfl (by decide +kernel)
set_option maxRecDepth 20000 in
theorem gX11_copy_X0_become : GoodIn wsX11_copy (wsV RX11 90 RX0 yX0_become wsX0_become) := goodIn_app (goodIn_of _ (by decide +kernel)) ggX11_copy_X0_become
set_option maxRecDepth 20000 in
theorem ggX11_copy_X0_addAll : GoodIn wsX11_copy wsX0_addAll := goodIn_r _ [24, 20, 25, 26, 27, 14, 28, 29, 30, 31, 32, 33, 34, 35, 36, 37, 51, 52] rfl (by decide +kernel)
set_option maxRecDepth 20000 in
theorem gX11_copy_X0_addAll : GoodIn wsX11_copy (wsV RX11 94 RX0 yX0_addAll wsX0_addAll) := goodIn_app (goodIn_of _ (by decide +kernel)) ggX11_copy_X0_addAll
set_option maxRecDepth 20000 in
theorem ggX11_copy_X11_answerIn : GoodIn wsX11_copy wsX11_answerIn := goodIn_r _ [42, 1, 3, 2, 8, 9, 6, 10, 11, 12, 13, 14, 15, 16, 17, 18, 19, 20, 21, 22, 23, 24, 25, 26, 27, 28, 29, 30, 31, 32, 33, 34, 35, 36, 37, 43, 44, 45, 46, 47, 48, 49, 50, 51, 52] rfl (by decide +kernel)
set_option maxRecDepth 20000 in
theorem gX11_copy_X11_answerIn : GoodIn wsX11_copy (wsV RX11 97 RX11 yX11_answerIn wsX11_answerIn) := goodIn_app (goodIn_of _ (by decide +kernel)) ggX11_copy_X11_answerIn
theorem dX11_copy_0 : decode cX11_copy 0 = .ok (.iload_n 1, 1) := by decide +kernel
theorem dX11_copy_1 : decode cX11_copy 1 = .ok (.iload_n 2, 1) := by decide +kernel
theorem dX11_copy_2 : decode cX11_copy 2 = .ok (.invokestatic 86, 3) := by decide +kernel
theorem dX11_copy_5 : decode cX11_copy 5 = .ok (.ifCond .eq 15, 3) := by decide +kernel
theorem dX11_copy_8 : decode cX11_copy 8 = .ok (.iload_n 3, 1) := by decide +kernel
theorem dX11_copy_9 : decode cX11_copy 9 = .ok (.iconst (-1), 1) := by decide +kernel
theorem dX11_copy_10 : decode cX11_copy 10 = .ok (.if_icmp .eq 12, 3) := by decide +kernel
theorem dX11_copy_13 : decode cX11_copy 13 = .ok (.iload_n 3, 1) := by decide +kernel
theorem dX11_copy_14 : decode cX11_copy 14 = .ok (.invokestatic 64, 3) := by decide +kernel
theorem dX11_copy_17 : decode cX11_copy 17 = .ok (.ifCond .ne 5, 3) := by decide +kernel
theorem dX11_copy_20 : decode cX11_copy 20 = .ok (.iconst (-1), 1) := by decide +kernel
theorem dX11_copy_21 : decode cX11_copy 21 = .ok (.ireturn, 1) := by decide +kernel
theorem dX11_copy_22 : decode cX11_copy 22 = .ok (.iload_n 3, 1) := by decide +kernel
theorem dX11_copy_23 : decode cX11_copy 23 = .ok (.iconst (-1), 1) := by decide +kernel
theorem dX11_copy_24 : decode cX11_copy 24 = .ok (.if_icmp .ne 7, 3) := by decide +kernel
theorem dX11_copy_27 : decode cX11_copy 27 = .ok (.iconst 0, 1) := by decide +kernel
theorem dX11_copy_28 : decode cX11_copy 28 = .ok (.goto 12, 3) := by decide +kernel
theorem dX11_copy_31 : decode cX11_copy 31 = .ok (.aload_n 0, 1) := by decide +kernel
theorem dX11_copy_32 : decode cX11_copy 32 = .ok (.getfield 11, 3) := by decide +kernel
theorem dX11_copy_35 : decode cX11_copy 35 = .ok (.iload_n 3, 1) := by decide +kernel
theorem dX11_copy_36 : decode cX11_copy 36 = .ok (.aaload, 1) := by decide +kernel
theorem dX11_copy_37 : decode cX11_copy 37 = .ok (.getfield 68, 3) := by decide +kernel
theorem dX11_copy_40 : decode cX11_copy 40 = .ok (.istore 4, 2) := by decide +kernel
theorem dX11_copy_42 : decode cX11_copy 42 = .ok (.aload_n 0, 1) := by decide +kernel
theorem dX11_copy_43 : decode cX11_copy 43 = .ok (.getfield 11, 3) := by decide +kernel
theorem dX11_copy_46 : decode cX11_copy 46 = .ok (.iload_n 2, 1) := by decide +kernel
theorem dX11_copy_47 : decode cX11_copy 47 = .ok (.aaload, 1) := by decide +kernel
theorem dX11_copy_48 : decode cX11_copy 48 = .ok (.getfield 68, 3) := by decide +kernel
theorem dX11_copy_51 : decode cX11_copy 51 = .ok (.iload 4, 2) := by decide +kernel
theorem dX11_copy_53 : decode cX11_copy 53 = .ok (.iadd, 1) := by decide +kernel
theorem dX11_copy_54 : decode cX11_copy 54 = .ok (.bipush 100, 2) := by decide +kernel
theorem dX11_copy_56 : decode cX11_copy 56 = .ok (.if_icmp .le 6, 3) := by decide +kernel
theorem dX11_copy_59 : decode cX11_copy 59 = .ok (.bipush (-3), 2) := by decide +kernel
theorem dX11_copy_61 : decode cX11_copy 61 = .ok (.ireturn, 1) := by decide +kernel
theorem dX11_copy_62 : decode cX11_copy 62 = .ok (.aload_n 0, 1) := by decide +kernel
theorem dX11_copy_63 : decode cX11_copy 63 = .ok (.getfield 18, 3) := by decide +kernel
theorem dX11_copy_66 : decode cX11_copy 66 = .ok (.aload_n 0, 1) := by decide +kernel
theorem dX11_copy_67 : decode cX11_copy 67 = .ok (.getfield 11, 3) := by decide +kernel
theorem dX11_copy_70 : decode cX11_copy 70 = .ok (.iload_n 2, 1) := by decide +kernel
theorem dX11_copy_71 : decode cX11_copy 71 = .ok (.aaload, 1) := by decide +kernel
theorem dX11_copy_72 : decode cX11_copy 72 = .ok (.invokevirtual 90, 3) := by decide +kernel
theorem dX11_copy_75 : decode cX11_copy 75 = .ok (.iload_n 3, 1) := by decide +kernel
theorem dX11_copy_76 : decode cX11_copy 76 = .ok (.iconst (-1), 1) := by decide +kernel
theorem dX11_copy_77 : decode cX11_copy 77 = .ok (.if_icmp .eq 16, 3) := by decide +kernel
theorem dX11_copy_80 : decode cX11_copy 80 = .ok (.aload_n 0, 1) := by decide +kernel
theorem dX11_copy_81 : decode cX11_copy 81 = .ok (.getfield 18, 3) := by decide +kernel
theorem dX11_copy_84 : decode cX11_copy 84 = .ok (.aload_n 0, 1) := by decide +kernel
theorem dX11_copy_85 : decode cX11_copy 85 = .ok (.getfield 11, 3) := by decide +kernel
theorem dX11_copy_88 : decode cX11_copy 88 = .ok (.iload_n 3, 1) := by decide +kernel
theorem dX11_copy_89 : decode cX11_copy 89 = .ok (.aaload, 1) := by decide +kernel
theorem dX11_copy_90 : decode cX11_copy 90 = .ok (.invokevirtual 94, 3) := by decide +kernel
theorem dX11_copy_93 : decode cX11_copy 93 = .ok (.aload_n 0, 1) := by decide +kernel
theorem dX11_copy_94 : decode cX11_copy 94 = .ok (.iload_n 1, 1) := by decide +kernel
theorem dX11_copy_95 : decode cX11_copy 95 = .ok (.invokevirtual 97, 3) := by decide +kernel
theorem dX11_copy_98 : decode cX11_copy 98 = .ok (.ireturn, 1) := by decide +kernel
set_option maxRecDepth 20000 in
theorem ggX11_same_X11_areRows : GoodIn wsX11_same wsX11_areRows := goodIn_r _ [5, 6, 7, 4, 8] rfl (by decide +kernel)
set_option maxRecDepth 20000 in
theorem gX11_same_X11_areRows : GoodIn wsX11_same (va_wsS RX11 86 yX11_areRows wsX11_areRows) := goodIn_app (goodIn_of _ (by decide +kernel)) ggX11_same_X11_areRows
set_option maxRecDepth 20000 in
theorem ggX11_same_X0_isLike : GoodIn wsX11_same wsX0_isLike := goodIn_r _ [13, 14, 15, 16, 17, 12, 18, 19, 28, 29] rfl (by decide +kernel)
set_option maxRecDepth 20000 in
theorem gX11_same_X0_isLike : GoodIn wsX11_same (wsV RX11 100 RX0 yX0_isLike wsX0_isLike) := goodIn_app (goodIn_of _ (by decide +kernel)) ggX11_same_X0_isLike
theorem dX11_same_0 : decode cX11_same 0 = .ok (.iload_n 1, 1) := by decide +kernel
theorem dX11_same_1 : decode cX11_same 1 = .ok (.iload_n 2, 1) := by decide +kernel
theorem dX11_same_2 : decode cX11_same 2 = .ok (.invokestatic 86, 3) := by decide +kernel
theorem dX11_same_5 : decode cX11_same 5 = .ok (.ifCond .ne 5, 3) := by decide +kernel
theorem dX11_same_8 : decode cX11_same 8 = .ok (.iconst (-1), 1) := by decide +kernel
theorem dX11_same_9 : decode cX11_same 9 = .ok (.ireturn, 1) := by decide +kernel
theorem dX11_same_10 : decode cX11_same 10 = .ok (.aload_n 0, 1) := by decide +kernel
theorem dX11_same_11 : decode cX11_same 11 = .ok (.getfield 11, 3) := by decide +kernel
theorem dX11_same_14 : decode cX11_same 14 = .ok (.iload_n 1, 1) := by decide +kernel
theorem dX11_same_15 : decode cX11_same 15 = .ok (.aaload, 1) := by decide +kernel
theorem dX11_same_16 : decode cX11_same 16 = .ok (.aload_n 0, 1) := by decide +kernel
theorem dX11_same_17 : decode cX11_same 17 = .ok (.getfield 11, 3) := by decide +kernel
theorem dX11_same_20 : decode cX11_same 20 = .ok (.iload_n 2, 1) := by decide +kernel
theorem dX11_same_21 : decode cX11_same 21 = .ok (.aaload, 1) := by decide +kernel
theorem dX11_same_22 : decode cX11_same 22 = .ok (.invokevirtual 100, 3) := by decide +kernel
theorem dX11_same_25 : decode cX11_same 25 = .ok (.ifCond .eq 7, 3) := by decide +kernel
theorem dX11_same_28 : decode cX11_same 28 = .ok (.iconst 1, 1) := by decide +kernel
theorem dX11_same_29 : decode cX11_same 29 = .ok (.goto 4, 3) := by decide +kernel
theorem dX11_same_32 : decode cX11_same 32 = .ok (.iconst 0, 1) := by decide +kernel
theorem dX11_same_33 : decode cX11_same 33 = .ok (.ireturn, 1) := by decide +kernel
set_option maxRecDepth 20000 in
theorem ggX11_hash_X11_areRows : GoodIn wsX11_hash wsX11_areRows := goodIn_r _ [7, 8, 9, 6, 10] rfl (by decide +kernel)
set_option maxRecDepth 20000 in
theorem gX11_hash_X11_areRows : GoodIn wsX11_hash (va_wsS RX11 86 yX11_areRows wsX11_areRows) := goodIn_app (goodIn_of _ (by decide +kernel)) ggX11_hash_X11_areRows
set_option maxRecDepth 20000 in
theorem ggX11_hash_X9_beginBy : GoodIn wsX11_hash wsX9_beginBy := goodIn_r _ [15, 16, 17, 18, 19, 14, 20, 21, 22, 23, 24, 25, 26, 27, 28, 29, 30, 31, 32, 33, 34, 35, 36, 37, 38, 39, 40, 41, 42, 43, 44, 45, 46, 47, 48, 49, 50, 51, 52, 53, 54, 55, 56, 57, 58, 59, 60, 61, 62, 63, 64, 65, 66, 67, 68, 69, 70, 71, 72, 73, 74, 75, 76, 77, 78, 79, 80, 81, 82, 83, 84, 85, 86, 87, 88, 89, 90, 91, 92, 93, 94, 95, 96, 97, 98, 99, 100, 101, 102, 103, 104, 105, 106, 107, 108, 109, 110, 111, 112, 113, 114, 115, 116, 146, 147, 148, 149, 150, 151] rfl (by decide +kernel)
set_option maxRecDepth 20000 in
theorem gX11_hash_X9_beginBy : GoodIn wsX11_hash (wsV RX11 104 RX9 yX9_beginBy wsX9_beginBy) := goodIn_app (goodIn_of _ (by decide +kernel)) ggX11_hash_X9_beginBy
set_option maxRecDepth 20000 in
theorem ggX11_hash_X9_takeAll : GoodIn wsX11_hash wsX9_takeAll := goodIn_r _ [111, 112, 113, 114, 115, 96, 116, 107, 76, 77, 78, 14, 79, 21, 80, 81, 82, 83, 84, 85, 22, 86, 150, 151, 146, 147, 148, 149] rfl (by decide +kernel)
set_option maxRecDepth 20000 in
theorem gX11_hash_X9_takeAll : GoodIn wsX11_hash (wsV RX11 107 RX9 yX9_takeAll wsX9_takeAll) := goodIn_app (goodIn_of _ (by decide +kernel)) ggX11_hash_X9_takeAll
set_option maxRecDepth 20000 in
theorem ggX11_hash_X9_finish : GoodIn wsX11_hash wsX9_finish := goodIn_r _ [90, 21, 91, 81, 92, 80, 22, 76, 77, 78, 14, 79, 82, 83, 84, 85, 86, 93, 94, 95, 96, 97, 98, 99, 100, 101, 102, 103, 104, 105, 106, 107, 146, 147, 148, 149, 150, 151] rfl (by decide +kernel)
set_option maxRecDepth 20000 in
theorem gX11_hash_X9_finish : GoodIn wsX11_hash (wsV RX11 110 RX9 yX9_finish wsX9_finish) := goodIn_app (goodIn_of _ (by decide +kernel)) ggX11_hash_X9_finish
set_option maxRecDepth 20000 in
theorem ggX11_hash_X11_answerIn : GoodIn wsX11_hash wsX11_answerIn := goodIn_r _ [122, 2, 3, 123, 8, 9, 6, 10, 124, 125, 126, 96, 127, 128, 94, 95, 97, 98, 129, 130, 131, 132, 133, 134, 135, 136, 137, 114, 115, 116, 107, 103, 104, 105, 106, 138, 139, 140, 141, 142, 143, 144, 145, 150, 151] rfl (by decide +kernel)
set_option maxRecDepth 20000 in
theorem gX11_hash_X11_answerIn : GoodIn wsX11_hash (wsV RX11 97 RX11 yX11_answerIn wsX11_answerIn) := goodIn_app (goodIn_of _ (by decide +kernel)) ggX11_hash_X11_answerIn
theorem dX11_hash_0 : decode cX11_hash 0 = .ok (.iload_n 1, 1) := by decide +kernel
theorem dX11_hash_1 : decode cX11_hash 1 = .ok (.iload_n 3, 1) := by decide +kernel
theorem dX11_hash_2 : decode cX11_hash 2 = .ok (.invokestatic 86, 3) := by decide +kernel
theorem dX11_hash_5 : decode cX11_hash 5 = .ok (.ifCond .eq 14, 3) := by decide +kernel
theorem dX11_hash_8 : decode cX11_hash 8 = .ok (.iload_n 2, 1) := by decide +kernel
theorem dX11_hash_9 : decode cX11_hash 9 = .ok (.iconst (-1), 1) := by decide +kernel
theorem dX11_hash_10 : decode cX11_hash 10 = .ok (.if_icmp .lt 9, 3) := by decide +kernel
theorem dX11_hash_13 : decode cX11_hash 13 = .ok (.iload_n 2, 1) := by decide +kernel
theorem dX11_hash_14 : decode cX11_hash 14 = .ok (.bipush 7, 2) := by decide +kernel
theorem dX11_hash_16 : decode cX11_hash 16 = .ok (.if_icmp .le 5, 3) := by decide +kernel
theorem dX11_hash_19 : decode cX11_hash 19 = .ok (.iconst (-1), 1) := by decide +kernel
theorem dX11_hash_20 : decode cX11_hash 20 = .ok (.ireturn, 1) := by decide +kernel
theorem dX11_hash_21 : decode cX11_hash 21 = .ok (.aload_n 0, 1) := by decide +kernel
theorem dX11_hash_22 : decode cX11_hash 22 = .ok (.getfield 25, 3) := by decide +kernel
theorem dX11_hash_25 : decode cX11_hash 25 = .ok (.iload_n 2, 1) := by decide +kernel
theorem dX11_hash_26 : decode cX11_hash 26 = .ok (.invokevirtual 104, 3) := by decide +kernel
theorem dX11_hash_29 : decode cX11_hash 29 = .ok (.aload_n 0, 1) := by decide +kernel
theorem dX11_hash_30 : decode cX11_hash 30 = .ok (.getfield 25, 3) := by decide +kernel
theorem dX11_hash_33 : decode cX11_hash 33 = .ok (.aload_n 0, 1) := by decide +kernel
theorem dX11_hash_34 : decode cX11_hash 34 = .ok (.getfield 11, 3) := by decide +kernel
theorem dX11_hash_37 : decode cX11_hash 37 = .ok (.iload_n 3, 1) := by decide +kernel
theorem dX11_hash_38 : decode cX11_hash 38 = .ok (.aaload, 1) := by decide +kernel
theorem dX11_hash_39 : decode cX11_hash 39 = .ok (.invokevirtual 107, 3) := by decide +kernel
theorem dX11_hash_42 : decode cX11_hash 42 = .ok (.aload_n 0, 1) := by decide +kernel
theorem dX11_hash_43 : decode cX11_hash 43 = .ok (.getfield 25, 3) := by decide +kernel
theorem dX11_hash_46 : decode cX11_hash 46 = .ok (.aload_n 0, 1) := by decide +kernel
theorem dX11_hash_47 : decode cX11_hash 47 = .ok (.getfield 18, 3) := by decide +kernel
theorem dX11_hash_50 : decode cX11_hash 50 = .ok (.invokevirtual 110, 3) := by decide +kernel
theorem dX11_hash_53 : decode cX11_hash 53 = .ok (.aload_n 0, 1) := by decide +kernel
theorem dX11_hash_54 : decode cX11_hash 54 = .ok (.iload_n 1, 1) := by decide +kernel
theorem dX11_hash_55 : decode cX11_hash 55 = .ok (.invokevirtual 97, 3) := by decide +kernel
theorem dX11_hash_58 : decode cX11_hash 58 = .ok (.ireturn, 1) := by decide +kernel
set_option maxRecDepth 20000 in
theorem ggX11_key_X11_areRows : GoodIn wsX11_key wsX11_areRows := goodIn_r _ [9, 10, 11, 8, 12] rfl (by decide +kernel)
set_option maxRecDepth 20000 in
theorem gX11_key_X11_areRows : GoodIn wsX11_key (va_wsS RX11 86 yX11_areRows wsX11_areRows) := goodIn_app (goodIn_of _ (by decide +kernel)) ggX11_key_X11_areRows
set_option maxRecDepth 20000 in
theorem ggX11_key_X10_takeSecret : GoodIn wsX11_key wsX10_takeSecret := goodIn_r _ [17, 18, 19, 20, 21, 22, 23, 24, 25, 26, 27, 28, 29, 30, 31, 32, 33, 34, 35, 36, 37, 38, 39, 40, 41, 42, 43, 44, 237, 238, 224, 225, 226, 227, 228, 229, 230, 231, 232, 233, 234, 235, 236, 239] rfl (by decide +kernel)
set_option maxRecDepth 20000 in
theorem gX11_key_X10_takeSecret : GoodIn wsX11_key (wsV RX11 113 RX10 yX10_takeSecret wsX10_takeSecret) := goodIn_app (goodIn_of _ (by decide +kernel)) ggX11_key_X10_takeSecret
set_option maxRecDepth 20000 in
theorem ggX11_key_X11_wouldPass : GoodIn wsX11_key wsX11_wouldPass := goodIn_r _ [48, 3, 216, 217, 218, 219, 220, 221, 222, 223] rfl (by decide +kernel)
set_option maxRecDepth 20000 in
theorem gX11_key_X11_wouldPass : GoodIn wsX11_key (wsV RX11 116 RX11 yX11_wouldPass wsX11_wouldPass) := goodIn_app (goodIn_of _ (by decide +kernel)) ggX11_key_X11_wouldPass
set_option maxRecDepth 20000 in
theorem ggX11_key_X10_findOwn : GoodIn wsX11_key wsX10_findOwn := goodIn_r _ [52, 53, 54, 55, 19, 56, 57, 58, 59, 60, 61, 62, 63, 64, 65, 66, 67, 68, 69, 70, 71, 72, 73, 74, 75, 76, 77, 78, 79, 80, 81, 82, 83, 84, 85, 86, 87, 88, 89, 90, 91, 92, 93, 94, 95, 96, 97, 98, 99, 100, 101, 102, 103, 104, 105, 106, 107, 108, 109, 110, 111, 112, 113, 114, 115, 116, 117, 118, 119, 120, 121, 122, 123, 124, 125, 126, 127, 128, 129, 130, 131, 132, 133, 134, 135, 136, 137, 138, 139, 140, 141, 142, 23, 143, 25, 144, 145, 146, 147, 148, 149, 150, 151, 152, 153, 154, 155, 156, 157, 158, 159, 160, 161, 162, 163, 164, 165, 166, 167, 168, 169, 170, 171, 172, 29, 173, 174, 175, 176, 177, 178, 179, 180, 181, 182, 35, 183, 184, 185, 186, 187, 188, 189, 190, 191, 192, 193, 194, 195, 224, 225, 226, 227, 228, 229, 230, 231, 232, 233, 234, 235, 236, 240, 241, 242, 243, 244, 245, 246, 247, 248, 249, 250, 251, 252, 253, 254, 255, 256, 257, 258, 259, 260, 261, 239, 262, 263, 264, 265, 266, 267, 237, 238] rfl (by decide +kernel)
set_option maxRecDepth 20000 in
theorem gX11_key_X10_findOwn : GoodIn wsX11_key (wsV RX11 119 RX10 yX10_findOwn wsX10_findOwn) := goodIn_app (goodIn_of _ (by decide +kernel)) ggX11_key_X10_findOwn
set_option maxRecDepth 20000 in
theorem ggX11_key_X0_empty : GoodIn wsX11_key wsX0_empty := goodIn_r _ [173, 174, 237, 238] rfl (by decide +kernel)
set_option maxRecDepth 20000 in
theorem gX11_key_X0_empty : GoodIn wsX11_key (wsV RX11 75 RX0 yX0_empty wsX0_empty) := goodIn_app (goodIn_of _ (by decide +kernel)) ggX11_key_X0_empty
set_option maxRecDepth 20000 in
theorem ggX11_key_X0_addPart : GoodIn wsX11_key wsX0_addPart := goodIn_r _ [200, 31, 32, 33, 29, 34, 35, 195, 180, 181, 182, 174, 237, 238] rfl (by decide +kernel)
set_option maxRecDepth 20000 in
theorem gX11_key_X0_addPart : GoodIn wsX11_key (wsV RX11 125 RX0 yX0_addPart wsX0_addPart) := goodIn_app (goodIn_of _ (by decide +kernel)) ggX11_key_X0_addPart
set_option maxRecDepth 20000 in
theorem ggX11_key_X11_answerIn : GoodIn wsX11_key wsX11_answerIn := goodIn_r _ [204, 2, 4, 205, 10, 11, 8, 12, 206, 207, 208, 29, 209, 210, 171, 172, 173, 174, 211, 212, 213, 214, 215, 198, 199, 200, 31, 32, 33, 34, 35, 195, 180, 181, 182, 216, 217, 218, 219, 220, 221, 222, 223, 237, 238] rfl (by decide +kernel)
set_option maxRecDepth 20000 in
theorem gX11_key_X11_answerIn : GoodIn wsX11_key (wsV RX11 97 RX11 yX11_answerIn wsX11_answerIn) := goodIn_app (goodIn_of _ (by decide +kernel)) ggX11_key_X11_answerIn
theorem dX11_key_0 : decode cX11_key 0 = .ok (.iload_n 1, 1) := by decide +kernel
theorem dX11_key_1 : decode cX11_key 1 = .ok (.iload_n 2, 1) := by decide +kernel
theorem dX11_key_2 : decode cX11_key 2 = .ok (.invokestatic 86, 3) := by decide +kernel
theorem dX11_key_5 : decode cX11_key 5 = .ok (.ifCond .eq 12, 3) := by decide +kernel
theorem dX11_key_8 : decode cX11_key 8 = .ok (.iload_n 3, 1) := by decide +kernel
theorem dX11_key_9 : decode cX11_key 9 = .ok (.ifCond .lt 8, 3) := by decide +kernel
theorem dX11_key_12 : decode cX11_key 12 = .ok (.iload_n 3, 1) := by decide +kernel
theorem dX11_key_13 : decode cX11_key 13 = .ok (.iconst 1, 1) := by decide +kernel
theorem dX11_key_14 : decode cX11_key 14 = .ok (.if_icmp .le 5, 3) := by decide +kernel
theorem dX11_key_17 : decode cX11_key 17 = .ok (.iconst (-1), 1) := by decide +kernel
theorem dX11_key_18 : decode cX11_key 18 = .ok (.ireturn, 1) := by decide +kernel
theorem dX11_key_19 : decode cX11_key 19 = .ok (.aload_n 0, 1) := by decide +kernel
theorem dX11_key_20 : decode cX11_key 20 = .ok (.getfield 37, 3) := by decide +kernel
theorem dX11_key_23 : decode cX11_key 23 = .ok (.aload_n 0, 1) := by decide +kernel
theorem dX11_key_24 : decode cX11_key 24 = .ok (.getfield 11, 3) := by decide +kernel
theorem dX11_key_27 : decode cX11_key 27 = .ok (.iload_n 2, 1) := by decide +kernel
theorem dX11_key_28 : decode cX11_key 28 = .ok (.aaload, 1) := by decide +kernel
theorem dX11_key_29 : decode cX11_key 29 = .ok (.invokevirtual 113, 3) := by decide +kernel
theorem dX11_key_32 : decode cX11_key 32 = .ok (.ifCond .ne 6, 3) := by decide +kernel
theorem dX11_key_35 : decode cX11_key 35 = .ok (.bipush (-2), 2) := by decide +kernel
theorem dX11_key_37 : decode cX11_key 37 = .ok (.ireturn, 1) := by decide +kernel
theorem dX11_key_38 : decode cX11_key 38 = .ok (.aload_n 0, 1) := by decide +kernel
theorem dX11_key_39 : decode cX11_key 39 = .ok (.iconst 1, 1) := by decide +kernel
theorem dX11_key_40 : decode cX11_key 40 = .ok (.invokevirtual 116, 3) := by decide +kernel
theorem dX11_key_43 : decode cX11_key 43 = .ok (.ifCond .eq 6, 3) := by decide +kernel
theorem dX11_key_46 : decode cX11_key 46 = .ok (.bipush (-5), 2) := by decide +kernel
theorem dX11_key_48 : decode cX11_key 48 = .ok (.ireturn, 1) := by decide +kernel
theorem dX11_key_49 : decode cX11_key 49 = .ok (.aload_n 0, 1) := by decide +kernel
theorem dX11_key_50 : decode cX11_key 50 = .ok (.dup, 1) := by decide +kernel
theorem dX11_key_51 : decode cX11_key 51 = .ok (.getfield 60, 3) := by decide +kernel
theorem dX11_key_54 : decode cX11_key 54 = .ok (.iconst 1, 1) := by decide +kernel
theorem dX11_key_55 : decode cX11_key 55 = .ok (.iadd, 1) := by decide +kernel
theorem dX11_key_56 : decode cX11_key 56 = .ok (.putfield 60, 3) := by decide +kernel
theorem dX11_key_59 : decode cX11_key 59 = .ok (.aload_n 0, 1) := by decide +kernel
theorem dX11_key_60 : decode cX11_key 60 = .ok (.getfield 37, 3) := by decide +kernel
theorem dX11_key_63 : decode cX11_key 63 = .ok (.invokevirtual 119, 3) := by decide +kernel
theorem dX11_key_66 : decode cX11_key 66 = .ok (.aload_n 0, 1) := by decide +kernel
theorem dX11_key_67 : decode cX11_key 67 = .ok (.getfield 18, 3) := by decide +kernel
theorem dX11_key_70 : decode cX11_key 70 = .ok (.invokevirtual 75, 3) := by decide +kernel
theorem dX11_key_73 : decode cX11_key 73 = .ok (.aload_n 0, 1) := by decide +kernel
theorem dX11_key_74 : decode cX11_key 74 = .ok (.getfield 18, 3) := by decide +kernel
theorem dX11_key_77 : decode cX11_key 77 = .ok (.aload_n 0, 1) := by decide +kernel
theorem dX11_key_78 : decode cX11_key 78 = .ok (.getfield 37, 3) := by decide +kernel
theorem dX11_key_81 : decode cX11_key 81 = .ok (.getfield 122, 3) := by decide +kernel
theorem dX11_key_84 : decode cX11_key 84 = .ok (.iconst 1, 1) := by decide +kernel
theorem dX11_key_85 : decode cX11_key 85 = .ok (.iload_n 3, 1) := by decide +kernel
theorem dX11_key_86 : decode cX11_key 86 = .ok (.isub, 1) := by decide +kernel
theorem dX11_key_87 : decode cX11_key 87 = .ok (.bipush 32, 2) := by decide +kernel
theorem dX11_key_89 : decode cX11_key 89 = .ok (.iload_n 3, 1) := by decide +kernel
theorem dX11_key_90 : decode cX11_key 90 = .ok (.iadd, 1) := by decide +kernel
theorem dX11_key_91 : decode cX11_key 91 = .ok (.invokevirtual 125, 3) := by decide +kernel
theorem dX11_key_94 : decode cX11_key 94 = .ok (.aload_n 0, 1) := by decide +kernel
theorem dX11_key_95 : decode cX11_key 95 = .ok (.iload_n 1, 1) := by decide +kernel
theorem dX11_key_96 : decode cX11_key 96 = .ok (.invokevirtual 97, 3) := by decide +kernel
theorem dX11_key_99 : decode cX11_key 99 = .ok (.ireturn, 1) := by decide +kernel
set_option maxRecDepth 20000 in
theorem ggX11_sign_X11_areRows : GoodIn wsX11_sign wsX11_areRows := goodIn_r _ [9, 10, 11, 8, 12] rfl (by decide +kernel)
set_option maxRecDepth 20000 in
theorem gX11_sign_X11_areRows : GoodIn wsX11_sign (va_wsS RX11 86 yX11_areRows wsX11_areRows) := goodIn_app (goodIn_of _ (by decide +kernel)) ggX11_sign_X11_areRows
set_option maxRecDepth 20000 in
theorem ggX11_sign_X10_takeSecret : GoodIn wsX11_sign wsX10_takeSecret := goodIn_r _ [17, 18, 19, 20, 21, 22, 23, 24, 25, 26, 27, 28, 29, 30, 31, 32, 33, 34, 35, 36, 37, 38, 39, 40, 41, 42, 43, 44, 385, 386, 387, 388, 389, 390, 391, 392, 393, 394, 395, 396, 397, 398, 399, 400] rfl (by decide +kernel)
set_option maxRecDepth 20000 in
theorem gX11_sign_X10_takeSecret : GoodIn wsX11_sign (wsV RX11 113 RX10 yX10_takeSecret wsX10_takeSecret) := goodIn_app (goodIn_of _ (by decide +kernel)) ggX11_sign_X10_takeSecret
set_option maxRecDepth 20000 in
theorem ggX11_sign_X11_wouldPass : GoodIn wsX11_sign wsX11_wouldPass := goodIn_r _ [48, 4, 377, 378, 379, 380, 381, 382, 383, 384] rfl (by decide +kernel)
set_option maxRecDepth 20000 in
theorem gX11_sign_X11_wouldPass : GoodIn wsX11_sign (wsV RX11 116 RX11 yX11_wouldPass wsX11_wouldPass) := goodIn_app (goodIn_of _ (by decide +kernel)) ggX11_sign_X11_wouldPass
set_option maxRecDepth 20000 in
theorem ggX11_sign_X10_findOwn : GoodIn wsX11_sign wsX10_findOwn := goodIn_r _ [52, 53, 54, 55, 19, 56, 57, 58, 59, 60, 61, 62, 63, 64, 65, 66, 67, 68, 69, 70, 71, 72, 73, 74, 75, 76, 77, 78, 79, 80, 81, 82, 83, 84, 85, 86, 87, 88, 89, 90, 91, 92, 93, 94, 95, 96, 97, 98, 99, 100, 101, 102, 103, 104, 105, 106, 107, 108, 109, 110, 111, 112, 113, 114, 115, 116, 117, 118, 119, 120, 121, 122, 123, 124, 125, 126, 127, 128, 129, 130, 131, 132, 133, 134, 135, 136, 137, 138, 139, 140, 141, 142, 23, 143, 25, 144, 145, 146, 147, 148, 149, 150, 151, 152, 153, 154, 155, 156, 157, 158, 159, 160, 161, 162, 163, 164, 165, 166, 167, 168, 169, 170, 171, 172, 29, 173, 174, 175, 176, 177, 178, 179, 180, 181, 182, 35, 183, 184, 185, 186, 187, 188, 189, 190, 191, 192, 193, 194, 195, 387, 388, 389, 390, 391, 392, 393, 394, 395, 396, 397, 398, 399, 401, 402, 403, 404, 405, 406, 407, 408, 409, 410, 411, 412, 413, 414, 415, 416, 417, 418, 419, 420, 421, 422, 400, 423, 424, 425, 426, 427, 428, 385, 386] rfl (by decide +kernel)
set_option maxRecDepth 20000 in
theorem gX11_sign_X10_findOwn : GoodIn wsX11_sign (wsV RX11 119 RX10 yX10_findOwn wsX10_findOwn) := goodIn_app (goodIn_of _ (by decide +kernel)) ggX11_sign_X10_findOwn
set_option maxRecDepth 20000 in
theorem ggX11_sign_X10_drawNonce : GoodIn wsX11_sign wsX10_drawNonce := goodIn_r _ [199, 56, 19, 200, 201, 202, 203, 32, 33, 29, 34, 35, 204, 205, 206, 23, 207, 40, 25, 208, 209, 42, 43, 44, 210, 211, 212, 16, 213, 214, 215, 216, 217, 218, 219, 220, 221, 222, 223, 224, 225, 226, 227, 228, 229, 230, 231, 232, 233, 234, 235, 236, 237, 238, 239, 240, 241, 242, 243, 244, 245, 246, 247, 248, 249, 250, 251, 252, 253, 254, 255, 256, 257, 258, 259, 260, 261, 262, 263, 264, 265, 266, 267, 268, 269, 270, 271, 272, 273, 274, 275, 276, 277, 278, 279, 280, 281, 282, 283, 284, 285, 286, 287, 288, 289, 290, 291, 292, 293, 294, 295, 296, 297, 171, 172, 173, 174, 298, 192, 193, 194, 195, 180, 181, 182, 299, 300, 301, 302, 303, 304, 305, 306, 170, 307, 308, 309, 310, 311, 312, 313, 314, 315, 316, 317, 318, 319, 320, 321, 322, 323, 324, 21, 22, 24, 26, 27, 28, 30, 31, 36, 37, 38, 39, 325, 326, 327, 328, 329, 330, 331, 332, 333, 41, 387, 388, 389, 390, 391, 392, 393, 394, 395, 396, 397, 398, 399, 385, 386, 400, 429, 430, 431, 432] rfl (by decide +kernel)
set_option maxRecDepth 20000 in
theorem gX11_sign_X10_drawNonce : GoodIn wsX11_sign (wsV RX11 129 RX10 yX10_drawNonce wsX10_drawNonce) := goodIn_app (goodIn_of _ (by decide +kernel)) ggX11_sign_X10_drawNonce
set_option maxRecDepth 20000 in
theorem ggX11_sign_X10_makeSignature : GoodIn wsX11_sign wsX10_makeSignature := goodIn_r _ [337, 53, 54, 55, 202, 338, 339, 340, 56, 341, 19, 57, 58, 59, 60, 61, 62, 63, 64, 65, 66, 67, 68, 69, 70, 71, 72, 73, 74, 75, 76, 77, 78, 79, 80, 81, 82, 83, 84, 85, 86, 87, 88, 89, 90, 91, 92, 93, 94, 95, 96, 97, 98, 99, 100, 101, 102, 103, 104, 105, 106, 107, 108, 109, 110, 111, 112, 113, 114, 115, 116, 117, 118, 119, 120, 121, 122, 123, 124, 125, 126, 127, 128, 129, 130, 131, 132, 133, 134, 135, 136, 137, 138, 139, 140, 141, 142, 23, 143, 25, 144, 145, 146, 147, 148, 149, 150, 151, 152, 153, 154, 155, 156, 157, 158, 159, 160, 161, 162, 163, 164, 165, 166, 167, 168, 169, 342, 184, 185, 186, 204, 205, 206, 207, 40, 208, 209, 42, 43, 44, 170, 171, 172, 29, 173, 174, 343, 188, 189, 190, 191, 192, 193, 194, 195, 180, 181, 182, 35, 344, 345, 346, 16, 347, 200, 201, 215, 216, 217, 218, 219, 220, 221, 222, 223, 224, 225, 226, 227, 228, 229, 230, 231, 232, 233, 234, 235, 236, 237, 238, 239, 240, 241, 242, 243, 244, 245, 246, 247, 248, 249, 250, 251, 252, 253, 254, 255, 256, 257, 258, 259, 260, 261, 262, 263, 264, 265, 266, 267, 268, 269, 270, 271, 272, 273, 274, 275, 276, 277, 278, 279, 280, 281, 282, 283, 284, 285, 286, 287, 288, 289, 290, 291, 292, 293, 294, 295, 296, 297, 298, 299, 300, 301, 302, 303, 304, 32, 33, 34, 316, 317, 318, 319, 305, 306, 320, 321, 322, 323, 324, 21, 22, 24, 26, 27, 28, 30, 31, 36, 37, 38, 39, 325, 326, 327, 328, 329, 330, 331, 332, 333, 348, 349, 350, 351, 352, 353, 354, 355, 356, 357, 358, 359, 307, 308, 309, 310, 311, 387, 388, 389, 390, 391, 392, 393, 394, 395, 396, 397, 398, 399, 401, 402, 403, 404, 405, 406, 407, 408, 409, 410, 411, 412, 413, 414, 415, 416, 417, 418, 419, 420, 421, 422, 400, 423, 424, 425, 426, 427, 428, 385, 386, 429, 430, 431, 432] rfl (by decide +kernel)
set_option maxRecDepth 20000 in
theorem gX11_sign_X10_makeSignature : GoodIn wsX11_sign (wsV RX11 133 RX10 yX10_makeSignature wsX10_makeSignature) := goodIn_app (goodIn_of _ (by decide +kernel)) ggX11_sign_X10_makeSignature
set_option maxRecDepth 20000 in
theorem ggX11_sign_X11_answerIn : GoodIn wsX11_sign wsX11_answerIn := goodIn_r _ [363, 2, 5, 3, 10, 11, 8, 12, 364, 365, 366, 29, 367, 368, 171, 172, 173, 174, 369, 370, 371, 372, 373, 374, 375, 376, 31, 32, 33, 34, 35, 195, 180, 181, 182, 377, 378, 379, 380, 381, 382, 383, 384, 385, 386] rfl (by decide +kernel)
set_option maxRecDepth 20000 in
theorem gX11_sign_X11_answerIn : GoodIn wsX11_sign (wsV RX11 97 RX11 yX11_answerIn wsX11_answerIn) := goodIn_app (goodIn_of _ (by decide +kernel)) ggX11_sign_X11_answerIn
theorem dX11_sign_0 : decode cX11_sign 0 = .ok (.iload_n 1, 1) := by decide +kernel
theorem dX11_sign_1 : decode cX11_sign 1 = .ok (.iload_n 2, 1) := by decide +kernel
theorem dX11_sign_2 : decode cX11_sign 2 = .ok (.invokestatic 86, 3) := by decide +kernel
theorem dX11_sign_5 : decode cX11_sign 5 = .ok (.ifCond .eq 12, 3) := by decide +kernel
theorem dX11_sign_8 : decode cX11_sign 8 = .ok (.iload_n 3, 1) := by decide +kernel
theorem dX11_sign_9 : decode cX11_sign 9 = .ok (.iload 4, 2) := by decide +kernel
theorem dX11_sign_11 : decode cX11_sign 11 = .ok (.invokestatic 86, 3) := by decide +kernel
theorem dX11_sign_14 : decode cX11_sign 14 = .ok (.ifCond .ne 5, 3) := by decide +kernel
theorem dX11_sign_17 : decode cX11_sign 17 = .ok (.iconst (-1), 1) := by decide +kernel
theorem dX11_sign_18 : decode cX11_sign 18 = .ok (.ireturn, 1) := by decide +kernel
theorem dX11_sign_19 : decode cX11_sign 19 = .ok (.aload_n 0, 1) := by decide +kernel
theorem dX11_sign_20 : decode cX11_sign 20 = .ok (.getfield 37, 3) := by decide +kernel
theorem dX11_sign_23 : decode cX11_sign 23 = .ok (.aload_n 0, 1) := by decide +kernel
theorem dX11_sign_24 : decode cX11_sign 24 = .ok (.getfield 11, 3) := by decide +kernel
theorem dX11_sign_27 : decode cX11_sign 27 = .ok (.iload_n 2, 1) := by decide +kernel
theorem dX11_sign_28 : decode cX11_sign 28 = .ok (.aaload, 1) := by decide +kernel
theorem dX11_sign_29 : decode cX11_sign 29 = .ok (.invokevirtual 113, 3) := by decide +kernel
theorem dX11_sign_32 : decode cX11_sign 32 = .ok (.ifCond .eq 18, 3) := by decide +kernel
theorem dX11_sign_35 : decode cX11_sign 35 = .ok (.aload_n 0, 1) := by decide +kernel
theorem dX11_sign_36 : decode cX11_sign 36 = .ok (.getfield 11, 3) := by decide +kernel
theorem dX11_sign_39 : decode cX11_sign 39 = .ok (.iload 4, 2) := by decide +kernel
theorem dX11_sign_41 : decode cX11_sign 41 = .ok (.aaload, 1) := by decide +kernel
theorem dX11_sign_42 : decode cX11_sign 42 = .ok (.getfield 68, 3) := by decide +kernel
theorem dX11_sign_45 : decode cX11_sign 45 = .ok (.bipush 32, 2) := by decide +kernel
theorem dX11_sign_47 : decode cX11_sign 47 = .ok (.if_icmp .eq 6, 3) := by decide +kernel
theorem dX11_sign_50 : decode cX11_sign 50 = .ok (.bipush (-2), 2) := by decide +kernel
theorem dX11_sign_52 : decode cX11_sign 52 = .ok (.ireturn, 1) := by decide +kernel
theorem dX11_sign_53 : decode cX11_sign 53 = .ok (.aload_n 0, 1) := by decide +kernel
theorem dX11_sign_54 : decode cX11_sign 54 = .ok (.iconst 2, 1) := by decide +kernel
theorem dX11_sign_55 : decode cX11_sign 55 = .ok (.invokevirtual 116, 3) := by decide +kernel
theorem dX11_sign_58 : decode cX11_sign 58 = .ok (.ifCond .eq 6, 3) := by decide +kernel
theorem dX11_sign_61 : decode cX11_sign 61 = .ok (.bipush (-5), 2) := by decide +kernel
theorem dX11_sign_63 : decode cX11_sign 63 = .ok (.ireturn, 1) := by decide +kernel
theorem dX11_sign_64 : decode cX11_sign 64 = .ok (.aload_n 0, 1) := by decide +kernel
theorem dX11_sign_65 : decode cX11_sign 65 = .ok (.dup, 1) := by decide +kernel
theorem dX11_sign_66 : decode cX11_sign 66 = .ok (.getfield 60, 3) := by decide +kernel
theorem dX11_sign_69 : decode cX11_sign 69 = .ok (.iconst 2, 1) := by decide +kernel
theorem dX11_sign_70 : decode cX11_sign 70 = .ok (.iadd, 1) := by decide +kernel
theorem dX11_sign_71 : decode cX11_sign 71 = .ok (.putfield 60, 3) := by decide +kernel
theorem dX11_sign_74 : decode cX11_sign 74 = .ok (.aload_n 0, 1) := by decide +kernel
theorem dX11_sign_75 : decode cX11_sign 75 = .ok (.getfield 37, 3) := by decide +kernel
theorem dX11_sign_78 : decode cX11_sign 78 = .ok (.invokevirtual 119, 3) := by decide +kernel
theorem dX11_sign_81 : decode cX11_sign 81 = .ok (.aload_n 0, 1) := by decide +kernel
theorem dX11_sign_82 : decode cX11_sign 82 = .ok (.getfield 37, 3) := by decide +kernel
theorem dX11_sign_85 : decode cX11_sign 85 = .ok (.aload_n 0, 1) := by decide +kernel
theorem dX11_sign_86 : decode cX11_sign 86 = .ok (.getfield 11, 3) := by decide +kernel
theorem dX11_sign_89 : decode cX11_sign 89 = .ok (.iload_n 3, 1) := by decide +kernel
theorem dX11_sign_90 : decode cX11_sign 90 = .ok (.aaload, 1) := by decide +kernel
theorem dX11_sign_91 : decode cX11_sign 91 = .ok (.aload_n 0, 1) := by decide +kernel
theorem dX11_sign_92 : decode cX11_sign 92 = .ok (.getfield 11, 3) := by decide +kernel
theorem dX11_sign_95 : decode cX11_sign 95 = .ok (.iload 4, 2) := by decide +kernel
theorem dX11_sign_97 : decode cX11_sign 97 = .ok (.aaload, 1) := by decide +kernel
theorem dX11_sign_98 : decode cX11_sign 98 = .ok (.invokevirtual 129, 3) := by decide +kernel
theorem dX11_sign_101 : decode cX11_sign 101 = .ok (.ifCond .ne 6, 3) := by decide +kernel
theorem dX11_sign_104 : decode cX11_sign 104 = .ok (.bipush (-2), 2) := by decide +kernel
theorem dX11_sign_106 : decode cX11_sign 106 = .ok (.ireturn, 1) := by decide +kernel
theorem dX11_sign_107 : decode cX11_sign 107 = .ok (.aload_n 0, 1) := by decide +kernel
theorem dX11_sign_108 : decode cX11_sign 108 = .ok (.getfield 37, 3) := by decide +kernel
theorem dX11_sign_111 : decode cX11_sign 111 = .ok (.aload_n 0, 1) := by decide +kernel
theorem dX11_sign_112 : decode cX11_sign 112 = .ok (.getfield 11, 3) := by decide +kernel
theorem dX11_sign_115 : decode cX11_sign 115 = .ok (.iload_n 3, 1) := by decide +kernel
theorem dX11_sign_116 : decode cX11_sign 116 = .ok (.aaload, 1) := by decide +kernel
theorem dX11_sign_117 : decode cX11_sign 117 = .ok (.aload_n 0, 1) := by decide +kernel
theorem dX11_sign_118 : decode cX11_sign 118 = .ok (.getfield 18, 3) := by decide +kernel
theorem dX11_sign_121 : decode cX11_sign 121 = .ok (.invokevirtual 133, 3) := by decide +kernel
theorem dX11_sign_124 : decode cX11_sign 124 = .ok (.aload_n 0, 1) := by decide +kernel
theorem dX11_sign_125 : decode cX11_sign 125 = .ok (.iload_n 1, 1) := by decide +kernel
theorem dX11_sign_126 : decode cX11_sign 126 = .ok (.invokevirtual 97, 3) := by decide +kernel
theorem dX11_sign_129 : decode cX11_sign 129 = .ok (.ireturn, 1) := by decide +kernel
set_option maxRecDepth 20000 in
theorem ggX11_holds_X11_areRows : GoodIn wsX11_holds wsX11_areRows := goodIn_r _ [7, 8, 9, 6, 10] rfl (by decide +kernel)
set_option maxRecDepth 20000 in
theorem gX11_holds_X11_areRows : GoodIn wsX11_holds (va_wsS RX11 86 yX11_areRows wsX11_areRows) := goodIn_app (goodIn_of _ (by decide +kernel)) ggX11_holds_X11_areRows
set_option maxRecDepth 20000 in
theorem ggX11_holds_X11_isRow : GoodIn wsX11_holds wsX11_isRow := goodIn_r _ [10] rfl (by decide +kernel)
set_option maxRecDepth 20000 in
theorem gX11_holds_X11_isRow : GoodIn wsX11_holds (va_wsS RX11 64 yX11_isRow wsX11_isRow) := goodIn_app (goodIn_of _ (by decide +kernel)) ggX11_holds_X11_isRow
set_option maxRecDepth 20000 in
theorem ggX11_holds_X10_canJudge : GoodIn wsX11_holds wsX10_canJudge := goodIn_r _ [15, 16, 17, 18, 19, 20, 21, 22, 23, 24, 25, 26, 27, 28, 29, 30, 31, 32, 33, 34, 35, 36, 37, 38, 39, 40, 41, 42, 43, 44, 45, 46, 47, 48, 49, 50, 51, 52, 53, 54, 55, 56, 57, 58, 59, 60, 61, 62, 63, 64, 65, 66, 67, 68, 69, 70, 71, 72, 73, 74, 75, 76, 77, 78, 79, 80, 81, 82, 83, 84, 85, 86, 87, 88, 89, 90, 91, 92, 93, 94, 95, 96, 97, 98, 99, 100, 101, 102, 103, 104, 105, 106, 107, 108, 109, 110, 111, 112, 113, 114, 115, 116, 117, 118, 119, 120, 121, 122, 123, 124, 125, 126, 127, 128, 129, 130, 131, 132, 133, 134, 135, 136, 137, 138, 139, 343, 344, 345, 346, 347, 348, 349, 350, 351, 352, 353, 354, 355, 356, 357, 358, 359, 360, 361, 362, 363, 364, 365, 366, 367, 368, 369, 370, 371, 372, 373, 374, 375, 376, 377, 378, 379, 380, 381, 382, 383, 384, 385, 386] rfl (by decide +kernel)
set_option maxRecDepth 20000 in
theorem gX11_holds_X10_canJudge : GoodIn wsX11_holds (wsV RX11 137 RX10 yX10_canJudge wsX10_canJudge) := goodIn_app (goodIn_of _ (by decide +kernel)) ggX11_holds_X10_canJudge
set_option maxRecDepth 20000 in
theorem ggX11_holds_X11_wouldPass : GoodIn wsX11_holds wsX11_wouldPass := goodIn_r _ [143, 3, 335, 336, 337, 338, 339, 340, 341, 342] rfl (by decide +kernel)
set_option maxRecDepth 20000 in
theorem gX11_holds_X11_wouldPass : GoodIn wsX11_holds (wsV RX11 116 RX11 yX11_wouldPass wsX11_wouldPass) := goodIn_app (goodIn_of _ (by decide +kernel)) ggX11_holds_X11_wouldPass
set_option maxRecDepth 20000 in
theorem ggX11_holds_X10_judge : GoodIn wsX11_holds wsX10_judge := goodIn_r _ [147, 148, 17, 149, 150, 20, 18, 151, 152, 153, 19, 154, 155, 156, 14, 157, 158, 159, 160, 161, 162, 163, 164, 165, 166, 167, 168, 169, 170, 171, 172, 173, 174, 175, 176, 177, 178, 179, 180, 181, 182, 183, 184, 185, 186, 187, 188, 189, 190, 191, 192, 193, 194, 195, 196, 197, 198, 199, 200, 201, 202, 203, 204, 205, 206, 207, 208, 209, 210, 211, 212, 213, 214, 215, 216, 217, 218, 219, 220, 221, 222, 223, 224, 225, 226, 227, 228, 229, 230, 231, 232, 233, 234, 235, 236, 237, 238, 239, 240, 241, 242, 243, 244, 42, 245, 246, 247, 248, 249, 250, 251, 252, 253, 254, 48, 255, 256, 257, 258, 259, 260, 45, 46, 47, 261, 262, 263, 264, 265, 266, 267, 268, 269, 131, 270, 271, 129, 130, 132, 133, 134, 40, 41, 43, 44, 135, 136, 137, 138, 139, 272, 273, 274, 275, 276, 277, 278, 279, 280, 281, 282, 283, 284, 285, 286, 287, 288, 289, 290, 291, 292, 24, 293, 294, 33, 295, 296, 297, 119, 298, 299, 121, 300, 301, 302, 99, 100, 37, 101, 54, 55, 56, 57, 58, 59, 60, 61, 62, 303, 304, 305, 306, 27, 31, 30, 26, 307, 29, 308, 309, 69, 70, 71, 72, 53, 73, 67, 74, 310, 311, 312, 313, 79, 80, 81, 82, 314, 315, 316, 317, 108, 109, 110, 111, 68, 63, 64, 65, 66, 49, 50, 51, 52, 318, 319, 320, 321, 322, 123, 124, 125, 323, 324, 325, 326, 327, 328, 329, 330, 331, 28, 32, 83, 84, 85, 86, 87, 88, 89, 90, 91, 92, 93, 94, 95, 96, 97, 98, 102, 103, 332, 126, 333, 113, 114, 115, 334, 105, 106, 107, 345, 346, 347, 348, 349, 350, 351, 352, 353, 354, 355, 356, 357, 362, 363, 364, 365, 366, 367, 368, 369, 370, 358, 359, 360, 361, 387, 388, 389, 390, 343, 344, 386, 371, 372, 373, 374, 375, 376, 377, 378, 379, 380, 381, 382, 383, 384, 385] rfl (by decide +kernel)
set_option maxRecDepth 20000 in
theorem gX11_holds_X10_judge : GoodIn wsX11_holds (wsV RX11 140 RX10 yX10_judge wsX10_judge) := goodIn_app (goodIn_of _ (by decide +kernel)) ggX11_holds_X10_judge
theorem dX11_holds_0 : decode cX11_holds 0 = .ok (.iload_n 1, 1) := by decide +kernel
theorem dX11_holds_1 : decode cX11_holds 1 = .ok (.iload_n 2, 1) := by decide +kernel
theorem dX11_holds_2 : decode cX11_holds 2 = .ok (.invokestatic 86, 3) := by decide +kernel
theorem dX11_holds_5 : decode cX11_holds 5 = .ok (.ifCond .eq 10, 3) := by decide +kernel
theorem dX11_holds_8 : decode cX11_holds 8 = .ok (.iload_n 3, 1) := by decide +kernel
theorem dX11_holds_9 : decode cX11_holds 9 = .ok (.invokestatic 64, 3) := by decide +kernel
theorem dX11_holds_12 : decode cX11_holds 12 = .ok (.ifCond .ne 5, 3) := by decide +kernel
theorem dX11_holds_15 : decode cX11_holds 15 = .ok (.iconst (-1), 1) := by decide +kernel
theorem dX11_holds_16 : decode cX11_holds 16 = .ok (.ireturn, 1) := by decide +kernel
theorem dX11_holds_17 : decode cX11_holds 17 = .ok (.aload_n 0, 1) := by decide +kernel
theorem dX11_holds_18 : decode cX11_holds 18 = .ok (.getfield 37, 3) := by decide +kernel
theorem dX11_holds_21 : decode cX11_holds 21 = .ok (.aload_n 0, 1) := by decide +kernel
theorem dX11_holds_22 : decode cX11_holds 22 = .ok (.getfield 11, 3) := by decide +kernel
theorem dX11_holds_25 : decode cX11_holds 25 = .ok (.iload_n 1, 1) := by decide +kernel
theorem dX11_holds_26 : decode cX11_holds 26 = .ok (.aaload, 1) := by decide +kernel
theorem dX11_holds_27 : decode cX11_holds 27 = .ok (.aload_n 0, 1) := by decide +kernel
theorem dX11_holds_28 : decode cX11_holds 28 = .ok (.getfield 11, 3) := by decide +kernel
theorem dX11_holds_31 : decode cX11_holds 31 = .ok (.iload_n 3, 1) := by decide +kernel
theorem dX11_holds_32 : decode cX11_holds 32 = .ok (.aaload, 1) := by decide +kernel
theorem dX11_holds_33 : decode cX11_holds 33 = .ok (.invokevirtual 137, 3) := by decide +kernel
theorem dX11_holds_36 : decode cX11_holds 36 = .ok (.ifCond .ne 5, 3) := by decide +kernel
theorem dX11_holds_39 : decode cX11_holds 39 = .ok (.iconst 0, 1) := by decide +kernel
theorem dX11_holds_40 : decode cX11_holds 40 = .ok (.ireturn, 1) := by decide +kernel
theorem dX11_holds_41 : decode cX11_holds 41 = .ok (.aload_n 0, 1) := by decide +kernel
theorem dX11_holds_42 : decode cX11_holds 42 = .ok (.iconst 2, 1) := by decide +kernel
theorem dX11_holds_43 : decode cX11_holds 43 = .ok (.invokevirtual 116, 3) := by decide +kernel
theorem dX11_holds_46 : decode cX11_holds 46 = .ok (.ifCond .eq 6, 3) := by decide +kernel
theorem dX11_holds_49 : decode cX11_holds 49 = .ok (.bipush (-5), 2) := by decide +kernel
theorem dX11_holds_51 : decode cX11_holds 51 = .ok (.ireturn, 1) := by decide +kernel
theorem dX11_holds_52 : decode cX11_holds 52 = .ok (.aload_n 0, 1) := by decide +kernel
theorem dX11_holds_53 : decode cX11_holds 53 = .ok (.dup, 1) := by decide +kernel
theorem dX11_holds_54 : decode cX11_holds 54 = .ok (.getfield 60, 3) := by decide +kernel
theorem dX11_holds_57 : decode cX11_holds 57 = .ok (.iconst 2, 1) := by decide +kernel
theorem dX11_holds_58 : decode cX11_holds 58 = .ok (.iadd, 1) := by decide +kernel
theorem dX11_holds_59 : decode cX11_holds 59 = .ok (.putfield 60, 3) := by decide +kernel
theorem dX11_holds_62 : decode cX11_holds 62 = .ok (.aload_n 0, 1) := by decide +kernel
theorem dX11_holds_63 : decode cX11_holds 63 = .ok (.getfield 37, 3) := by decide +kernel
theorem dX11_holds_66 : decode cX11_holds 66 = .ok (.aload_n 0, 1) := by decide +kernel
theorem dX11_holds_67 : decode cX11_holds 67 = .ok (.getfield 11, 3) := by decide +kernel
theorem dX11_holds_70 : decode cX11_holds 70 = .ok (.iload_n 1, 1) := by decide +kernel
theorem dX11_holds_71 : decode cX11_holds 71 = .ok (.aaload, 1) := by decide +kernel
theorem dX11_holds_72 : decode cX11_holds 72 = .ok (.aload_n 0, 1) := by decide +kernel
theorem dX11_holds_73 : decode cX11_holds 73 = .ok (.getfield 11, 3) := by decide +kernel
theorem dX11_holds_76 : decode cX11_holds 76 = .ok (.iload_n 2, 1) := by decide +kernel
theorem dX11_holds_77 : decode cX11_holds 77 = .ok (.aaload, 1) := by decide +kernel
theorem dX11_holds_78 : decode cX11_holds 78 = .ok (.aload_n 0, 1) := by decide +kernel
theorem dX11_holds_79 : decode cX11_holds 79 = .ok (.getfield 11, 3) := by decide +kernel
theorem dX11_holds_82 : decode cX11_holds 82 = .ok (.iload_n 3, 1) := by decide +kernel
theorem dX11_holds_83 : decode cX11_holds 83 = .ok (.aaload, 1) := by decide +kernel
theorem dX11_holds_84 : decode cX11_holds 84 = .ok (.invokevirtual 140, 3) := by decide +kernel
theorem dX11_holds_87 : decode cX11_holds 87 = .ok (.ifCond .eq 7, 3) := by decide +kernel
theorem dX11_holds_90 : decode cX11_holds 90 = .ok (.iconst 1, 1) := by decide +kernel
theorem dX11_holds_91 : decode cX11_holds 91 = .ok (.goto 4, 3) := by decide +kernel
theorem dX11_holds_94 : decode cX11_holds 94 = .ok (.iconst 0, 1) := by decide +kernel
theorem dX11_holds_95 : decode cX11_holds 95 = .ok (.ireturn, 1) := by decide +kernel
set_option maxRecDepth 20000 in
theorem ggX11_entry_X11_areRows : GoodIn wsX11_entry wsX11_areRows := goodIn_r _ [9, 10, 11, 8, 12] rfl (by decide +kernel)
set_option maxRecDepth 20000 in
theorem gX11_entry_X11_areRows : GoodIn wsX11_entry (va_wsS RX11 86 yX11_areRows wsX11_areRows) := goodIn_app (goodIn_of _ (by decide +kernel)) ggX11_entry_X11_areRows
set_option maxRecDepth 20000 in
theorem ggX11_entry_X11_isRow : GoodIn wsX11_entry wsX11_isRow := goodIn_r _ [12] rfl (by decide +kernel)
set_option maxRecDepth 20000 in
theorem gX11_entry_X11_isRow : GoodIn wsX11_entry (va_wsS RX11 64 yX11_isRow wsX11_isRow) := goodIn_app (goodIn_of _ (by decide +kernel)) ggX11_entry_X11_isRow
set_option maxRecDepth 20000 in
theorem ggX11_entry_X3_become : GoodIn wsX11_entry wsX3_become := goodIn_r _ [17, 18, 19, 20, 21, 22, 23, 24, 25, 26, 27, 28, 29, 30, 31, 32, 33, 34, 35, 36, 37, 38, 39, 40, 41, 42, 43, 44, 45, 46, 47, 48, 49, 50, 51, 52, 53, 54, 55, 66, 67, 68, 69, 70, 71, 72, 64, 65, 73] rfl (by decide +kernel)
set_option maxRecDepth 20000 in
theorem gX11_entry_X3_become : GoodIn wsX11_entry (wsV RX11 146 RX3 yX3_become wsX3_become) := goodIn_app (goodIn_of _ (by decide +kernel)) ggX11_entry_X3_become
theorem dX11_entry_0 : decode cX11_entry 0 = .ok (.iload_n 1, 1) := by decide +kernel
theorem dX11_entry_1 : decode cX11_entry 1 = .ok (.iload_n 2, 1) := by decide +kernel
theorem dX11_entry_2 : decode cX11_entry 2 = .ok (.invokestatic 86, 3) := by decide +kernel
theorem dX11_entry_5 : decode cX11_entry 5 = .ok (.ifCond .eq 37, 3) := by decide +kernel
theorem dX11_entry_8 : decode cX11_entry 8 = .ok (.iload_n 3, 1) := by decide +kernel
theorem dX11_entry_9 : decode cX11_entry 9 = .ok (.invokestatic 64, 3) := by decide +kernel
theorem dX11_entry_12 : decode cX11_entry 12 = .ok (.ifCond .eq 30, 3) := by decide +kernel
theorem dX11_entry_15 : decode cX11_entry 15 = .ok (.lload 4, 2) := by decide +kernel
theorem dX11_entry_17 : decode cX11_entry 17 = .ok (.lconst 1, 1) := by decide +kernel
theorem dX11_entry_18 : decode cX11_entry 18 = .ok (.lcmp, 1) := by decide +kernel
theorem dX11_entry_19 : decode cX11_entry 19 = .ok (.ifCond .lt 23, 3) := by decide +kernel
theorem dX11_entry_22 : decode cX11_entry 22 = .ok (.lload 4, 2) := by decide +kernel
theorem dX11_entry_24 : decode cX11_entry 24 = .ok (.aload_n 0, 1) := by decide +kernel
theorem dX11_entry_25 : decode cX11_entry 25 = .ok (.getfield 56, 3) := by decide +kernel
theorem dX11_entry_28 : decode cX11_entry 28 = .ok (.ifCond .ne 7, 3) := by decide +kernel
theorem dX11_entry_31 : decode cX11_entry 31 = .ok (.lconst 1, 1) := by decide +kernel
theorem dX11_entry_32 : decode cX11_entry 32 = .ok (.goto 6, 3) := by decide +kernel
theorem dX11_entry_35 : decode cX11_entry 35 = .ok (.ldc2_w 144, 3) := by decide +kernel
theorem dX11_entry_38 : decode cX11_entry 38 = .ok (.lcmp, 1) := by decide +kernel
theorem dX11_entry_39 : decode cX11_entry 39 = .ok (.ifCond .le 5, 3) := by decide +kernel
theorem dX11_entry_42 : decode cX11_entry 42 = .ok (.iconst (-1), 1) := by decide +kernel
theorem dX11_entry_43 : decode cX11_entry 43 = .ok (.ireturn, 1) := by decide +kernel
theorem dX11_entry_44 : decode cX11_entry 44 = .ok (.aload_n 0, 1) := by decide +kernel
theorem dX11_entry_45 : decode cX11_entry 45 = .ok (.getfield 11, 3) := by decide +kernel
theorem dX11_entry_48 : decode cX11_entry 48 = .ok (.iload_n 1, 1) := by decide +kernel
theorem dX11_entry_49 : decode cX11_entry 49 = .ok (.aaload, 1) := by decide +kernel
theorem dX11_entry_50 : decode cX11_entry 50 = .ok (.getfield 68, 3) := by decide +kernel
theorem dX11_entry_53 : decode cX11_entry 53 = .ok (.bipush 32, 2) := by decide +kernel
theorem dX11_entry_55 : decode cX11_entry 55 = .ok (.if_icmp .ne 31, 3) := by decide +kernel
theorem dX11_entry_58 : decode cX11_entry 58 = .ok (.aload_n 0, 1) := by decide +kernel
theorem dX11_entry_59 : decode cX11_entry 59 = .ok (.getfield 11, 3) := by decide +kernel
theorem dX11_entry_62 : decode cX11_entry 62 = .ok (.iload_n 3, 1) := by decide +kernel
theorem dX11_entry_63 : decode cX11_entry 63 = .ok (.aaload, 1) := by decide +kernel
theorem dX11_entry_64 : decode cX11_entry 64 = .ok (.getfield 68, 3) := by decide +kernel
theorem dX11_entry_67 : decode cX11_entry 67 = .ok (.bipush 64, 2) := by decide +kernel
theorem dX11_entry_69 : decode cX11_entry 69 = .ok (.if_icmp .ne 17, 3) := by decide +kernel
theorem dX11_entry_72 : decode cX11_entry 72 = .ok (.aload_n 0, 1) := by decide +kernel
theorem dX11_entry_73 : decode cX11_entry 73 = .ok (.getfield 11, 3) := by decide +kernel
theorem dX11_entry_76 : decode cX11_entry 76 = .ok (.iload_n 2, 1) := by decide +kernel
theorem dX11_entry_77 : decode cX11_entry 77 = .ok (.aaload, 1) := by decide +kernel
theorem dX11_entry_78 : decode cX11_entry 78 = .ok (.getfield 68, 3) := by decide +kernel
theorem dX11_entry_81 : decode cX11_entry 81 = .ok (.bipush 40, 2) := by decide +kernel
theorem dX11_entry_83 : decode cX11_entry 83 = .ok (.if_icmp .le 6, 3) := by decide +kernel
theorem dX11_entry_86 : decode cX11_entry 86 = .ok (.bipush (-2), 2) := by decide +kernel
theorem dX11_entry_88 : decode cX11_entry 88 = .ok (.ireturn, 1) := by decide +kernel
theorem dX11_entry_89 : decode cX11_entry 89 = .ok (.aload_n 0, 1) := by decide +kernel
theorem dX11_entry_90 : decode cX11_entry 90 = .ok (.getfield 56, 3) := by decide +kernel
theorem dX11_entry_93 : decode cX11_entry 93 = .ok (.iconst 4, 1) := by decide +kernel
theorem dX11_entry_94 : decode cX11_entry 94 = .ok (.if_icmp .lt 6, 3) := by decide +kernel
theorem dX11_entry_97 : decode cX11_entry 97 = .ok (.bipush (-3), 2) := by decide +kernel
theorem dX11_entry_99 : decode cX11_entry 99 = .ok (.ireturn, 1) := by decide +kernel
theorem dX11_entry_100 : decode cX11_entry 100 = .ok (.aload_n 0, 1) := by decide +kernel
theorem dX11_entry_101 : decode cX11_entry 101 = .ok (.getfield 52, 3) := by decide +kernel
theorem dX11_entry_104 : decode cX11_entry 104 = .ok (.aload_n 0, 1) := by decide +kernel
theorem dX11_entry_105 : decode cX11_entry 105 = .ok (.getfield 56, 3) := by decide +kernel
theorem dX11_entry_108 : decode cX11_entry 108 = .ok (.aaload, 1) := by decide +kernel
theorem dX11_entry_109 : decode cX11_entry 109 = .ok (.aload_n 0, 1) := by decide +kernel
theorem dX11_entry_110 : decode cX11_entry 110 = .ok (.getfield 11, 3) := by decide +kernel
theorem dX11_entry_113 : decode cX11_entry 113 = .ok (.iload_n 1, 1) := by decide +kernel
theorem dX11_entry_114 : decode cX11_entry 114 = .ok (.aaload, 1) := by decide +kernel
theorem dX11_entry_115 : decode cX11_entry 115 = .ok (.aload_n 0, 1) := by decide +kernel
theorem dX11_entry_116 : decode cX11_entry 116 = .ok (.getfield 11, 3) := by decide +kernel
theorem dX11_entry_119 : decode cX11_entry 119 = .ok (.iload_n 2, 1) := by decide +kernel
theorem dX11_entry_120 : decode cX11_entry 120 = .ok (.aaload, 1) := by decide +kernel
theorem dX11_entry_121 : decode cX11_entry 121 = .ok (.aload_n 0, 1) := by decide +kernel
theorem dX11_entry_122 : decode cX11_entry 122 = .ok (.getfield 11, 3) := by decide +kernel
theorem dX11_entry_125 : decode cX11_entry 125 = .ok (.iload_n 3, 1) := by decide +kernel
theorem dX11_entry_126 : decode cX11_entry 126 = .ok (.aaload, 1) := by decide +kernel
theorem dX11_entry_127 : decode cX11_entry 127 = .ok (.lload 4, 2) := by decide +kernel
theorem dX11_entry_129 : decode cX11_entry 129 = .ok (.invokevirtual 146, 3) := by decide +kernel
theorem dX11_entry_132 : decode cX11_entry 132 = .ok (.aload_n 0, 1) := by decide +kernel
theorem dX11_entry_133 : decode cX11_entry 133 = .ok (.dup, 1) := by decide +kernel
theorem dX11_entry_134 : decode cX11_entry 134 = .ok (.getfield 56, 3) := by decide +kernel
theorem dX11_entry_137 : decode cX11_entry 137 = .ok (.iconst 1, 1) := by decide +kernel
theorem dX11_entry_138 : decode cX11_entry 138 = .ok (.iadd, 1) := by decide +kernel
theorem dX11_entry_139 : decode cX11_entry 139 = .ok (.putfield 56, 3) := by decide +kernel
theorem dX11_entry_142 : decode cX11_entry 142 = .ok (.aload_n 0, 1) := by decide +kernel
theorem dX11_entry_143 : decode cX11_entry 143 = .ok (.getfield 56, 3) := by decide +kernel
theorem dX11_entry_146 : decode cX11_entry 146 = .ok (.ireturn, 1) := by decide +kernel
set_option maxRecDepth 20000 in
theorem ggX11_manyHold_X10_canJoin : GoodIn wsX11_manyHold wsX10_canJoin := goodIn_r _ [9, 10, 11, 12, 13, 14, 15, 16, 17, 18, 19, 20, 21, 22, 23, 24, 25, 26, 27, 28, 29, 30, 31, 32, 33, 34, 35, 36, 37, 38, 39, 40, 41, 42, 43, 44, 45, 46, 47, 48, 49, 50, 51, 52, 53, 54, 55, 56, 57, 58, 59, 60, 61, 62, 63, 64, 65, 66, 67, 68, 69, 70, 71, 72, 73, 74, 75, 76, 77, 78, 79, 80, 81, 82, 83, 84, 85, 86, 87, 88, 89, 90, 91, 92, 93, 94, 95, 96, 97, 98, 99, 100, 101, 102, 103, 104, 105, 106, 107, 108, 109, 110, 111, 112, 113, 114, 115, 116, 117, 118, 119, 120, 121, 122, 123, 124, 125, 126, 127, 128, 129, 130, 131, 132, 133, 347, 348, 349, 350, 351, 352, 353, 354, 355, 356, 357, 358, 359, 360, 361, 362, 363, 364, 365, 366, 367, 368, 369, 370, 371, 372, 373, 374, 375, 376, 377, 378, 379, 380, 381, 382, 383, 384, 385, 386, 387, 388, 389, 390, 391, 392, 393, 394, 395, 396, 397] rfl (by decide +kernel)
set_option maxRecDepth 20000 in
theorem gX11_manyHold_X10_canJoin : GoodIn wsX11_manyHold (wsV RX11 149 RX10 yX10_canJoin wsX10_canJoin) := goodIn_app (goodIn_of _ (by decide +kernel)) ggX11_manyHold_X10_canJoin
set_option maxRecDepth 20000 in
theorem ggX11_manyHold_X11_wouldPass : GoodIn wsX11_manyHold wsX11_wouldPass := goodIn_r _ [138, 4, 339, 340, 341, 342, 343, 344, 345, 346] rfl (by decide +kernel)
set_option maxRecDepth 20000 in
theorem gX11_manyHold_X11_wouldPass : GoodIn wsX11_manyHold (wsV RX11 116 RX11 yX11_wouldPass wsX11_wouldPass) := goodIn_app (goodIn_of _ (by decide +kernel)) ggX11_manyHold_X11_wouldPass
set_option maxRecDepth 20000 in
theorem ggX11_manyHold_X10_judgeMany : GoodIn wsX11_manyHold wsX10_judgeMany := goodIn_r _ [142, 143, 144, 145, 146, 147, 15, 10, 148, 13, 149, 14, 12, 150, 11, 151, 152, 153, 154, 125, 155, 127, 156, 157, 158, 159, 160, 161, 162, 163, 164, 165, 166, 167, 168, 169, 170, 129, 130, 131, 132, 133, 171, 172, 173, 174, 175, 176, 177, 19, 178, 179, 28, 180, 181, 182, 114, 183, 184, 116, 185, 186, 187, 94, 95, 32, 96, 49, 50, 51, 52, 53, 54, 55, 56, 57, 188, 189, 190, 191, 22, 26, 25, 21, 192, 24, 193, 194, 64, 65, 66, 67, 48, 68, 62, 69, 195, 196, 197, 198, 74, 75, 76, 77, 199, 200, 201, 202, 103, 104, 105, 106, 63, 58, 59, 60, 61, 44, 45, 46, 47, 203, 204, 205, 206, 207, 118, 119, 120, 208, 209, 210, 211, 212, 213, 214, 215, 8, 216, 217, 218, 219, 220, 221, 222, 223, 224, 225, 226, 227, 228, 229, 230, 231, 232, 233, 234, 235, 236, 237, 238, 239, 240, 241, 242, 243, 244, 245, 246, 247, 248, 249, 250, 251, 252, 253, 254, 255, 256, 257, 258, 259, 260, 261, 262, 263, 264, 265, 266, 267, 268, 269, 270, 271, 272, 273, 274, 275, 276, 277, 278, 279, 280, 281, 282, 283, 284, 285, 286, 287, 288, 289, 290, 291, 292, 293, 294, 295, 296, 297, 298, 299, 300, 301, 302, 303, 37, 304, 305, 306, 307, 308, 309, 310, 311, 312, 313, 43, 314, 315, 316, 317, 318, 319, 40, 41, 42, 320, 321, 322, 323, 324, 325, 326, 327, 328, 329, 330, 123, 124, 126, 128, 35, 36, 38, 39, 331, 332, 333, 334, 335, 336, 337, 338, 347, 348, 349, 350, 351, 352, 353, 354, 355, 356, 357, 358, 359, 367, 368, 369, 370, 360, 361, 362, 363, 364, 365, 366, 371, 372, 373, 374, 375, 376, 377, 378, 379, 397, 382, 383, 384, 385, 386, 387, 388, 389, 390, 398, 399, 400, 401, 380, 381] rfl (by decide +kernel)
set_option maxRecDepth 20000 in
theorem gX11_manyHold_X10_judgeMany : GoodIn wsX11_manyHold (wsV RX11 153 RX10 yX10_judgeMany wsX10_judgeMany) := goodIn_app (goodIn_of _ (by decide +kernel)) ggX11_manyHold_X10_judgeMany
theorem dX11_manyHold_0 : decode cX11_manyHold 0 = .ok (.aload_n 0, 1) := by decide +kernel
theorem dX11_manyHold_1 : decode cX11_manyHold 1 = .ok (.getfield 56, 3) := by decide +kernel
theorem dX11_manyHold_4 : decode cX11_manyHold 4 = .ok (.ifCond .ne 6, 3) := by decide +kernel
theorem dX11_manyHold_7 : decode cX11_manyHold 7 = .ok (.bipush (-2), 2) := by decide +kernel
theorem dX11_manyHold_9 : decode cX11_manyHold 9 = .ok (.ireturn, 1) := by decide +kernel
theorem dX11_manyHold_10 : decode cX11_manyHold 10 = .ok (.iconst 1, 1) := by decide +kernel
theorem dX11_manyHold_11 : decode cX11_manyHold 11 = .ok (.istore_n 1, 1) := by decide +kernel
theorem dX11_manyHold_12 : decode cX11_manyHold 12 = .ok (.iconst 0, 1) := by decide +kernel
theorem dX11_manyHold_13 : decode cX11_manyHold 13 = .ok (.istore_n 2, 1) := by decide +kernel
theorem dX11_manyHold_14 : decode cX11_manyHold 14 = .ok (.iload_n 2, 1) := by decide +kernel
theorem dX11_manyHold_15 : decode cX11_manyHold 15 = .ok (.aload_n 0, 1) := by decide +kernel
theorem dX11_manyHold_16 : decode cX11_manyHold 16 = .ok (.getfield 56, 3) := by decide +kernel
theorem dX11_manyHold_19 : decode cX11_manyHold 19 = .ok (.if_icmp .ge 40, 3) := by decide +kernel
theorem dX11_manyHold_22 : decode cX11_manyHold 22 = .ok (.iload_n 2, 1) := by decide +kernel
theorem dX11_manyHold_23 : decode cX11_manyHold 23 = .ok (.iconst 4, 1) := by decide +kernel
theorem dX11_manyHold_24 : decode cX11_manyHold 24 = .ok (.if_icmp .ge 35, 3) := by decide +kernel
theorem dX11_manyHold_27 : decode cX11_manyHold 27 = .ok (.iload_n 1, 1) := by decide +kernel
theorem dX11_manyHold_28 : decode cX11_manyHold 28 = .ok (.ifCond .eq 23, 3) := by decide +kernel
theorem dX11_manyHold_31 : decode cX11_manyHold 31 = .ok (.aload_n 0, 1) := by decide +kernel
theorem dX11_manyHold_32 : decode cX11_manyHold 32 = .ok (.getfield 37, 3) := by decide +kernel
theorem dX11_manyHold_35 : decode cX11_manyHold 35 = .ok (.aload_n 0, 1) := by decide +kernel
theorem dX11_manyHold_36 : decode cX11_manyHold 36 = .ok (.getfield 52, 3) := by decide +kernel
theorem dX11_manyHold_39 : decode cX11_manyHold 39 = .ok (.iload_n 2, 1) := by decide +kernel
theorem dX11_manyHold_40 : decode cX11_manyHold 40 = .ok (.aaload, 1) := by decide +kernel
theorem dX11_manyHold_41 : decode cX11_manyHold 41 = .ok (.invokevirtual 149, 3) := by decide +kernel
theorem dX11_manyHold_44 : decode cX11_manyHold 44 = .ok (.ifCond .eq 7, 3) := by decide +kernel
theorem dX11_manyHold_47 : decode cX11_manyHold 47 = .ok (.iconst 1, 1) := by decide +kernel
theorem dX11_manyHold_48 : decode cX11_manyHold 48 = .ok (.goto 4, 3) := by decide +kernel
theorem dX11_manyHold_51 : decode cX11_manyHold 51 = .ok (.iconst 0, 1) := by decide +kernel
theorem dX11_manyHold_52 : decode cX11_manyHold 52 = .ok (.istore_n 1, 1) := by decide +kernel
theorem dX11_manyHold_53 : decode cX11_manyHold 53 = .ok (.iinc 2 1, 3) := by decide +kernel
theorem dX11_manyHold_56 : decode cX11_manyHold 56 = .ok (.goto (-42), 3) := by decide +kernel
theorem dX11_manyHold_59 : decode cX11_manyHold 59 = .ok (.iload_n 1, 1) := by decide +kernel
theorem dX11_manyHold_60 : decode cX11_manyHold 60 = .ok (.ifCond .eq 14, 3) := by decide +kernel
theorem dX11_manyHold_63 : decode cX11_manyHold 63 = .ok (.iconst 1, 1) := by decide +kernel
theorem dX11_manyHold_64 : decode cX11_manyHold 64 = .ok (.iconst 2, 1) := by decide +kernel
theorem dX11_manyHold_65 : decode cX11_manyHold 65 = .ok (.aload_n 0, 1) := by decide +kernel
theorem dX11_manyHold_66 : decode cX11_manyHold 66 = .ok (.getfield 56, 3) := by decide +kernel
theorem dX11_manyHold_69 : decode cX11_manyHold 69 = .ok (.imul, 1) := by decide +kernel
theorem dX11_manyHold_70 : decode cX11_manyHold 70 = .ok (.iadd, 1) := by decide +kernel
theorem dX11_manyHold_71 : decode cX11_manyHold 71 = .ok (.goto 4, 3) := by decide +kernel
theorem dX11_manyHold_74 : decode cX11_manyHold 74 = .ok (.iconst 0, 1) := by decide +kernel
theorem dX11_manyHold_75 : decode cX11_manyHold 75 = .ok (.istore_n 2, 1) := by decide +kernel
theorem dX11_manyHold_76 : decode cX11_manyHold 76 = .ok (.aload_n 0, 1) := by decide +kernel
theorem dX11_manyHold_77 : decode cX11_manyHold 77 = .ok (.iload_n 2, 1) := by decide +kernel
theorem dX11_manyHold_78 : decode cX11_manyHold 78 = .ok (.invokevirtual 116, 3) := by decide +kernel
theorem dX11_manyHold_81 : decode cX11_manyHold 81 = .ok (.ifCond .eq 6, 3) := by decide +kernel
theorem dX11_manyHold_84 : decode cX11_manyHold 84 = .ok (.bipush (-5), 2) := by decide +kernel
theorem dX11_manyHold_86 : decode cX11_manyHold 86 = .ok (.ireturn, 1) := by decide +kernel
theorem dX11_manyHold_87 : decode cX11_manyHold 87 = .ok (.aload_n 0, 1) := by decide +kernel
theorem dX11_manyHold_88 : decode cX11_manyHold 88 = .ok (.dup, 1) := by decide +kernel
theorem dX11_manyHold_89 : decode cX11_manyHold 89 = .ok (.getfield 60, 3) := by decide +kernel
theorem dX11_manyHold_92 : decode cX11_manyHold 92 = .ok (.iload_n 2, 1) := by decide +kernel
theorem dX11_manyHold_93 : decode cX11_manyHold 93 = .ok (.iadd, 1) := by decide +kernel
theorem dX11_manyHold_94 : decode cX11_manyHold 94 = .ok (.putfield 60, 3) := by decide +kernel
theorem dX11_manyHold_97 : decode cX11_manyHold 97 = .ok (.iload_n 1, 1) := by decide +kernel
theorem dX11_manyHold_98 : decode cX11_manyHold 98 = .ok (.ifCond .eq 25, 3) := by decide +kernel
theorem dX11_manyHold_101 : decode cX11_manyHold 101 = .ok (.aload_n 0, 1) := by decide +kernel
theorem dX11_manyHold_102 : decode cX11_manyHold 102 = .ok (.getfield 37, 3) := by decide +kernel
theorem dX11_manyHold_105 : decode cX11_manyHold 105 = .ok (.aload_n 0, 1) := by decide +kernel
theorem dX11_manyHold_106 : decode cX11_manyHold 106 = .ok (.getfield 52, 3) := by decide +kernel
theorem dX11_manyHold_109 : decode cX11_manyHold 109 = .ok (.aload_n 0, 1) := by decide +kernel
theorem dX11_manyHold_110 : decode cX11_manyHold 110 = .ok (.getfield 56, 3) := by decide +kernel
theorem dX11_manyHold_113 : decode cX11_manyHold 113 = .ok (.invokevirtual 153, 3) := by decide +kernel
theorem dX11_manyHold_116 : decode cX11_manyHold 116 = .ok (.ifCond .eq 7, 3) := by decide +kernel
theorem dX11_manyHold_119 : decode cX11_manyHold 119 = .ok (.iconst 1, 1) := by decide +kernel
theorem dX11_manyHold_120 : decode cX11_manyHold 120 = .ok (.goto 4, 3) := by decide +kernel
theorem dX11_manyHold_123 : decode cX11_manyHold 123 = .ok (.iconst 0, 1) := by decide +kernel
theorem dX11_manyHold_124 : decode cX11_manyHold 124 = .ok (.istore_n 3, 1) := by decide +kernel
theorem dX11_manyHold_125 : decode cX11_manyHold 125 = .ok (.aload_n 0, 1) := by decide +kernel
theorem dX11_manyHold_126 : decode cX11_manyHold 126 = .ok (.iconst 0, 1) := by decide +kernel
theorem dX11_manyHold_127 : decode cX11_manyHold 127 = .ok (.putfield 56, 3) := by decide +kernel
theorem dX11_manyHold_130 : decode cX11_manyHold 130 = .ok (.iload_n 3, 1) := by decide +kernel
theorem dX11_manyHold_131 : decode cX11_manyHold 131 = .ok (.ifCond .eq 7, 3) := by decide +kernel
theorem dX11_manyHold_134 : decode cX11_manyHold 134 = .ok (.iconst 1, 1) := by decide +kernel
theorem dX11_manyHold_135 : decode cX11_manyHold 135 = .ok (.goto 4, 3) := by decide +kernel
theorem dX11_manyHold_138 : decode cX11_manyHold 138 = .ok (.iconst 0, 1) := by decide +kernel
theorem dX11_manyHold_139 : decode cX11_manyHold 139 = .ok (.ireturn, 1) := by decide +kernel
set_option maxRecDepth 20000 in
theorem ggX11_signer_X11_isRow : GoodIn wsX11_signer wsX11_isRow := goodIn_r _ [7] rfl (by decide +kernel)
set_option maxRecDepth 20000 in
theorem gX11_signer_X11_isRow : GoodIn wsX11_signer (va_wsS RX11 64 yX11_isRow wsX11_isRow) := goodIn_app (goodIn_of _ (by decide +kernel)) ggX11_signer_X11_isRow
set_option maxRecDepth 20000 in
theorem ggX11_signer_X4_canRead : GoodIn wsX11_signer wsX4_canRead := goodIn_r _ [12, 13, 14, 15, 16, 17, 18, 19, 20, 21, 22, 23, 24, 25, 26, 27, 28, 29, 30, 31, 32, 33, 34, 35, 36, 37, 38, 39, 40, 41, 42, 43, 44, 45, 46, 47, 48, 49, 50, 51, 52, 53, 54, 55, 56, 57, 58, 59, 60, 61, 62, 63, 64, 65, 66, 67, 68, 69, 70, 71, 72, 73, 74, 75, 76, 77, 78, 79, 80, 81, 82, 83, 84, 85, 86, 87, 88, 89, 90, 91, 92, 93, 94, 95, 96, 97, 98, 99, 100, 101, 102, 103, 104, 105, 106, 107, 108, 109, 110, 111, 112, 113, 114, 115, 116, 117, 118, 119, 120, 121, 122, 123, 124, 125, 126, 204, 205, 184, 185, 186, 187, 188, 189, 190, 191, 192, 193, 194, 195, 196, 197, 198, 199, 200, 201, 202, 203, 206, 207, 208, 209, 210, 211, 212, 213, 214, 215, 216, 217, 218, 219, 220, 221, 222, 223, 224, 225, 226, 227, 228, 229, 230, 231, 232, 233] rfl (by decide +kernel)
set_option maxRecDepth 20000 in
theorem gX11_signer_X4_canRead : GoodIn wsX11_signer (wsV RX11 157 RX4 yX4_canRead wsX4_canRead) := goodIn_app (goodIn_of _ (by decide +kernel)) ggX11_signer_X4_canRead
set_option maxRecDepth 20000 in
theorem ggX11_signer_X4_isFull : GoodIn wsX11_signer wsX4_isFull := goodIn_r _ [130, 131, 184, 185, 186, 187, 188, 189, 190, 191, 192, 193, 194, 195, 196, 197, 198, 199, 200, 201, 202, 203] rfl (by decide +kernel)
set_option maxRecDepth 20000 in
theorem gX11_signer_X4_isFull : GoodIn wsX11_signer (wsV RX11 160 RX4 yX4_isFull wsX4_isFull) := goodIn_app (goodIn_of _ (by decide +kernel)) ggX11_signer_X4_isFull
set_option maxRecDepth 20000 in
theorem ggX11_signer_X4_addMember : GoodIn wsX11_signer wsX4_addMember := goodIn_r _ [135, 131, 136, 137, 138, 15, 139, 128, 129, 11, 130, 140, 141, 142, 24, 143, 144, 145, 146, 147, 148, 149, 150, 151, 152, 153, 154, 155, 156, 48, 22, 23, 25, 26, 157, 158, 159, 160, 161, 162, 163, 119, 164, 165, 121, 166, 167, 168, 99, 100, 42, 101, 54, 55, 56, 57, 58, 59, 60, 61, 62, 169, 170, 171, 172, 173, 174, 175, 184, 185, 186, 187, 188, 189, 190, 191, 192, 193, 194, 195, 196, 197, 198, 199, 200, 201, 202, 203, 234, 235, 236, 237, 238, 239, 240, 241, 242, 243, 244, 204, 205, 206, 207, 208, 209, 219, 220, 221, 222, 223, 224, 225, 226, 227] rfl (by decide +kernel)
set_option maxRecDepth 20000 in
theorem gX11_signer_X4_addMember : GoodIn wsX11_signer (wsV RX11 164 RX4 yX4_addMember wsX4_addMember) := goodIn_app (goodIn_of _ (by decide +kernel)) ggX11_signer_X4_addMember
theorem dX11_signer_0 : decode cX11_signer 0 = .ok (.iload_n 1, 1) := by decide +kernel
theorem dX11_signer_1 : decode cX11_signer 1 = .ok (.invokestatic 64, 3) := by decide +kernel
theorem dX11_signer_4 : decode cX11_signer 4 = .ok (.ifCond .ne 5, 3) := by decide +kernel
theorem dX11_signer_7 : decode cX11_signer 7 = .ok (.iconst (-1), 1) := by decide +kernel
theorem dX11_signer_8 : decode cX11_signer 8 = .ok (.ireturn, 1) := by decide +kernel
theorem dX11_signer_9 : decode cX11_signer 9 = .ok (.aload_n 0, 1) := by decide +kernel
theorem dX11_signer_10 : decode cX11_signer 10 = .ok (.getfield 46, 3) := by decide +kernel
theorem dX11_signer_13 : decode cX11_signer 13 = .ok (.aload_n 0, 1) := by decide +kernel
theorem dX11_signer_14 : decode cX11_signer 14 = .ok (.getfield 11, 3) := by decide +kernel
theorem dX11_signer_17 : decode cX11_signer 17 = .ok (.iload_n 1, 1) := by decide +kernel
theorem dX11_signer_18 : decode cX11_signer 18 = .ok (.aaload, 1) := by decide +kernel
theorem dX11_signer_19 : decode cX11_signer 19 = .ok (.invokevirtual 157, 3) := by decide +kernel
theorem dX11_signer_22 : decode cX11_signer 22 = .ok (.ifCond .ne 6, 3) := by decide +kernel
theorem dX11_signer_25 : decode cX11_signer 25 = .ok (.bipush (-2), 2) := by decide +kernel
theorem dX11_signer_27 : decode cX11_signer 27 = .ok (.ireturn, 1) := by decide +kernel
theorem dX11_signer_28 : decode cX11_signer 28 = .ok (.aload_n 0, 1) := by decide +kernel
theorem dX11_signer_29 : decode cX11_signer 29 = .ok (.getfield 46, 3) := by decide +kernel
theorem dX11_signer_32 : decode cX11_signer 32 = .ok (.invokevirtual 160, 3) := by decide +kernel
theorem dX11_signer_35 : decode cX11_signer 35 = .ok (.ifCond .eq 6, 3) := by decide +kernel
theorem dX11_signer_38 : decode cX11_signer 38 = .ok (.bipush (-3), 2) := by decide +kernel
theorem dX11_signer_40 : decode cX11_signer 40 = .ok (.ireturn, 1) := by decide +kernel
theorem dX11_signer_41 : decode cX11_signer 41 = .ok (.aload_n 0, 1) := by decide +kernel
theorem dX11_signer_42 : decode cX11_signer 42 = .ok (.getfield 46, 3) := by decide +kernel
theorem dX11_signer_45 : decode cX11_signer 45 = .ok (.aload_n 0, 1) := by decide +kernel
theorem dX11_signer_46 : decode cX11_signer 46 = .ok (.getfield 11, 3) := by decide +kernel
theorem dX11_signer_49 : decode cX11_signer 49 = .ok (.iload_n 1, 1) := by decide +kernel
theorem dX11_signer_50 : decode cX11_signer 50 = .ok (.aaload, 1) := by decide +kernel
theorem dX11_signer_51 : decode cX11_signer 51 = .ok (.invokevirtual 164, 3) := by decide +kernel
theorem dX11_signer_54 : decode cX11_signer 54 = .ok (.aload_n 0, 1) := by decide +kernel
theorem dX11_signer_55 : decode cX11_signer 55 = .ok (.getfield 46, 3) := by decide +kernel
theorem dX11_signer_58 : decode cX11_signer 58 = .ok (.getfield 167, 3) := by decide +kernel
theorem dX11_signer_61 : decode cX11_signer 61 = .ok (.ireturn, 1) := by decide +kernel
set_option maxRecDepth 20000 in
theorem ggX11_noSigners_X4_dissolve : GoodIn wsX11_noSigners wsX4_dissolve := goodIn_r _ [7, 8, 9, 10, 11, 6, 12, 13, 14, 15, 16, 25, 26, 27, 28, 29, 30, 31, 32, 33, 34, 35, 36, 37, 38, 39, 40, 41, 42, 43, 44, 45, 46, 47, 48, 49, 50, 51, 52, 53, 54, 55] rfl (by decide +kernel)
set_option maxRecDepth 20000 in
theorem gX11_noSigners_X4_dissolve : GoodIn wsX11_noSigners (wsV RX11 170 RX4 yX4_dissolve wsX4_dissolve) := goodIn_app (goodIn_of _ (by decide +kernel)) ggX11_noSigners_X4_dissolve
theorem dX11_noSigners_0 : decode cX11_noSigners 0 = .ok (.aload_n 0, 1) := by decide +kernel
theorem dX11_noSigners_1 : decode cX11_noSigners 1 = .ok (.getfield 46, 3) := by decide +kernel
theorem dX11_noSigners_4 : decode cX11_noSigners 4 = .ok (.getfield 167, 3) := by decide +kernel
theorem dX11_noSigners_7 : decode cX11_noSigners 7 = .ok (.istore_n 1, 1) := by decide +kernel
theorem dX11_noSigners_8 : decode cX11_noSigners 8 = .ok (.aload_n 0, 1) := by decide +kernel
theorem dX11_noSigners_9 : decode cX11_noSigners 9 = .ok (.getfield 46, 3) := by decide +kernel
theorem dX11_noSigners_12 : decode cX11_noSigners 12 = .ok (.invokevirtual 170, 3) := by decide +kernel
theorem dX11_noSigners_15 : decode cX11_noSigners 15 = .ok (.iload_n 1, 1) := by decide +kernel
theorem dX11_noSigners_16 : decode cX11_noSigners 16 = .ok (.ireturn, 1) := by decide +kernel
set_option maxRecDepth 20000 in
theorem ggX11_jointKey_X11_isRow : GoodIn wsX11_jointKey wsX11_isRow := goodIn_r _ [9] rfl (by decide +kernel)
set_option maxRecDepth 20000 in
theorem gX11_jointKey_X11_isRow : GoodIn wsX11_jointKey (va_wsS RX11 64 yX11_isRow wsX11_isRow) := goodIn_app (goodIn_of _ (by decide +kernel)) ggX11_jointKey_X11_isRow
set_option maxRecDepth 20000 in
theorem ggX11_jointKey_X11_wouldPass : GoodIn wsX11_jointKey wsX11_wouldPass := goodIn_r _ [13, 3, 336, 337, 338, 339, 340, 341, 342, 343] rfl (by decide +kernel)
set_option maxRecDepth 20000 in
theorem gX11_jointKey_X11_wouldPass : GoodIn wsX11_jointKey (wsV RX11 116 RX11 yX11_wouldPass wsX11_wouldPass) := goodIn_app (goodIn_of _ (by decide +kernel)) ggX11_jointKey_X11_wouldPass
set_option maxRecDepth 20000 in
theorem ggX11_jointKey_X4_joinKeys : GoodIn wsX11_jointKey wsX4_joinKeys := goodIn_r _ [18, 19, 20, 21, 22, 23, 24, 25, 26, 27, 28, 29, 30, 31, 32, 33, 17, 34, 35, 36, 37, 38, 39, 40, 41, 42, 43, 44, 45, 46, 47, 48, 49, 50, 51, 52, 53, 54, 55, 56, 57, 58, 59, 60, 61, 62, 63, 64, 65, 66, 67, 68, 69, 70, 71, 72, 73, 74, 75, 76, 77, 78, 79, 80, 81, 82, 83, 84, 85, 86, 87, 88, 89, 90, 91, 92, 93, 94, 95, 96, 97, 98, 99, 100, 101, 102, 103, 104, 105, 106, 107, 108, 109, 110, 111, 112, 113, 114, 115, 116, 117, 118, 119, 120, 121, 122, 123, 124, 125, 126, 127, 128, 129, 130, 131, 132, 133, 134, 135, 136, 137, 138, 139, 140, 141, 142, 143, 144, 145, 146, 147, 148, 149, 150, 151, 152, 153, 154, 155, 156, 157, 158, 159, 160, 161, 162, 163, 164, 165, 166, 167, 168, 169, 170, 171, 172, 173, 174, 175, 176, 177, 178, 179, 180, 181, 182, 183, 184, 185, 186, 187, 188, 189, 190, 191, 192, 193, 194, 195, 196, 197, 198, 199, 200, 201, 202, 203, 204, 205, 206, 207, 208, 209, 210, 211, 212, 213, 214, 215, 216, 217, 218, 219, 220, 221, 222, 223, 224, 225, 226, 227, 228, 229, 230, 231, 232, 233, 234, 235, 236, 237, 238, 239, 240, 241, 242, 243, 244, 245, 246, 247, 248, 249, 250, 251, 252, 253, 254, 255, 256, 257, 258, 259, 260, 261, 262, 263, 264, 265, 266, 267, 268, 269, 270, 271, 272, 273, 274, 275, 276, 277, 278, 279, 280, 281, 282, 283, 284, 285, 286, 287, 288, 289, 290, 291, 292, 293, 294, 295, 296, 297, 298, 299, 300, 301, 302, 303, 304, 305, 306, 307, 308, 309, 310, 311, 312, 313, 314, 315, 316, 344, 345, 346, 347, 348, 349, 350, 351, 352, 353, 354, 355, 356, 357, 358, 359, 360, 361, 362, 363, 364, 365, 366, 367, 368, 369, 370, 371, 372, 373, 374, 375, 376, 377, 378, 379, 380, 381, 382, 383, 384, 385, 386, 387, 388, 389, 390, 391, 392, 393, 394, 395, 396, 397, 398, 399, 400, 401, 402, 403, 404, 405, 406, 407, 408, 409] rfl (by decide +kernel)
set_option maxRecDepth 20000 in
theorem gX11_jointKey_X4_joinKeys : GoodIn wsX11_jointKey (wsV RX11 173 RX4 yX4_joinKeys wsX4_joinKeys) := goodIn_app (goodIn_of _ (by decide +kernel)) ggX11_jointKey_X4_joinKeys
set_option maxRecDepth 20000 in
theorem ggX11_jointKey_X0_become : GoodIn wsX11_jointKey wsX0_become := goodIn_r _ [320, 321, 121, 122, 123, 124, 125, 322, 323, 324, 325, 326, 327, 328, 329, 154, 141, 142, 143, 134, 130, 131, 132, 133, 383, 384] rfl (by decide +kernel)
set_option maxRecDepth 20000 in
theorem gX11_jointKey_X0_become : GoodIn wsX11_jointKey (wsV RX11 90 RX0 yX0_become wsX0_become) := goodIn_app (goodIn_of _ (by decide +kernel)) ggX11_jointKey_X0_become
set_option maxRecDepth 20000 in
theorem ggX11_jointKey_X11_answerIn : GoodIn wsX11_jointKey wsX11_answerIn := goodIn_r _ [333, 334, 4, 335, 6, 7, 8, 9, 317, 318, 319, 123, 320, 321, 121, 122, 124, 125, 322, 323, 324, 325, 326, 327, 328, 329, 154, 141, 142, 143, 134, 130, 131, 132, 133, 336, 337, 338, 339, 340, 341, 342, 343, 383, 384] rfl (by decide +kernel)
set_option maxRecDepth 20000 in
theorem gX11_jointKey_X11_answerIn : GoodIn wsX11_jointKey (wsV RX11 97 RX11 yX11_answerIn wsX11_answerIn) := goodIn_app (goodIn_of _ (by decide +kernel)) ggX11_jointKey_X11_answerIn
theorem dX11_jointKey_0 : decode cX11_jointKey 0 = .ok (.iload_n 1, 1) := by decide +kernel
theorem dX11_jointKey_1 : decode cX11_jointKey 1 = .ok (.invokestatic 64, 3) := by decide +kernel
theorem dX11_jointKey_4 : decode cX11_jointKey 4 = .ok (.ifCond .ne 5, 3) := by decide +kernel
theorem dX11_jointKey_7 : decode cX11_jointKey 7 = .ok (.iconst (-1), 1) := by decide +kernel
theorem dX11_jointKey_8 : decode cX11_jointKey 8 = .ok (.ireturn, 1) := by decide +kernel
theorem dX11_jointKey_9 : decode cX11_jointKey 9 = .ok (.aload_n 0, 1) := by decide +kernel
theorem dX11_jointKey_10 : decode cX11_jointKey 10 = .ok (.getfield 46, 3) := by decide +kernel
theorem dX11_jointKey_13 : decode cX11_jointKey 13 = .ok (.getfield 167, 3) := by decide +kernel
theorem dX11_jointKey_16 : decode cX11_jointKey 16 = .ok (.ifCond .ne 6, 3) := by decide +kernel
theorem dX11_jointKey_19 : decode cX11_jointKey 19 = .ok (.bipush (-2), 2) := by decide +kernel
theorem dX11_jointKey_21 : decode cX11_jointKey 21 = .ok (.ireturn, 1) := by decide +kernel
theorem dX11_jointKey_22 : decode cX11_jointKey 22 = .ok (.aload_n 0, 1) := by decide +kernel
theorem dX11_jointKey_23 : decode cX11_jointKey 23 = .ok (.aload_n 0, 1) := by decide +kernel
theorem dX11_jointKey_24 : decode cX11_jointKey 24 = .ok (.getfield 46, 3) := by decide +kernel
theorem dX11_jointKey_27 : decode cX11_jointKey 27 = .ok (.getfield 167, 3) := by decide +kernel
theorem dX11_jointKey_30 : decode cX11_jointKey 30 = .ok (.invokevirtual 116, 3) := by decide +kernel
theorem dX11_jointKey_33 : decode cX11_jointKey 33 = .ok (.ifCond .eq 6, 3) := by decide +kernel
theorem dX11_jointKey_36 : decode cX11_jointKey 36 = .ok (.bipush (-5), 2) := by decide +kernel
theorem dX11_jointKey_38 : decode cX11_jointKey 38 = .ok (.ireturn, 1) := by decide +kernel
theorem dX11_jointKey_39 : decode cX11_jointKey 39 = .ok (.aload_n 0, 1) := by decide +kernel
theorem dX11_jointKey_40 : decode cX11_jointKey 40 = .ok (.dup, 1) := by decide +kernel
theorem dX11_jointKey_41 : decode cX11_jointKey 41 = .ok (.getfield 60, 3) := by decide +kernel
theorem dX11_jointKey_44 : decode cX11_jointKey 44 = .ok (.aload_n 0, 1) := by decide +kernel
theorem dX11_jointKey_45 : decode cX11_jointKey 45 = .ok (.getfield 46, 3) := by decide +kernel
theorem dX11_jointKey_48 : decode cX11_jointKey 48 = .ok (.getfield 167, 3) := by decide +kernel
theorem dX11_jointKey_51 : decode cX11_jointKey 51 = .ok (.iadd, 1) := by decide +kernel
theorem dX11_jointKey_52 : decode cX11_jointKey 52 = .ok (.putfield 60, 3) := by decide +kernel
theorem dX11_jointKey_55 : decode cX11_jointKey 55 = .ok (.aload_n 0, 1) := by decide +kernel
theorem dX11_jointKey_56 : decode cX11_jointKey 56 = .ok (.getfield 46, 3) := by decide +kernel
theorem dX11_jointKey_59 : decode cX11_jointKey 59 = .ok (.invokevirtual 173, 3) := by decide +kernel
theorem dX11_jointKey_62 : decode cX11_jointKey 62 = .ok (.ifCond .ne 6, 3) := by decide +kernel
theorem dX11_jointKey_65 : decode cX11_jointKey 65 = .ok (.bipush (-2), 2) := by decide +kernel
theorem dX11_jointKey_67 : decode cX11_jointKey 67 = .ok (.ireturn, 1) := by decide +kernel
theorem dX11_jointKey_68 : decode cX11_jointKey 68 = .ok (.aload_n 0, 1) := by decide +kernel
theorem dX11_jointKey_69 : decode cX11_jointKey 69 = .ok (.getfield 18, 3) := by decide +kernel
theorem dX11_jointKey_72 : decode cX11_jointKey 72 = .ok (.aload_n 0, 1) := by decide +kernel
theorem dX11_jointKey_73 : decode cX11_jointKey 73 = .ok (.getfield 46, 3) := by decide +kernel
theorem dX11_jointKey_76 : decode cX11_jointKey 76 = .ok (.getfield 176, 3) := by decide +kernel
theorem dX11_jointKey_79 : decode cX11_jointKey 79 = .ok (.invokevirtual 90, 3) := by decide +kernel
theorem dX11_jointKey_82 : decode cX11_jointKey 82 = .ok (.aload_n 0, 1) := by decide +kernel
theorem dX11_jointKey_83 : decode cX11_jointKey 83 = .ok (.iload_n 1, 1) := by decide +kernel
theorem dX11_jointKey_84 : decode cX11_jointKey 84 = .ok (.invokevirtual 97, 3) := by decide +kernel
theorem dX11_jointKey_87 : decode cX11_jointKey 87 = .ok (.ireturn, 1) := by decide +kernel
set_option maxRecDepth 20000 in
theorem ggX11_nonce_X11_areRows : GoodIn wsX11_nonce wsX11_areRows := goodIn_r _ [11, 12, 13, 10, 14] rfl (by decide +kernel)
set_option maxRecDepth 20000 in
theorem gX11_nonce_X11_areRows : GoodIn wsX11_nonce (va_wsS RX11 86 yX11_areRows wsX11_areRows) := goodIn_app (goodIn_of _ (by decide +kernel)) ggX11_nonce_X11_areRows
set_option maxRecDepth 20000 in
theorem ggX11_nonce_X4_hasMember : GoodIn wsX11_nonce wsX4_hasMember := goodIn_r _ [19, 20, 443, 444, 445, 446, 447, 448, 449, 450, 451, 452, 453, 454, 455, 456, 457, 458, 459, 460, 461, 462] rfl (by decide +kernel)
set_option maxRecDepth 20000 in
theorem gX11_nonce_X4_hasMember : GoodIn wsX11_nonce (wsV RX11 179 RX4 yX4_hasMember wsX4_hasMember) := goodIn_app (goodIn_of _ (by decide +kernel)) ggX11_nonce_X4_hasMember
set_option maxRecDepth 20000 in
theorem ggX11_nonce_X10_takeSecret : GoodIn wsX11_nonce wsX10_takeSecret := goodIn_r _ [25, 26, 27, 28, 29, 30, 31, 32, 33, 34, 35, 36, 37, 38, 39, 40, 41, 42, 43, 44, 45, 46, 47, 48, 49, 50, 51, 52, 441, 442, 463, 464, 465, 466, 467, 468, 469, 470, 471, 472, 473, 474, 475, 476] rfl (by decide +kernel)
set_option maxRecDepth 20000 in
theorem gX11_nonce_X10_takeSecret : GoodIn wsX11_nonce (wsV RX11 113 RX10 yX10_takeSecret wsX10_takeSecret) := goodIn_app (goodIn_of _ (by decide +kernel)) ggX11_nonce_X10_takeSecret
set_option maxRecDepth 20000 in
theorem ggX11_nonce_X11_wouldPass : GoodIn wsX11_nonce wsX11_wouldPass := goodIn_r _ [56, 6, 433, 434, 435, 436, 437, 438, 439, 440] rfl (by decide +kernel)
set_option maxRecDepth 20000 in
theorem gX11_nonce_X11_wouldPass : GoodIn wsX11_nonce (wsV RX11 116 RX11 yX11_wouldPass wsX11_wouldPass) := goodIn_app (goodIn_of _ (by decide +kernel)) ggX11_nonce_X11_wouldPass
set_option maxRecDepth 20000 in
theorem ggX11_nonce_X10_findOwn : GoodIn wsX11_nonce wsX10_findOwn := goodIn_r _ [60, 61, 62, 63, 27, 64, 65, 66, 67, 68, 69, 70, 71, 72, 73, 74, 75, 76, 77, 78, 79, 80, 81, 82, 83, 84, 85, 86, 87, 88, 89, 90, 91, 92, 93, 94, 95, 96, 97, 98, 99, 100, 101, 102, 103, 104, 105, 106, 107, 108, 109, 110, 111, 112, 113, 114, 115, 116, 117, 118, 119, 120, 121, 122, 123, 124, 125, 126, 127, 128, 129, 130, 131, 132, 133, 134, 135, 136, 137, 138, 139, 140, 141, 142, 143, 144, 145, 146, 147, 148, 149, 150, 31, 151, 33, 152, 153, 154, 155, 156, 157, 158, 159, 160, 161, 162, 163, 164, 165, 166, 167, 168, 169, 170, 171, 172, 173, 174, 175, 176, 177, 178, 179, 180, 37, 181, 182, 183, 184, 185, 186, 187, 188, 189, 190, 43, 191, 192, 193, 194, 195, 196, 197, 198, 199, 200, 201, 202, 203, 463, 464, 465, 466, 467, 468, 469, 470, 471, 472, 473, 474, 475, 477, 478, 479, 480, 481, 482, 483, 484, 485, 486, 487, 488, 489, 490, 491, 492, 493, 494, 495, 496, 497, 498, 476, 499, 500, 501, 502, 503, 504, 441, 442] rfl (by decide +kernel)
set_option maxRecDepth 20000 in
theorem gX11_nonce_X10_findOwn : GoodIn wsX11_nonce (wsV RX11 119 RX10 yX10_findOwn wsX10_findOwn) := goodIn_app (goodIn_of _ (by decide +kernel)) ggX11_nonce_X10_findOwn
set_option maxRecDepth 20000 in
theorem ggX11_nonce_X4_isOwn : GoodIn wsX11_nonce wsX4_isOwn := goodIn_r _ [207, 208, 209, 210, 211, 212, 16, 17, 18, 19, 20, 213, 214, 215, 37, 216, 182, 39, 40, 41, 42, 43, 443, 444, 445, 446, 447, 448, 449, 450, 451, 452, 453, 454, 455, 456, 457, 458, 459, 460, 461, 462, 505, 506, 507, 508, 509, 510, 511, 512, 513, 514, 515, 463, 464, 465, 466, 467, 468, 469, 470, 471, 472, 473, 474, 475, 441, 442] rfl (by decide +kernel)
set_option maxRecDepth 20000 in
theorem gX11_nonce_X4_isOwn : GoodIn wsX11_nonce (wsV RX11 182 RX4 yX4_isOwn wsX4_isOwn) := goodIn_app (goodIn_of _ (by decide +kernel)) ggX11_nonce_X4_isOwn
set_option maxRecDepth 20000 in
theorem ggX11_nonce_X4_joinKeys : GoodIn wsX11_nonce wsX4_joinKeys := goodIn_r _ [220, 221, 222, 20, 208, 223, 224, 225, 226, 227, 228, 229, 230, 231, 232, 233, 18, 234, 235, 209, 236, 237, 238, 239, 240, 241, 242, 243, 244, 245, 246, 247, 248, 249, 250, 251, 252, 253, 254, 255, 256, 257, 258, 259, 260, 261, 262, 263, 264, 265, 266, 267, 268, 269, 270, 271, 272, 273, 274, 275, 276, 277, 278, 279, 280, 281, 282, 283, 284, 285, 286, 287, 288, 289, 290, 291, 292, 293, 294, 295, 296, 297, 298, 299, 300, 301, 302, 303, 304, 305, 306, 307, 308, 309, 310, 311, 312, 313, 314, 315, 316, 317, 318, 319, 179, 180, 37, 181, 182, 320, 200, 201, 202, 203, 188, 189, 190, 43, 321, 322, 323, 324, 325, 326, 40, 41, 42, 327, 328, 329, 330, 331, 332, 213, 214, 215, 216, 39, 333, 334, 335, 336, 337, 338, 339, 340, 31, 341, 33, 342, 343, 344, 345, 346, 347, 29, 30, 32, 34, 35, 36, 38, 44, 45, 46, 47, 48, 348, 349, 350, 351, 352, 353, 354, 355, 356, 357, 66, 67, 68, 69, 70, 71, 72, 73, 74, 75, 76, 77, 78, 79, 80, 81, 82, 83, 84, 85, 86, 87, 88, 89, 90, 91, 92, 93, 94, 95, 96, 97, 98, 99, 100, 101, 102, 103, 104, 105, 106, 107, 108, 109, 110, 111, 112, 113, 114, 115, 116, 117, 118, 119, 120, 121, 122, 123, 124, 125, 126, 127, 128, 129, 130, 131, 132, 133, 134, 135, 136, 137, 138, 139, 140, 141, 142, 143, 144, 145, 146, 147, 148, 149, 150, 151, 358, 359, 153, 154, 155, 156, 157, 158, 159, 160, 161, 162, 163, 164, 165, 166, 167, 168, 169, 170, 171, 172, 173, 174, 175, 176, 177, 360, 192, 193, 194, 361, 362, 196, 197, 198, 199, 443, 444, 445, 446, 447, 448, 449, 450, 451, 452, 453, 454, 455, 456, 457, 458, 459, 460, 461, 462, 486, 487, 488, 489, 505, 506, 507, 508, 509, 510, 511, 512, 513, 514, 515, 516, 517, 518, 519, 441, 442, 476, 477, 478, 479, 480, 481, 482, 483, 484, 485, 490, 491, 492, 493, 494, 495, 496, 497, 498, 499, 500, 501, 502, 503, 504] rfl (by decide +kernel)
set_option maxRecDepth 20000 in
theorem gX11_nonce_X4_joinKeys : GoodIn wsX11_nonce (wsV RX11 173 RX4 yX4_joinKeys wsX4_joinKeys) := goodIn_app (goodIn_of _ (by decide +kernel)) ggX11_nonce_X4_joinKeys
set_option maxRecDepth 20000 in
theorem ggX11_nonce_X4_drawNonce : GoodIn wsX11_nonce wsX4_drawNonce := goodIn_r _ [366, 210, 367, 368, 208, 369, 370, 371, 372, 373, 374, 24, 375, 376, 377, 378, 27, 379, 238, 239, 240, 241, 242, 243, 244, 245, 246, 247, 248, 249, 250, 251, 252, 253, 254, 255, 256, 257, 258, 259, 260, 261, 262, 263, 264, 265, 266, 267, 268, 269, 270, 271, 272, 273, 274, 275, 276, 277, 278, 279, 280, 281, 282, 283, 284, 285, 286, 287, 288, 289, 290, 291, 292, 293, 294, 295, 296, 297, 298, 299, 300, 301, 302, 303, 304, 305, 306, 307, 308, 309, 310, 311, 312, 313, 314, 315, 316, 317, 318, 319, 179, 180, 37, 181, 182, 320, 200, 201, 202, 203, 188, 189, 190, 43, 321, 322, 323, 324, 325, 326, 40, 41, 42, 380, 381, 178, 382, 383, 384, 31, 385, 33, 386, 387, 388, 389, 390, 391, 392, 393, 394, 18, 395, 235, 396, 211, 229, 397, 337, 237, 327, 398, 399, 400, 401, 402, 328, 343, 344, 345, 346, 347, 29, 30, 32, 34, 35, 36, 38, 39, 44, 45, 46, 47, 48, 348, 349, 350, 351, 352, 353, 354, 355, 356, 342, 212, 16, 17, 19, 20, 403, 50, 51, 52, 404, 405, 406, 407, 443, 444, 445, 446, 447, 448, 449, 450, 451, 452, 453, 454, 455, 456, 457, 458, 459, 460, 461, 462, 505, 506, 507, 508, 509, 510, 511, 512, 513, 514, 515, 463, 464, 465, 466, 467, 468, 469, 470, 471, 472, 473, 474, 475, 516, 517, 518, 519, 441, 442, 476] rfl (by decide +kernel)
set_option maxRecDepth 20000 in
theorem gX11_nonce_X4_drawNonce : GoodIn wsX11_nonce (wsV RX11 185 RX4 yX4_drawNonce wsX4_drawNonce) := goodIn_app (goodIn_of _ (by decide +kernel)) ggX11_nonce_X4_drawNonce
set_option maxRecDepth 20000 in
theorem ggX11_nonce_X4_tellNonce : GoodIn wsX11_nonce wsX4_tellNonce := goodIn_r _ [411, 208, 412, 223, 221, 413, 369, 370, 212, 16, 17, 18, 19, 20, 361, 179, 180, 37, 181, 182, 357, 66, 67, 68, 69, 70, 71, 72, 73, 74, 75, 76, 77, 78, 79, 80, 81, 82, 83, 84, 85, 86, 87, 88, 89, 90, 91, 92, 93, 94, 95, 96, 97, 98, 99, 100, 101, 102, 103, 104, 105, 106, 107, 108, 109, 110, 111, 112, 113, 114, 115, 116, 117, 118, 119, 120, 121, 122, 123, 124, 125, 126, 127, 128, 129, 130, 131, 132, 133, 134, 135, 136, 137, 138, 139, 140, 141, 142, 143, 144, 145, 146, 147, 148, 149, 150, 31, 151, 33, 359, 153, 154, 155, 156, 157, 158, 159, 160, 161, 162, 163, 164, 165, 166, 167, 168, 169, 170, 171, 172, 173, 174, 175, 176, 177, 414, 184, 185, 186, 187, 188, 189, 190, 43, 191, 192, 193, 194, 195, 196, 197, 198, 199, 200, 201, 202, 203, 415, 416, 417, 418, 419, 420, 421, 422, 423, 424, 425, 426, 427, 39, 40, 41, 42, 443, 444, 445, 446, 447, 448, 449, 450, 451, 452, 453, 454, 455, 456, 457, 458, 459, 460, 461, 462, 505, 506, 507, 508, 509, 510, 511, 512, 513, 514, 515, 477, 478, 479, 480, 481, 482, 483, 484, 485, 441, 442, 486, 487, 488, 489, 490, 491, 492, 493, 494, 495, 496, 497, 498, 476, 499, 500, 501, 502, 503, 504] rfl (by decide +kernel)
set_option maxRecDepth 20000 in
theorem gX11_nonce_X4_tellNonce : GoodIn wsX11_nonce (wsV RX11 188 RX4 yX4_tellNonce wsX4_tellNonce) := goodIn_app (goodIn_of _ (by decide +kernel)) ggX11_nonce_X4_tellNonce
set_option maxRecDepth 20000 in
theorem ggX11_nonce_X11_answerIn : GoodIn wsX11_nonce wsX11_answerIn := goodIn_r _ [431, 3, 7, 4, 12, 13, 10, 14, 432, 416, 417, 37, 418, 419, 179, 180, 181, 182, 420, 421, 422, 423, 424, 425, 426, 427, 39, 40, 41, 42, 43, 203, 188, 189, 190, 433, 434, 435, 436, 437, 438, 439, 440, 441, 442] rfl (by decide +kernel)
set_option maxRecDepth 20000 in
theorem gX11_nonce_X11_answerIn : GoodIn wsX11_nonce (wsV RX11 97 RX11 yX11_answerIn wsX11_answerIn) := goodIn_app (goodIn_of _ (by decide +kernel)) ggX11_nonce_X11_answerIn
theorem dX11_nonce_0 : decode cX11_nonce 0 = .ok (.iload_n 1, 1) := by decide +kernel
theorem dX11_nonce_1 : decode cX11_nonce 1 = .ok (.iload_n 3, 1) := by decide +kernel
theorem dX11_nonce_2 : decode cX11_nonce 2 = .ok (.invokestatic 86, 3) := by decide +kernel
theorem dX11_nonce_5 : decode cX11_nonce 5 = .ok (.ifCond .eq 24, 3) := by decide +kernel
theorem dX11_nonce_8 : decode cX11_nonce 8 = .ok (.iload 4, 2) := by decide +kernel
theorem dX11_nonce_10 : decode cX11_nonce 10 = .ok (.iload 5, 2) := by decide +kernel
theorem dX11_nonce_12 : decode cX11_nonce 12 = .ok (.invokestatic 86, 3) := by decide +kernel
theorem dX11_nonce_15 : decode cX11_nonce 15 = .ok (.ifCond .eq 14, 3) := by decide +kernel
theorem dX11_nonce_18 : decode cX11_nonce 18 = .ok (.aload_n 0, 1) := by decide +kernel
theorem dX11_nonce_19 : decode cX11_nonce 19 = .ok (.getfield 46, 3) := by decide +kernel
theorem dX11_nonce_22 : decode cX11_nonce 22 = .ok (.iload_n 2, 1) := by decide +kernel
theorem dX11_nonce_23 : decode cX11_nonce 23 = .ok (.invokevirtual 179, 3) := by decide +kernel
theorem dX11_nonce_26 : decode cX11_nonce 26 = .ok (.ifCond .ne 5, 3) := by decide +kernel
theorem dX11_nonce_29 : decode cX11_nonce 29 = .ok (.iconst (-1), 1) := by decide +kernel
theorem dX11_nonce_30 : decode cX11_nonce 30 = .ok (.ireturn, 1) := by decide +kernel
theorem dX11_nonce_31 : decode cX11_nonce 31 = .ok (.aload_n 0, 1) := by decide +kernel
theorem dX11_nonce_32 : decode cX11_nonce 32 = .ok (.getfield 37, 3) := by decide +kernel
theorem dX11_nonce_35 : decode cX11_nonce 35 = .ok (.aload_n 0, 1) := by decide +kernel
theorem dX11_nonce_36 : decode cX11_nonce 36 = .ok (.getfield 11, 3) := by decide +kernel
theorem dX11_nonce_39 : decode cX11_nonce 39 = .ok (.iload_n 3, 1) := by decide +kernel
theorem dX11_nonce_40 : decode cX11_nonce 40 = .ok (.aaload, 1) := by decide +kernel
theorem dX11_nonce_41 : decode cX11_nonce 41 = .ok (.invokevirtual 113, 3) := by decide +kernel
theorem dX11_nonce_44 : decode cX11_nonce 44 = .ok (.ifCond .eq 33, 3) := by decide +kernel
theorem dX11_nonce_47 : decode cX11_nonce 47 = .ok (.aload_n 0, 1) := by decide +kernel
theorem dX11_nonce_48 : decode cX11_nonce 48 = .ok (.getfield 11, 3) := by decide +kernel
theorem dX11_nonce_51 : decode cX11_nonce 51 = .ok (.iload 4, 2) := by decide +kernel
theorem dX11_nonce_53 : decode cX11_nonce 53 = .ok (.aaload, 1) := by decide +kernel
theorem dX11_nonce_54 : decode cX11_nonce 54 = .ok (.getfield 68, 3) := by decide +kernel
theorem dX11_nonce_57 : decode cX11_nonce 57 = .ok (.bipush 32, 2) := by decide +kernel
theorem dX11_nonce_59 : decode cX11_nonce 59 = .ok (.if_icmp .ne 18, 3) := by decide +kernel
theorem dX11_nonce_62 : decode cX11_nonce 62 = .ok (.aload_n 0, 1) := by decide +kernel
theorem dX11_nonce_63 : decode cX11_nonce 63 = .ok (.getfield 11, 3) := by decide +kernel
theorem dX11_nonce_66 : decode cX11_nonce 66 = .ok (.iload 5, 2) := by decide +kernel
theorem dX11_nonce_68 : decode cX11_nonce 68 = .ok (.aaload, 1) := by decide +kernel
theorem dX11_nonce_69 : decode cX11_nonce 69 = .ok (.getfield 68, 3) := by decide +kernel
theorem dX11_nonce_72 : decode cX11_nonce 72 = .ok (.bipush 40, 2) := by decide +kernel
theorem dX11_nonce_74 : decode cX11_nonce 74 = .ok (.if_icmp .le 6, 3) := by decide +kernel
theorem dX11_nonce_77 : decode cX11_nonce 77 = .ok (.bipush (-2), 2) := by decide +kernel
theorem dX11_nonce_79 : decode cX11_nonce 79 = .ok (.ireturn, 1) := by decide +kernel
theorem dX11_nonce_80 : decode cX11_nonce 80 = .ok (.aload_n 0, 1) := by decide +kernel
theorem dX11_nonce_81 : decode cX11_nonce 81 = .ok (.iconst 3, 1) := by decide +kernel
theorem dX11_nonce_82 : decode cX11_nonce 82 = .ok (.aload_n 0, 1) := by decide +kernel
theorem dX11_nonce_83 : decode cX11_nonce 83 = .ok (.getfield 46, 3) := by decide +kernel
theorem dX11_nonce_86 : decode cX11_nonce 86 = .ok (.getfield 167, 3) := by decide +kernel
theorem dX11_nonce_89 : decode cX11_nonce 89 = .ok (.iadd, 1) := by decide +kernel
theorem dX11_nonce_90 : decode cX11_nonce 90 = .ok (.invokevirtual 116, 3) := by decide +kernel
theorem dX11_nonce_93 : decode cX11_nonce 93 = .ok (.ifCond .eq 6, 3) := by decide +kernel
theorem dX11_nonce_96 : decode cX11_nonce 96 = .ok (.bipush (-5), 2) := by decide +kernel
theorem dX11_nonce_98 : decode cX11_nonce 98 = .ok (.ireturn, 1) := by decide +kernel
theorem dX11_nonce_99 : decode cX11_nonce 99 = .ok (.aload_n 0, 1) := by decide +kernel
theorem dX11_nonce_100 : decode cX11_nonce 100 = .ok (.dup, 1) := by decide +kernel
theorem dX11_nonce_101 : decode cX11_nonce 101 = .ok (.getfield 60, 3) := by decide +kernel
theorem dX11_nonce_104 : decode cX11_nonce 104 = .ok (.iconst 1, 1) := by decide +kernel
theorem dX11_nonce_105 : decode cX11_nonce 105 = .ok (.iadd, 1) := by decide +kernel
theorem dX11_nonce_106 : decode cX11_nonce 106 = .ok (.putfield 60, 3) := by decide +kernel
theorem dX11_nonce_109 : decode cX11_nonce 109 = .ok (.aload_n 0, 1) := by decide +kernel
theorem dX11_nonce_110 : decode cX11_nonce 110 = .ok (.getfield 37, 3) := by decide +kernel
theorem dX11_nonce_113 : decode cX11_nonce 113 = .ok (.invokevirtual 119, 3) := by decide +kernel
theorem dX11_nonce_116 : decode cX11_nonce 116 = .ok (.aload_n 0, 1) := by decide +kernel
theorem dX11_nonce_117 : decode cX11_nonce 117 = .ok (.getfield 46, 3) := by decide +kernel
theorem dX11_nonce_120 : decode cX11_nonce 120 = .ok (.iload_n 2, 1) := by decide +kernel
theorem dX11_nonce_121 : decode cX11_nonce 121 = .ok (.invokevirtual 182, 3) := by decide +kernel
theorem dX11_nonce_124 : decode cX11_nonce 124 = .ok (.ifCond .ne 6, 3) := by decide +kernel
theorem dX11_nonce_127 : decode cX11_nonce 127 = .ok (.bipush (-2), 2) := by decide +kernel
theorem dX11_nonce_129 : decode cX11_nonce 129 = .ok (.ireturn, 1) := by decide +kernel
theorem dX11_nonce_130 : decode cX11_nonce 130 = .ok (.aload_n 0, 1) := by decide +kernel
theorem dX11_nonce_131 : decode cX11_nonce 131 = .ok (.dup, 1) := by decide +kernel
theorem dX11_nonce_132 : decode cX11_nonce 132 = .ok (.getfield 60, 3) := by decide +kernel
theorem dX11_nonce_135 : decode cX11_nonce 135 = .ok (.aload_n 0, 1) := by decide +kernel
theorem dX11_nonce_136 : decode cX11_nonce 136 = .ok (.getfield 46, 3) := by decide +kernel
theorem dX11_nonce_139 : decode cX11_nonce 139 = .ok (.getfield 167, 3) := by decide +kernel
theorem dX11_nonce_142 : decode cX11_nonce 142 = .ok (.iadd, 1) := by decide +kernel
theorem dX11_nonce_143 : decode cX11_nonce 143 = .ok (.putfield 60, 3) := by decide +kernel
theorem dX11_nonce_146 : decode cX11_nonce 146 = .ok (.aload_n 0, 1) := by decide +kernel
theorem dX11_nonce_147 : decode cX11_nonce 147 = .ok (.getfield 46, 3) := by decide +kernel
theorem dX11_nonce_150 : decode cX11_nonce 150 = .ok (.invokevirtual 173, 3) := by decide +kernel
theorem dX11_nonce_153 : decode cX11_nonce 153 = .ok (.ifCond .ne 6, 3) := by decide +kernel
theorem dX11_nonce_156 : decode cX11_nonce 156 = .ok (.bipush (-2), 2) := by decide +kernel
theorem dX11_nonce_158 : decode cX11_nonce 158 = .ok (.ireturn, 1) := by decide +kernel
theorem dX11_nonce_159 : decode cX11_nonce 159 = .ok (.aload_n 0, 1) := by decide +kernel
theorem dX11_nonce_160 : decode cX11_nonce 160 = .ok (.dup, 1) := by decide +kernel
theorem dX11_nonce_161 : decode cX11_nonce 161 = .ok (.getfield 60, 3) := by decide +kernel
theorem dX11_nonce_164 : decode cX11_nonce 164 = .ok (.iconst 2, 1) := by decide +kernel
theorem dX11_nonce_165 : decode cX11_nonce 165 = .ok (.iadd, 1) := by decide +kernel
theorem dX11_nonce_166 : decode cX11_nonce 166 = .ok (.putfield 60, 3) := by decide +kernel
theorem dX11_nonce_169 : decode cX11_nonce 169 = .ok (.aload_n 0, 1) := by decide +kernel
theorem dX11_nonce_170 : decode cX11_nonce 170 = .ok (.getfield 46, 3) := by decide +kernel
theorem dX11_nonce_173 : decode cX11_nonce 173 = .ok (.iload_n 2, 1) := by decide +kernel
theorem dX11_nonce_174 : decode cX11_nonce 174 = .ok (.aload_n 0, 1) := by decide +kernel
theorem dX11_nonce_175 : decode cX11_nonce 175 = .ok (.getfield 11, 3) := by decide +kernel
theorem dX11_nonce_178 : decode cX11_nonce 178 = .ok (.iload 4, 2) := by decide +kernel
theorem dX11_nonce_180 : decode cX11_nonce 180 = .ok (.aaload, 1) := by decide +kernel
theorem dX11_nonce_181 : decode cX11_nonce 181 = .ok (.aload_n 0, 1) := by decide +kernel
theorem dX11_nonce_182 : decode cX11_nonce 182 = .ok (.getfield 11, 3) := by decide +kernel
theorem dX11_nonce_185 : decode cX11_nonce 185 = .ok (.iload 5, 2) := by decide +kernel
theorem dX11_nonce_187 : decode cX11_nonce 187 = .ok (.aaload, 1) := by decide +kernel
theorem dX11_nonce_188 : decode cX11_nonce 188 = .ok (.invokevirtual 185, 3) := by decide +kernel
theorem dX11_nonce_191 : decode cX11_nonce 191 = .ok (.ifCond .ne 6, 3) := by decide +kernel
theorem dX11_nonce_194 : decode cX11_nonce 194 = .ok (.bipush (-2), 2) := by decide +kernel
theorem dX11_nonce_196 : decode cX11_nonce 196 = .ok (.ireturn, 1) := by decide +kernel
theorem dX11_nonce_197 : decode cX11_nonce 197 = .ok (.aload_n 0, 1) := by decide +kernel
theorem dX11_nonce_198 : decode cX11_nonce 198 = .ok (.getfield 46, 3) := by decide +kernel
theorem dX11_nonce_201 : decode cX11_nonce 201 = .ok (.iload_n 2, 1) := by decide +kernel
theorem dX11_nonce_202 : decode cX11_nonce 202 = .ok (.aload_n 0, 1) := by decide +kernel
theorem dX11_nonce_203 : decode cX11_nonce 203 = .ok (.getfield 18, 3) := by decide +kernel
theorem dX11_nonce_206 : decode cX11_nonce 206 = .ok (.invokevirtual 188, 3) := by decide +kernel
theorem dX11_nonce_209 : decode cX11_nonce 209 = .ok (.aload_n 0, 1) := by decide +kernel
theorem dX11_nonce_210 : decode cX11_nonce 210 = .ok (.iload_n 1, 1) := by decide +kernel
theorem dX11_nonce_211 : decode cX11_nonce 211 = .ok (.invokevirtual 97, 3) := by decide +kernel
theorem dX11_nonce_214 : decode cX11_nonce 214 = .ok (.ireturn, 1) := by decide +kernel
set_option maxRecDepth 20000 in
theorem ggX11_told_X11_isRow : GoodIn wsX11_told wsX11_isRow := goodIn_r _ [6] rfl (by decide +kernel)
set_option maxRecDepth 20000 in
theorem gX11_told_X11_isRow : GoodIn wsX11_told (va_wsS RX11 64 yX11_isRow wsX11_isRow) := goodIn_app (goodIn_of _ (by decide +kernel)) ggX11_told_X11_isRow
set_option maxRecDepth 20000 in
theorem ggX11_told_X4_hasMember : GoodIn wsX11_told wsX4_hasMember := goodIn_r _ [11, 12, 176, 177, 178, 179, 180, 181, 182, 183, 184, 185, 186, 187, 188, 189, 190, 191, 192, 193, 194, 195] rfl (by decide +kernel)
set_option maxRecDepth 20000 in
theorem gX11_told_X4_hasMember : GoodIn wsX11_told (wsV RX11 179 RX4 yX4_hasMember wsX4_hasMember) := goodIn_app (goodIn_of _ (by decide +kernel)) ggX11_told_X4_hasMember
set_option maxRecDepth 20000 in
theorem ggX11_told_X4_hear : GoodIn wsX11_told wsX4_hear := goodIn_r _ [16, 17, 18, 19, 20, 21, 22, 23, 24, 25, 26, 27, 8, 9, 10, 11, 12, 28, 29, 30, 31, 32, 33, 34, 35, 36, 37, 38, 39, 40, 41, 42, 43, 44, 45, 46, 47, 48, 49, 50, 51, 52, 53, 54, 55, 56, 57, 58, 59, 60, 61, 62, 63, 64, 65, 66, 67, 68, 69, 70, 71, 72, 73, 74, 75, 76, 77, 78, 79, 80, 81, 82, 83, 84, 85, 86, 87, 88, 89, 90, 91, 92, 93, 94, 95, 96, 97, 98, 99, 100, 101, 102, 103, 104, 105, 106, 107, 108, 109, 110, 111, 112, 113, 114, 115, 116, 117, 118, 119, 120, 121, 122, 123, 124, 125, 126, 127, 128, 129, 130, 131, 132, 133, 134, 135, 136, 137, 138, 139, 140, 141, 142, 143, 144, 145, 146, 147, 148, 149, 150, 151, 152, 153, 154, 155, 156, 157, 158, 159, 160, 161, 162, 163, 164, 165, 166, 167, 196, 197, 176, 177, 178, 179, 180, 181, 182, 183, 184, 185, 186, 187, 188, 189, 190, 191, 192, 193, 194, 195, 198, 199, 200, 201, 202, 203, 204, 205, 206, 207, 208, 209, 210, 211, 212, 213, 214, 215, 216, 217, 218, 219, 220, 221, 222, 223, 224, 225, 226, 227, 228, 229, 230, 231, 232, 233, 234, 235, 236] rfl (by decide +kernel)
set_option maxRecDepth 20000 in
theorem gX11_told_X4_hear : GoodIn wsX11_told (wsV RX11 192 RX4 yX4_hear wsX4_hear) := goodIn_app (goodIn_of _ (by decide +kernel)) ggX11_told_X4_hear
theorem dX11_told_0 : decode cX11_told 0 = .ok (.iload_n 2, 1) := by decide +kernel
theorem dX11_told_1 : decode cX11_told 1 = .ok (.invokestatic 64, 3) := by decide +kernel
theorem dX11_told_4 : decode cX11_told 4 = .ok (.ifCond .eq 14, 3) := by decide +kernel
theorem dX11_told_7 : decode cX11_told 7 = .ok (.aload_n 0, 1) := by decide +kernel
theorem dX11_told_8 : decode cX11_told 8 = .ok (.getfield 46, 3) := by decide +kernel
theorem dX11_told_11 : decode cX11_told 11 = .ok (.iload_n 1, 1) := by decide +kernel
theorem dX11_told_12 : decode cX11_told 12 = .ok (.invokevirtual 179, 3) := by decide +kernel
theorem dX11_told_15 : decode cX11_told 15 = .ok (.ifCond .ne 5, 3) := by decide +kernel
theorem dX11_told_18 : decode cX11_told 18 = .ok (.iconst (-1), 1) := by decide +kernel
theorem dX11_told_19 : decode cX11_told 19 = .ok (.ireturn, 1) := by decide +kernel
theorem dX11_told_20 : decode cX11_told 20 = .ok (.aload_n 0, 1) := by decide +kernel
theorem dX11_told_21 : decode cX11_told 21 = .ok (.getfield 46, 3) := by decide +kernel
theorem dX11_told_24 : decode cX11_told 24 = .ok (.iload_n 1, 1) := by decide +kernel
theorem dX11_told_25 : decode cX11_told 25 = .ok (.aload_n 0, 1) := by decide +kernel
theorem dX11_told_26 : decode cX11_told 26 = .ok (.getfield 11, 3) := by decide +kernel
theorem dX11_told_29 : decode cX11_told 29 = .ok (.iload_n 2, 1) := by decide +kernel
theorem dX11_told_30 : decode cX11_told 30 = .ok (.aaload, 1) := by decide +kernel
theorem dX11_told_31 : decode cX11_told 31 = .ok (.invokevirtual 192, 3) := by decide +kernel
theorem dX11_told_34 : decode cX11_told 34 = .ok (.ifCond .eq 7, 3) := by decide +kernel
theorem dX11_told_37 : decode cX11_told 37 = .ok (.iconst 1, 1) := by decide +kernel
theorem dX11_told_38 : decode cX11_told 38 = .ok (.goto 5, 3) := by decide +kernel
theorem dX11_told_41 : decode cX11_told 41 = .ok (.bipush (-2), 2) := by decide +kernel
theorem dX11_told_43 : decode cX11_told 43 = .ok (.ireturn, 1) := by decide +kernel
set_option maxRecDepth 20000 in
theorem ggX11_session_X11_isRow : GoodIn wsX11_session wsX11_isRow := goodIn_r _ [9] rfl (by decide +kernel)
set_option maxRecDepth 20000 in
theorem gX11_session_X11_isRow : GoodIn wsX11_session (va_wsS RX11 64 yX11_isRow wsX11_isRow) := goodIn_app (goodIn_of _ (by decide +kernel)) ggX11_session_X11_isRow
set_option maxRecDepth 20000 in
theorem ggX11_session_X4_countTold : GoodIn wsX11_session wsX4_countTold := goodIn_r _ [14, 15, 16, 373, 374, 375, 376, 377, 378, 379, 380, 381, 382, 383, 384, 385, 386, 387, 388, 389, 390, 391, 392, 393, 394, 395, 396, 397, 398, 399, 400, 401, 402, 403] rfl (by decide +kernel)
set_option maxRecDepth 20000 in
theorem gX11_session_X4_countTold : GoodIn wsX11_session (wsV RX11 196 RX4 yX4_countTold wsX4_countTold) := goodIn_app (goodIn_of _ (by decide +kernel)) ggX11_session_X4_countTold
set_option maxRecDepth 20000 in
theorem ggX11_session_X11_wouldPass : GoodIn wsX11_session wsX11_wouldPass := goodIn_r _ [20, 5, 363, 364, 365, 366, 367, 368, 369, 370] rfl (by decide +kernel)
set_option maxRecDepth 20000 in
theorem gX11_session_X11_wouldPass : GoodIn wsX11_session (wsV RX11 116 RX11 yX11_wouldPass wsX11_wouldPass) := goodIn_app (goodIn_of _ (by decide +kernel)) ggX11_session_X11_wouldPass
set_option maxRecDepth 20000 in
theorem ggX11_session_X4_joinKeys : GoodIn wsX11_session wsX4_joinKeys := goodIn_r _ [24, 25, 26, 27, 15, 28, 29, 30, 31, 32, 33, 34, 35, 36, 37, 38, 13, 39, 40, 41, 42, 43, 44, 45, 46, 47, 48, 49, 50, 51, 52, 53, 54, 55, 56, 57, 58, 59, 60, 61, 62, 63, 64, 65, 66, 67, 68, 69, 70, 71, 72, 73, 74, 75, 76, 77, 78, 79, 80, 81, 82, 83, 84, 85, 86, 87, 88, 89, 90, 91, 92, 93, 94, 95, 96, 97, 98, 99, 100, 101, 102, 103, 104, 105, 106, 107, 108, 109, 110, 111, 112, 113, 114, 115, 116, 117, 118, 119, 120, 121, 122, 123, 124, 125, 126, 127, 128, 129, 130, 131, 132, 133, 134, 135, 136, 137, 138, 139, 140, 141, 142, 143, 144, 145, 146, 147, 148, 149, 150, 151, 152, 153, 154, 155, 156, 157, 158, 159, 160, 161, 162, 163, 164, 165, 166, 167, 168, 169, 170, 171, 172, 173, 174, 175, 176, 177, 178, 179, 180, 181, 182, 183, 184, 185, 186, 187, 188, 189, 190, 191, 192, 193, 194, 195, 196, 197, 198, 199, 200, 201, 202, 203, 204, 205, 206, 207, 208, 209, 210, 211, 212, 213, 214, 215, 216, 217, 218, 219, 220, 221, 222, 223, 224, 225, 226, 227, 228, 229, 230, 231, 232, 233, 234, 235, 236, 237, 238, 239, 240, 241, 242, 243, 244, 245, 246, 247, 248, 249, 250, 251, 252, 253, 254, 255, 256, 257, 258, 259, 260, 261, 262, 263, 264, 265, 266, 267, 268, 269, 270, 271, 272, 273, 274, 275, 276, 277, 278, 279, 280, 281, 282, 283, 284, 285, 286, 287, 288, 289, 290, 291, 292, 293, 294, 295, 296, 297, 298, 299, 300, 301, 302, 303, 304, 305, 306, 307, 308, 309, 310, 311, 312, 313, 314, 315, 316, 317, 318, 319, 320, 321, 373, 374, 375, 376, 377, 378, 379, 380, 381, 382, 383, 384, 385, 386, 387, 388, 389, 390, 391, 392, 404, 405, 406, 407, 393, 394, 395, 396, 397, 398, 399, 400, 401, 402, 403, 408, 409, 410, 411, 371, 372, 412, 413, 414, 415, 416, 417, 418, 419, 420, 421, 422, 423, 424, 425, 426, 427, 428, 429, 430, 431, 432, 433, 434, 435, 436] rfl (by decide +kernel)
set_option maxRecDepth 20000 in
theorem gX11_session_X4_joinKeys : GoodIn wsX11_session (wsV RX11 173 RX4 yX4_joinKeys wsX4_joinKeys) := goodIn_app (goodIn_of _ (by decide +kernel)) ggX11_session_X4_joinKeys
set_option maxRecDepth 20000 in
theorem ggX11_session_X4_open : GoodIn wsX11_session wsX4_open := goodIn_r _ [325, 40, 326, 34, 164, 327, 28, 29, 25, 26, 328, 32, 329, 330, 35, 331, 332, 333, 334, 335, 336, 13, 337, 27, 15, 338, 339, 285, 229, 230, 201, 231, 204, 232, 233, 234, 235, 236, 237, 238, 239, 205, 206, 207, 208, 209, 210, 211, 212, 213, 214, 215, 216, 217, 218, 219, 220, 221, 222, 223, 224, 225, 226, 227, 240, 241, 242, 243, 244, 245, 246, 247, 248, 249, 250, 251, 252, 253, 254, 255, 256, 257, 258, 259, 260, 261, 262, 263, 264, 265, 266, 267, 268, 269, 270, 271, 272, 273, 274, 275, 276, 277, 278, 279, 280, 286, 287, 288, 289, 290, 291, 292, 293, 294, 295, 296, 297, 298, 299, 300, 301, 302, 303, 304, 305, 306, 307, 308, 309, 310, 311, 316, 126, 127, 128, 129, 130, 340, 341, 342, 343, 344, 136, 137, 138, 139, 345, 313, 314, 315, 346, 318, 319, 320, 321, 132, 133, 134, 135, 43, 44, 45, 46, 47, 48, 49, 50, 51, 52, 53, 54, 55, 56, 57, 58, 59, 60, 61, 62, 63, 64, 65, 66, 67, 68, 69, 70, 71, 72, 73, 74, 75, 76, 77, 78, 79, 80, 81, 82, 83, 84, 85, 86, 87, 88, 89, 90, 91, 92, 93, 94, 95, 96, 97, 98, 99, 100, 101, 102, 103, 104, 105, 106, 107, 108, 109, 110, 111, 112, 113, 114, 115, 116, 117, 118, 119, 120, 121, 122, 123, 124, 125, 131, 140, 141, 142, 143, 144, 145, 146, 147, 148, 149, 150, 172, 173, 174, 168, 175, 176, 177, 178, 179, 170, 180, 181, 182, 183, 159, 184, 185, 186, 187, 188, 189, 190, 191, 192, 193, 194, 195, 196, 197, 171, 198, 199, 200, 202, 203, 228, 281, 282, 283, 284, 347, 312, 317, 348, 349, 350, 351, 352, 353, 354, 355, 356, 357, 358, 359, 360, 361, 362, 373, 374, 375, 376, 377, 378, 379, 380, 381, 382, 383, 384, 385, 386, 387, 388, 389, 390, 391, 392, 404, 405, 406, 407, 413, 414, 415, 416, 417, 418, 419, 420, 421, 393, 394, 395, 396, 397, 398, 399, 400, 401, 402, 403, 422, 423, 424, 425, 426, 427, 428, 429, 430, 431, 432, 433, 434, 435, 436, 371, 372, 408, 409, 410, 411, 412, 437, 438, 439, 440, 441, 442, 443, 444, 445, 446, 447, 448, 449] rfl (by decide +kernel)
set_option maxRecDepth 20000 in
theorem gX11_session_X4_open : GoodIn wsX11_session (wsV RX11 200 RX4 yX4_open wsX4_open) := goodIn_app (goodIn_of _ (by decide +kernel)) ggX11_session_X4_open
theorem dX11_session_0 : decode cX11_session 0 = .ok (.iload_n 1, 1) := by decide +kernel
theorem dX11_session_1 : decode cX11_session 1 = .ok (.invokestatic 64, 3) := by decide +kernel
theorem dX11_session_4 : decode cX11_session 4 = .ok (.ifCond .ne 5, 3) := by decide +kernel
theorem dX11_session_7 : decode cX11_session 7 = .ok (.iconst (-1), 1) := by decide +kernel
theorem dX11_session_8 : decode cX11_session 8 = .ok (.ireturn, 1) := by decide +kernel
theorem dX11_session_9 : decode cX11_session 9 = .ok (.aload_n 0, 1) := by decide +kernel
theorem dX11_session_10 : decode cX11_session 10 = .ok (.getfield 11, 3) := by decide +kernel
theorem dX11_session_13 : decode cX11_session 13 = .ok (.iload_n 1, 1) := by decide +kernel
theorem dX11_session_14 : decode cX11_session 14 = .ok (.aaload, 1) := by decide +kernel
theorem dX11_session_15 : decode cX11_session 15 = .ok (.getfield 68, 3) := by decide +kernel
theorem dX11_session_18 : decode cX11_session 18 = .ok (.bipush 40, 2) := by decide +kernel
theorem dX11_session_20 : decode cX11_session 20 = .ok (.if_icmp .gt 30, 3) := by decide +kernel
theorem dX11_session_23 : decode cX11_session 23 = .ok (.aload_n 0, 1) := by decide +kernel
theorem dX11_session_24 : decode cX11_session 24 = .ok (.getfield 46, 3) := by decide +kernel
theorem dX11_session_27 : decode cX11_session 27 = .ok (.getfield 167, 3) := by decide +kernel
theorem dX11_session_30 : decode cX11_session 30 = .ok (.ifCond .eq 20, 3) := by decide +kernel
theorem dX11_session_33 : decode cX11_session 33 = .ok (.aload_n 0, 1) := by decide +kernel
theorem dX11_session_34 : decode cX11_session 34 = .ok (.getfield 46, 3) := by decide +kernel
theorem dX11_session_37 : decode cX11_session 37 = .ok (.invokevirtual 196, 3) := by decide +kernel
theorem dX11_session_40 : decode cX11_session 40 = .ok (.aload_n 0, 1) := by decide +kernel
theorem dX11_session_41 : decode cX11_session 41 = .ok (.getfield 46, 3) := by decide +kernel
theorem dX11_session_44 : decode cX11_session 44 = .ok (.getfield 167, 3) := by decide +kernel
theorem dX11_session_47 : decode cX11_session 47 = .ok (.if_icmp .ge 6, 3) := by decide +kernel
theorem dX11_session_50 : decode cX11_session 50 = .ok (.bipush (-2), 2) := by decide +kernel
theorem dX11_session_52 : decode cX11_session 52 = .ok (.ireturn, 1) := by decide +kernel
theorem dX11_session_53 : decode cX11_session 53 = .ok (.aload_n 0, 1) := by decide +kernel
theorem dX11_session_54 : decode cX11_session 54 = .ok (.iconst 1, 1) := by decide +kernel
theorem dX11_session_55 : decode cX11_session 55 = .ok (.aload_n 0, 1) := by decide +kernel
theorem dX11_session_56 : decode cX11_session 56 = .ok (.getfield 46, 3) := by decide +kernel
theorem dX11_session_59 : decode cX11_session 59 = .ok (.getfield 167, 3) := by decide +kernel
theorem dX11_session_62 : decode cX11_session 62 = .ok (.iadd, 1) := by decide +kernel
theorem dX11_session_63 : decode cX11_session 63 = .ok (.invokevirtual 116, 3) := by decide +kernel
theorem dX11_session_66 : decode cX11_session 66 = .ok (.ifCond .eq 6, 3) := by decide +kernel
theorem dX11_session_69 : decode cX11_session 69 = .ok (.bipush (-5), 2) := by decide +kernel
theorem dX11_session_71 : decode cX11_session 71 = .ok (.ireturn, 1) := by decide +kernel
theorem dX11_session_72 : decode cX11_session 72 = .ok (.aload_n 0, 1) := by decide +kernel
theorem dX11_session_73 : decode cX11_session 73 = .ok (.dup, 1) := by decide +kernel
theorem dX11_session_74 : decode cX11_session 74 = .ok (.getfield 60, 3) := by decide +kernel
theorem dX11_session_77 : decode cX11_session 77 = .ok (.aload_n 0, 1) := by decide +kernel
theorem dX11_session_78 : decode cX11_session 78 = .ok (.getfield 46, 3) := by decide +kernel
theorem dX11_session_81 : decode cX11_session 81 = .ok (.getfield 167, 3) := by decide +kernel
theorem dX11_session_84 : decode cX11_session 84 = .ok (.iadd, 1) := by decide +kernel
theorem dX11_session_85 : decode cX11_session 85 = .ok (.putfield 60, 3) := by decide +kernel
theorem dX11_session_88 : decode cX11_session 88 = .ok (.aload_n 0, 1) := by decide +kernel
theorem dX11_session_89 : decode cX11_session 89 = .ok (.getfield 46, 3) := by decide +kernel
theorem dX11_session_92 : decode cX11_session 92 = .ok (.invokevirtual 173, 3) := by decide +kernel
theorem dX11_session_95 : decode cX11_session 95 = .ok (.ifCond .ne 6, 3) := by decide +kernel
theorem dX11_session_98 : decode cX11_session 98 = .ok (.bipush (-2), 2) := by decide +kernel
theorem dX11_session_100 : decode cX11_session 100 = .ok (.ireturn, 1) := by decide +kernel
theorem dX11_session_101 : decode cX11_session 101 = .ok (.aload_n 0, 1) := by decide +kernel
theorem dX11_session_102 : decode cX11_session 102 = .ok (.dup, 1) := by decide +kernel
theorem dX11_session_103 : decode cX11_session 103 = .ok (.getfield 60, 3) := by decide +kernel
theorem dX11_session_106 : decode cX11_session 106 = .ok (.iconst 1, 1) := by decide +kernel
theorem dX11_session_107 : decode cX11_session 107 = .ok (.iadd, 1) := by decide +kernel
theorem dX11_session_108 : decode cX11_session 108 = .ok (.putfield 60, 3) := by decide +kernel
theorem dX11_session_111 : decode cX11_session 111 = .ok (.aload_n 0, 1) := by decide +kernel
theorem dX11_session_112 : decode cX11_session 112 = .ok (.getfield 46, 3) := by decide +kernel
theorem dX11_session_115 : decode cX11_session 115 = .ok (.aload_n 0, 1) := by decide +kernel
theorem dX11_session_116 : decode cX11_session 116 = .ok (.getfield 11, 3) := by decide +kernel
theorem dX11_session_119 : decode cX11_session 119 = .ok (.iload_n 1, 1) := by decide +kernel
theorem dX11_session_120 : decode cX11_session 120 = .ok (.aaload, 1) := by decide +kernel
theorem dX11_session_121 : decode cX11_session 121 = .ok (.invokevirtual 200, 3) := by decide +kernel
theorem dX11_session_124 : decode cX11_session 124 = .ok (.iconst 1, 1) := by decide +kernel
theorem dX11_session_125 : decode cX11_session 125 = .ok (.ireturn, 1) := by decide +kernel
set_option maxRecDepth 20000 in
theorem ggX11_about_X11_isRow : GoodIn wsX11_about wsX11_isRow := goodIn_r _ [7] rfl (by decide +kernel)
set_option maxRecDepth 20000 in
theorem gX11_about_X11_isRow : GoodIn wsX11_about (va_wsS RX11 64 yX11_isRow wsX11_isRow) := goodIn_app (goodIn_of _ (by decide +kernel)) ggX11_about_X11_isRow
set_option maxRecDepth 20000 in
theorem ggX11_about_X4_describe : GoodIn wsX11_about wsX4_describe := goodIn_r _ [12, 13, 14, 15, 16, 17, 18, 19, 20, 21, 22, 23, 24, 25, 26, 27, 28, 29, 30, 31, 32, 33, 34, 35, 36, 37, 38, 39, 40, 41, 42, 43, 44, 45, 46, 47, 48, 49, 70, 71, 72, 73, 74, 75, 76, 77, 78, 79, 80, 81, 82, 83, 84, 85, 86, 87, 88, 89, 90, 91, 92] rfl (by decide +kernel)
set_option maxRecDepth 20000 in
theorem gX11_about_X4_describe : GoodIn wsX11_about (wsV RX11 207 RX4 yX4_describe wsX4_describe) := goodIn_app (goodIn_of _ (by decide +kernel)) ggX11_about_X4_describe
set_option maxRecDepth 20000 in
theorem ggX11_about_X11_answerIn : GoodIn wsX11_about wsX11_answerIn := goodIn_r _ [53, 54, 3, 55, 4, 5, 6, 7, 56, 57, 58, 20, 59, 60, 18, 19, 21, 22, 61, 24, 25, 26, 27, 28, 29, 30, 31, 32, 33, 34, 35, 36, 37, 38, 39, 62, 63, 64, 65, 66, 67, 68, 69, 90, 91] rfl (by decide +kernel)
set_option maxRecDepth 20000 in
theorem gX11_about_X11_answerIn : GoodIn wsX11_about (wsV RX11 97 RX11 yX11_answerIn wsX11_answerIn) := goodIn_app (goodIn_of _ (by decide +kernel)) ggX11_about_X11_answerIn
theorem dX11_about_0 : decode cX11_about 0 = .ok (.iload_n 1, 1) := by decide +kernel
theorem dX11_about_1 : decode cX11_about 1 = .ok (.invokestatic 64, 3) := by decide +kernel
theorem dX11_about_4 : decode cX11_about 4 = .ok (.ifCond .eq 12, 3) := by decide +kernel
theorem dX11_about_7 : decode cX11_about 7 = .ok (.iload_n 2, 1) := by decide +kernel
theorem dX11_about_8 : decode cX11_about 8 = .ok (.ifCond .lt 8, 3) := by decide +kernel
theorem dX11_about_11 : decode cX11_about 11 = .ok (.iload_n 2, 1) := by decide +kernel
theorem dX11_about_12 : decode cX11_about 12 = .ok (.iconst 3, 1) := by decide +kernel
theorem dX11_about_13 : decode cX11_about 13 = .ok (.if_icmp .le 5, 3) := by decide +kernel
theorem dX11_about_16 : decode cX11_about 16 = .ok (.iconst (-1), 1) := by decide +kernel
theorem dX11_about_17 : decode cX11_about 17 = .ok (.ireturn, 1) := by decide +kernel
theorem dX11_about_18 : decode cX11_about 18 = .ok (.aload_n 0, 1) := by decide +kernel
theorem dX11_about_19 : decode cX11_about 19 = .ok (.getfield 46, 3) := by decide +kernel
theorem dX11_about_22 : decode cX11_about 22 = .ok (.getfield 203, 3) := by decide +kernel
theorem dX11_about_25 : decode cX11_about 25 = .ok (.ifCond .ne 6, 3) := by decide +kernel
theorem dX11_about_28 : decode cX11_about 28 = .ok (.bipush (-2), 2) := by decide +kernel
theorem dX11_about_30 : decode cX11_about 30 = .ok (.ireturn, 1) := by decide +kernel
theorem dX11_about_31 : decode cX11_about 31 = .ok (.aload_n 0, 1) := by decide +kernel
theorem dX11_about_32 : decode cX11_about 32 = .ok (.getfield 46, 3) := by decide +kernel
theorem dX11_about_35 : decode cX11_about 35 = .ok (.iload_n 2, 1) := by decide +kernel
theorem dX11_about_36 : decode cX11_about 36 = .ok (.aload_n 0, 1) := by decide +kernel
theorem dX11_about_37 : decode cX11_about 37 = .ok (.getfield 18, 3) := by decide +kernel
theorem dX11_about_40 : decode cX11_about 40 = .ok (.invokevirtual 207, 3) := by decide +kernel
theorem dX11_about_43 : decode cX11_about 43 = .ok (.aload_n 0, 1) := by decide +kernel
theorem dX11_about_44 : decode cX11_about 44 = .ok (.iload_n 1, 1) := by decide +kernel
theorem dX11_about_45 : decode cX11_about 45 = .ok (.invokevirtual 97, 3) := by decide +kernel
theorem dX11_about_48 : decode cX11_about 48 = .ok (.ireturn, 1) := by decide +kernel
set_option maxRecDepth 20000 in
theorem ggX11_part_X11_areRows : GoodIn wsX11_part wsX11_areRows := goodIn_r _ [10, 11, 12, 9, 13] rfl (by decide +kernel)
set_option maxRecDepth 20000 in
theorem gX11_part_X11_areRows : GoodIn wsX11_part (va_wsS RX11 86 yX11_areRows wsX11_areRows) := goodIn_app (goodIn_of _ (by decide +kernel)) ggX11_part_X11_areRows
set_option maxRecDepth 20000 in
theorem ggX11_part_X4_hasMember : GoodIn wsX11_part wsX4_hasMember := goodIn_r _ [18, 19, 301, 302, 303, 304, 305, 306, 307, 308, 309, 310, 311, 312, 313, 314, 315, 316, 317, 318, 319, 320] rfl (by decide +kernel)
set_option maxRecDepth 20000 in
theorem gX11_part_X4_hasMember : GoodIn wsX11_part (wsV RX11 179 RX4 yX4_hasMember wsX4_hasMember) := goodIn_app (goodIn_of _ (by decide +kernel)) ggX11_part_X4_hasMember
set_option maxRecDepth 20000 in
theorem ggX11_part_X10_takeSecret : GoodIn wsX11_part wsX10_takeSecret := goodIn_r _ [24, 25, 26, 27, 28, 29, 30, 31, 32, 33, 34, 35, 36, 37, 38, 39, 40, 41, 42, 43, 44, 45, 46, 47, 48, 49, 50, 51, 321, 322, 323, 324, 325, 326, 327, 328, 329, 330, 331, 332, 333, 334, 335, 336] rfl (by decide +kernel)
set_option maxRecDepth 20000 in
theorem gX11_part_X10_takeSecret : GoodIn wsX11_part (wsV RX11 113 RX10 yX10_takeSecret wsX10_takeSecret) := goodIn_app (goodIn_of _ (by decide +kernel)) ggX11_part_X10_takeSecret
set_option maxRecDepth 20000 in
theorem ggX11_part_X4_hasToldNonce : GoodIn wsX11_part wsX4_hasToldNonce := goodIn_r _ [55, 56, 57, 58, 59, 60, 15, 16, 17, 18, 19, 61, 62, 63, 36, 64, 65, 38, 39, 40, 41, 42, 301, 302, 303, 304, 305, 306, 307, 308, 309, 310, 311, 312, 313, 314, 315, 316, 317, 318, 319, 320, 337, 338, 339, 340, 341, 342, 343, 344, 345, 346, 347, 321, 322] rfl (by decide +kernel)
set_option maxRecDepth 20000 in
theorem gX11_part_X4_hasToldNonce : GoodIn wsX11_part (wsV RX11 210 RX4 yX4_hasToldNonce wsX4_hasToldNonce) := goodIn_app (goodIn_of _ (by decide +kernel)) ggX11_part_X4_hasToldNonce
set_option maxRecDepth 20000 in
theorem ggX11_part_X11_wouldPass : GoodIn wsX11_part wsX11_wouldPass := goodIn_r _ [69, 5, 293, 294, 295, 296, 297, 298, 299, 300] rfl (by decide +kernel)
set_option maxRecDepth 20000 in
theorem gX11_part_X11_wouldPass : GoodIn wsX11_part (wsV RX11 116 RX11 yX11_wouldPass wsX11_wouldPass) := goodIn_app (goodIn_of _ (by decide +kernel)) ggX11_part_X11_wouldPass
set_option maxRecDepth 20000 in
theorem ggX11_part_X10_findOwn : GoodIn wsX11_part wsX10_findOwn := goodIn_r _ [73, 74, 75, 76, 26, 77, 78, 79, 80, 81, 82, 83, 84, 85, 86, 87, 88, 89, 90, 91, 92, 93, 94, 95, 96, 97, 98, 99, 100, 101, 102, 103, 104, 105, 106, 107, 108, 109, 110, 111, 112, 113, 114, 115, 116, 117, 118, 119, 120, 121, 122, 123, 124, 125, 126, 127, 128, 129, 130, 131, 132, 133, 134, 135, 136, 137, 138, 139, 140, 141, 142, 143, 144, 145, 146, 147, 148, 149, 150, 151, 152, 153, 154, 155, 156, 157, 158, 159, 160, 161, 162, 163, 30, 164, 32, 165, 166, 167, 168, 169, 170, 171, 172, 173, 174, 175, 176, 177, 178, 179, 180, 181, 182, 183, 184, 185, 186, 187, 188, 189, 190, 191, 192, 193, 36, 194, 65, 195, 196, 197, 198, 199, 200, 201, 202, 42, 203, 204, 205, 206, 207, 208, 209, 210, 211, 212, 213, 214, 215, 323, 324, 325, 326, 327, 328, 329, 330, 331, 332, 333, 334, 335, 348, 349, 350, 351, 352, 353, 354, 355, 356, 357, 358, 359, 360, 361, 362, 363, 364, 365, 366, 367, 368, 369, 336, 370, 371, 372, 373, 374, 375, 321, 322] rfl (by decide +kernel)
set_option maxRecDepth 20000 in
theorem gX11_part_X10_findOwn : GoodIn wsX11_part (wsV RX11 119 RX10 yX10_findOwn wsX10_findOwn) := goodIn_app (goodIn_of _ (by decide +kernel)) ggX11_part_X10_findOwn
set_option maxRecDepth 20000 in
theorem ggX11_part_X4_isOwn : GoodIn wsX11_part wsX4_isOwn := goodIn_r _ [219, 56, 220, 221, 222, 60, 15, 16, 17, 18, 19, 61, 62, 63, 36, 64, 65, 38, 39, 40, 41, 42, 301, 302, 303, 304, 305, 306, 307, 308, 309, 310, 311, 312, 313, 314, 315, 316, 317, 318, 319, 320, 337, 338, 339, 340, 341, 342, 343, 344, 345, 346, 347, 323, 324, 325, 326, 327, 328, 329, 330, 331, 332, 333, 334, 335, 321, 322] rfl (by decide +kernel)
set_option maxRecDepth 20000 in
theorem gX11_part_X4_isOwn : GoodIn wsX11_part (wsV RX11 182 RX4 yX4_isOwn wsX4_isOwn) := goodIn_app (goodIn_of _ (by decide +kernel)) ggX11_part_X4_isOwn
set_option maxRecDepth 20000 in
theorem ggX11_part_X4_makePart : GoodIn wsX11_part wsX4_makePart := goodIn_r _ [226, 56, 227, 228, 229, 230, 231, 232, 233, 221, 234, 57, 60, 15, 16, 17, 18, 19, 235, 236, 237, 30, 238, 32, 239, 240, 241, 242, 243, 244, 245, 246, 247, 248, 249, 250, 251, 252, 43, 44, 45, 46, 47, 253, 254, 255, 256, 257, 258, 259, 260, 261, 49, 50, 51, 262, 263, 264, 265, 266, 267, 268, 269, 192, 193, 36, 194, 65, 270, 271, 272, 273, 274, 212, 213, 214, 215, 200, 201, 202, 42, 301, 302, 303, 304, 305, 306, 307, 308, 309, 310, 311, 312, 313, 314, 315, 316, 317, 318, 319, 320, 337, 338, 339, 340, 341, 342, 343, 344, 345, 346, 347, 323, 324, 325, 326, 327, 328, 329, 330, 331, 332, 333, 334, 335, 336, 321, 322] rfl (by decide +kernel)
set_option maxRecDepth 20000 in
theorem gX11_part_X4_makePart : GoodIn wsX11_part (wsV RX11 213 RX4 yX4_makePart wsX4_makePart) := goodIn_app (goodIn_of _ (by decide +kernel)) ggX11_part_X4_makePart
set_option maxRecDepth 20000 in
theorem ggX11_part_X11_answerIn : GoodIn wsX11_part wsX11_answerIn := goodIn_r _ [278, 4, 6, 279, 11, 12, 9, 13, 280, 281, 282, 36, 283, 284, 192, 193, 194, 65, 285, 286, 287, 288, 289, 290, 291, 292, 38, 39, 40, 41, 42, 215, 200, 201, 202, 293, 294, 295, 296, 297, 298, 299, 300, 321, 322] rfl (by decide +kernel)
set_option maxRecDepth 20000 in
theorem gX11_part_X11_answerIn : GoodIn wsX11_part (wsV RX11 97 RX11 yX11_answerIn wsX11_answerIn) := goodIn_app (goodIn_of _ (by decide +kernel)) ggX11_part_X11_answerIn
theorem dX11_part_0 : decode cX11_part 0 = .ok (.iload_n 1, 1) := by decide +kernel
theorem dX11_part_1 : decode cX11_part 1 = .ok (.iload_n 3, 1) := by decide +kernel
theorem dX11_part_2 : decode cX11_part 2 = .ok (.invokestatic 86, 3) := by decide +kernel
theorem dX11_part_5 : decode cX11_part 5 = .ok (.ifCond .eq 14, 3) := by decide +kernel
theorem dX11_part_8 : decode cX11_part 8 = .ok (.aload_n 0, 1) := by decide +kernel
theorem dX11_part_9 : decode cX11_part 9 = .ok (.getfield 46, 3) := by decide +kernel
theorem dX11_part_12 : decode cX11_part 12 = .ok (.iload_n 2, 1) := by decide +kernel
theorem dX11_part_13 : decode cX11_part 13 = .ok (.invokevirtual 179, 3) := by decide +kernel
theorem dX11_part_16 : decode cX11_part 16 = .ok (.ifCond .ne 5, 3) := by decide +kernel
theorem dX11_part_19 : decode cX11_part 19 = .ok (.iconst (-1), 1) := by decide +kernel
theorem dX11_part_20 : decode cX11_part 20 = .ok (.ireturn, 1) := by decide +kernel
theorem dX11_part_21 : decode cX11_part 21 = .ok (.aload_n 0, 1) := by decide +kernel
theorem dX11_part_22 : decode cX11_part 22 = .ok (.getfield 46, 3) := by decide +kernel
theorem dX11_part_25 : decode cX11_part 25 = .ok (.getfield 203, 3) := by decide +kernel
theorem dX11_part_28 : decode cX11_part 28 = .ok (.ifCond .eq 30, 3) := by decide +kernel
theorem dX11_part_31 : decode cX11_part 31 = .ok (.aload_n 0, 1) := by decide +kernel
theorem dX11_part_32 : decode cX11_part 32 = .ok (.getfield 37, 3) := by decide +kernel
theorem dX11_part_35 : decode cX11_part 35 = .ok (.aload_n 0, 1) := by decide +kernel
theorem dX11_part_36 : decode cX11_part 36 = .ok (.getfield 11, 3) := by decide +kernel
theorem dX11_part_39 : decode cX11_part 39 = .ok (.iload_n 3, 1) := by decide +kernel
theorem dX11_part_40 : decode cX11_part 40 = .ok (.aaload, 1) := by decide +kernel
theorem dX11_part_41 : decode cX11_part 41 = .ok (.invokevirtual 113, 3) := by decide +kernel
theorem dX11_part_44 : decode cX11_part 44 = .ok (.ifCond .eq 14, 3) := by decide +kernel
theorem dX11_part_47 : decode cX11_part 47 = .ok (.aload_n 0, 1) := by decide +kernel
theorem dX11_part_48 : decode cX11_part 48 = .ok (.getfield 46, 3) := by decide +kernel
theorem dX11_part_51 : decode cX11_part 51 = .ok (.iload_n 2, 1) := by decide +kernel
theorem dX11_part_52 : decode cX11_part 52 = .ok (.invokevirtual 210, 3) := by decide +kernel
theorem dX11_part_55 : decode cX11_part 55 = .ok (.ifCond .ne 6, 3) := by decide +kernel
theorem dX11_part_58 : decode cX11_part 58 = .ok (.bipush (-2), 2) := by decide +kernel
theorem dX11_part_60 : decode cX11_part 60 = .ok (.ireturn, 1) := by decide +kernel
theorem dX11_part_61 : decode cX11_part 61 = .ok (.aload_n 0, 1) := by decide +kernel
theorem dX11_part_62 : decode cX11_part 62 = .ok (.iconst 1, 1) := by decide +kernel
theorem dX11_part_63 : decode cX11_part 63 = .ok (.invokevirtual 116, 3) := by decide +kernel
theorem dX11_part_66 : decode cX11_part 66 = .ok (.ifCond .eq 6, 3) := by decide +kernel
theorem dX11_part_69 : decode cX11_part 69 = .ok (.bipush (-5), 2) := by decide +kernel
theorem dX11_part_71 : decode cX11_part 71 = .ok (.ireturn, 1) := by decide +kernel
theorem dX11_part_72 : decode cX11_part 72 = .ok (.aload_n 0, 1) := by decide +kernel
theorem dX11_part_73 : decode cX11_part 73 = .ok (.dup, 1) := by decide +kernel
theorem dX11_part_74 : decode cX11_part 74 = .ok (.getfield 60, 3) := by decide +kernel
theorem dX11_part_77 : decode cX11_part 77 = .ok (.iconst 1, 1) := by decide +kernel
theorem dX11_part_78 : decode cX11_part 78 = .ok (.iadd, 1) := by decide +kernel
theorem dX11_part_79 : decode cX11_part 79 = .ok (.putfield 60, 3) := by decide +kernel
theorem dX11_part_82 : decode cX11_part 82 = .ok (.aload_n 0, 1) := by decide +kernel
theorem dX11_part_83 : decode cX11_part 83 = .ok (.getfield 37, 3) := by decide +kernel
theorem dX11_part_86 : decode cX11_part 86 = .ok (.invokevirtual 119, 3) := by decide +kernel
theorem dX11_part_89 : decode cX11_part 89 = .ok (.aload_n 0, 1) := by decide +kernel
theorem dX11_part_90 : decode cX11_part 90 = .ok (.getfield 46, 3) := by decide +kernel
theorem dX11_part_93 : decode cX11_part 93 = .ok (.iload_n 2, 1) := by decide +kernel
theorem dX11_part_94 : decode cX11_part 94 = .ok (.invokevirtual 182, 3) := by decide +kernel
theorem dX11_part_97 : decode cX11_part 97 = .ok (.ifCond .ne 6, 3) := by decide +kernel
theorem dX11_part_100 : decode cX11_part 100 = .ok (.bipush (-2), 2) := by decide +kernel
theorem dX11_part_102 : decode cX11_part 102 = .ok (.ireturn, 1) := by decide +kernel
theorem dX11_part_103 : decode cX11_part 103 = .ok (.aload_n 0, 1) := by decide +kernel
theorem dX11_part_104 : decode cX11_part 104 = .ok (.getfield 46, 3) := by decide +kernel
theorem dX11_part_107 : decode cX11_part 107 = .ok (.iload_n 2, 1) := by decide +kernel
theorem dX11_part_108 : decode cX11_part 108 = .ok (.aload_n 0, 1) := by decide +kernel
theorem dX11_part_109 : decode cX11_part 109 = .ok (.getfield 18, 3) := by decide +kernel
theorem dX11_part_112 : decode cX11_part 112 = .ok (.invokevirtual 213, 3) := by decide +kernel
theorem dX11_part_115 : decode cX11_part 115 = .ok (.aload_n 0, 1) := by decide +kernel
theorem dX11_part_116 : decode cX11_part 116 = .ok (.iload_n 1, 1) := by decide +kernel
theorem dX11_part_117 : decode cX11_part 117 = .ok (.invokevirtual 97, 3) := by decide +kernel
theorem dX11_part_120 : decode cX11_part 120 = .ok (.ireturn, 1) := by decide +kernel
set_option maxRecDepth 20000 in
theorem ggX11_partHolds_X11_isRow : GoodIn wsX11_partHolds wsX11_isRow := goodIn_r _ [9] rfl (by decide +kernel)
set_option maxRecDepth 20000 in
theorem gX11_partHolds_X11_isRow : GoodIn wsX11_partHolds (va_wsS RX11 64 yX11_isRow wsX11_isRow) := goodIn_app (goodIn_of _ (by decide +kernel)) ggX11_partHolds_X11_isRow
set_option maxRecDepth 20000 in
theorem ggX11_partHolds_X4_hasMember : GoodIn wsX11_partHolds wsX4_hasMember := goodIn_r _ [14, 15, 197, 198, 199, 200, 201, 202, 203, 204, 205, 206, 207, 208, 209, 210, 211, 212, 213, 214, 215, 216] rfl (by decide +kernel)
set_option maxRecDepth 20000 in
theorem gX11_partHolds_X4_hasMember : GoodIn wsX11_partHolds (wsV RX11 179 RX4 yX4_hasMember wsX4_hasMember) := goodIn_app (goodIn_of _ (by decide +kernel)) ggX11_partHolds_X4_hasMember
set_option maxRecDepth 20000 in
theorem ggX11_partHolds_X4_takePart : GoodIn wsX11_partHolds wsX4_takePart := goodIn_r _ [19, 20, 21, 22, 23, 24, 25, 26, 27, 28, 29, 30, 31, 32, 33, 34, 35, 36, 37, 38, 39, 40, 41, 197, 198, 199, 200, 201, 202, 203, 204, 205, 206, 207, 208, 209, 210, 211, 212, 213, 214, 215, 216, 219, 217, 218] rfl (by decide +kernel)
set_option maxRecDepth 20000 in
theorem gX11_partHolds_X4_takePart : GoodIn wsX11_partHolds (wsV RX11 216 RX4 yX4_takePart wsX4_takePart) := goodIn_app (goodIn_of _ (by decide +kernel)) ggX11_partHolds_X4_takePart
set_option maxRecDepth 20000 in
theorem ggX11_partHolds_X11_wouldPass : GoodIn wsX11_partHolds wsX11_wouldPass := goodIn_r _ [45, 5, 189, 190, 191, 192, 193, 194, 195, 196] rfl (by decide +kernel)
set_option maxRecDepth 20000 in
theorem gX11_partHolds_X11_wouldPass : GoodIn wsX11_partHolds (wsV RX11 116 RX11 yX11_wouldPass wsX11_wouldPass) := goodIn_app (goodIn_of _ (by decide +kernel)) ggX11_partHolds_X11_wouldPass
set_option maxRecDepth 20000 in
theorem ggX11_partHolds_X4_judgePart : GoodIn wsX11_partHolds wsX4_judgePart := goodIn_r _ [49, 50, 51, 52, 53, 54, 55, 56, 57, 58, 59, 20, 60, 61, 62, 11, 12, 13, 14, 15, 63, 64, 65, 66, 67, 68, 69, 70, 71, 72, 73, 74, 75, 76, 77, 78, 79, 80, 81, 82, 83, 84, 85, 86, 87, 88, 89, 90, 91, 92, 93, 94, 95, 96, 97, 98, 99, 100, 101, 102, 103, 104, 105, 106, 107, 108, 109, 110, 111, 112, 113, 114, 115, 116, 117, 118, 119, 120, 121, 122, 123, 124, 125, 126, 127, 128, 129, 130, 131, 132, 133, 134, 135, 136, 137, 138, 139, 140, 141, 142, 143, 144, 145, 146, 147, 148, 24, 149, 26, 150, 151, 152, 153, 154, 155, 156, 157, 158, 159, 160, 161, 162, 163, 164, 165, 166, 167, 168, 169, 170, 171, 172, 173, 174, 175, 176, 177, 178, 179, 180, 37, 38, 39, 40, 41, 181, 182, 183, 184, 185, 186, 187, 188, 197, 198, 199, 200, 201, 202, 203, 204, 205, 206, 207, 208, 209, 210, 211, 212, 213, 214, 215, 216, 220, 221, 222, 223, 224, 225, 226, 227, 228, 229, 230, 231, 232, 233, 234, 235, 236, 237, 238, 239, 240, 241, 242, 243, 244, 245, 246, 247, 248, 249, 250, 251, 252, 219] rfl (by decide +kernel)
set_option maxRecDepth 20000 in
theorem gX11_partHolds_X4_judgePart : GoodIn wsX11_partHolds (wsV RX11 219 RX4 yX4_judgePart wsX4_judgePart) := goodIn_app (goodIn_of _ (by decide +kernel)) ggX11_partHolds_X4_judgePart
theorem dX11_partHolds_0 : decode cX11_partHolds 0 = .ok (.iload_n 2, 1) := by decide +kernel
theorem dX11_partHolds_1 : decode cX11_partHolds 1 = .ok (.invokestatic 64, 3) := by decide +kernel
theorem dX11_partHolds_4 : decode cX11_partHolds 4 = .ok (.ifCond .eq 14, 3) := by decide +kernel
theorem dX11_partHolds_7 : decode cX11_partHolds 7 = .ok (.aload_n 0, 1) := by decide +kernel
theorem dX11_partHolds_8 : decode cX11_partHolds 8 = .ok (.getfield 46, 3) := by decide +kernel
theorem dX11_partHolds_11 : decode cX11_partHolds 11 = .ok (.iload_n 1, 1) := by decide +kernel
theorem dX11_partHolds_12 : decode cX11_partHolds 12 = .ok (.invokevirtual 179, 3) := by decide +kernel
theorem dX11_partHolds_15 : decode cX11_partHolds 15 = .ok (.ifCond .ne 5, 3) := by decide +kernel
theorem dX11_partHolds_18 : decode cX11_partHolds 18 = .ok (.iconst (-1), 1) := by decide +kernel
theorem dX11_partHolds_19 : decode cX11_partHolds 19 = .ok (.ireturn, 1) := by decide +kernel
theorem dX11_partHolds_20 : decode cX11_partHolds 20 = .ok (.aload_n 0, 1) := by decide +kernel
theorem dX11_partHolds_21 : decode cX11_partHolds 21 = .ok (.getfield 46, 3) := by decide +kernel
theorem dX11_partHolds_24 : decode cX11_partHolds 24 = .ok (.getfield 203, 3) := by decide +kernel
theorem dX11_partHolds_27 : decode cX11_partHolds 27 = .ok (.ifCond .eq 17, 3) := by decide +kernel
theorem dX11_partHolds_30 : decode cX11_partHolds 30 = .ok (.aload_n 0, 1) := by decide +kernel
theorem dX11_partHolds_31 : decode cX11_partHolds 31 = .ok (.getfield 11, 3) := by decide +kernel
theorem dX11_partHolds_34 : decode cX11_partHolds 34 = .ok (.iload_n 2, 1) := by decide +kernel
theorem dX11_partHolds_35 : decode cX11_partHolds 35 = .ok (.aaload, 1) := by decide +kernel
theorem dX11_partHolds_36 : decode cX11_partHolds 36 = .ok (.getfield 68, 3) := by decide +kernel
theorem dX11_partHolds_39 : decode cX11_partHolds 39 = .ok (.bipush 32, 2) := by decide +kernel
theorem dX11_partHolds_41 : decode cX11_partHolds 41 = .ok (.if_icmp .eq 6, 3) := by decide +kernel
theorem dX11_partHolds_44 : decode cX11_partHolds 44 = .ok (.bipush (-2), 2) := by decide +kernel
theorem dX11_partHolds_46 : decode cX11_partHolds 46 = .ok (.ireturn, 1) := by decide +kernel
theorem dX11_partHolds_47 : decode cX11_partHolds 47 = .ok (.aload_n 0, 1) := by decide +kernel
theorem dX11_partHolds_48 : decode cX11_partHolds 48 = .ok (.getfield 46, 3) := by decide +kernel
theorem dX11_partHolds_51 : decode cX11_partHolds 51 = .ok (.aload_n 0, 1) := by decide +kernel
theorem dX11_partHolds_52 : decode cX11_partHolds 52 = .ok (.getfield 11, 3) := by decide +kernel
theorem dX11_partHolds_55 : decode cX11_partHolds 55 = .ok (.iload_n 2, 1) := by decide +kernel
theorem dX11_partHolds_56 : decode cX11_partHolds 56 = .ok (.aaload, 1) := by decide +kernel
theorem dX11_partHolds_57 : decode cX11_partHolds 57 = .ok (.invokevirtual 216, 3) := by decide +kernel
theorem dX11_partHolds_60 : decode cX11_partHolds 60 = .ok (.ifCond .ne 5, 3) := by decide +kernel
theorem dX11_partHolds_63 : decode cX11_partHolds 63 = .ok (.iconst 0, 1) := by decide +kernel
theorem dX11_partHolds_64 : decode cX11_partHolds 64 = .ok (.ireturn, 1) := by decide +kernel
theorem dX11_partHolds_65 : decode cX11_partHolds 65 = .ok (.aload_n 0, 1) := by decide +kernel
theorem dX11_partHolds_66 : decode cX11_partHolds 66 = .ok (.iconst 3, 1) := by decide +kernel
theorem dX11_partHolds_67 : decode cX11_partHolds 67 = .ok (.invokevirtual 116, 3) := by decide +kernel
theorem dX11_partHolds_70 : decode cX11_partHolds 70 = .ok (.ifCond .eq 6, 3) := by decide +kernel
theorem dX11_partHolds_73 : decode cX11_partHolds 73 = .ok (.bipush (-5), 2) := by decide +kernel
theorem dX11_partHolds_75 : decode cX11_partHolds 75 = .ok (.ireturn, 1) := by decide +kernel
theorem dX11_partHolds_76 : decode cX11_partHolds 76 = .ok (.aload_n 0, 1) := by decide +kernel
theorem dX11_partHolds_77 : decode cX11_partHolds 77 = .ok (.dup, 1) := by decide +kernel
theorem dX11_partHolds_78 : decode cX11_partHolds 78 = .ok (.getfield 60, 3) := by decide +kernel
theorem dX11_partHolds_81 : decode cX11_partHolds 81 = .ok (.iconst 3, 1) := by decide +kernel
theorem dX11_partHolds_82 : decode cX11_partHolds 82 = .ok (.iadd, 1) := by decide +kernel
theorem dX11_partHolds_83 : decode cX11_partHolds 83 = .ok (.putfield 60, 3) := by decide +kernel
theorem dX11_partHolds_86 : decode cX11_partHolds 86 = .ok (.aload_n 0, 1) := by decide +kernel
theorem dX11_partHolds_87 : decode cX11_partHolds 87 = .ok (.getfield 46, 3) := by decide +kernel
theorem dX11_partHolds_90 : decode cX11_partHolds 90 = .ok (.iload_n 1, 1) := by decide +kernel
theorem dX11_partHolds_91 : decode cX11_partHolds 91 = .ok (.invokevirtual 219, 3) := by decide +kernel
theorem dX11_partHolds_94 : decode cX11_partHolds 94 = .ok (.ifCond .eq 7, 3) := by decide +kernel
theorem dX11_partHolds_97 : decode cX11_partHolds 97 = .ok (.iconst 1, 1) := by decide +kernel
theorem dX11_partHolds_98 : decode cX11_partHolds 98 = .ok (.goto 4, 3) := by decide +kernel
theorem dX11_partHolds_101 : decode cX11_partHolds 101 = .ok (.iconst 0, 1) := by decide +kernel
theorem dX11_partHolds_102 : decode cX11_partHolds 102 = .ok (.ireturn, 1) := by decide +kernel
set_option maxRecDepth 20000 in
theorem ggX11_together_X11_areRows : GoodIn wsX11_together wsX11_areRows := goodIn_r _ [10, 11, 12, 9, 13] rfl (by decide +kernel)
set_option maxRecDepth 20000 in
theorem gX11_together_X11_areRows : GoodIn wsX11_together (va_wsS RX11 86 yX11_areRows wsX11_areRows) := goodIn_app (goodIn_of _ (by decide +kernel)) ggX11_together_X11_areRows
set_option maxRecDepth 20000 in
theorem ggX11_together_X4_beginSum : GoodIn wsX11_together wsX4_beginSum := goodIn_r _ [18, 19, 20, 21, 22, 23, 24, 25, 26, 115, 116, 117, 118, 119, 120, 121, 122, 123, 124, 125, 126, 127, 128, 129, 130, 131, 132, 133, 134, 137] rfl (by decide +kernel)
set_option maxRecDepth 20000 in
theorem gX11_together_X4_beginSum : GoodIn wsX11_together (wsV RX11 222 RX4 yX4_beginSum wsX4_beginSum) := goodIn_app (goodIn_of _ (by decide +kernel)) ggX11_together_X4_beginSum
set_option maxRecDepth 20000 in
theorem ggX11_together_X4_takePart : GoodIn wsX11_together wsX4_takePart := goodIn_r _ [30, 31, 32, 33, 34, 23, 35, 25, 36, 37, 38, 39, 40, 41, 42, 43, 44, 45, 46, 47, 48, 49, 50, 115, 116, 117, 118, 119, 120, 121, 122, 123, 124, 125, 126, 127, 128, 129, 130, 131, 132, 133, 134, 137, 135, 136] rfl (by decide +kernel)
set_option maxRecDepth 20000 in
theorem gX11_together_X4_takePart : GoodIn wsX11_together (wsV RX11 216 RX4 yX4_takePart wsX4_takePart) := goodIn_app (goodIn_of _ (by decide +kernel)) ggX11_together_X4_takePart
set_option maxRecDepth 20000 in
theorem ggX11_together_X4_addToSum : GoodIn wsX11_together wsX4_addToSum := goodIn_r _ [54, 19, 31, 55, 56, 57, 23, 58, 25, 26, 59, 60, 61, 62, 63, 64, 65, 66, 67, 46, 47, 48, 49, 50, 115, 116, 117, 118, 119, 120, 121, 122, 123, 124, 125, 126, 127, 128, 129, 130, 131, 132, 133, 134, 137] rfl (by decide +kernel)
set_option maxRecDepth 20000 in
theorem gX11_together_X4_addToSum : GoodIn wsX11_together (wsV RX11 225 RX4 yX4_addToSum wsX4_addToSum) := goodIn_app (goodIn_of _ (by decide +kernel)) ggX11_together_X4_addToSum
set_option maxRecDepth 20000 in
theorem ggX11_together_X4_tellSum : GoodIn wsX11_together wsX4_tellSum := goodIn_r _ [71, 72, 19, 73, 74, 75, 39, 76, 77, 78, 79, 80, 81, 82, 83, 84, 85, 86, 87, 88, 89, 41, 42, 43, 44, 45, 90, 91, 92, 93, 94, 95, 96, 23, 97, 25, 98, 99, 100, 101, 115, 116, 117, 118, 119, 120, 121, 122, 123, 124, 125, 126, 127, 128, 129, 130, 131, 132, 133, 134, 135, 136, 137] rfl (by decide +kernel)
set_option maxRecDepth 20000 in
theorem gX11_together_X4_tellSum : GoodIn wsX11_together (wsV RX11 228 RX4 yX4_tellSum wsX4_tellSum) := goodIn_app (goodIn_of _ (by decide +kernel)) ggX11_together_X4_tellSum
set_option maxRecDepth 20000 in
theorem ggX11_together_X11_answerIn : GoodIn wsX11_together wsX11_answerIn := goodIn_r _ [105, 4, 6, 5, 11, 12, 9, 13, 106, 74, 75, 39, 76, 77, 78, 79, 80, 81, 82, 83, 84, 85, 86, 87, 88, 89, 41, 42, 43, 44, 45, 90, 91, 92, 93, 107, 108, 109, 110, 111, 112, 113, 114, 135, 136] rfl (by decide +kernel)
set_option maxRecDepth 20000 in
theorem gX11_together_X11_answerIn : GoodIn wsX11_together (wsV RX11 97 RX11 yX11_answerIn wsX11_answerIn) := goodIn_app (goodIn_of _ (by decide +kernel)) ggX11_together_X11_answerIn
theorem dX11_together_0 : decode cX11_together 0 = .ok (.iload_n 1, 1) := by decide +kernel
theorem dX11_together_1 : decode cX11_together 1 = .ok (.iload_n 2, 1) := by decide +kernel
theorem dX11_together_2 : decode cX11_together 2 = .ok (.invokestatic 86, 3) := by decide +kernel
theorem dX11_together_5 : decode cX11_together 5 = .ok (.ifCond .eq 17, 3) := by decide +kernel
theorem dX11_together_8 : decode cX11_together 8 = .ok (.iload_n 2, 1) := by decide +kernel
theorem dX11_together_9 : decode cX11_together 9 = .ok (.aload_n 0, 1) := by decide +kernel
theorem dX11_together_10 : decode cX11_together 10 = .ok (.getfield 46, 3) := by decide +kernel
theorem dX11_together_13 : decode cX11_together 13 = .ok (.getfield 167, 3) := by decide +kernel
theorem dX11_together_16 : decode cX11_together 16 = .ok (.iadd, 1) := by decide +kernel
theorem dX11_together_17 : decode cX11_together 17 = .ok (.bipush 16, 2) := by decide +kernel
theorem dX11_together_19 : decode cX11_together 19 = .ok (.if_icmp .le 5, 3) := by decide +kernel
theorem dX11_together_22 : decode cX11_together 22 = .ok (.iconst (-1), 1) := by decide +kernel
theorem dX11_together_23 : decode cX11_together 23 = .ok (.ireturn, 1) := by decide +kernel
theorem dX11_together_24 : decode cX11_together 24 = .ok (.aload_n 0, 1) := by decide +kernel
theorem dX11_together_25 : decode cX11_together 25 = .ok (.getfield 46, 3) := by decide +kernel
theorem dX11_together_28 : decode cX11_together 28 = .ok (.getfield 203, 3) := by decide +kernel
theorem dX11_together_31 : decode cX11_together 31 = .ok (.ifCond .ne 6, 3) := by decide +kernel
theorem dX11_together_34 : decode cX11_together 34 = .ok (.bipush (-2), 2) := by decide +kernel
theorem dX11_together_36 : decode cX11_together 36 = .ok (.ireturn, 1) := by decide +kernel
theorem dX11_together_37 : decode cX11_together 37 = .ok (.aload_n 0, 1) := by decide +kernel
theorem dX11_together_38 : decode cX11_together 38 = .ok (.getfield 46, 3) := by decide +kernel
theorem dX11_together_41 : decode cX11_together 41 = .ok (.invokevirtual 222, 3) := by decide +kernel
theorem dX11_together_44 : decode cX11_together 44 = .ok (.iload_n 2, 1) := by decide +kernel
theorem dX11_together_45 : decode cX11_together 45 = .ok (.istore_n 3, 1) := by decide +kernel
theorem dX11_together_46 : decode cX11_together 46 = .ok (.iload_n 3, 1) := by decide +kernel
theorem dX11_together_47 : decode cX11_together 47 = .ok (.iload_n 2, 1) := by decide +kernel
theorem dX11_together_48 : decode cX11_together 48 = .ok (.aload_n 0, 1) := by decide +kernel
theorem dX11_together_49 : decode cX11_together 49 = .ok (.getfield 46, 3) := by decide +kernel
theorem dX11_together_52 : decode cX11_together 52 = .ok (.getfield 167, 3) := by decide +kernel
theorem dX11_together_55 : decode cX11_together 55 = .ok (.iadd, 1) := by decide +kernel
theorem dX11_together_56 : decode cX11_together 56 = .ok (.if_icmp .ge 55, 3) := by decide +kernel
theorem dX11_together_59 : decode cX11_together 59 = .ok (.iload_n 3, 1) := by decide +kernel
theorem dX11_together_60 : decode cX11_together 60 = .ok (.bipush 16, 2) := by decide +kernel
theorem dX11_together_62 : decode cX11_together 62 = .ok (.if_icmp .ge 49, 3) := by decide +kernel
theorem dX11_together_65 : decode cX11_together 65 = .ok (.aload_n 0, 1) := by decide +kernel
theorem dX11_together_66 : decode cX11_together 66 = .ok (.getfield 11, 3) := by decide +kernel
theorem dX11_together_69 : decode cX11_together 69 = .ok (.iload_n 3, 1) := by decide +kernel
theorem dX11_together_70 : decode cX11_together 70 = .ok (.aaload, 1) := by decide +kernel
theorem dX11_together_71 : decode cX11_together 71 = .ok (.getfield 68, 3) := by decide +kernel
theorem dX11_together_74 : decode cX11_together 74 = .ok (.bipush 32, 2) := by decide +kernel
theorem dX11_together_76 : decode cX11_together 76 = .ok (.if_icmp .ne 19, 3) := by decide +kernel
theorem dX11_together_79 : decode cX11_together 79 = .ok (.aload_n 0, 1) := by decide +kernel
theorem dX11_together_80 : decode cX11_together 80 = .ok (.getfield 46, 3) := by decide +kernel
theorem dX11_together_83 : decode cX11_together 83 = .ok (.aload_n 0, 1) := by decide +kernel
theorem dX11_together_84 : decode cX11_together 84 = .ok (.getfield 11, 3) := by decide +kernel
theorem dX11_together_87 : decode cX11_together 87 = .ok (.iload_n 3, 1) := by decide +kernel
theorem dX11_together_88 : decode cX11_together 88 = .ok (.aaload, 1) := by decide +kernel
theorem dX11_together_89 : decode cX11_together 89 = .ok (.invokevirtual 216, 3) := by decide +kernel
theorem dX11_together_92 : decode cX11_together 92 = .ok (.ifCond .ne 6, 3) := by decide +kernel
theorem dX11_together_95 : decode cX11_together 95 = .ok (.bipush (-2), 2) := by decide +kernel
theorem dX11_together_97 : decode cX11_together 97 = .ok (.ireturn, 1) := by decide +kernel
theorem dX11_together_98 : decode cX11_together 98 = .ok (.aload_n 0, 1) := by decide +kernel
theorem dX11_together_99 : decode cX11_together 99 = .ok (.getfield 46, 3) := by decide +kernel
theorem dX11_together_102 : decode cX11_together 102 = .ok (.invokevirtual 225, 3) := by decide +kernel
theorem dX11_together_105 : decode cX11_together 105 = .ok (.iinc 3 1, 3) := by decide +kernel
theorem dX11_together_108 : decode cX11_together 108 = .ok (.goto (-62), 3) := by decide +kernel
theorem dX11_together_111 : decode cX11_together 111 = .ok (.aload_n 0, 1) := by decide +kernel
theorem dX11_together_112 : decode cX11_together 112 = .ok (.getfield 46, 3) := by decide +kernel
theorem dX11_together_115 : decode cX11_together 115 = .ok (.aload_n 0, 1) := by decide +kernel
theorem dX11_together_116 : decode cX11_together 116 = .ok (.getfield 18, 3) := by decide +kernel
theorem dX11_together_119 : decode cX11_together 119 = .ok (.invokevirtual 228, 3) := by decide +kernel
theorem dX11_together_122 : decode cX11_together 122 = .ok (.aload_n 0, 1) := by decide +kernel
theorem dX11_together_123 : decode cX11_together 123 = .ok (.iload_n 1, 1) := by decide +kernel
theorem dX11_together_124 : decode cX11_together 124 = .ok (.invokevirtual 97, 3) := by decide +kernel
theorem dX11_together_127 : decode cX11_together 127 = .ok (.ireturn, 1) := by decide +kernel
set_option maxRecDepth 20000 in
theorem ggX11_count_X4_countNonces : GoodIn wsX11_count wsX4_countNonces := goodIn_r _ [10, 11, 12, 26, 27, 28, 29, 30, 31, 32, 33, 34, 35, 36, 37, 38, 39, 40, 41, 42, 43, 44, 45, 46, 47, 48, 49, 50, 51, 52, 53, 54, 55, 56] rfl (by decide +kernel)
set_option maxRecDepth 20000 in
theorem gX11_count_X4_countNonces : GoodIn wsX11_count (wsV RX11 231 RX4 yX4_countNonces wsX4_countNonces) := goodIn_app (goodIn_of _ (by decide +kernel)) ggX11_count_X4_countNonces
set_option maxRecDepth 20000 in
theorem ggX11_count_X4_countTold : GoodIn wsX11_count wsX4_countTold := goodIn_r _ [16, 11, 17, 26, 27, 28, 29, 30, 31, 32, 33, 34, 35, 36, 37, 38, 39, 40, 41, 42, 43, 44, 45, 46, 47, 48, 49, 50, 51, 52, 53, 54, 55, 56] rfl (by decide +kernel)
set_option maxRecDepth 20000 in
theorem gX11_count_X4_countTold : GoodIn wsX11_count (wsV RX11 196 RX4 yX4_countTold wsX4_countTold) := goodIn_app (goodIn_of _ (by decide +kernel)) ggX11_count_X4_countTold
theorem dX11_count_0 : decode cX11_count 0 = .ok (.iload_n 1, 1) := by decide +kernel
theorem dX11_count_1 : decode cX11_count 1 = .ok (.tableswitch 89 0 5 #[39, 47, 55, 63, 79, 84], 39) := by decide +kernel
theorem dX11_count_40 : decode cX11_count 40 = .ok (.aload_n 0, 1) := by decide +kernel
theorem dX11_count_41 : decode cX11_count 41 = .ok (.getfield 46, 3) := by decide +kernel
theorem dX11_count_44 : decode cX11_count 44 = .ok (.getfield 167, 3) := by decide +kernel
theorem dX11_count_47 : decode cX11_count 47 = .ok (.ireturn, 1) := by decide +kernel
theorem dX11_count_48 : decode cX11_count 48 = .ok (.aload_n 0, 1) := by decide +kernel
theorem dX11_count_49 : decode cX11_count 49 = .ok (.getfield 46, 3) := by decide +kernel
theorem dX11_count_52 : decode cX11_count 52 = .ok (.invokevirtual 231, 3) := by decide +kernel
theorem dX11_count_55 : decode cX11_count 55 = .ok (.ireturn, 1) := by decide +kernel
theorem dX11_count_56 : decode cX11_count 56 = .ok (.aload_n 0, 1) := by decide +kernel
theorem dX11_count_57 : decode cX11_count 57 = .ok (.getfield 46, 3) := by decide +kernel
theorem dX11_count_60 : decode cX11_count 60 = .ok (.invokevirtual 196, 3) := by decide +kernel
theorem dX11_count_63 : decode cX11_count 63 = .ok (.ireturn, 1) := by decide +kernel
theorem dX11_count_64 : decode cX11_count 64 = .ok (.aload_n 0, 1) := by decide +kernel
theorem dX11_count_65 : decode cX11_count 65 = .ok (.getfield 46, 3) := by decide +kernel
theorem dX11_count_68 : decode cX11_count 68 = .ok (.getfield 203, 3) := by decide +kernel
theorem dX11_count_71 : decode cX11_count 71 = .ok (.ifCond .eq 7, 3) := by decide +kernel
theorem dX11_count_74 : decode cX11_count 74 = .ok (.iconst 1, 1) := by decide +kernel
theorem dX11_count_75 : decode cX11_count 75 = .ok (.goto 4, 3) := by decide +kernel
theorem dX11_count_78 : decode cX11_count 78 = .ok (.iconst 0, 1) := by decide +kernel
theorem dX11_count_79 : decode cX11_count 79 = .ok (.ireturn, 1) := by decide +kernel
theorem dX11_count_80 : decode cX11_count 80 = .ok (.aload_n 0, 1) := by decide +kernel
theorem dX11_count_81 : decode cX11_count 81 = .ok (.getfield 56, 3) := by decide +kernel
theorem dX11_count_84 : decode cX11_count 84 = .ok (.ireturn, 1) := by decide +kernel
theorem dX11_count_85 : decode cX11_count 85 = .ok (.aload_n 0, 1) := by decide +kernel
theorem dX11_count_86 : decode cX11_count 86 = .ok (.getfield 60, 3) := by decide +kernel
theorem dX11_count_89 : decode cX11_count 89 = .ok (.ireturn, 1) := by decide +kernel
theorem dX11_count_90 : decode cX11_count 90 = .ok (.iconst (-1), 1) := by decide +kernel
theorem dX11_count_91 : decode cX11_count 91 = .ok (.ireturn, 1) := by decide +kernel
theorem dX11_isRow_0 : decode cX11_isRow 0 = .ok (.iload_n 0, 1) := by decide +kernel
theorem dX11_isRow_1 : decode cX11_isRow 1 = .ok (.ifCond .lt 13, 3) := by decide +kernel
theorem dX11_isRow_4 : decode cX11_isRow 4 = .ok (.iload_n 0, 1) := by decide +kernel
theorem dX11_isRow_5 : decode cX11_isRow 5 = .ok (.bipush 16, 2) := by decide +kernel
theorem dX11_isRow_7 : decode cX11_isRow 7 = .ok (.if_icmp .ge 7, 3) := by decide +kernel
theorem dX11_isRow_10 : decode cX11_isRow 10 = .ok (.iconst 1, 1) := by decide +kernel
theorem dX11_isRow_11 : decode cX11_isRow 11 = .ok (.goto 4, 3) := by decide +kernel
theorem dX11_isRow_14 : decode cX11_isRow 14 = .ok (.iconst 0, 1) := by decide +kernel
theorem dX11_isRow_15 : decode cX11_isRow 15 = .ok (.ireturn, 1) := by decide +kernel
set_option maxRecDepth 20000 in
theorem ggX11_areRows_X11_isRow : GoodIn wsX11_areRows wsX11_isRow := goodIn_r _ [4] rfl (by decide +kernel)
set_option maxRecDepth 20000 in
theorem gX11_areRows_X11_isRow : GoodIn wsX11_areRows (va_wsS RX11 64 yX11_isRow wsX11_isRow) := goodIn_app (goodIn_of _ (by decide +kernel)) ggX11_areRows_X11_isRow
theorem dX11_areRows_0 : decode cX11_areRows 0 = .ok (.iload_n 0, 1) := by decide +kernel
theorem dX11_areRows_1 : decode cX11_areRows 1 = .ok (.invokestatic 64, 3) := by decide +kernel
theorem dX11_areRows_4 : decode cX11_areRows 4 = .ok (.ifCond .eq 14, 3) := by decide +kernel
theorem dX11_areRows_7 : decode cX11_areRows 7 = .ok (.iload_n 1, 1) := by decide +kernel
theorem dX11_areRows_8 : decode cX11_areRows 8 = .ok (.invokestatic 64, 3) := by decide +kernel
theorem dX11_areRows_11 : decode cX11_areRows 11 = .ok (.ifCond .eq 7, 3) := by decide +kernel
theorem dX11_areRows_14 : decode cX11_areRows 14 = .ok (.iconst 1, 1) := by decide +kernel
theorem dX11_areRows_15 : decode cX11_areRows 15 = .ok (.goto 4, 3) := by decide +kernel
theorem dX11_areRows_18 : decode cX11_areRows 18 = .ok (.iconst 0, 1) := by decide +kernel
theorem dX11_areRows_19 : decode cX11_areRows 19 = .ok (.ireturn, 1) := by decide +kernel
theorem dX11_wouldPass_0 : decode cX11_wouldPass 0 = .ok (.aload_n 0, 1) := by decide +kernel
theorem dX11_wouldPass_1 : decode cX11_wouldPass 1 = .ok (.getfield 60, 3) := by decide +kernel
theorem dX11_wouldPass_4 : decode cX11_wouldPass 4 = .ok (.iload_n 1, 1) := by decide +kernel
theorem dX11_wouldPass_5 : decode cX11_wouldPass 5 = .ok (.iadd, 1) := by decide +kernel
theorem dX11_wouldPass_6 : decode cX11_wouldPass 6 = .ok (.bipush 48, 2) := by decide +kernel
theorem dX11_wouldPass_8 : decode cX11_wouldPass 8 = .ok (.if_icmp .le 7, 3) := by decide +kernel
theorem dX11_wouldPass_11 : decode cX11_wouldPass 11 = .ok (.iconst 1, 1) := by decide +kernel
theorem dX11_wouldPass_12 : decode cX11_wouldPass 12 = .ok (.goto 4, 3) := by decide +kernel
theorem dX11_wouldPass_15 : decode cX11_wouldPass 15 = .ok (.iconst 0, 1) := by decide +kernel
theorem dX11_wouldPass_16 : decode cX11_wouldPass 16 = .ok (.ireturn, 1) := by decide +kernel
set_option maxRecDepth 20000 in
theorem ggX11_answerIn_X11_isRow : GoodIn wsX11_answerIn wsX11_isRow := goodIn_r _ [7] rfl (by decide +kernel)
set_option maxRecDepth 20000 in
theorem gX11_answerIn_X11_isRow : GoodIn wsX11_answerIn (va_wsS RX11 64 yX11_isRow wsX11_isRow) := goodIn_app (goodIn_of _ (by decide +kernel)) ggX11_answerIn_X11_isRow
set_option maxRecDepth 20000 in
theorem ggX11_answerIn_X0_become : GoodIn wsX11_answerIn wsX0_become := goodIn_r _ [12, 13, 14, 15, 11, 16, 17, 18, 19, 20, 21, 22, 23, 24, 25, 26, 27, 28, 29, 30, 31, 32, 33, 34, 43, 44] rfl (by decide +kernel)
set_option maxRecDepth 20000 in
theorem gX11_answerIn_X0_become : GoodIn wsX11_answerIn (wsV RX11 90 RX0 yX0_become wsX0_become) := goodIn_app (goodIn_of _ (by decide +kernel)) ggX11_answerIn_X0_become
theorem dX11_answerIn_0 : decode cX11_answerIn 0 = .ok (.iload_n 1, 1) := by decide +kernel
theorem dX11_answerIn_1 : decode cX11_answerIn 1 = .ok (.invokestatic 64, 3) := by decide +kernel
theorem dX11_answerIn_4 : decode cX11_answerIn 4 = .ok (.ifCond .eq 16, 3) := by decide +kernel
theorem dX11_answerIn_7 : decode cX11_answerIn 7 = .ok (.aload_n 0, 1) := by decide +kernel
theorem dX11_answerIn_8 : decode cX11_answerIn 8 = .ok (.getfield 11, 3) := by decide +kernel
theorem dX11_answerIn_11 : decode cX11_answerIn 11 = .ok (.iload_n 1, 1) := by decide +kernel
theorem dX11_answerIn_12 : decode cX11_answerIn 12 = .ok (.aaload, 1) := by decide +kernel
theorem dX11_answerIn_13 : decode cX11_answerIn 13 = .ok (.aload_n 0, 1) := by decide +kernel
theorem dX11_answerIn_14 : decode cX11_answerIn 14 = .ok (.getfield 18, 3) := by decide +kernel
theorem dX11_answerIn_17 : decode cX11_answerIn 17 = .ok (.invokevirtual 90, 3) := by decide +kernel
theorem dX11_answerIn_20 : decode cX11_answerIn 20 = .ok (.aload_n 0, 1) := by decide +kernel
theorem dX11_answerIn_21 : decode cX11_answerIn 21 = .ok (.getfield 18, 3) := by decide +kernel
theorem dX11_answerIn_24 : decode cX11_answerIn 24 = .ok (.getfield 68, 3) := by decide +kernel
theorem dX11_answerIn_27 : decode cX11_answerIn 27 = .ok (.ireturn, 1) := by decide +kernel
