set_option maxRecDepth 20000 in
theorem ggX4_init_X0_init : GoodIn wsX4_init wsX0_init := goodIn_r _ [39, 40, 2, 3, 41, 42, 43, 44, 45, 46, 47, 104, 105] rfl (by decide +kernel)
set_option maxRecDepth 20000 in
theorem gX4_init_X0_init : GoodIn wsX4_init (wsX0_init) := ggX4_init_X0_init
set_option maxRecDepth 20000 in
theorem ggX4_init_X8_init : GoodIn wsX4_init wsX8_init := goodIn_r _ [49, 50, 2, 3, 51, 52, 106] rfl (by decide +kernel)
set_option maxRecDepth 20000 in
theorem gX4_init_X8_init_n46 : GoodIn wsX4_init (wsX8_init) := ggX4_init_X8_init
set_option maxRecDepth 20000 in
theorem ggX4_init_X6_init : GoodIn wsX4_init wsX6_init := goodIn_r _ [54, 55, 2, 3, 56, 57, 58, 59, 60, 61, 62, 63, 64, 65, 135, 136, 137, 138, 139, 140, 141, 142, 143, 107, 108, 109, 110] rfl (by decide +kernel)
set_option maxRecDepth 20000 in
theorem gX4_init_X6_init_n65 : GoodIn wsX4_init (wsX6_init) := ggX4_init_X6_init
set_option maxRecDepth 20000 in
theorem ggX4_init_X5_init : GoodIn wsX4_init wsX5_init := goodIn_r _ [67, 68, 2, 3, 69, 7, 8, 70, 71, 25, 26, 72, 73, 17, 18, 74, 75, 76, 77, 78, 79, 80, 81, 82, 83, 38, 39, 40, 41, 42, 43, 44, 45, 46, 47, 53, 54, 55, 56, 57, 58, 59, 60, 61, 62, 63, 64, 65, 48, 49, 50, 51, 52, 104, 105, 124, 125, 126, 127, 128, 129, 130, 131, 132, 133, 134, 107, 108, 109, 110, 106, 135, 136, 137, 138, 139, 140, 141, 142, 143] rfl (by decide +kernel)
set_option maxRecDepth 20000 in
theorem gX4_init_X5_init_n94 : GoodIn wsX4_init (wsX5_init) := ggX4_init_X5_init
theorem dX4_init_0 : decode cX4_init 0 = .ok (.aload_n 0, 1) := by decide +kernel
theorem dX4_init_1 : decode cX4_init 1 = .ok (.invokespecial 1, 3) := by decide +kernel
theorem dX4_init_4 : decode cX4_init 4 = .ok (.aload_n 0, 1) := by decide +kernel
theorem dX4_init_5 : decode cX4_init 5 = .ok (.iconst 0, 1) := by decide +kernel
theorem dX4_init_6 : decode cX4_init 6 = .ok (.putfield 7, 3) := by decide +kernel
theorem dX4_init_9 : decode cX4_init 9 = .ok (.aload_n 0, 1) := by decide +kernel
theorem dX4_init_10 : decode cX4_init 10 = .ok (.iconst 0, 1) := by decide +kernel
theorem dX4_init_11 : decode cX4_init 11 = .ok (.putfield 13, 3) := by decide +kernel
theorem dX4_init_14 : decode cX4_init 14 = .ok (.aload_n 0, 1) := by decide +kernel
theorem dX4_init_15 : decode cX4_init 15 = .ok (.new 17, 3) := by decide +kernel
theorem dX4_init_18 : decode cX4_init 18 = .ok (.dup, 1) := by decide +kernel
theorem dX4_init_19 : decode cX4_init 19 = .ok (.bipush 32, 2) := by decide +kernel
theorem dX4_init_21 : decode cX4_init 21 = .ok (.invokespecial 19, 3) := by decide +kernel
theorem dX4_init_24 : decode cX4_init 24 = .ok (.putfield 22, 3) := by decide +kernel
theorem dX4_init_27 : decode cX4_init 27 = .ok (.aload_n 0, 1) := by decide +kernel
theorem dX4_init_28 : decode cX4_init 28 = .ok (.iconst 4, 1) := by decide +kernel
theorem dX4_init_29 : decode cX4_init 29 = .ok (.anewarray 26, 3) := by decide +kernel
theorem dX4_init_32 : decode cX4_init 32 = .ok (.putfield 28, 3) := by decide +kernel
theorem dX4_init_35 : decode cX4_init 35 = .ok (.aload_n 0, 1) := by decide +kernel
theorem dX4_init_36 : decode cX4_init 36 = .ok (.new 17, 3) := by decide +kernel
theorem dX4_init_39 : decode cX4_init 39 = .ok (.dup, 1) := by decide +kernel
theorem dX4_init_40 : decode cX4_init 40 = .ok (.bipush 32, 2) := by decide +kernel
theorem dX4_init_42 : decode cX4_init 42 = .ok (.invokespecial 19, 3) := by decide +kernel
theorem dX4_init_45 : decode cX4_init 45 = .ok (.putfield 32, 3) := by decide +kernel
theorem dX4_init_48 : decode cX4_init 48 = .ok (.aload_n 0, 1) := by decide +kernel
theorem dX4_init_49 : decode cX4_init 49 = .ok (.new 17, 3) := by decide +kernel
theorem dX4_init_52 : decode cX4_init 52 = .ok (.dup, 1) := by decide +kernel
theorem dX4_init_53 : decode cX4_init 53 = .ok (.bipush 32, 2) := by decide +kernel
theorem dX4_init_55 : decode cX4_init 55 = .ok (.invokespecial 19, 3) := by decide +kernel
theorem dX4_init_58 : decode cX4_init 58 = .ok (.putfield 35, 3) := by decide +kernel
theorem dX4_init_61 : decode cX4_init 61 = .ok (.aload_n 0, 1) := by decide +kernel
theorem dX4_init_62 : decode cX4_init 62 = .ok (.new 17, 3) := by decide +kernel
theorem dX4_init_65 : decode cX4_init 65 = .ok (.dup, 1) := by decide +kernel
theorem dX4_init_66 : decode cX4_init 66 = .ok (.bipush 66, 2) := by decide +kernel
theorem dX4_init_68 : decode cX4_init 68 = .ok (.invokespecial 19, 3) := by decide +kernel
theorem dX4_init_71 : decode cX4_init 71 = .ok (.putfield 38, 3) := by decide +kernel
theorem dX4_init_74 : decode cX4_init 74 = .ok (.aload_n 0, 1) := by decide +kernel
theorem dX4_init_75 : decode cX4_init 75 = .ok (.new 17, 3) := by decide +kernel
theorem dX4_init_78 : decode cX4_init 78 = .ok (.dup, 1) := by decide +kernel
theorem dX4_init_79 : decode cX4_init 79 = .ok (.bipush 32, 2) := by decide +kernel
theorem dX4_init_81 : decode cX4_init 81 = .ok (.invokespecial 19, 3) := by decide +kernel
theorem dX4_init_84 : decode cX4_init 84 = .ok (.putfield 41, 3) := by decide +kernel
theorem dX4_init_87 : decode cX4_init 87 = .ok (.aload_n 0, 1) := by decide +kernel
theorem dX4_init_88 : decode cX4_init 88 = .ok (.new 44, 3) := by decide +kernel
theorem dX4_init_91 : decode cX4_init 91 = .ok (.dup, 1) := by decide +kernel
theorem dX4_init_92 : decode cX4_init 92 = .ok (.invokespecial 46, 3) := by decide +kernel
theorem dX4_init_95 : decode cX4_init 95 = .ok (.putfield 47, 3) := by decide +kernel
theorem dX4_init_98 : decode cX4_init 98 = .ok (.aload_n 0, 1) := by decide +kernel
theorem dX4_init_99 : decode cX4_init 99 = .ok (.new 44, 3) := by decide +kernel
theorem dX4_init_102 : decode cX4_init 102 = .ok (.dup, 1) := by decide +kernel
theorem dX4_init_103 : decode cX4_init 103 = .ok (.invokespecial 46, 3) := by decide +kernel
theorem dX4_init_106 : decode cX4_init 106 = .ok (.putfield 51, 3) := by decide +kernel
theorem dX4_init_109 : decode cX4_init 109 = .ok (.aload_n 0, 1) := by decide +kernel
theorem dX4_init_110 : decode cX4_init 110 = .ok (.new 44, 3) := by decide +kernel
theorem dX4_init_113 : decode cX4_init 113 = .ok (.dup, 1) := by decide +kernel
theorem dX4_init_114 : decode cX4_init 114 = .ok (.invokespecial 46, 3) := by decide +kernel
theorem dX4_init_117 : decode cX4_init 117 = .ok (.putfield 54, 3) := by decide +kernel
theorem dX4_init_120 : decode cX4_init 120 = .ok (.aload_n 0, 1) := by decide +kernel
theorem dX4_init_121 : decode cX4_init 121 = .ok (.new 44, 3) := by decide +kernel
theorem dX4_init_124 : decode cX4_init 124 = .ok (.dup, 1) := by decide +kernel
theorem dX4_init_125 : decode cX4_init 125 = .ok (.invokespecial 46, 3) := by decide +kernel
theorem dX4_init_128 : decode cX4_init 128 = .ok (.putfield 57, 3) := by decide +kernel
theorem dX4_init_131 : decode cX4_init 131 = .ok (.aload_n 0, 1) := by decide +kernel
theorem dX4_init_132 : decode cX4_init 132 = .ok (.new 44, 3) := by decide +kernel
theorem dX4_init_135 : decode cX4_init 135 = .ok (.dup, 1) := by decide +kernel
theorem dX4_init_136 : decode cX4_init 136 = .ok (.invokespecial 46, 3) := by decide +kernel
theorem dX4_init_139 : decode cX4_init 139 = .ok (.putfield 60, 3) := by decide +kernel
theorem dX4_init_142 : decode cX4_init 142 = .ok (.aload_n 0, 1) := by decide +kernel
theorem dX4_init_143 : decode cX4_init 143 = .ok (.new 63, 3) := by decide +kernel
theorem dX4_init_146 : decode cX4_init 146 = .ok (.dup, 1) := by decide +kernel
theorem dX4_init_147 : decode cX4_init 147 = .ok (.invokespecial 65, 3) := by decide +kernel
theorem dX4_init_150 : decode cX4_init 150 = .ok (.putfield 66, 3) := by decide +kernel
theorem dX4_init_153 : decode cX4_init 153 = .ok (.aload_n 0, 1) := by decide +kernel
theorem dX4_init_154 : decode cX4_init 154 = .ok (.new 63, 3) := by decide +kernel
theorem dX4_init_157 : decode cX4_init 157 = .ok (.dup, 1) := by decide +kernel
theorem dX4_init_158 : decode cX4_init 158 = .ok (.invokespecial 65, 3) := by decide +kernel
theorem dX4_init_161 : decode cX4_init 161 = .ok (.putfield 70, 3) := by decide +kernel
theorem dX4_init_164 : decode cX4_init 164 = .ok (.aload_n 0, 1) := by decide +kernel
theorem dX4_init_165 : decode cX4_init 165 = .ok (.iconst 0, 1) := by decide +kernel
theorem dX4_init_166 : decode cX4_init 166 = .ok (.putfield 73, 3) := by decide +kernel
theorem dX4_init_169 : decode cX4_init 169 = .ok (.aload_n 0, 1) := by decide +kernel
theorem dX4_init_170 : decode cX4_init 170 = .ok (.iconst 0, 1) := by decide +kernel
theorem dX4_init_171 : decode cX4_init 171 = .ok (.putfield 76, 3) := by decide +kernel
theorem dX4_init_174 : decode cX4_init 174 = .ok (.aload_n 0, 1) := by decide +kernel
theorem dX4_init_175 : decode cX4_init 175 = .ok (.aload_n 1, 1) := by decide +kernel
theorem dX4_init_176 : decode cX4_init 176 = .ok (.putfield 79, 3) := by decide +kernel
theorem dX4_init_179 : decode cX4_init 179 = .ok (.aload_n 0, 1) := by decide +kernel
theorem dX4_init_180 : decode cX4_init 180 = .ok (.aload_n 2, 1) := by decide +kernel
theorem dX4_init_181 : decode cX4_init 181 = .ok (.putfield 83, 3) := by decide +kernel
theorem dX4_init_184 : decode cX4_init 184 = .ok (.aload_n 0, 1) := by decide +kernel
theorem dX4_init_185 : decode cX4_init 185 = .ok (.aload_n 2, 1) := by decide +kernel
theorem dX4_init_186 : decode cX4_init 186 = .ok (.getfield 87, 3) := by decide +kernel
theorem dX4_init_189 : decode cX4_init 189 = .ok (.putfield 93, 3) := by decide +kernel
theorem dX4_init_192 : decode cX4_init 192 = .ok (.iconst 0, 1) := by decide +kernel
theorem dX4_init_193 : decode cX4_init 193 = .ok (.istore_n 3, 1) := by decide +kernel
theorem dX4_init_194 : decode cX4_init 194 = .ok (.iload_n 3, 1) := by decide +kernel
theorem dX4_init_195 : decode cX4_init 195 = .ok (.iconst 4, 1) := by decide +kernel
theorem dX4_init_196 : decode cX4_init 196 = .ok (.if_icmp .ge 22, 3) := by decide +kernel
theorem dX4_init_199 : decode cX4_init 199 = .ok (.aload_n 0, 1) := by decide +kernel
theorem dX4_init_200 : decode cX4_init 200 = .ok (.getfield 28, 3) := by decide +kernel
theorem dX4_init_203 : decode cX4_init 203 = .ok (.iload_n 3, 1) := by decide +kernel
theorem dX4_init_204 : decode cX4_init 204 = .ok (.new 26, 3) := by decide +kernel
theorem dX4_init_207 : decode cX4_init 207 = .ok (.dup, 1) := by decide +kernel
theorem dX4_init_208 : decode cX4_init 208 = .ok (.invokespecial 94, 3) := by decide +kernel
theorem dX4_init_211 : decode cX4_init 211 = .ok (.aastore, 1) := by decide +kernel
theorem dX4_init_212 : decode cX4_init 212 = .ok (.iinc 3 1, 3) := by decide +kernel
theorem dX4_init_215 : decode cX4_init 215 = .ok (.goto (-21), 3) := by decide +kernel
theorem dX4_init_218 : decode cX4_init 218 = .ok (.return_, 1) := by decide +kernel
theorem dX4_isFull_0 : decode cX4_isFull 0 = .ok (.aload_n 0, 1) := by decide +kernel
theorem dX4_isFull_1 : decode cX4_isFull 1 = .ok (.getfield 7, 3) := by decide +kernel
theorem dX4_isFull_4 : decode cX4_isFull 4 = .ok (.iconst 4, 1) := by decide +kernel
theorem dX4_isFull_5 : decode cX4_isFull 5 = .ok (.if_icmp .lt 7, 3) := by decide +kernel
theorem dX4_isFull_8 : decode cX4_isFull 8 = .ok (.iconst 1, 1) := by decide +kernel
theorem dX4_isFull_9 : decode cX4_isFull 9 = .ok (.goto 4, 3) := by decide +kernel
theorem dX4_isFull_12 : decode cX4_isFull 12 = .ok (.iconst 0, 1) := by decide +kernel
theorem dX4_isFull_13 : decode cX4_isFull 13 = .ok (.ireturn, 1) := by decide +kernel
theorem dX4_hasMember_0 : decode cX4_hasMember 0 = .ok (.iload_n 1, 1) := by decide +kernel
theorem dX4_hasMember_1 : decode cX4_hasMember 1 = .ok (.ifCond .lt 20, 3) := by decide +kernel
theorem dX4_hasMember_4 : decode cX4_hasMember 4 = .ok (.iload_n 1, 1) := by decide +kernel
theorem dX4_hasMember_5 : decode cX4_hasMember 5 = .ok (.aload_n 0, 1) := by decide +kernel
theorem dX4_hasMember_6 : decode cX4_hasMember 6 = .ok (.getfield 7, 3) := by decide +kernel
theorem dX4_hasMember_9 : decode cX4_hasMember 9 = .ok (.if_icmp .ge 12, 3) := by decide +kernel
theorem dX4_hasMember_12 : decode cX4_hasMember 12 = .ok (.iload_n 1, 1) := by decide +kernel
theorem dX4_hasMember_13 : decode cX4_hasMember 13 = .ok (.iconst 4, 1) := by decide +kernel
theorem dX4_hasMember_14 : decode cX4_hasMember 14 = .ok (.if_icmp .ge 7, 3) := by decide +kernel
theorem dX4_hasMember_17 : decode cX4_hasMember 17 = .ok (.iconst 1, 1) := by decide +kernel
theorem dX4_hasMember_18 : decode cX4_hasMember 18 = .ok (.goto 4, 3) := by decide +kernel
theorem dX4_hasMember_21 : decode cX4_hasMember 21 = .ok (.iconst 0, 1) := by decide +kernel
theorem dX4_hasMember_22 : decode cX4_hasMember 22 = .ok (.ireturn, 1) := by decide +kernel
set_option maxRecDepth 20000 in
theorem ggX4_canRead_X2_read : GoodIn wsX4_canRead wsX2_read := goodIn_r _ [8, 9, 10, 11, 12, 13, 14, 15, 16, 17, 7, 18, 19, 20, 21, 22, 23, 24, 25, 26, 27, 28, 29, 30, 31, 32, 33, 34, 35, 36, 37, 38, 39, 40, 41, 42, 43, 44, 45, 46, 47, 48, 49, 50, 51, 52, 53, 54, 55, 56, 57, 58, 59, 60, 61, 62, 63, 64, 65, 66, 67, 68, 69, 70, 71, 72, 73, 74, 75, 76, 77, 78, 79, 80, 81, 82, 83, 84, 85, 86, 87, 88, 89, 90, 91, 92, 93, 94, 95, 96, 97, 98, 99, 100, 101, 102, 103, 104, 105, 106, 107, 108, 109, 110, 111, 112, 113, 114, 115, 116, 137, 138, 139, 140, 141, 142, 143, 144, 145, 146, 147, 148, 149, 150, 151, 152, 153, 154, 155, 156, 157, 158, 159, 160, 161, 162, 163, 164] rfl (by decide +kernel)
set_option maxRecDepth 20000 in
theorem gX4_canRead_X2_read : GoodIn wsX4_canRead (wsV RX4 98 RX2 yX2_read wsX2_read) := goodIn_app (goodIn_of _ (by decide +kernel)) ggX4_canRead_X2_read
theorem dX4_canRead_0 : decode cX4_canRead 0 = .ok (.aload_n 1, 1) := by decide +kernel
theorem dX4_canRead_1 : decode cX4_canRead 1 = .ok (.getfield 95, 3) := by decide +kernel
theorem dX4_canRead_4 : decode cX4_canRead 4 = .ok (.bipush 33, 2) := by decide +kernel
theorem dX4_canRead_6 : decode cX4_canRead 6 = .ok (.if_icmp .ne 23, 3) := by decide +kernel
theorem dX4_canRead_9 : decode cX4_canRead 9 = .ok (.aload_n 0, 1) := by decide +kernel
theorem dX4_canRead_10 : decode cX4_canRead 10 = .ok (.getfield 93, 3) := by decide +kernel
theorem dX4_canRead_13 : decode cX4_canRead 13 = .ok (.aload_n 0, 1) := by decide +kernel
theorem dX4_canRead_14 : decode cX4_canRead 14 = .ok (.getfield 66, 3) := by decide +kernel
theorem dX4_canRead_17 : decode cX4_canRead 17 = .ok (.aload_n 1, 1) := by decide +kernel
theorem dX4_canRead_18 : decode cX4_canRead 18 = .ok (.iconst 0, 1) := by decide +kernel
theorem dX4_canRead_19 : decode cX4_canRead 19 = .ok (.invokevirtual 98, 3) := by decide +kernel
theorem dX4_canRead_22 : decode cX4_canRead 22 = .ok (.ifCond .eq 7, 3) := by decide +kernel
theorem dX4_canRead_25 : decode cX4_canRead 25 = .ok (.iconst 1, 1) := by decide +kernel
theorem dX4_canRead_26 : decode cX4_canRead 26 = .ok (.goto 4, 3) := by decide +kernel
theorem dX4_canRead_29 : decode cX4_canRead 29 = .ok (.iconst 0, 1) := by decide +kernel
theorem dX4_canRead_30 : decode cX4_canRead 30 = .ok (.ireturn, 1) := by decide +kernel
set_option maxRecDepth 20000 in
theorem ggX4_addMember_X4_isFull : GoodIn wsX4_addMember wsX4_isFull := goodIn_r _ [10, 1, 68, 69, 70, 71, 72, 73, 74, 75, 76, 77, 78, 79, 80, 81, 82, 83, 84, 85, 86, 87] rfl (by decide +kernel)
set_option maxRecDepth 20000 in
theorem gX4_addMember_X4_isFull : GoodIn wsX4_addMember (wsV RX4 104 RX4 yX4_isFull wsX4_isFull) := goodIn_app (goodIn_of _ (by decide +kernel)) ggX4_addMember_X4_isFull
set_option maxRecDepth 20000 in
theorem ggX4_addMember_X0_become : GoodIn wsX4_addMember wsX0_become := goodIn_r _ [15, 16, 17, 18, 14, 19, 20, 21, 22, 23, 24, 25, 26, 27, 28, 29, 30, 31, 32, 33, 34, 35, 36, 37, 99, 100] rfl (by decide +kernel)
set_option maxRecDepth 20000 in
theorem gX4_addMember_X0_become : GoodIn wsX4_addMember (wsV RX4 111 RX0 yX0_become wsX0_become) := goodIn_app (goodIn_of _ (by decide +kernel)) ggX4_addMember_X0_become
set_option maxRecDepth 20000 in
theorem ggX4_addMember_X6_become : GoodIn wsX4_addMember wsX6_become := goodIn_r _ [42, 43, 44, 45, 46, 47, 48, 49, 50, 51, 52, 53, 54, 55, 56, 57, 58, 59, 60, 101, 102, 103, 104, 105, 106, 107, 108, 109, 110, 111, 112, 113] rfl (by decide +kernel)
set_option maxRecDepth 20000 in
theorem gX4_addMember_X6_become : GoodIn wsX4_addMember (wsV RX4 116 RX6 yX6_become wsX6_become) := goodIn_app (goodIn_of _ (by decide +kernel)) ggX4_addMember_X6_become
set_option maxRecDepth 20000 in
theorem ggX4_addMember_X4_forgetNonces : GoodIn wsX4_addMember wsX4_forgetNonces := goodIn_r _ [64, 65, 2, 66, 67, 68, 69, 70, 71, 72, 73, 74, 75, 76, 77, 78, 79, 80, 81, 82, 83, 84, 85, 86, 87, 88, 89, 90, 91, 92, 93, 94, 95, 96, 97, 98] rfl (by decide +kernel)
set_option maxRecDepth 20000 in
theorem gX4_addMember_X4_forgetNonces : GoodIn wsX4_addMember (wsV RX4 119 RX4 yX4_forgetNonces wsX4_forgetNonces) := goodIn_app (goodIn_of _ (by decide +kernel)) ggX4_addMember_X4_forgetNonces
theorem dX4_addMember_0 : decode cX4_addMember 0 = .ok (.aload_n 0, 1) := by decide +kernel
theorem dX4_addMember_1 : decode cX4_addMember 1 = .ok (.getfield 7, 3) := by decide +kernel
theorem dX4_addMember_4 : decode cX4_addMember 4 = .ok (.ifCond .lt 10, 3) := by decide +kernel
theorem dX4_addMember_7 : decode cX4_addMember 7 = .ok (.aload_n 0, 1) := by decide +kernel
theorem dX4_addMember_8 : decode cX4_addMember 8 = .ok (.invokevirtual 104, 3) := by decide +kernel
theorem dX4_addMember_11 : decode cX4_addMember 11 = .ok (.ifCond .eq 4, 3) := by decide +kernel
theorem dX4_addMember_14 : decode cX4_addMember 14 = .ok (.return_, 1) := by decide +kernel
theorem dX4_addMember_15 : decode cX4_addMember 15 = .ok (.aload_n 0, 1) := by decide +kernel
theorem dX4_addMember_16 : decode cX4_addMember 16 = .ok (.getfield 28, 3) := by decide +kernel
theorem dX4_addMember_19 : decode cX4_addMember 19 = .ok (.aload_n 0, 1) := by decide +kernel
theorem dX4_addMember_20 : decode cX4_addMember 20 = .ok (.getfield 7, 3) := by decide +kernel
theorem dX4_addMember_23 : decode cX4_addMember 23 = .ok (.aaload, 1) := by decide +kernel
theorem dX4_addMember_24 : decode cX4_addMember 24 = .ok (.getfield 108, 3) := by decide +kernel
theorem dX4_addMember_27 : decode cX4_addMember 27 = .ok (.aload_n 1, 1) := by decide +kernel
theorem dX4_addMember_28 : decode cX4_addMember 28 = .ok (.invokevirtual 111, 3) := by decide +kernel
theorem dX4_addMember_31 : decode cX4_addMember 31 = .ok (.aload_n 0, 1) := by decide +kernel
theorem dX4_addMember_32 : decode cX4_addMember 32 = .ok (.getfield 28, 3) := by decide +kernel
theorem dX4_addMember_35 : decode cX4_addMember 35 = .ok (.aload_n 0, 1) := by decide +kernel
theorem dX4_addMember_36 : decode cX4_addMember 36 = .ok (.getfield 7, 3) := by decide +kernel
theorem dX4_addMember_39 : decode cX4_addMember 39 = .ok (.aaload, 1) := by decide +kernel
theorem dX4_addMember_40 : decode cX4_addMember 40 = .ok (.getfield 115, 3) := by decide +kernel
theorem dX4_addMember_43 : decode cX4_addMember 43 = .ok (.aload_n 0, 1) := by decide +kernel
theorem dX4_addMember_44 : decode cX4_addMember 44 = .ok (.getfield 66, 3) := by decide +kernel
theorem dX4_addMember_47 : decode cX4_addMember 47 = .ok (.invokevirtual 116, 3) := by decide +kernel
theorem dX4_addMember_50 : decode cX4_addMember 50 = .ok (.aload_n 0, 1) := by decide +kernel
theorem dX4_addMember_51 : decode cX4_addMember 51 = .ok (.dup, 1) := by decide +kernel
theorem dX4_addMember_52 : decode cX4_addMember 52 = .ok (.getfield 7, 3) := by decide +kernel
theorem dX4_addMember_55 : decode cX4_addMember 55 = .ok (.iconst 1, 1) := by decide +kernel
theorem dX4_addMember_56 : decode cX4_addMember 56 = .ok (.iadd, 1) := by decide +kernel
theorem dX4_addMember_57 : decode cX4_addMember 57 = .ok (.putfield 7, 3) := by decide +kernel
theorem dX4_addMember_60 : decode cX4_addMember 60 = .ok (.aload_n 0, 1) := by decide +kernel
theorem dX4_addMember_61 : decode cX4_addMember 61 = .ok (.invokevirtual 119, 3) := by decide +kernel
theorem dX4_addMember_64 : decode cX4_addMember 64 = .ok (.return_, 1) := by decide +kernel
set_option maxRecDepth 20000 in
theorem ggX4_dissolve_X4_forgetNonces : GoodIn wsX4_dissolve wsX4_forgetNonces := goodIn_r _ [6, 7, 8, 9, 10, 11, 12, 13, 14, 15, 16, 17, 18, 19, 20, 21, 22, 23, 24, 25, 26, 27, 28, 29, 30, 31, 32, 33, 34, 35, 36, 37, 38, 39, 40, 41] rfl (by decide +kernel)
set_option maxRecDepth 20000 in
theorem gX4_dissolve_X4_forgetNonces : GoodIn wsX4_dissolve (wsV RX4 119 RX4 yX4_forgetNonces wsX4_forgetNonces) := goodIn_app (goodIn_of _ (by decide +kernel)) ggX4_dissolve_X4_forgetNonces
theorem dX4_dissolve_0 : decode cX4_dissolve 0 = .ok (.aload_n 0, 1) := by decide +kernel
theorem dX4_dissolve_1 : decode cX4_dissolve 1 = .ok (.iconst 0, 1) := by decide +kernel
theorem dX4_dissolve_2 : decode cX4_dissolve 2 = .ok (.putfield 7, 3) := by decide +kernel
theorem dX4_dissolve_5 : decode cX4_dissolve 5 = .ok (.aload_n 0, 1) := by decide +kernel
theorem dX4_dissolve_6 : decode cX4_dissolve 6 = .ok (.invokevirtual 119, 3) := by decide +kernel
theorem dX4_dissolve_9 : decode cX4_dissolve 9 = .ok (.return_, 1) := by decide +kernel
theorem dX4_forgetNonces_0 : decode cX4_forgetNonces 0 = .ok (.aload_n 0, 1) := by decide +kernel
theorem dX4_forgetNonces_1 : decode cX4_forgetNonces 1 = .ok (.iconst 0, 1) := by decide +kernel
theorem dX4_forgetNonces_2 : decode cX4_forgetNonces 2 = .ok (.putfield 13, 3) := by decide +kernel
theorem dX4_forgetNonces_5 : decode cX4_forgetNonces 5 = .ok (.iconst 0, 1) := by decide +kernel
theorem dX4_forgetNonces_6 : decode cX4_forgetNonces 6 = .ok (.istore_n 1, 1) := by decide +kernel
theorem dX4_forgetNonces_7 : decode cX4_forgetNonces 7 = .ok (.iload_n 1, 1) := by decide +kernel
theorem dX4_forgetNonces_8 : decode cX4_forgetNonces 8 = .ok (.iconst 4, 1) := by decide +kernel
theorem dX4_forgetNonces_9 : decode cX4_forgetNonces 9 = .ok (.if_icmp .ge 29, 3) := by decide +kernel
theorem dX4_forgetNonces_12 : decode cX4_forgetNonces 12 = .ok (.aload_n 0, 1) := by decide +kernel
theorem dX4_forgetNonces_13 : decode cX4_forgetNonces 13 = .ok (.getfield 28, 3) := by decide +kernel
theorem dX4_forgetNonces_16 : decode cX4_forgetNonces 16 = .ok (.iload_n 1, 1) := by decide +kernel
theorem dX4_forgetNonces_17 : decode cX4_forgetNonces 17 = .ok (.aaload, 1) := by decide +kernel
theorem dX4_forgetNonces_18 : decode cX4_forgetNonces 18 = .ok (.iconst 0, 1) := by decide +kernel
theorem dX4_forgetNonces_19 : decode cX4_forgetNonces 19 = .ok (.putfield 122, 3) := by decide +kernel
theorem dX4_forgetNonces_22 : decode cX4_forgetNonces 22 = .ok (.aload_n 0, 1) := by decide +kernel
theorem dX4_forgetNonces_23 : decode cX4_forgetNonces 23 = .ok (.getfield 28, 3) := by decide +kernel
theorem dX4_forgetNonces_26 : decode cX4_forgetNonces 26 = .ok (.iload_n 1, 1) := by decide +kernel
theorem dX4_forgetNonces_27 : decode cX4_forgetNonces 27 = .ok (.aaload, 1) := by decide +kernel
theorem dX4_forgetNonces_28 : decode cX4_forgetNonces 28 = .ok (.iconst 0, 1) := by decide +kernel
theorem dX4_forgetNonces_29 : decode cX4_forgetNonces 29 = .ok (.putfield 125, 3) := by decide +kernel
theorem dX4_forgetNonces_32 : decode cX4_forgetNonces 32 = .ok (.iinc 1 1, 3) := by decide +kernel
theorem dX4_forgetNonces_35 : decode cX4_forgetNonces 35 = .ok (.goto (-28), 3) := by decide +kernel
theorem dX4_forgetNonces_38 : decode cX4_forgetNonces 38 = .ok (.return_, 1) := by decide +kernel
theorem dX4_countNonces_0 : decode cX4_countNonces 0 = .ok (.iconst 0, 1) := by decide +kernel
theorem dX4_countNonces_1 : decode cX4_countNonces 1 = .ok (.istore_n 1, 1) := by decide +kernel
theorem dX4_countNonces_2 : decode cX4_countNonces 2 = .ok (.iconst 0, 1) := by decide +kernel
theorem dX4_countNonces_3 : decode cX4_countNonces 3 = .ok (.istore_n 2, 1) := by decide +kernel
theorem dX4_countNonces_4 : decode cX4_countNonces 4 = .ok (.iload_n 2, 1) := by decide +kernel
theorem dX4_countNonces_5 : decode cX4_countNonces 5 = .ok (.iconst 4, 1) := by decide +kernel
theorem dX4_countNonces_6 : decode cX4_countNonces 6 = .ok (.if_icmp .ge 29, 3) := by decide +kernel
theorem dX4_countNonces_9 : decode cX4_countNonces 9 = .ok (.iload_n 1, 1) := by decide +kernel
theorem dX4_countNonces_10 : decode cX4_countNonces 10 = .ok (.aload_n 0, 1) := by decide +kernel
theorem dX4_countNonces_11 : decode cX4_countNonces 11 = .ok (.getfield 28, 3) := by decide +kernel
theorem dX4_countNonces_14 : decode cX4_countNonces 14 = .ok (.iload_n 2, 1) := by decide +kernel
theorem dX4_countNonces_15 : decode cX4_countNonces 15 = .ok (.aaload, 1) := by decide +kernel
theorem dX4_countNonces_16 : decode cX4_countNonces 16 = .ok (.getfield 122, 3) := by decide +kernel
theorem dX4_countNonces_19 : decode cX4_countNonces 19 = .ok (.ifCond .eq 7, 3) := by decide +kernel
theorem dX4_countNonces_22 : decode cX4_countNonces 22 = .ok (.iconst 1, 1) := by decide +kernel
theorem dX4_countNonces_23 : decode cX4_countNonces 23 = .ok (.goto 4, 3) := by decide +kernel
theorem dX4_countNonces_26 : decode cX4_countNonces 26 = .ok (.iconst 0, 1) := by decide +kernel
theorem dX4_countNonces_27 : decode cX4_countNonces 27 = .ok (.iadd, 1) := by decide +kernel
theorem dX4_countNonces_28 : decode cX4_countNonces 28 = .ok (.istore_n 1, 1) := by decide +kernel
theorem dX4_countNonces_29 : decode cX4_countNonces 29 = .ok (.iinc 2 1, 3) := by decide +kernel
theorem dX4_countNonces_32 : decode cX4_countNonces 32 = .ok (.goto (-28), 3) := by decide +kernel
theorem dX4_countNonces_35 : decode cX4_countNonces 35 = .ok (.iload_n 1, 1) := by decide +kernel
theorem dX4_countNonces_36 : decode cX4_countNonces 36 = .ok (.ireturn, 1) := by decide +kernel
theorem dX4_countTold_0 : decode cX4_countTold 0 = .ok (.iconst 0, 1) := by decide +kernel
theorem dX4_countTold_1 : decode cX4_countTold 1 = .ok (.istore_n 1, 1) := by decide +kernel
theorem dX4_countTold_2 : decode cX4_countTold 2 = .ok (.iconst 0, 1) := by decide +kernel
theorem dX4_countTold_3 : decode cX4_countTold 3 = .ok (.istore_n 2, 1) := by decide +kernel
theorem dX4_countTold_4 : decode cX4_countTold 4 = .ok (.iload_n 2, 1) := by decide +kernel
theorem dX4_countTold_5 : decode cX4_countTold 5 = .ok (.iconst 4, 1) := by decide +kernel
theorem dX4_countTold_6 : decode cX4_countTold 6 = .ok (.if_icmp .ge 29, 3) := by decide +kernel
theorem dX4_countTold_9 : decode cX4_countTold 9 = .ok (.iload_n 1, 1) := by decide +kernel
theorem dX4_countTold_10 : decode cX4_countTold 10 = .ok (.aload_n 0, 1) := by decide +kernel
theorem dX4_countTold_11 : decode cX4_countTold 11 = .ok (.getfield 28, 3) := by decide +kernel
theorem dX4_countTold_14 : decode cX4_countTold 14 = .ok (.iload_n 2, 1) := by decide +kernel
theorem dX4_countTold_15 : decode cX4_countTold 15 = .ok (.aaload, 1) := by decide +kernel
theorem dX4_countTold_16 : decode cX4_countTold 16 = .ok (.getfield 125, 3) := by decide +kernel
theorem dX4_countTold_19 : decode cX4_countTold 19 = .ok (.ifCond .eq 7, 3) := by decide +kernel
theorem dX4_countTold_22 : decode cX4_countTold 22 = .ok (.iconst 1, 1) := by decide +kernel
theorem dX4_countTold_23 : decode cX4_countTold 23 = .ok (.goto 4, 3) := by decide +kernel
theorem dX4_countTold_26 : decode cX4_countTold 26 = .ok (.iconst 0, 1) := by decide +kernel
theorem dX4_countTold_27 : decode cX4_countTold 27 = .ok (.iadd, 1) := by decide +kernel
theorem dX4_countTold_28 : decode cX4_countTold 28 = .ok (.istore_n 1, 1) := by decide +kernel
theorem dX4_countTold_29 : decode cX4_countTold 29 = .ok (.iinc 2 1, 3) := by decide +kernel
theorem dX4_countTold_32 : decode cX4_countTold 32 = .ok (.goto (-28), 3) := by decide +kernel
theorem dX4_countTold_35 : decode cX4_countTold 35 = .ok (.iload_n 1, 1) := by decide +kernel
theorem dX4_countTold_36 : decode cX4_countTold 36 = .ok (.ireturn, 1) := by decide +kernel
set_option maxRecDepth 20000 in
theorem ggX4_joinKeys_X4_listKeys : GoodIn wsX4_joinKeys wsX4_listKeys := goodIn_r _ [17, 18, 3, 4, 19, 20, 21, 22, 23, 24, 25, 26, 27, 28, 29, 30, 31, 32, 33, 34, 35, 36, 37, 38, 39, 40, 41, 42, 43, 44, 45, 46, 47, 48, 49, 50, 51, 52, 53, 54, 55, 56, 57, 58, 59, 60, 61, 62, 63, 64, 65, 66, 67, 68, 69, 70, 71, 72, 73, 74, 75, 76, 77, 78, 79, 80, 81, 82, 83, 84, 85, 86, 87, 88, 89, 90, 91, 92, 93, 94, 95, 96, 97, 98, 99, 100, 101, 102, 103, 104, 105, 106, 107, 108, 109, 110, 111, 112, 113, 114, 115, 116, 117, 118, 119, 120, 121, 122, 123, 124, 125, 126, 127, 128, 300, 301, 302, 303, 304, 305, 306, 307, 308, 309, 310, 311, 312, 313, 314, 315, 316, 317, 318, 319, 324, 325, 326, 327, 328, 329, 330, 331, 332, 333, 334, 335, 336, 337, 338, 339, 340] rfl (by decide +kernel)
set_option maxRecDepth 20000 in
theorem gX4_joinKeys_X4_listKeys : GoodIn wsX4_joinKeys (wsV RX4 128 RX4 yX4_listKeys wsX4_listKeys) := goodIn_app (goodIn_of _ (by decide +kernel)) ggX4_joinKeys_X4_listKeys
set_option maxRecDepth 20000 in
theorem ggX4_joinKeys_X4_findSecond : GoodIn wsX4_joinKeys wsX4_findSecond := goodIn_r _ [132, 3, 4, 19, 133, 134, 135, 106, 136, 108, 137, 124, 125, 126, 117, 300, 301, 302, 303, 304, 305, 306, 307, 308, 309, 310, 311, 312, 313, 314, 315, 316, 317, 318, 319, 324, 325, 326, 327, 328, 329, 330, 331, 332, 333, 334, 339, 340] rfl (by decide +kernel)
set_option maxRecDepth 20000 in
theorem gX4_joinKeys_X4_findSecond : GoodIn wsX4_joinKeys (wsV RX4 131 RX4 yX4_findSecond wsX4_findSecond) := goodIn_app (goodIn_of _ (by decide +kernel)) ggX4_joinKeys_X4_findSecond
set_option maxRecDepth 20000 in
theorem ggX4_joinKeys_X4_weigh : GoodIn wsX4_joinKeys wsX4_weigh := goodIn_r _ [141, 19, 4, 8, 18, 20, 142, 133, 134, 135, 106, 136, 108, 137, 124, 125, 126, 117, 143, 144, 145, 146, 147, 148, 149, 21, 22, 23, 24, 25, 26, 27, 28, 29, 30, 31, 32, 33, 34, 35, 36, 37, 38, 39, 40, 41, 42, 43, 44, 45, 46, 47, 48, 49, 50, 51, 52, 53, 54, 55, 56, 57, 58, 59, 60, 61, 62, 63, 64, 65, 66, 67, 68, 69, 70, 71, 72, 73, 74, 75, 76, 77, 78, 79, 80, 81, 82, 83, 84, 85, 86, 87, 88, 89, 90, 91, 92, 93, 94, 95, 96, 97, 98, 99, 100, 101, 102, 103, 104, 105, 107, 109, 110, 111, 112, 113, 114, 115, 116, 118, 119, 120, 121, 122, 123, 127, 128, 150, 151, 152, 153, 154, 155, 156, 157, 158, 159, 160, 161, 162, 163, 164, 165, 166, 167, 168, 169, 170, 171, 172, 173, 174, 175, 324, 325, 326, 327, 328, 329, 330, 331, 332, 333, 334, 300, 301, 302, 303, 304, 305, 306, 307, 308, 309, 310, 311, 312, 313, 314, 315, 316, 317, 318, 319, 339, 340, 341, 335, 336, 337, 338] rfl (by decide +kernel)
set_option maxRecDepth 20000 in
theorem gX4_joinKeys_X4_weigh : GoodIn wsX4_joinKeys (wsV RX4 138 RX4 yX4_weigh wsX4_weigh) := goodIn_app (goodIn_of _ (by decide +kernel)) ggX4_joinKeys_X4_weigh
set_option maxRecDepth 20000 in
theorem ggX4_joinKeys_X2_times : GoodIn wsX4_joinKeys wsX2_times := goodIn_r _ [180, 181, 182, 183, 184, 185, 186, 187, 188, 189, 190, 191, 192, 193, 194, 195, 196, 197, 198, 199, 200, 201, 202, 203, 204, 205, 206, 207, 208, 179, 209, 210, 211, 212, 213, 214, 215, 216, 217, 218, 219, 220, 221, 222, 223, 224, 225, 226, 227, 228, 229, 230, 231, 232, 233, 234, 235, 236, 237, 238, 239, 240, 241, 242, 243, 244, 245, 246, 247, 248, 249, 250, 251, 252, 253, 254, 255, 256, 257, 258, 259, 260, 261, 146, 262, 148, 342, 343, 344, 345, 346, 347, 348, 349, 350, 320, 321, 322, 323, 351, 352, 353, 354, 355, 356, 357, 358, 359, 341] rfl (by decide +kernel)
set_option maxRecDepth 20000 in
theorem gX4_joinKeys_X2_times : GoodIn wsX4_joinKeys (wsV RX4 145 RX2 yX2_times wsX2_times) := goodIn_app (goodIn_of _ (by decide +kernel)) ggX4_joinKeys_X2_times
set_option maxRecDepth 20000 in
theorem ggX4_joinKeys_X2_plus : GoodIn wsX4_joinKeys wsX2_plus := goodIn_r _ [209, 182, 210, 211, 212, 213, 214, 215, 216, 217, 183, 184, 185, 186, 187, 188, 189, 190, 191, 192, 193, 194, 195, 196, 197, 198, 199, 200, 201, 202, 203, 204, 205, 218, 219, 220, 221, 222, 223, 224, 225, 226, 227, 228, 229, 230, 231, 232, 233, 234, 235, 236, 237, 238, 239, 240, 241, 242, 243, 244, 245, 246, 247, 248, 249, 250, 251, 252, 253, 179, 254, 255, 256, 257, 258, 320, 321, 322, 323, 342, 343, 344, 345, 346, 347, 348, 349, 350, 351, 352, 353, 354, 355, 356, 357, 358, 359] rfl (by decide +kernel)
set_option maxRecDepth 20000 in
theorem gX4_joinKeys_X2_plus : GoodIn wsX4_joinKeys (wsV RX4 149 RX2 yX2_plus wsX2_plus) := goodIn_app (goodIn_of _ (by decide +kernel)) ggX4_joinKeys_X2_plus
set_option maxRecDepth 20000 in
theorem ggX4_joinKeys_X2_settle : GoodIn wsX4_joinKeys wsX2_settle := goodIn_r _ [267, 182, 268, 210, 211, 212, 213, 215, 269, 270, 271, 272, 273, 274, 275, 276, 277, 278, 279, 280, 281, 282, 283, 195, 284, 285, 193, 194, 196, 197, 198, 199, 200, 201, 202, 203, 204, 205, 286, 219, 220, 221, 222, 223, 224, 225, 287, 288, 218, 289, 320, 321, 322, 323, 342, 343, 344, 345, 346, 347, 348, 349, 350, 360, 361, 362, 363, 364, 365, 351, 352, 353, 354, 355, 356, 357, 358, 359] rfl (by decide +kernel)
set_option maxRecDepth 20000 in
theorem gX4_joinKeys_X2_settle : GoodIn wsX4_joinKeys (wsV RX4 153 RX2 yX2_settle wsX2_settle) := goodIn_app (goodIn_of _ (by decide +kernel)) ggX4_joinKeys_X2_settle
set_option maxRecDepth 20000 in
theorem ggX4_joinKeys_X1_isOdd : GoodIn wsX4_joinKeys wsX1_isOdd := goodIn_r _ [293, 197, 238, 239, 240, 195, 241, 198, 242, 230, 231, 232, 233, 205, 225, 222, 199, 200, 201, 202, 203, 204, 224, 243, 244, 245, 246, 247, 248, 249, 250, 351, 352, 353, 354, 355, 356, 357, 358, 359] rfl (by decide +kernel)
set_option maxRecDepth 20000 in
theorem gX4_joinKeys_X1_isOdd : GoodIn wsX4_joinKeys (wsV RX4 160 RX1 yX1_isOdd wsX1_isOdd) := goodIn_app (goodIn_of _ (by decide +kernel)) ggX4_joinKeys_X1_isOdd
set_option maxRecDepth 20000 in
theorem ggX4_joinKeys_X0_empty : GoodIn wsX4_joinKeys wsX0_empty := goodIn_r _ [107, 108, 339, 340] rfl (by decide +kernel)
set_option maxRecDepth 20000 in
theorem gX4_joinKeys_X0_empty : GoodIn wsX4_joinKeys (wsV RX4 165 RX0 yX0_empty wsX0_empty) := goodIn_app (goodIn_of _ (by decide +kernel)) ggX4_joinKeys_X0_empty
set_option maxRecDepth 20000 in
theorem ggX4_joinKeys_X1_addTo : GoodIn wsX4_joinKeys wsX1_addTo := goodIn_r _ [298, 203, 204, 205, 201, 202, 199, 200, 197, 198, 238, 239, 240, 195, 241, 242, 230, 231, 232, 233, 225, 222, 224, 243, 244, 245, 246, 247, 248, 249, 250, 299, 110, 111, 106, 112, 113, 114, 115, 116, 108, 117, 351, 352, 353, 354, 355, 356, 357, 358, 359, 339, 340] rfl (by decide +kernel)
set_option maxRecDepth 20000 in
theorem gX4_joinKeys_X1_addTo : GoodIn wsX4_joinKeys (wsV RX4 171 RX1 yX1_addTo wsX1_addTo) := goodIn_app (goodIn_of _ (by decide +kernel)) ggX4_joinKeys_X1_addTo
theorem dX4_joinKeys_0 : decode cX4_joinKeys 0 = .ok (.aload_n 0, 1) := by decide +kernel
theorem dX4_joinKeys_1 : decode cX4_joinKeys 1 = .ok (.invokevirtual 128, 3) := by decide +kernel
theorem dX4_joinKeys_4 : decode cX4_joinKeys 4 = .ok (.aload_n 0, 1) := by decide +kernel
theorem dX4_joinKeys_5 : decode cX4_joinKeys 5 = .ok (.invokevirtual 131, 3) := by decide +kernel
theorem dX4_joinKeys_8 : decode cX4_joinKeys 8 = .ok (.istore_n 1, 1) := by decide +kernel
theorem dX4_joinKeys_9 : decode cX4_joinKeys 9 = .ok (.aload_n 0, 1) := by decide +kernel
theorem dX4_joinKeys_10 : decode cX4_joinKeys 10 = .ok (.getfield 66, 3) := by decide +kernel
theorem dX4_joinKeys_13 : decode cX4_joinKeys 13 = .ok (.iconst 1, 1) := by decide +kernel
theorem dX4_joinKeys_14 : decode cX4_joinKeys 14 = .ok (.putfield 135, 3) := by decide +kernel
theorem dX4_joinKeys_17 : decode cX4_joinKeys 17 = .ok (.iconst 0, 1) := by decide +kernel
theorem dX4_joinKeys_18 : decode cX4_joinKeys 18 = .ok (.istore_n 2, 1) := by decide +kernel
theorem dX4_joinKeys_19 : decode cX4_joinKeys 19 = .ok (.iload_n 2, 1) := by decide +kernel
theorem dX4_joinKeys_20 : decode cX4_joinKeys 20 = .ok (.aload_n 0, 1) := by decide +kernel
theorem dX4_joinKeys_21 : decode cX4_joinKeys 21 = .ok (.getfield 7, 3) := by decide +kernel
theorem dX4_joinKeys_24 : decode cX4_joinKeys 24 = .ok (.if_icmp .ge 69, 3) := by decide +kernel
theorem dX4_joinKeys_27 : decode cX4_joinKeys 27 = .ok (.iload_n 2, 1) := by decide +kernel
theorem dX4_joinKeys_28 : decode cX4_joinKeys 28 = .ok (.iconst 4, 1) := by decide +kernel
theorem dX4_joinKeys_29 : decode cX4_joinKeys 29 = .ok (.if_icmp .ge 64, 3) := by decide +kernel
theorem dX4_joinKeys_32 : decode cX4_joinKeys 32 = .ok (.aload_n 0, 1) := by decide +kernel
theorem dX4_joinKeys_33 : decode cX4_joinKeys 33 = .ok (.aload_n 0, 1) := by decide +kernel
theorem dX4_joinKeys_34 : decode cX4_joinKeys 34 = .ok (.getfield 28, 3) := by decide +kernel
theorem dX4_joinKeys_37 : decode cX4_joinKeys 37 = .ok (.iload_n 2, 1) := by decide +kernel
theorem dX4_joinKeys_38 : decode cX4_joinKeys 38 = .ok (.aaload, 1) := by decide +kernel
theorem dX4_joinKeys_39 : decode cX4_joinKeys 39 = .ok (.iload_n 1, 1) := by decide +kernel
theorem dX4_joinKeys_40 : decode cX4_joinKeys 40 = .ok (.invokevirtual 138, 3) := by decide +kernel
theorem dX4_joinKeys_43 : decode cX4_joinKeys 43 = .ok (.aload_n 0, 1) := by decide +kernel
theorem dX4_joinKeys_44 : decode cX4_joinKeys 44 = .ok (.getfield 93, 3) := by decide +kernel
theorem dX4_joinKeys_47 : decode cX4_joinKeys 47 = .ok (.aload_n 0, 1) := by decide +kernel
theorem dX4_joinKeys_48 : decode cX4_joinKeys 48 = .ok (.getfield 70, 3) := by decide +kernel
theorem dX4_joinKeys_51 : decode cX4_joinKeys 51 = .ok (.aload_n 0, 1) := by decide +kernel
theorem dX4_joinKeys_52 : decode cX4_joinKeys 52 = .ok (.getfield 28, 3) := by decide +kernel
theorem dX4_joinKeys_55 : decode cX4_joinKeys 55 = .ok (.iload_n 2, 1) := by decide +kernel
theorem dX4_joinKeys_56 : decode cX4_joinKeys 56 = .ok (.aaload, 1) := by decide +kernel
theorem dX4_joinKeys_57 : decode cX4_joinKeys 57 = .ok (.getfield 115, 3) := by decide +kernel
theorem dX4_joinKeys_60 : decode cX4_joinKeys 60 = .ok (.aload_n 0, 1) := by decide +kernel
theorem dX4_joinKeys_61 : decode cX4_joinKeys 61 = .ok (.getfield 28, 3) := by decide +kernel
theorem dX4_joinKeys_64 : decode cX4_joinKeys 64 = .ok (.iload_n 2, 1) := by decide +kernel
theorem dX4_joinKeys_65 : decode cX4_joinKeys 65 = .ok (.aaload, 1) := by decide +kernel
theorem dX4_joinKeys_66 : decode cX4_joinKeys 66 = .ok (.getfield 142, 3) := by decide +kernel
theorem dX4_joinKeys_69 : decode cX4_joinKeys 69 = .ok (.invokevirtual 145, 3) := by decide +kernel
theorem dX4_joinKeys_72 : decode cX4_joinKeys 72 = .ok (.aload_n 0, 1) := by decide +kernel
theorem dX4_joinKeys_73 : decode cX4_joinKeys 73 = .ok (.getfield 93, 3) := by decide +kernel
theorem dX4_joinKeys_76 : decode cX4_joinKeys 76 = .ok (.aload_n 0, 1) := by decide +kernel
theorem dX4_joinKeys_77 : decode cX4_joinKeys 77 = .ok (.getfield 66, 3) := by decide +kernel
theorem dX4_joinKeys_80 : decode cX4_joinKeys 80 = .ok (.aload_n 0, 1) := by decide +kernel
theorem dX4_joinKeys_81 : decode cX4_joinKeys 81 = .ok (.getfield 70, 3) := by decide +kernel
theorem dX4_joinKeys_84 : decode cX4_joinKeys 84 = .ok (.invokevirtual 149, 3) := by decide +kernel
theorem dX4_joinKeys_87 : decode cX4_joinKeys 87 = .ok (.iinc 2 1, 3) := by decide +kernel
theorem dX4_joinKeys_90 : decode cX4_joinKeys 90 = .ok (.goto (-71), 3) := by decide +kernel
theorem dX4_joinKeys_93 : decode cX4_joinKeys 93 = .ok (.aload_n 0, 1) := by decide +kernel
theorem dX4_joinKeys_94 : decode cX4_joinKeys 94 = .ok (.getfield 66, 3) := by decide +kernel
theorem dX4_joinKeys_97 : decode cX4_joinKeys 97 = .ok (.getfield 135, 3) := by decide +kernel
theorem dX4_joinKeys_100 : decode cX4_joinKeys 100 = .ok (.ifCond .eq 5, 3) := by decide +kernel
theorem dX4_joinKeys_103 : decode cX4_joinKeys 103 = .ok (.iconst 0, 1) := by decide +kernel
theorem dX4_joinKeys_104 : decode cX4_joinKeys 104 = .ok (.ireturn, 1) := by decide +kernel
theorem dX4_joinKeys_105 : decode cX4_joinKeys 105 = .ok (.aload_n 0, 1) := by decide +kernel
theorem dX4_joinKeys_106 : decode cX4_joinKeys 106 = .ok (.getfield 93, 3) := by decide +kernel
theorem dX4_joinKeys_109 : decode cX4_joinKeys 109 = .ok (.aload_n 0, 1) := by decide +kernel
theorem dX4_joinKeys_110 : decode cX4_joinKeys 110 = .ok (.getfield 66, 3) := by decide +kernel
theorem dX4_joinKeys_113 : decode cX4_joinKeys 113 = .ok (.invokevirtual 153, 3) := by decide +kernel
theorem dX4_joinKeys_116 : decode cX4_joinKeys 116 = .ok (.aload_n 0, 1) := by decide +kernel
theorem dX4_joinKeys_117 : decode cX4_joinKeys 117 = .ok (.aload_n 0, 1) := by decide +kernel
theorem dX4_joinKeys_118 : decode cX4_joinKeys 118 = .ok (.getfield 66, 3) := by decide +kernel
theorem dX4_joinKeys_121 : decode cX4_joinKeys 121 = .ok (.getfield 156, 3) := by decide +kernel
theorem dX4_joinKeys_124 : decode cX4_joinKeys 124 = .ok (.invokevirtual 160, 3) := by decide +kernel
theorem dX4_joinKeys_127 : decode cX4_joinKeys 127 = .ok (.putfield 73, 3) := by decide +kernel
theorem dX4_joinKeys_130 : decode cX4_joinKeys 130 = .ok (.aload_n 0, 1) := by decide +kernel
theorem dX4_joinKeys_131 : decode cX4_joinKeys 131 = .ok (.getfield 22, 3) := by decide +kernel
theorem dX4_joinKeys_134 : decode cX4_joinKeys 134 = .ok (.invokevirtual 165, 3) := by decide +kernel
theorem dX4_joinKeys_137 : decode cX4_joinKeys 137 = .ok (.aload_n 0, 1) := by decide +kernel
theorem dX4_joinKeys_138 : decode cX4_joinKeys 138 = .ok (.getfield 66, 3) := by decide +kernel
theorem dX4_joinKeys_141 : decode cX4_joinKeys 141 = .ok (.getfield 168, 3) := by decide +kernel
theorem dX4_joinKeys_144 : decode cX4_joinKeys 144 = .ok (.aload_n 0, 1) := by decide +kernel
theorem dX4_joinKeys_145 : decode cX4_joinKeys 145 = .ok (.getfield 22, 3) := by decide +kernel
theorem dX4_joinKeys_148 : decode cX4_joinKeys 148 = .ok (.invokevirtual 171, 3) := by decide +kernel
theorem dX4_joinKeys_151 : decode cX4_joinKeys 151 = .ok (.iconst 1, 1) := by decide +kernel
theorem dX4_joinKeys_152 : decode cX4_joinKeys 152 = .ok (.ireturn, 1) := by decide +kernel
set_option maxRecDepth 20000 in
theorem ggX4_listKeys_X9_beginBy : GoodIn wsX4_listKeys wsX9_beginBy := goodIn_r _ [10, 11, 12, 13, 14, 9, 15, 16, 17, 18, 19, 20, 21, 22, 23, 24, 25, 26, 27, 28, 29, 30, 31, 32, 33, 34, 35, 36, 37, 38, 39, 40, 41, 42, 43, 44, 45, 46, 47, 48, 49, 50, 51, 52, 53, 54, 55, 56, 57, 58, 59, 60, 61, 62, 63, 64, 65, 66, 67, 68, 69, 70, 71, 72, 73, 74, 75, 76, 77, 78, 79, 80, 81, 82, 83, 84, 85, 86, 87, 88, 89, 90, 91, 92, 93, 94, 95, 96, 97, 98, 99, 100, 101, 102, 103, 104, 105, 106, 107, 108, 109, 110, 111, 145, 146, 147, 148, 149, 150] rfl (by decide +kernel)
set_option maxRecDepth 20000 in
theorem gX4_listKeys_X9_beginBy : GoodIn wsX4_listKeys (wsV RX4 176 RX9 yX9_beginBy wsX9_beginBy) := goodIn_app (goodIn_of _ (by decide +kernel)) ggX4_listKeys_X9_beginBy
set_option maxRecDepth 20000 in
theorem ggX4_listKeys_X9_takeAll : GoodIn wsX4_listKeys wsX9_takeAll := goodIn_r _ [106, 107, 108, 109, 110, 91, 111, 102, 71, 72, 73, 9, 74, 16, 75, 76, 77, 78, 79, 80, 17, 81, 149, 150, 145, 146, 147, 148] rfl (by decide +kernel)
set_option maxRecDepth 20000 in
theorem gX4_listKeys_X9_takeAll : GoodIn wsX4_listKeys (wsV RX4 179 RX9 yX9_takeAll wsX9_takeAll) := goodIn_app (goodIn_of _ (by decide +kernel)) ggX4_listKeys_X9_takeAll
set_option maxRecDepth 20000 in
theorem ggX4_listKeys_X9_finish : GoodIn wsX4_listKeys wsX9_finish := goodIn_r _ [85, 16, 86, 76, 87, 75, 17, 71, 72, 73, 9, 74, 77, 78, 79, 80, 81, 88, 89, 90, 91, 92, 93, 94, 95, 96, 97, 98, 99, 100, 101, 102, 145, 146, 147, 148, 149, 150] rfl (by decide +kernel)
set_option maxRecDepth 20000 in
theorem gX4_listKeys_X9_finish : GoodIn wsX4_listKeys (wsV RX4 182 RX9 yX9_finish wsX9_finish) := goodIn_app (goodIn_of _ (by decide +kernel)) ggX4_listKeys_X9_finish
theorem dX4_listKeys_0 : decode cX4_listKeys 0 = .ok (.aload_n 0, 1) := by decide +kernel
theorem dX4_listKeys_1 : decode cX4_listKeys 1 = .ok (.getfield 79, 3) := by decide +kernel
theorem dX4_listKeys_4 : decode cX4_listKeys 4 = .ok (.iconst 3, 1) := by decide +kernel
theorem dX4_listKeys_5 : decode cX4_listKeys 5 = .ok (.invokevirtual 176, 3) := by decide +kernel
theorem dX4_listKeys_8 : decode cX4_listKeys 8 = .ok (.iconst 0, 1) := by decide +kernel
theorem dX4_listKeys_9 : decode cX4_listKeys 9 = .ok (.istore_n 1, 1) := by decide +kernel
theorem dX4_listKeys_10 : decode cX4_listKeys 10 = .ok (.iload_n 1, 1) := by decide +kernel
theorem dX4_listKeys_11 : decode cX4_listKeys 11 = .ok (.aload_n 0, 1) := by decide +kernel
theorem dX4_listKeys_12 : decode cX4_listKeys 12 = .ok (.getfield 7, 3) := by decide +kernel
theorem dX4_listKeys_15 : decode cX4_listKeys 15 = .ok (.if_icmp .ge 30, 3) := by decide +kernel
theorem dX4_listKeys_18 : decode cX4_listKeys 18 = .ok (.iload_n 1, 1) := by decide +kernel
theorem dX4_listKeys_19 : decode cX4_listKeys 19 = .ok (.iconst 4, 1) := by decide +kernel
theorem dX4_listKeys_20 : decode cX4_listKeys 20 = .ok (.if_icmp .ge 25, 3) := by decide +kernel
theorem dX4_listKeys_23 : decode cX4_listKeys 23 = .ok (.aload_n 0, 1) := by decide +kernel
theorem dX4_listKeys_24 : decode cX4_listKeys 24 = .ok (.getfield 79, 3) := by decide +kernel
theorem dX4_listKeys_27 : decode cX4_listKeys 27 = .ok (.aload_n 0, 1) := by decide +kernel
theorem dX4_listKeys_28 : decode cX4_listKeys 28 = .ok (.getfield 28, 3) := by decide +kernel
theorem dX4_listKeys_31 : decode cX4_listKeys 31 = .ok (.iload_n 1, 1) := by decide +kernel
theorem dX4_listKeys_32 : decode cX4_listKeys 32 = .ok (.aaload, 1) := by decide +kernel
theorem dX4_listKeys_33 : decode cX4_listKeys 33 = .ok (.getfield 108, 3) := by decide +kernel
theorem dX4_listKeys_36 : decode cX4_listKeys 36 = .ok (.invokevirtual 179, 3) := by decide +kernel
theorem dX4_listKeys_39 : decode cX4_listKeys 39 = .ok (.iinc 1 1, 3) := by decide +kernel
theorem dX4_listKeys_42 : decode cX4_listKeys 42 = .ok (.goto (-32), 3) := by decide +kernel
theorem dX4_listKeys_45 : decode cX4_listKeys 45 = .ok (.aload_n 0, 1) := by decide +kernel
theorem dX4_listKeys_46 : decode cX4_listKeys 46 = .ok (.getfield 79, 3) := by decide +kernel
theorem dX4_listKeys_49 : decode cX4_listKeys 49 = .ok (.aload_n 0, 1) := by decide +kernel
theorem dX4_listKeys_50 : decode cX4_listKeys 50 = .ok (.getfield 35, 3) := by decide +kernel
theorem dX4_listKeys_53 : decode cX4_listKeys 53 = .ok (.invokevirtual 182, 3) := by decide +kernel
theorem dX4_listKeys_56 : decode cX4_listKeys 56 = .ok (.return_, 1) := by decide +kernel
set_option maxRecDepth 20000 in
theorem ggX4_findSecond_X0_isLike : GoodIn wsX4_findSecond wsX0_isLike := goodIn_r _ [8, 9, 10, 11, 12, 7, 13, 14, 46, 47] rfl (by decide +kernel)
set_option maxRecDepth 20000 in
theorem gX4_findSecond_X0_isLike : GoodIn wsX4_findSecond (wsV RX4 185 RX0 yX0_isLike wsX0_isLike) := goodIn_app (goodIn_of _ (by decide +kernel)) ggX4_findSecond_X0_isLike
theorem dX4_findSecond_0 : decode cX4_findSecond 0 = .ok (.iconst 1, 1) := by decide +kernel
theorem dX4_findSecond_1 : decode cX4_findSecond 1 = .ok (.istore_n 1, 1) := by decide +kernel
theorem dX4_findSecond_2 : decode cX4_findSecond 2 = .ok (.iload_n 1, 1) := by decide +kernel
theorem dX4_findSecond_3 : decode cX4_findSecond 3 = .ok (.aload_n 0, 1) := by decide +kernel
theorem dX4_findSecond_4 : decode cX4_findSecond 4 = .ok (.getfield 7, 3) := by decide +kernel
theorem dX4_findSecond_7 : decode cX4_findSecond 7 = .ok (.if_icmp .ge 40, 3) := by decide +kernel
theorem dX4_findSecond_10 : decode cX4_findSecond 10 = .ok (.iload_n 1, 1) := by decide +kernel
theorem dX4_findSecond_11 : decode cX4_findSecond 11 = .ok (.iconst 4, 1) := by decide +kernel
theorem dX4_findSecond_12 : decode cX4_findSecond 12 = .ok (.if_icmp .ge 35, 3) := by decide +kernel
theorem dX4_findSecond_15 : decode cX4_findSecond 15 = .ok (.aload_n 0, 1) := by decide +kernel
theorem dX4_findSecond_16 : decode cX4_findSecond 16 = .ok (.getfield 28, 3) := by decide +kernel
theorem dX4_findSecond_19 : decode cX4_findSecond 19 = .ok (.iload_n 1, 1) := by decide +kernel
theorem dX4_findSecond_20 : decode cX4_findSecond 20 = .ok (.aaload, 1) := by decide +kernel
theorem dX4_findSecond_21 : decode cX4_findSecond 21 = .ok (.getfield 108, 3) := by decide +kernel
theorem dX4_findSecond_24 : decode cX4_findSecond 24 = .ok (.aload_n 0, 1) := by decide +kernel
theorem dX4_findSecond_25 : decode cX4_findSecond 25 = .ok (.getfield 28, 3) := by decide +kernel
theorem dX4_findSecond_28 : decode cX4_findSecond 28 = .ok (.iconst 0, 1) := by decide +kernel
theorem dX4_findSecond_29 : decode cX4_findSecond 29 = .ok (.aaload, 1) := by decide +kernel
theorem dX4_findSecond_30 : decode cX4_findSecond 30 = .ok (.getfield 108, 3) := by decide +kernel
theorem dX4_findSecond_33 : decode cX4_findSecond 33 = .ok (.invokevirtual 185, 3) := by decide +kernel
theorem dX4_findSecond_36 : decode cX4_findSecond 36 = .ok (.ifCond .ne 5, 3) := by decide +kernel
theorem dX4_findSecond_39 : decode cX4_findSecond 39 = .ok (.iload_n 1, 1) := by decide +kernel
theorem dX4_findSecond_40 : decode cX4_findSecond 40 = .ok (.ireturn, 1) := by decide +kernel
theorem dX4_findSecond_41 : decode cX4_findSecond 41 = .ok (.iinc 1 1, 3) := by decide +kernel
theorem dX4_findSecond_44 : decode cX4_findSecond 44 = .ok (.goto (-42), 3) := by decide +kernel
theorem dX4_findSecond_47 : decode cX4_findSecond 47 = .ok (.iconst 0, 1) := by decide +kernel
theorem dX4_findSecond_48 : decode cX4_findSecond 48 = .ok (.ireturn, 1) := by decide +kernel
set_option maxRecDepth 20000 in
theorem ggX4_weigh_X0_isLike : GoodIn wsX4_weigh wsX0_isLike := goodIn_r _ [11, 12, 13, 14, 15, 10, 16, 17, 184, 185] rfl (by decide +kernel)
set_option maxRecDepth 20000 in
theorem gX4_weigh_X0_isLike : GoodIn wsX4_weigh (wsV RX4 185 RX0 yX0_isLike wsX0_isLike) := goodIn_app (goodIn_of _ (by decide +kernel)) ggX4_weigh_X0_isLike
set_option maxRecDepth 20000 in
theorem ggX4_weigh_X8_becomeNumber : GoodIn wsX4_weigh wsX8_becomeNumber := goodIn_r _ [22, 23, 24, 186] rfl (by decide +kernel)
set_option maxRecDepth 20000 in
theorem gX4_weigh_X8_becomeNumber : GoodIn wsX4_weigh (wsV RX4 189 RX8 yX8_becomeNumber wsX8_becomeNumber) := goodIn_app (goodIn_of _ (by decide +kernel)) ggX4_weigh_X8_becomeNumber
set_option maxRecDepth 20000 in
theorem ggX4_weigh_X9_beginBy : GoodIn wsX4_weigh wsX9_beginBy := goodIn_r _ [29, 30, 31, 32, 33, 28, 34, 35, 36, 37, 38, 39, 40, 41, 42, 43, 44, 45, 46, 47, 48, 49, 50, 51, 52, 53, 54, 55, 56, 57, 58, 59, 60, 61, 62, 63, 64, 65, 66, 67, 68, 69, 70, 71, 72, 73, 74, 75, 76, 77, 78, 79, 80, 81, 82, 83, 84, 85, 86, 87, 88, 89, 90, 91, 92, 93, 94, 95, 96, 97, 98, 99, 100, 101, 102, 103, 104, 105, 106, 107, 108, 109, 10, 110, 12, 111, 112, 113, 114, 115, 116, 117, 118, 17, 119, 120, 121, 122, 123, 124, 14, 15, 16, 187, 188, 189, 190, 184, 185] rfl (by decide +kernel)
set_option maxRecDepth 20000 in
theorem gX4_weigh_X9_beginBy : GoodIn wsX4_weigh (wsV RX4 176 RX9 yX9_beginBy wsX9_beginBy) := goodIn_app (goodIn_of _ (by decide +kernel)) ggX4_weigh_X9_beginBy
set_option maxRecDepth 20000 in
theorem ggX4_weigh_X9_takeAll : GoodIn wsX4_weigh wsX9_takeAll := goodIn_r _ [122, 123, 124, 14, 15, 10, 16, 17, 90, 91, 92, 28, 93, 35, 94, 95, 96, 97, 98, 99, 36, 100, 184, 185, 187, 188, 189, 190] rfl (by decide +kernel)
set_option maxRecDepth 20000 in
theorem gX4_weigh_X9_takeAll : GoodIn wsX4_weigh (wsV RX4 179 RX9 yX9_takeAll wsX9_takeAll) := goodIn_app (goodIn_of _ (by decide +kernel)) ggX4_weigh_X9_takeAll
set_option maxRecDepth 20000 in
theorem ggX4_weigh_X9_finish : GoodIn wsX4_weigh wsX9_finish := goodIn_r _ [104, 35, 105, 95, 106, 94, 36, 90, 91, 92, 28, 93, 96, 97, 98, 99, 100, 107, 108, 109, 10, 110, 12, 111, 112, 113, 114, 115, 116, 117, 118, 17, 187, 188, 189, 190, 184, 185] rfl (by decide +kernel)
set_option maxRecDepth 20000 in
theorem gX4_weigh_X9_finish : GoodIn wsX4_weigh (wsV RX4 182 RX9 yX9_finish wsX9_finish) := goodIn_app (goodIn_of _ (by decide +kernel)) ggX4_weigh_X9_finish
set_option maxRecDepth 20000 in
theorem ggX4_weigh_X8_takeDigest : GoodIn wsX4_weigh wsX8_takeDigest := goodIn_r _ [130, 131, 132, 133, 21, 134, 23, 135, 136, 137, 10, 138, 13, 14, 15, 16, 17, 139, 140, 141, 142, 143, 144, 145, 146, 147, 148, 149, 150, 151, 152, 24, 186, 184, 185] rfl (by decide +kernel)
set_option maxRecDepth 20000 in
theorem gX4_weigh_X8_takeDigest : GoodIn wsX4_weigh (wsV RX4 193 RX8 yX8_takeDigest wsX8_takeDigest) := goodIn_app (goodIn_of _ (by decide +kernel)) ggX4_weigh_X8_takeDigest
theorem dX4_weigh_0 : decode cX4_weigh 0 = .ok (.iload_n 2, 1) := by decide +kernel
theorem dX4_weigh_1 : decode cX4_weigh 1 = .ok (.ifCond .le 36, 3) := by decide +kernel
theorem dX4_weigh_4 : decode cX4_weigh 4 = .ok (.iload_n 2, 1) := by decide +kernel
theorem dX4_weigh_5 : decode cX4_weigh 5 = .ok (.iconst 4, 1) := by decide +kernel
theorem dX4_weigh_6 : decode cX4_weigh 6 = .ok (.if_icmp .ge 31, 3) := by decide +kernel
theorem dX4_weigh_9 : decode cX4_weigh 9 = .ok (.aload_n 1, 1) := by decide +kernel
theorem dX4_weigh_10 : decode cX4_weigh 10 = .ok (.getfield 108, 3) := by decide +kernel
theorem dX4_weigh_13 : decode cX4_weigh 13 = .ok (.aload_n 0, 1) := by decide +kernel
theorem dX4_weigh_14 : decode cX4_weigh 14 = .ok (.getfield 28, 3) := by decide +kernel
theorem dX4_weigh_17 : decode cX4_weigh 17 = .ok (.iload_n 2, 1) := by decide +kernel
theorem dX4_weigh_18 : decode cX4_weigh 18 = .ok (.aaload, 1) := by decide +kernel
theorem dX4_weigh_19 : decode cX4_weigh 19 = .ok (.getfield 108, 3) := by decide +kernel
theorem dX4_weigh_22 : decode cX4_weigh 22 = .ok (.invokevirtual 185, 3) := by decide +kernel
theorem dX4_weigh_25 : decode cX4_weigh 25 = .ok (.ifCond .eq 12, 3) := by decide +kernel
theorem dX4_weigh_28 : decode cX4_weigh 28 = .ok (.aload_n 1, 1) := by decide +kernel
theorem dX4_weigh_29 : decode cX4_weigh 29 = .ok (.getfield 142, 3) := by decide +kernel
theorem dX4_weigh_32 : decode cX4_weigh 32 = .ok (.lconst 1, 1) := by decide +kernel
theorem dX4_weigh_33 : decode cX4_weigh 33 = .ok (.invokevirtual 189, 3) := by decide +kernel
theorem dX4_weigh_36 : decode cX4_weigh 36 = .ok (.return_, 1) := by decide +kernel
theorem dX4_weigh_37 : decode cX4_weigh 37 = .ok (.aload_n 0, 1) := by decide +kernel
theorem dX4_weigh_38 : decode cX4_weigh 38 = .ok (.getfield 79, 3) := by decide +kernel
theorem dX4_weigh_41 : decode cX4_weigh 41 = .ok (.iconst 4, 1) := by decide +kernel
theorem dX4_weigh_42 : decode cX4_weigh 42 = .ok (.invokevirtual 176, 3) := by decide +kernel
theorem dX4_weigh_45 : decode cX4_weigh 45 = .ok (.aload_n 0, 1) := by decide +kernel
theorem dX4_weigh_46 : decode cX4_weigh 46 = .ok (.getfield 79, 3) := by decide +kernel
theorem dX4_weigh_49 : decode cX4_weigh 49 = .ok (.aload_n 0, 1) := by decide +kernel
theorem dX4_weigh_50 : decode cX4_weigh 50 = .ok (.getfield 35, 3) := by decide +kernel
theorem dX4_weigh_53 : decode cX4_weigh 53 = .ok (.invokevirtual 179, 3) := by decide +kernel
theorem dX4_weigh_56 : decode cX4_weigh 56 = .ok (.aload_n 0, 1) := by decide +kernel
theorem dX4_weigh_57 : decode cX4_weigh 57 = .ok (.getfield 79, 3) := by decide +kernel
theorem dX4_weigh_60 : decode cX4_weigh 60 = .ok (.aload_n 1, 1) := by decide +kernel
theorem dX4_weigh_61 : decode cX4_weigh 61 = .ok (.getfield 108, 3) := by decide +kernel
theorem dX4_weigh_64 : decode cX4_weigh 64 = .ok (.invokevirtual 179, 3) := by decide +kernel
theorem dX4_weigh_67 : decode cX4_weigh 67 = .ok (.aload_n 0, 1) := by decide +kernel
theorem dX4_weigh_68 : decode cX4_weigh 68 = .ok (.getfield 79, 3) := by decide +kernel
theorem dX4_weigh_71 : decode cX4_weigh 71 = .ok (.aload_n 0, 1) := by decide +kernel
theorem dX4_weigh_72 : decode cX4_weigh 72 = .ok (.getfield 32, 3) := by decide +kernel
theorem dX4_weigh_75 : decode cX4_weigh 75 = .ok (.invokevirtual 182, 3) := by decide +kernel
theorem dX4_weigh_78 : decode cX4_weigh 78 = .ok (.aload_n 1, 1) := by decide +kernel
theorem dX4_weigh_79 : decode cX4_weigh 79 = .ok (.getfield 142, 3) := by decide +kernel
theorem dX4_weigh_82 : decode cX4_weigh 82 = .ok (.aload_n 0, 1) := by decide +kernel
theorem dX4_weigh_83 : decode cX4_weigh 83 = .ok (.getfield 32, 3) := by decide +kernel
theorem dX4_weigh_86 : decode cX4_weigh 86 = .ok (.invokevirtual 193, 3) := by decide +kernel
theorem dX4_weigh_89 : decode cX4_weigh 89 = .ok (.return_, 1) := by decide +kernel
set_option maxRecDepth 20000 in
theorem ggX4_isOwn_X4_hasMember : GoodIn wsX4_isOwn wsX4_hasMember := goodIn_r _ [9, 10, 22, 23, 24, 25, 26, 27, 28, 29, 30, 31, 32, 33, 34, 35, 36, 37, 38, 39, 40, 41] rfl (by decide +kernel)
set_option maxRecDepth 20000 in
theorem gX4_isOwn_X4_hasMember : GoodIn wsX4_isOwn (wsV RX4 196 RX4 yX4_hasMember wsX4_hasMember) := goodIn_app (goodIn_of _ (by decide +kernel)) ggX4_isOwn_X4_hasMember
set_option maxRecDepth 20000 in
theorem ggX4_isOwn_X0_isLike : GoodIn wsX4_isOwn wsX0_isLike := goodIn_r _ [15, 16, 17, 18, 19, 14, 20, 21, 66, 67] rfl (by decide +kernel)
set_option maxRecDepth 20000 in
theorem gX4_isOwn_X0_isLike : GoodIn wsX4_isOwn (wsV RX4 185 RX0 yX0_isLike wsX0_isLike) := goodIn_app (goodIn_of _ (by decide +kernel)) ggX4_isOwn_X0_isLike
theorem dX4_isOwn_0 : decode cX4_isOwn 0 = .ok (.aload_n 0, 1) := by decide +kernel
theorem dX4_isOwn_1 : decode cX4_isOwn 1 = .ok (.iload_n 1, 1) := by decide +kernel
theorem dX4_isOwn_2 : decode cX4_isOwn 2 = .ok (.invokevirtual 196, 3) := by decide +kernel
theorem dX4_isOwn_5 : decode cX4_isOwn 5 = .ok (.ifCond .eq 29, 3) := by decide +kernel
theorem dX4_isOwn_8 : decode cX4_isOwn 8 = .ok (.aload_n 0, 1) := by decide +kernel
theorem dX4_isOwn_9 : decode cX4_isOwn 9 = .ok (.getfield 28, 3) := by decide +kernel
theorem dX4_isOwn_12 : decode cX4_isOwn 12 = .ok (.iload_n 1, 1) := by decide +kernel
theorem dX4_isOwn_13 : decode cX4_isOwn 13 = .ok (.aaload, 1) := by decide +kernel
theorem dX4_isOwn_14 : decode cX4_isOwn 14 = .ok (.getfield 108, 3) := by decide +kernel
theorem dX4_isOwn_17 : decode cX4_isOwn 17 = .ok (.aload_n 0, 1) := by decide +kernel
theorem dX4_isOwn_18 : decode cX4_isOwn 18 = .ok (.getfield 83, 3) := by decide +kernel
theorem dX4_isOwn_21 : decode cX4_isOwn 21 = .ok (.getfield 200, 3) := by decide +kernel
theorem dX4_isOwn_24 : decode cX4_isOwn 24 = .ok (.invokevirtual 185, 3) := by decide +kernel
theorem dX4_isOwn_27 : decode cX4_isOwn 27 = .ok (.ifCond .eq 7, 3) := by decide +kernel
theorem dX4_isOwn_30 : decode cX4_isOwn 30 = .ok (.iconst 1, 1) := by decide +kernel
theorem dX4_isOwn_31 : decode cX4_isOwn 31 = .ok (.goto 4, 3) := by decide +kernel
theorem dX4_isOwn_34 : decode cX4_isOwn 34 = .ok (.iconst 0, 1) := by decide +kernel
theorem dX4_isOwn_35 : decode cX4_isOwn 35 = .ok (.ireturn, 1) := by decide +kernel
set_option maxRecDepth 20000 in
theorem ggX4_drawNonce_X10_hideSecret : GoodIn wsX4_drawNonce wsX10_hideSecret := goodIn_r _ [12, 13, 14, 15, 16, 17, 18, 19, 20, 21, 22, 23, 24, 25, 26, 27, 28, 29, 30, 31, 32, 33, 34, 35, 36, 37, 38, 39, 40, 41, 42, 43, 44, 45, 46, 47, 48, 49, 50, 51, 52, 53, 54, 55, 56, 57, 58, 59, 60, 61, 62, 63, 64, 65, 66, 67, 68, 69, 70, 71, 72, 73, 74, 75, 76, 77, 78, 79, 80, 81, 82, 83, 84, 85, 86, 87, 88, 89, 90, 91, 92, 93, 94, 95, 96, 97, 98, 99, 100, 101, 102, 103, 104, 105, 106, 107, 108, 109, 110, 111, 112, 113, 114, 115, 116, 117, 118, 119, 120, 121, 122, 123, 124, 125, 126, 127, 128, 129, 130, 131, 132, 133, 134, 135, 136, 137, 229, 230, 231, 232, 233, 234, 235, 236, 237, 238, 239, 240, 241, 242, 243, 244, 245, 246, 247, 248] rfl (by decide +kernel)
set_option maxRecDepth 20000 in
theorem gX4_drawNonce_X10_hideSecret : GoodIn wsX4_drawNonce (wsV RX4 203 RX10 yX10_hideSecret wsX10_hideSecret) := goodIn_app (goodIn_of _ (by decide +kernel)) ggX4_drawNonce_X10_hideSecret
set_option maxRecDepth 20000 in
theorem ggX4_drawNonce_X4_drawHalf : GoodIn wsX4_drawNonce wsX4_drawHalf := goodIn_r _ [142, 143, 1, 144, 145, 146, 147, 148, 149, 18, 19, 20, 21, 22, 23, 24, 25, 26, 27, 28, 29, 30, 31, 32, 33, 34, 35, 36, 37, 38, 39, 40, 41, 42, 43, 44, 45, 46, 47, 48, 49, 50, 51, 52, 53, 54, 55, 56, 57, 58, 59, 60, 61, 62, 63, 64, 65, 66, 67, 68, 69, 70, 71, 72, 73, 74, 75, 76, 77, 78, 79, 80, 81, 82, 83, 84, 85, 86, 87, 88, 89, 90, 91, 92, 93, 94, 95, 96, 97, 98, 99, 100, 101, 102, 103, 104, 105, 106, 107, 108, 109, 110, 111, 112, 113, 114, 115, 116, 117, 118, 119, 120, 121, 122, 150, 151, 152, 153, 154, 155, 156, 157, 158, 159, 129, 160, 161, 162, 163, 164, 131, 165, 166, 167, 168, 169, 170, 171, 172, 173, 174, 175, 176, 177, 178, 179, 180, 181, 182, 183, 184, 198, 199, 200, 201, 202, 203, 204, 205, 206, 207, 208, 209, 210, 211, 212, 213, 214, 215, 216, 217, 229, 230, 231, 232, 233, 234, 235, 236, 237, 238, 239, 240, 241, 246, 247, 242, 243, 244, 245, 248] rfl (by decide +kernel)
set_option maxRecDepth 20000 in
theorem gX4_drawNonce_X4_drawHalf : GoodIn wsX4_drawNonce (wsV RX4 207 RX4 yX4_drawHalf wsX4_drawHalf) := goodIn_app (goodIn_of _ (by decide +kernel)) ggX4_drawNonce_X4_drawHalf
set_option maxRecDepth 20000 in
theorem ggX4_drawNonce_X4_hasMember : GoodIn wsX4_drawNonce wsX4_hasMember := goodIn_r _ [188, 189, 198, 199, 200, 201, 202, 203, 204, 205, 206, 207, 208, 209, 210, 211, 212, 213, 214, 215, 216, 217] rfl (by decide +kernel)
set_option maxRecDepth 20000 in
theorem gX4_drawNonce_X4_hasMember : GoodIn wsX4_drawNonce (wsV RX4 196 RX4 yX4_hasMember wsX4_hasMember) := goodIn_app (goodIn_of _ (by decide +kernel)) ggX4_drawNonce_X4_hasMember
set_option maxRecDepth 20000 in
theorem ggX4_drawNonce_X8_isZero : GoodIn wsX4_drawNonce wsX8_isZero := goodIn_r _ [193, 131, 248] rfl (by decide +kernel)
set_option maxRecDepth 20000 in
theorem gX4_drawNonce_X8_isZero : GoodIn wsX4_drawNonce (wsV RX4 211 RX8 yX8_isZero wsX8_isZero) := goodIn_app (goodIn_of _ (by decide +kernel)) ggX4_drawNonce_X8_isZero
set_option maxRecDepth 20000 in
theorem ggX4_drawNonce_X8_become : GoodIn wsX4_drawNonce wsX8_become := goodIn_r _ [197, 131, 248] rfl (by decide +kernel)
set_option maxRecDepth 20000 in
theorem gX4_drawNonce_X8_become : GoodIn wsX4_drawNonce (wsV RX4 217 RX8 yX8_become wsX8_become) := goodIn_app (goodIn_of _ (by decide +kernel)) ggX4_drawNonce_X8_become
theorem dX4_drawNonce_0 : decode cX4_drawNonce 0 = .ok (.aload_n 0, 1) := by decide +kernel
theorem dX4_drawNonce_1 : decode cX4_drawNonce 1 = .ok (.getfield 83, 3) := by decide +kernel
theorem dX4_drawNonce_4 : decode cX4_drawNonce 4 = .ok (.iconst 5, 1) := by decide +kernel
theorem dX4_drawNonce_5 : decode cX4_drawNonce 5 = .ok (.aload_n 2, 1) := by decide +kernel
theorem dX4_drawNonce_6 : decode cX4_drawNonce 6 = .ok (.invokevirtual 203, 3) := by decide +kernel
theorem dX4_drawNonce_9 : decode cX4_drawNonce 9 = .ok (.aload_n 0, 1) := by decide +kernel
theorem dX4_drawNonce_10 : decode cX4_drawNonce 10 = .ok (.aload_n 0, 1) := by decide +kernel
theorem dX4_drawNonce_11 : decode cX4_drawNonce 11 = .ok (.getfield 54, 3) := by decide +kernel
theorem dX4_drawNonce_14 : decode cX4_drawNonce 14 = .ok (.iconst 0, 1) := by decide +kernel
theorem dX4_drawNonce_15 : decode cX4_drawNonce 15 = .ok (.aload_n 3, 1) := by decide +kernel
theorem dX4_drawNonce_16 : decode cX4_drawNonce 16 = .ok (.invokevirtual 207, 3) := by decide +kernel
theorem dX4_drawNonce_19 : decode cX4_drawNonce 19 = .ok (.aload_n 0, 1) := by decide +kernel
theorem dX4_drawNonce_20 : decode cX4_drawNonce 20 = .ok (.aload_n 0, 1) := by decide +kernel
theorem dX4_drawNonce_21 : decode cX4_drawNonce 21 = .ok (.getfield 57, 3) := by decide +kernel
theorem dX4_drawNonce_24 : decode cX4_drawNonce 24 = .ok (.iconst 1, 1) := by decide +kernel
theorem dX4_drawNonce_25 : decode cX4_drawNonce 25 = .ok (.aload_n 3, 1) := by decide +kernel
theorem dX4_drawNonce_26 : decode cX4_drawNonce 26 = .ok (.invokevirtual 207, 3) := by decide +kernel
theorem dX4_drawNonce_29 : decode cX4_drawNonce 29 = .ok (.aload_n 0, 1) := by decide +kernel
theorem dX4_drawNonce_30 : decode cX4_drawNonce 30 = .ok (.iload_n 1, 1) := by decide +kernel
theorem dX4_drawNonce_31 : decode cX4_drawNonce 31 = .ok (.invokevirtual 196, 3) := by decide +kernel
theorem dX4_drawNonce_34 : decode cX4_drawNonce 34 = .ok (.ifCond .eq 23, 3) := by decide +kernel
theorem dX4_drawNonce_37 : decode cX4_drawNonce 37 = .ok (.aload_n 0, 1) := by decide +kernel
theorem dX4_drawNonce_38 : decode cX4_drawNonce 38 = .ok (.getfield 54, 3) := by decide +kernel
theorem dX4_drawNonce_41 : decode cX4_drawNonce 41 = .ok (.invokevirtual 211, 3) := by decide +kernel
theorem dX4_drawNonce_44 : decode cX4_drawNonce 44 = .ok (.ifCond .ne 13, 3) := by decide +kernel
theorem dX4_drawNonce_47 : decode cX4_drawNonce 47 = .ok (.aload_n 0, 1) := by decide +kernel
theorem dX4_drawNonce_48 : decode cX4_drawNonce 48 = .ok (.getfield 57, 3) := by decide +kernel
theorem dX4_drawNonce_51 : decode cX4_drawNonce 51 = .ok (.invokevirtual 211, 3) := by decide +kernel
theorem dX4_drawNonce_54 : decode cX4_drawNonce 54 = .ok (.ifCond .eq 5, 3) := by decide +kernel
theorem dX4_drawNonce_57 : decode cX4_drawNonce 57 = .ok (.iconst 0, 1) := by decide +kernel
theorem dX4_drawNonce_58 : decode cX4_drawNonce 58 = .ok (.ireturn, 1) := by decide +kernel
theorem dX4_drawNonce_59 : decode cX4_drawNonce 59 = .ok (.aload_n 0, 1) := by decide +kernel
theorem dX4_drawNonce_60 : decode cX4_drawNonce 60 = .ok (.getfield 28, 3) := by decide +kernel
theorem dX4_drawNonce_63 : decode cX4_drawNonce 63 = .ok (.iload_n 1, 1) := by decide +kernel
theorem dX4_drawNonce_64 : decode cX4_drawNonce 64 = .ok (.aaload, 1) := by decide +kernel
theorem dX4_drawNonce_65 : decode cX4_drawNonce 65 = .ok (.getfield 214, 3) := by decide +kernel
theorem dX4_drawNonce_68 : decode cX4_drawNonce 68 = .ok (.aload_n 0, 1) := by decide +kernel
theorem dX4_drawNonce_69 : decode cX4_drawNonce 69 = .ok (.getfield 54, 3) := by decide +kernel
theorem dX4_drawNonce_72 : decode cX4_drawNonce 72 = .ok (.invokevirtual 217, 3) := by decide +kernel
theorem dX4_drawNonce_75 : decode cX4_drawNonce 75 = .ok (.aload_n 0, 1) := by decide +kernel
theorem dX4_drawNonce_76 : decode cX4_drawNonce 76 = .ok (.getfield 28, 3) := by decide +kernel
theorem dX4_drawNonce_79 : decode cX4_drawNonce 79 = .ok (.iload_n 1, 1) := by decide +kernel
theorem dX4_drawNonce_80 : decode cX4_drawNonce 80 = .ok (.aaload, 1) := by decide +kernel
theorem dX4_drawNonce_81 : decode cX4_drawNonce 81 = .ok (.getfield 220, 3) := by decide +kernel
theorem dX4_drawNonce_84 : decode cX4_drawNonce 84 = .ok (.aload_n 0, 1) := by decide +kernel
theorem dX4_drawNonce_85 : decode cX4_drawNonce 85 = .ok (.getfield 57, 3) := by decide +kernel
theorem dX4_drawNonce_88 : decode cX4_drawNonce 88 = .ok (.invokevirtual 217, 3) := by decide +kernel
theorem dX4_drawNonce_91 : decode cX4_drawNonce 91 = .ok (.aload_n 0, 1) := by decide +kernel
theorem dX4_drawNonce_92 : decode cX4_drawNonce 92 = .ok (.getfield 28, 3) := by decide +kernel
theorem dX4_drawNonce_95 : decode cX4_drawNonce 95 = .ok (.iload_n 1, 1) := by decide +kernel
theorem dX4_drawNonce_96 : decode cX4_drawNonce 96 = .ok (.aaload, 1) := by decide +kernel
theorem dX4_drawNonce_97 : decode cX4_drawNonce 97 = .ok (.iconst 1, 1) := by decide +kernel
theorem dX4_drawNonce_98 : decode cX4_drawNonce 98 = .ok (.putfield 122, 3) := by decide +kernel
theorem dX4_drawNonce_101 : decode cX4_drawNonce 101 = .ok (.iconst 1, 1) := by decide +kernel
theorem dX4_drawNonce_102 : decode cX4_drawNonce 102 = .ok (.ireturn, 1) := by decide +kernel
set_option maxRecDepth 20000 in
theorem ggX4_drawHalf_X9_beginBy : GoodIn wsX4_drawHalf wsX9_beginBy := goodIn_r _ [12, 13, 14, 15, 16, 11, 17, 18, 19, 20, 21, 22, 23, 24, 25, 26, 27, 28, 29, 30, 31, 32, 33, 34, 35, 36, 37, 38, 39, 40, 41, 42, 43, 44, 45, 46, 47, 48, 49, 50, 51, 52, 53, 54, 55, 56, 57, 58, 59, 60, 61, 62, 63, 64, 65, 66, 67, 68, 69, 70, 71, 72, 73, 74, 75, 76, 77, 78, 79, 80, 81, 82, 83, 84, 85, 86, 87, 88, 89, 90, 91, 92, 93, 94, 95, 96, 97, 98, 99, 100, 101, 102, 103, 104, 105, 106, 107, 108, 109, 110, 111, 112, 113, 186, 187, 188, 189, 184, 185] rfl (by decide +kernel)
set_option maxRecDepth 20000 in
theorem gX4_drawHalf_X9_beginBy : GoodIn wsX4_drawHalf (wsV RX4 176 RX9 yX9_beginBy wsX9_beginBy) := goodIn_app (goodIn_of _ (by decide +kernel)) ggX4_drawHalf_X9_beginBy
set_option maxRecDepth 20000 in
theorem ggX4_drawHalf_X9_takeAll : GoodIn wsX4_drawHalf wsX9_takeAll := goodIn_r _ [108, 109, 110, 111, 112, 93, 113, 104, 73, 74, 75, 11, 76, 18, 77, 78, 79, 80, 81, 82, 19, 83, 184, 185, 186, 187, 188, 189] rfl (by decide +kernel)
set_option maxRecDepth 20000 in
theorem gX4_drawHalf_X9_takeAll : GoodIn wsX4_drawHalf (wsV RX4 179 RX9 yX9_takeAll wsX9_takeAll) := goodIn_app (goodIn_of _ (by decide +kernel)) ggX4_drawHalf_X9_takeAll
set_option maxRecDepth 20000 in
theorem ggX4_drawHalf_X9_take : GoodIn wsX4_drawHalf wsX9_take := goodIn_r _ [76, 18, 77, 78, 79, 80, 81, 11, 82, 19, 83, 186, 187, 188, 189] rfl (by decide +kernel)
set_option maxRecDepth 20000 in
theorem gX4_drawHalf_X9_take : GoodIn wsX4_drawHalf (wsV RX4 224 RX9 yX9_take wsX9_take) := goodIn_app (goodIn_of _ (by decide +kernel)) ggX4_drawHalf_X9_take
set_option maxRecDepth 20000 in
theorem ggX4_drawHalf_X9_takeNumber : GoodIn wsX4_drawHalf wsX9_takeNumber := goodIn_r _ [119, 73, 74, 75, 11, 76, 18, 77, 78, 79, 80, 81, 82, 19, 83, 186, 187, 188, 189] rfl (by decide +kernel)
set_option maxRecDepth 20000 in
theorem gX4_drawHalf_X9_takeNumber : GoodIn wsX4_drawHalf (wsV RX4 227 RX9 yX9_takeNumber wsX9_takeNumber) := goodIn_app (goodIn_of _ (by decide +kernel)) ggX4_drawHalf_X9_takeNumber
set_option maxRecDepth 20000 in
theorem ggX4_drawHalf_X9_finish : GoodIn wsX4_drawHalf wsX9_finish := goodIn_r _ [87, 18, 88, 78, 89, 77, 19, 73, 74, 75, 11, 76, 79, 80, 81, 82, 83, 90, 91, 92, 93, 94, 95, 96, 97, 98, 99, 100, 101, 102, 103, 104, 186, 187, 188, 189, 184, 185] rfl (by decide +kernel)
set_option maxRecDepth 20000 in
theorem gX4_drawHalf_X9_finish : GoodIn wsX4_drawHalf (wsV RX4 182 RX9 yX9_finish wsX9_finish) := goodIn_app (goodIn_of _ (by decide +kernel)) ggX4_drawHalf_X9_finish
set_option maxRecDepth 20000 in
theorem ggX4_drawHalf_X8_takeDigest : GoodIn wsX4_drawHalf wsX8_takeDigest := goodIn_r _ [125, 126, 127, 128, 124, 129, 130, 131, 132, 133, 93, 134, 135, 111, 112, 113, 104, 136, 137, 138, 139, 140, 141, 142, 143, 144, 145, 146, 147, 148, 149, 150, 190, 184, 185] rfl (by decide +kernel)
set_option maxRecDepth 20000 in
theorem gX4_drawHalf_X8_takeDigest : GoodIn wsX4_drawHalf (wsV RX4 193 RX8 yX8_takeDigest wsX8_takeDigest) := goodIn_app (goodIn_of _ (by decide +kernel)) ggX4_drawHalf_X8_takeDigest
theorem dX4_drawHalf_0 : decode cX4_drawHalf 0 = .ok (.aload_n 0, 1) := by decide +kernel
theorem dX4_drawHalf_1 : decode cX4_drawHalf 1 = .ok (.getfield 79, 3) := by decide +kernel
theorem dX4_drawHalf_4 : decode cX4_drawHalf 4 = .ok (.bipush 6, 2) := by decide +kernel
theorem dX4_drawHalf_6 : decode cX4_drawHalf 6 = .ok (.invokevirtual 176, 3) := by decide +kernel
theorem dX4_drawHalf_9 : decode cX4_drawHalf 9 = .ok (.aload_n 0, 1) := by decide +kernel
theorem dX4_drawHalf_10 : decode cX4_drawHalf 10 = .ok (.getfield 79, 3) := by decide +kernel
theorem dX4_drawHalf_13 : decode cX4_drawHalf 13 = .ok (.aload_n 0, 1) := by decide +kernel
theorem dX4_drawHalf_14 : decode cX4_drawHalf 14 = .ok (.getfield 83, 3) := by decide +kernel
theorem dX4_drawHalf_17 : decode cX4_drawHalf 17 = .ok (.getfield 223, 3) := by decide +kernel
theorem dX4_drawHalf_20 : decode cX4_drawHalf 20 = .ok (.invokevirtual 179, 3) := by decide +kernel
theorem dX4_drawHalf_23 : decode cX4_drawHalf 23 = .ok (.aload_n 0, 1) := by decide +kernel
theorem dX4_drawHalf_24 : decode cX4_drawHalf 24 = .ok (.getfield 79, 3) := by decide +kernel
theorem dX4_drawHalf_27 : decode cX4_drawHalf 27 = .ok (.bipush 33, 2) := by decide +kernel
theorem dX4_drawHalf_29 : decode cX4_drawHalf 29 = .ok (.invokevirtual 224, 3) := by decide +kernel
theorem dX4_drawHalf_32 : decode cX4_drawHalf 32 = .ok (.aload_n 0, 1) := by decide +kernel
theorem dX4_drawHalf_33 : decode cX4_drawHalf 33 = .ok (.getfield 79, 3) := by decide +kernel
theorem dX4_drawHalf_36 : decode cX4_drawHalf 36 = .ok (.aload_n 0, 1) := by decide +kernel
theorem dX4_drawHalf_37 : decode cX4_drawHalf 37 = .ok (.getfield 83, 3) := by decide +kernel
theorem dX4_drawHalf_40 : decode cX4_drawHalf 40 = .ok (.getfield 200, 3) := by decide +kernel
theorem dX4_drawHalf_43 : decode cX4_drawHalf 43 = .ok (.invokevirtual 179, 3) := by decide +kernel
theorem dX4_drawHalf_46 : decode cX4_drawHalf 46 = .ok (.aload_n 0, 1) := by decide +kernel
theorem dX4_drawHalf_47 : decode cX4_drawHalf 47 = .ok (.getfield 79, 3) := by decide +kernel
theorem dX4_drawHalf_50 : decode cX4_drawHalf 50 = .ok (.bipush 32, 2) := by decide +kernel
theorem dX4_drawHalf_52 : decode cX4_drawHalf 52 = .ok (.invokevirtual 224, 3) := by decide +kernel
theorem dX4_drawHalf_55 : decode cX4_drawHalf 55 = .ok (.aload_n 0, 1) := by decide +kernel
theorem dX4_drawHalf_56 : decode cX4_drawHalf 56 = .ok (.getfield 79, 3) := by decide +kernel
theorem dX4_drawHalf_59 : decode cX4_drawHalf 59 = .ok (.aload_n 0, 1) := by decide +kernel
theorem dX4_drawHalf_60 : decode cX4_drawHalf 60 = .ok (.getfield 22, 3) := by decide +kernel
theorem dX4_drawHalf_63 : decode cX4_drawHalf 63 = .ok (.invokevirtual 179, 3) := by decide +kernel
theorem dX4_drawHalf_66 : decode cX4_drawHalf 66 = .ok (.aload_n 0, 1) := by decide +kernel
theorem dX4_drawHalf_67 : decode cX4_drawHalf 67 = .ok (.getfield 79, 3) := by decide +kernel
theorem dX4_drawHalf_70 : decode cX4_drawHalf 70 = .ok (.iconst 1, 1) := by decide +kernel
theorem dX4_drawHalf_71 : decode cX4_drawHalf 71 = .ok (.invokevirtual 224, 3) := by decide +kernel
theorem dX4_drawHalf_74 : decode cX4_drawHalf 74 = .ok (.aload_n 0, 1) := by decide +kernel
theorem dX4_drawHalf_75 : decode cX4_drawHalf 75 = .ok (.getfield 79, 3) := by decide +kernel
theorem dX4_drawHalf_78 : decode cX4_drawHalf 78 = .ok (.aload_n 3, 1) := by decide +kernel
theorem dX4_drawHalf_79 : decode cX4_drawHalf 79 = .ok (.getfield 95, 3) := by decide +kernel
theorem dX4_drawHalf_82 : decode cX4_drawHalf 82 = .ok (.i2l, 1) := by decide +kernel
theorem dX4_drawHalf_83 : decode cX4_drawHalf 83 = .ok (.invokevirtual 227, 3) := by decide +kernel
theorem dX4_drawHalf_86 : decode cX4_drawHalf 86 = .ok (.aload_n 0, 1) := by decide +kernel
theorem dX4_drawHalf_87 : decode cX4_drawHalf 87 = .ok (.getfield 79, 3) := by decide +kernel
theorem dX4_drawHalf_90 : decode cX4_drawHalf 90 = .ok (.aload_n 3, 1) := by decide +kernel
theorem dX4_drawHalf_91 : decode cX4_drawHalf 91 = .ok (.invokevirtual 179, 3) := by decide +kernel
theorem dX4_drawHalf_94 : decode cX4_drawHalf 94 = .ok (.iconst 0, 1) := by decide +kernel
theorem dX4_drawHalf_95 : decode cX4_drawHalf 95 = .ok (.istore 4, 2) := by decide +kernel
theorem dX4_drawHalf_97 : decode cX4_drawHalf 97 = .ok (.iload 4, 2) := by decide +kernel
theorem dX4_drawHalf_99 : decode cX4_drawHalf 99 = .ok (.iconst 4, 1) := by decide +kernel
theorem dX4_drawHalf_100 : decode cX4_drawHalf 100 = .ok (.if_icmp .ge 17, 3) := by decide +kernel
theorem dX4_drawHalf_103 : decode cX4_drawHalf 103 = .ok (.aload_n 0, 1) := by decide +kernel
theorem dX4_drawHalf_104 : decode cX4_drawHalf 104 = .ok (.getfield 79, 3) := by decide +kernel
theorem dX4_drawHalf_107 : decode cX4_drawHalf 107 = .ok (.iconst 0, 1) := by decide +kernel
theorem dX4_drawHalf_108 : decode cX4_drawHalf 108 = .ok (.invokevirtual 224, 3) := by decide +kernel
theorem dX4_drawHalf_111 : decode cX4_drawHalf 111 = .ok (.iinc 4 1, 3) := by decide +kernel
theorem dX4_drawHalf_114 : decode cX4_drawHalf 114 = .ok (.goto (-17), 3) := by decide +kernel
theorem dX4_drawHalf_117 : decode cX4_drawHalf 117 = .ok (.aload_n 0, 1) := by decide +kernel
theorem dX4_drawHalf_118 : decode cX4_drawHalf 118 = .ok (.getfield 79, 3) := by decide +kernel
theorem dX4_drawHalf_121 : decode cX4_drawHalf 121 = .ok (.iload_n 2, 1) := by decide +kernel
theorem dX4_drawHalf_122 : decode cX4_drawHalf 122 = .ok (.invokevirtual 224, 3) := by decide +kernel
theorem dX4_drawHalf_125 : decode cX4_drawHalf 125 = .ok (.aload_n 0, 1) := by decide +kernel
theorem dX4_drawHalf_126 : decode cX4_drawHalf 126 = .ok (.getfield 79, 3) := by decide +kernel
theorem dX4_drawHalf_129 : decode cX4_drawHalf 129 = .ok (.aload_n 0, 1) := by decide +kernel
theorem dX4_drawHalf_130 : decode cX4_drawHalf 130 = .ok (.getfield 32, 3) := by decide +kernel
theorem dX4_drawHalf_133 : decode cX4_drawHalf 133 = .ok (.invokevirtual 182, 3) := by decide +kernel
theorem dX4_drawHalf_136 : decode cX4_drawHalf 136 = .ok (.aload_n 1, 1) := by decide +kernel
theorem dX4_drawHalf_137 : decode cX4_drawHalf 137 = .ok (.aload_n 0, 1) := by decide +kernel
theorem dX4_drawHalf_138 : decode cX4_drawHalf 138 = .ok (.getfield 32, 3) := by decide +kernel
theorem dX4_drawHalf_141 : decode cX4_drawHalf 141 = .ok (.invokevirtual 193, 3) := by decide +kernel
theorem dX4_drawHalf_144 : decode cX4_drawHalf 144 = .ok (.return_, 1) := by decide +kernel
set_option maxRecDepth 20000 in
theorem ggX4_tellNonce_X4_hasMember : GoodIn wsX4_tellNonce wsX4_hasMember := goodIn_r _ [12, 13, 174, 175, 176, 177, 178, 179, 180, 181, 182, 183, 184, 185, 186, 187, 188, 189, 190, 191, 192, 193] rfl (by decide +kernel)
set_option maxRecDepth 20000 in
theorem gX4_tellNonce_X4_hasMember : GoodIn wsX4_tellNonce (wsV RX4 196 RX4 yX4_hasMember wsX4_hasMember) := goodIn_app (goodIn_of _ (by decide +kernel)) ggX4_tellNonce_X4_hasMember
set_option maxRecDepth 20000 in
theorem ggX4_tellNonce_X0_empty : GoodIn wsX4_tellNonce wsX0_empty := goodIn_r _ [18, 19, 214, 215] rfl (by decide +kernel)
set_option maxRecDepth 20000 in
theorem gX4_tellNonce_X0_empty : GoodIn wsX4_tellNonce (wsV RX4 165 RX0 yX0_empty wsX0_empty) := goodIn_app (goodIn_of _ (by decide +kernel)) ggX4_tellNonce_X0_empty
set_option maxRecDepth 20000 in
theorem ggX4_tellNonce_X2_times : GoodIn wsX4_tellNonce wsX2_times := goodIn_r _ [24, 25, 26, 27, 28, 29, 30, 31, 32, 33, 34, 35, 36, 37, 38, 39, 40, 41, 42, 43, 44, 45, 46, 47, 48, 49, 50, 51, 52, 23, 53, 54, 55, 56, 57, 58, 59, 60, 61, 62, 63, 64, 65, 66, 67, 68, 69, 70, 71, 72, 73, 74, 75, 76, 77, 78, 79, 80, 81, 82, 83, 84, 85, 86, 87, 88, 89, 90, 91, 92, 93, 94, 95, 96, 97, 98, 99, 100, 101, 102, 103, 104, 105, 106, 107, 108, 205, 206, 207, 208, 209, 210, 211, 212, 213, 216, 217, 218, 219, 220, 221, 222, 223, 224, 225, 226, 227, 228, 229] rfl (by decide +kernel)
set_option maxRecDepth 20000 in
theorem gX4_tellNonce_X2_times : GoodIn wsX4_tellNonce (wsV RX4 145 RX2 yX2_times wsX2_times) := goodIn_app (goodIn_of _ (by decide +kernel)) ggX4_tellNonce_X2_times
set_option maxRecDepth 20000 in
theorem ggX4_tellNonce_X2_settle : GoodIn wsX4_tellNonce wsX2_settle := goodIn_r _ [112, 26, 113, 54, 55, 56, 57, 59, 114, 115, 116, 117, 118, 119, 120, 121, 122, 123, 124, 125, 126, 127, 128, 39, 129, 130, 37, 38, 40, 41, 42, 43, 44, 45, 46, 47, 48, 49, 131, 63, 64, 65, 66, 67, 68, 69, 132, 133, 62, 134, 216, 217, 218, 219, 205, 206, 207, 208, 209, 210, 211, 212, 213, 230, 231, 232, 233, 234, 235, 220, 221, 222, 223, 224, 225, 226, 227, 228] rfl (by decide +kernel)
set_option maxRecDepth 20000 in
theorem gX4_tellNonce_X2_settle : GoodIn wsX4_tellNonce (wsV RX4 153 RX2 yX2_settle wsX2_settle) := goodIn_app (goodIn_of _ (by decide +kernel)) ggX4_tellNonce_X2_settle
set_option maxRecDepth 20000 in
theorem ggX4_tellNonce_X6_addTo : GoodIn wsX4_tellNonce wsX6_addTo := goodIn_r _ [138, 35, 33, 32, 139, 140, 141, 17, 142, 19, 143, 144, 145, 146, 39, 147, 41, 82, 83, 84, 85, 42, 86, 74, 75, 76, 77, 49, 69, 66, 43, 44, 45, 46, 47, 48, 68, 87, 88, 89, 90, 91, 92, 93, 94, 148, 149, 150, 151, 152, 153, 154, 155, 156, 216, 217, 218, 219, 214, 215, 220, 221, 222, 223, 224, 225, 226, 227, 228] rfl (by decide +kernel)
set_option maxRecDepth 20000 in
theorem gX4_tellNonce_X6_addTo : GoodIn wsX4_tellNonce (wsV RX4 236 RX6 yX6_addTo wsX6_addTo) := goodIn_app (goodIn_of _ (by decide +kernel)) ggX4_tellNonce_X6_addTo
set_option maxRecDepth 20000 in
theorem ggX4_tellNonce_X0_become : GoodIn wsX4_tellNonce wsX0_become := goodIn_r _ [160, 161, 15, 16, 17, 18, 19, 162, 163, 164, 165, 166, 167, 168, 169, 170, 171, 172, 173, 143, 156, 140, 141, 142, 214, 215] rfl (by decide +kernel)
set_option maxRecDepth 20000 in
theorem gX4_tellNonce_X0_become : GoodIn wsX4_tellNonce (wsV RX4 111 RX0 yX0_become wsX0_become) := goodIn_app (goodIn_of _ (by decide +kernel)) ggX4_tellNonce_X0_become
theorem dX4_tellNonce_0 : decode cX4_tellNonce 0 = .ok (.aload_n 0, 1) := by decide +kernel
theorem dX4_tellNonce_1 : decode cX4_tellNonce 1 = .ok (.iload_n 1, 1) := by decide +kernel
theorem dX4_tellNonce_2 : decode cX4_tellNonce 2 = .ok (.invokevirtual 196, 3) := by decide +kernel
theorem dX4_tellNonce_5 : decode cX4_tellNonce 5 = .ok (.ifCond .ne 4, 3) := by decide +kernel
theorem dX4_tellNonce_8 : decode cX4_tellNonce 8 = .ok (.return_, 1) := by decide +kernel
theorem dX4_tellNonce_9 : decode cX4_tellNonce 9 = .ok (.aload_n 0, 1) := by decide +kernel
theorem dX4_tellNonce_10 : decode cX4_tellNonce 10 = .ok (.getfield 28, 3) := by decide +kernel
theorem dX4_tellNonce_13 : decode cX4_tellNonce 13 = .ok (.iload_n 1, 1) := by decide +kernel
theorem dX4_tellNonce_14 : decode cX4_tellNonce 14 = .ok (.aaload, 1) := by decide +kernel
theorem dX4_tellNonce_15 : decode cX4_tellNonce 15 = .ok (.astore_n 3, 1) := by decide +kernel
theorem dX4_tellNonce_16 : decode cX4_tellNonce 16 = .ok (.aload_n 3, 1) := by decide +kernel
theorem dX4_tellNonce_17 : decode cX4_tellNonce 17 = .ok (.getfield 230, 3) := by decide +kernel
theorem dX4_tellNonce_20 : decode cX4_tellNonce 20 = .ok (.invokevirtual 165, 3) := by decide +kernel
theorem dX4_tellNonce_23 : decode cX4_tellNonce 23 = .ok (.aload_n 0, 1) := by decide +kernel
theorem dX4_tellNonce_24 : decode cX4_tellNonce 24 = .ok (.getfield 93, 3) := by decide +kernel
theorem dX4_tellNonce_27 : decode cX4_tellNonce 27 = .ok (.aload_n 0, 1) := by decide +kernel
theorem dX4_tellNonce_28 : decode cX4_tellNonce 28 = .ok (.getfield 66, 3) := by decide +kernel
theorem dX4_tellNonce_31 : decode cX4_tellNonce 31 = .ok (.aload_n 0, 1) := by decide +kernel
theorem dX4_tellNonce_32 : decode cX4_tellNonce 32 = .ok (.getfield 93, 3) := by decide +kernel
theorem dX4_tellNonce_35 : decode cX4_tellNonce 35 = .ok (.getfield 233, 3) := by decide +kernel
theorem dX4_tellNonce_38 : decode cX4_tellNonce 38 = .ok (.aload_n 3, 1) := by decide +kernel
theorem dX4_tellNonce_39 : decode cX4_tellNonce 39 = .ok (.getfield 214, 3) := by decide +kernel
theorem dX4_tellNonce_42 : decode cX4_tellNonce 42 = .ok (.invokevirtual 145, 3) := by decide +kernel
theorem dX4_tellNonce_45 : decode cX4_tellNonce 45 = .ok (.aload_n 0, 1) := by decide +kernel
theorem dX4_tellNonce_46 : decode cX4_tellNonce 46 = .ok (.getfield 93, 3) := by decide +kernel
theorem dX4_tellNonce_49 : decode cX4_tellNonce 49 = .ok (.aload_n 0, 1) := by decide +kernel
theorem dX4_tellNonce_50 : decode cX4_tellNonce 50 = .ok (.getfield 66, 3) := by decide +kernel
theorem dX4_tellNonce_53 : decode cX4_tellNonce 53 = .ok (.invokevirtual 153, 3) := by decide +kernel
theorem dX4_tellNonce_56 : decode cX4_tellNonce 56 = .ok (.aload_n 0, 1) := by decide +kernel
theorem dX4_tellNonce_57 : decode cX4_tellNonce 57 = .ok (.getfield 66, 3) := by decide +kernel
theorem dX4_tellNonce_60 : decode cX4_tellNonce 60 = .ok (.aload_n 3, 1) := by decide +kernel
theorem dX4_tellNonce_61 : decode cX4_tellNonce 61 = .ok (.getfield 230, 3) := by decide +kernel
theorem dX4_tellNonce_64 : decode cX4_tellNonce 64 = .ok (.invokevirtual 236, 3) := by decide +kernel
theorem dX4_tellNonce_67 : decode cX4_tellNonce 67 = .ok (.aload_n 0, 1) := by decide +kernel
theorem dX4_tellNonce_68 : decode cX4_tellNonce 68 = .ok (.getfield 93, 3) := by decide +kernel
theorem dX4_tellNonce_71 : decode cX4_tellNonce 71 = .ok (.aload_n 0, 1) := by decide +kernel
theorem dX4_tellNonce_72 : decode cX4_tellNonce 72 = .ok (.getfield 66, 3) := by decide +kernel
theorem dX4_tellNonce_75 : decode cX4_tellNonce 75 = .ok (.aload_n 0, 1) := by decide +kernel
theorem dX4_tellNonce_76 : decode cX4_tellNonce 76 = .ok (.getfield 93, 3) := by decide +kernel
theorem dX4_tellNonce_79 : decode cX4_tellNonce 79 = .ok (.getfield 233, 3) := by decide +kernel
theorem dX4_tellNonce_82 : decode cX4_tellNonce 82 = .ok (.aload_n 3, 1) := by decide +kernel
theorem dX4_tellNonce_83 : decode cX4_tellNonce 83 = .ok (.getfield 220, 3) := by decide +kernel
theorem dX4_tellNonce_86 : decode cX4_tellNonce 86 = .ok (.invokevirtual 145, 3) := by decide +kernel
theorem dX4_tellNonce_89 : decode cX4_tellNonce 89 = .ok (.aload_n 0, 1) := by decide +kernel
theorem dX4_tellNonce_90 : decode cX4_tellNonce 90 = .ok (.getfield 93, 3) := by decide +kernel
theorem dX4_tellNonce_93 : decode cX4_tellNonce 93 = .ok (.aload_n 0, 1) := by decide +kernel
theorem dX4_tellNonce_94 : decode cX4_tellNonce 94 = .ok (.getfield 66, 3) := by decide +kernel
theorem dX4_tellNonce_97 : decode cX4_tellNonce 97 = .ok (.invokevirtual 153, 3) := by decide +kernel
theorem dX4_tellNonce_100 : decode cX4_tellNonce 100 = .ok (.aload_n 0, 1) := by decide +kernel
theorem dX4_tellNonce_101 : decode cX4_tellNonce 101 = .ok (.getfield 66, 3) := by decide +kernel
theorem dX4_tellNonce_104 : decode cX4_tellNonce 104 = .ok (.aload_n 3, 1) := by decide +kernel
theorem dX4_tellNonce_105 : decode cX4_tellNonce 105 = .ok (.getfield 230, 3) := by decide +kernel
theorem dX4_tellNonce_108 : decode cX4_tellNonce 108 = .ok (.invokevirtual 236, 3) := by decide +kernel
theorem dX4_tellNonce_111 : decode cX4_tellNonce 111 = .ok (.aload_n 2, 1) := by decide +kernel
theorem dX4_tellNonce_112 : decode cX4_tellNonce 112 = .ok (.aload_n 3, 1) := by decide +kernel
theorem dX4_tellNonce_113 : decode cX4_tellNonce 113 = .ok (.getfield 230, 3) := by decide +kernel
theorem dX4_tellNonce_116 : decode cX4_tellNonce 116 = .ok (.invokevirtual 111, 3) := by decide +kernel
theorem dX4_tellNonce_119 : decode cX4_tellNonce 119 = .ok (.return_, 1) := by decide +kernel
set_option maxRecDepth 20000 in
theorem ggX4_hear_X4_hasMember : GoodIn wsX4_hear wsX4_hasMember := goodIn_r _ [15, 16, 159, 160, 161, 162, 163, 164, 165, 166, 167, 168, 169, 170, 171, 172, 173, 174, 175, 176, 177, 178] rfl (by decide +kernel)
set_option maxRecDepth 20000 in
theorem gX4_hear_X4_hasMember : GoodIn wsX4_hear (wsV RX4 196 RX4 yX4_hasMember wsX4_hasMember) := goodIn_app (goodIn_of _ (by decide +kernel)) ggX4_hear_X4_hasMember
set_option maxRecDepth 20000 in
theorem ggX4_hear_X2_read : GoodIn wsX4_hear wsX2_read := goodIn_r _ [21, 22, 23, 24, 25, 26, 27, 28, 29, 30, 20, 31, 32, 33, 34, 35, 36, 37, 38, 39, 40, 41, 42, 43, 44, 45, 46, 47, 48, 49, 50, 51, 52, 53, 54, 55, 56, 57, 58, 59, 60, 61, 62, 63, 64, 65, 66, 67, 68, 69, 70, 71, 72, 73, 74, 75, 76, 77, 78, 79, 80, 81, 82, 83, 84, 85, 86, 87, 88, 89, 90, 91, 92, 93, 94, 95, 96, 97, 98, 99, 100, 101, 102, 103, 104, 105, 106, 107, 108, 109, 110, 111, 112, 113, 114, 115, 116, 117, 118, 119, 120, 121, 122, 123, 124, 125, 126, 127, 157, 158, 190, 191, 192, 193, 194, 195, 196, 197, 198, 199, 200, 201, 202, 203, 204, 205, 206, 207, 208, 209, 210, 211, 212, 213, 214, 215, 216, 217] rfl (by decide +kernel)
set_option maxRecDepth 20000 in
theorem gX4_hear_X2_read : GoodIn wsX4_hear (wsV RX4 98 RX2 yX2_read wsX2_read) := goodIn_app (goodIn_of _ (by decide +kernel)) ggX4_hear_X2_read
set_option maxRecDepth 20000 in
theorem ggX4_hear_X6_become : GoodIn wsX4_hear wsX6_become := goodIn_r _ [131, 132, 122, 133, 134, 135, 100, 101, 43, 102, 55, 56, 57, 58, 59, 60, 61, 62, 63, 190, 191, 192, 193, 203, 204, 205, 206, 207, 208, 209, 210, 211] rfl (by decide +kernel)
set_option maxRecDepth 20000 in
theorem gX4_hear_X6_become : GoodIn wsX4_hear (wsV RX4 116 RX6 yX6_become wsX6_become) := goodIn_app (goodIn_of _ (by decide +kernel)) ggX4_hear_X6_become
set_option maxRecDepth 20000 in
theorem ggX4_hear_X0_become : GoodIn wsX4_hear wsX0_become := goodIn_r _ [139, 140, 141, 142, 25, 143, 144, 145, 146, 147, 148, 149, 150, 151, 152, 49, 23, 24, 26, 27, 153, 154, 155, 156, 157, 158] rfl (by decide +kernel)
set_option maxRecDepth 20000 in
theorem gX4_hear_X0_become : GoodIn wsX4_hear (wsV RX4 111 RX0 yX0_become wsX0_become) := goodIn_app (goodIn_of _ (by decide +kernel)) ggX4_hear_X0_become
theorem dX4_hear_0 : decode cX4_hear 0 = .ok (.aload_n 0, 1) := by decide +kernel
theorem dX4_hear_1 : decode cX4_hear 1 = .ok (.iload_n 1, 1) := by decide +kernel
theorem dX4_hear_2 : decode cX4_hear 2 = .ok (.invokevirtual 196, 3) := by decide +kernel
theorem dX4_hear_5 : decode cX4_hear 5 = .ok (.ifCond .eq 45, 3) := by decide +kernel
theorem dX4_hear_8 : decode cX4_hear 8 = .ok (.aload_n 2, 1) := by decide +kernel
theorem dX4_hear_9 : decode cX4_hear 9 = .ok (.getfield 95, 3) := by decide +kernel
theorem dX4_hear_12 : decode cX4_hear 12 = .ok (.bipush 66, 2) := by decide +kernel
theorem dX4_hear_14 : decode cX4_hear 14 = .ok (.if_icmp .ne 36, 3) := by decide +kernel
theorem dX4_hear_17 : decode cX4_hear 17 = .ok (.aload_n 0, 1) := by decide +kernel
theorem dX4_hear_18 : decode cX4_hear 18 = .ok (.getfield 93, 3) := by decide +kernel
theorem dX4_hear_21 : decode cX4_hear 21 = .ok (.aload_n 0, 1) := by decide +kernel
theorem dX4_hear_22 : decode cX4_hear 22 = .ok (.getfield 66, 3) := by decide +kernel
theorem dX4_hear_25 : decode cX4_hear 25 = .ok (.aload_n 2, 1) := by decide +kernel
theorem dX4_hear_26 : decode cX4_hear 26 = .ok (.iconst 0, 1) := by decide +kernel
theorem dX4_hear_27 : decode cX4_hear 27 = .ok (.invokevirtual 98, 3) := by decide +kernel
theorem dX4_hear_30 : decode cX4_hear 30 = .ok (.ifCond .eq 20, 3) := by decide +kernel
theorem dX4_hear_33 : decode cX4_hear 33 = .ok (.aload_n 0, 1) := by decide +kernel
theorem dX4_hear_34 : decode cX4_hear 34 = .ok (.getfield 93, 3) := by decide +kernel
theorem dX4_hear_37 : decode cX4_hear 37 = .ok (.aload_n 0, 1) := by decide +kernel
theorem dX4_hear_38 : decode cX4_hear 38 = .ok (.getfield 70, 3) := by decide +kernel
theorem dX4_hear_41 : decode cX4_hear 41 = .ok (.aload_n 2, 1) := by decide +kernel
theorem dX4_hear_42 : decode cX4_hear 42 = .ok (.bipush 33, 2) := by decide +kernel
theorem dX4_hear_44 : decode cX4_hear 44 = .ok (.invokevirtual 98, 3) := by decide +kernel
theorem dX4_hear_47 : decode cX4_hear 47 = .ok (.ifCond .ne 5, 3) := by decide +kernel
theorem dX4_hear_50 : decode cX4_hear 50 = .ok (.iconst 0, 1) := by decide +kernel
theorem dX4_hear_51 : decode cX4_hear 51 = .ok (.ireturn, 1) := by decide +kernel
theorem dX4_hear_52 : decode cX4_hear 52 = .ok (.aload_n 0, 1) := by decide +kernel
theorem dX4_hear_53 : decode cX4_hear 53 = .ok (.getfield 28, 3) := by decide +kernel
theorem dX4_hear_56 : decode cX4_hear 56 = .ok (.iload_n 1, 1) := by decide +kernel
theorem dX4_hear_57 : decode cX4_hear 57 = .ok (.aaload, 1) := by decide +kernel
theorem dX4_hear_58 : decode cX4_hear 58 = .ok (.astore_n 3, 1) := by decide +kernel
theorem dX4_hear_59 : decode cX4_hear 59 = .ok (.aload_n 3, 1) := by decide +kernel
theorem dX4_hear_60 : decode cX4_hear 60 = .ok (.getfield 237, 3) := by decide +kernel
theorem dX4_hear_63 : decode cX4_hear 63 = .ok (.aload_n 0, 1) := by decide +kernel
theorem dX4_hear_64 : decode cX4_hear 64 = .ok (.getfield 66, 3) := by decide +kernel
theorem dX4_hear_67 : decode cX4_hear 67 = .ok (.invokevirtual 116, 3) := by decide +kernel
theorem dX4_hear_70 : decode cX4_hear 70 = .ok (.aload_n 3, 1) := by decide +kernel
theorem dX4_hear_71 : decode cX4_hear 71 = .ok (.getfield 240, 3) := by decide +kernel
theorem dX4_hear_74 : decode cX4_hear 74 = .ok (.aload_n 0, 1) := by decide +kernel
theorem dX4_hear_75 : decode cX4_hear 75 = .ok (.getfield 70, 3) := by decide +kernel
theorem dX4_hear_78 : decode cX4_hear 78 = .ok (.invokevirtual 116, 3) := by decide +kernel
theorem dX4_hear_81 : decode cX4_hear 81 = .ok (.aload_n 3, 1) := by decide +kernel
theorem dX4_hear_82 : decode cX4_hear 82 = .ok (.getfield 243, 3) := by decide +kernel
theorem dX4_hear_85 : decode cX4_hear 85 = .ok (.aload_n 2, 1) := by decide +kernel
theorem dX4_hear_86 : decode cX4_hear 86 = .ok (.invokevirtual 111, 3) := by decide +kernel
theorem dX4_hear_89 : decode cX4_hear 89 = .ok (.aload_n 3, 1) := by decide +kernel
theorem dX4_hear_90 : decode cX4_hear 90 = .ok (.iconst 1, 1) := by decide +kernel
theorem dX4_hear_91 : decode cX4_hear 91 = .ok (.putfield 125, 3) := by decide +kernel
theorem dX4_hear_94 : decode cX4_hear 94 = .ok (.aload_n 0, 1) := by decide +kernel
theorem dX4_hear_95 : decode cX4_hear 95 = .ok (.iconst 0, 1) := by decide +kernel
theorem dX4_hear_96 : decode cX4_hear 96 = .ok (.putfield 13, 3) := by decide +kernel
theorem dX4_hear_99 : decode cX4_hear 99 = .ok (.iconst 1, 1) := by decide +kernel
theorem dX4_hear_100 : decode cX4_hear 100 = .ok (.ireturn, 1) := by decide +kernel
set_option maxRecDepth 20000 in
theorem ggX4_open_X4_addNonces : GoodIn wsX4_open wsX4_addNonces := goodIn_r _ [22, 8, 9, 7, 23, 6, 24, 25, 26, 2, 27, 28, 29, 30, 31, 32, 33, 34, 35, 36, 37, 38, 39, 40, 41, 42, 43, 44, 45, 46, 47, 48, 49, 50, 51, 52, 53, 54, 55, 56, 57, 58, 59, 60, 61, 62, 63, 64, 65, 66, 67, 68, 69, 70, 71, 72, 73, 74, 75, 76, 77, 78, 79, 80, 81, 82, 83, 84, 85, 86, 87, 88, 89, 90, 91, 92, 93, 94, 95, 96, 97, 98, 99, 100, 101, 102, 103, 104, 105, 106, 107, 108, 109, 110, 111, 112, 113, 114, 115, 116, 117, 118, 119, 120, 121, 122, 123, 124, 125, 126, 127, 128, 129, 130, 131, 132, 133, 134, 135, 136, 137, 138, 139, 140, 141, 142, 143, 144, 145, 146, 147, 148, 149, 150, 151, 152, 153, 154, 155, 156, 157, 158, 312, 313, 314, 315, 316, 317, 318, 319, 320, 321, 322, 323, 324, 325, 326, 327, 328, 329, 330, 331, 332, 333, 334, 335, 345, 346, 347, 348, 349, 350, 351, 352, 353, 354, 355, 336, 337, 338, 339, 340, 341, 342, 343, 344, 356, 357, 358, 359, 360, 361, 362, 363, 364, 365, 366, 367, 368, 369, 370, 371, 372] rfl (by decide +kernel)
set_option maxRecDepth 20000 in
theorem gX4_open_X4_addNonces : GoodIn wsX4_open (wsV RX4 246 RX4 yX4_addNonces wsX4_addNonces) := goodIn_app (goodIn_of _ (by decide +kernel)) ggX4_open_X4_addNonces
set_option maxRecDepth 20000 in
theorem ggX4_open_X9_beginBy : GoodIn wsX4_open wsX9_beginBy := goodIn_r _ [163, 164, 165, 166, 167, 162, 168, 169, 170, 171, 172, 173, 174, 175, 176, 177, 178, 179, 180, 181, 182, 183, 184, 185, 186, 187, 188, 189, 190, 191, 192, 193, 194, 195, 196, 197, 198, 199, 200, 201, 202, 203, 204, 205, 206, 207, 208, 209, 210, 211, 212, 213, 214, 215, 216, 217, 218, 219, 220, 221, 222, 223, 224, 225, 226, 227, 228, 229, 230, 231, 232, 233, 234, 235, 236, 237, 238, 239, 240, 241, 132, 133, 134, 135, 136, 242, 155, 156, 157, 158, 142, 143, 144, 145, 243, 244, 245, 246, 247, 248, 249, 250, 251, 373, 374, 375, 376, 371, 372] rfl (by decide +kernel)
set_option maxRecDepth 20000 in
theorem gX4_open_X9_beginBy : GoodIn wsX4_open (wsV RX4 176 RX9 yX9_beginBy wsX9_beginBy) := goodIn_app (goodIn_of _ (by decide +kernel)) ggX4_open_X9_beginBy
set_option maxRecDepth 20000 in
theorem ggX4_open_X9_takeAll : GoodIn wsX4_open wsX9_takeAll := goodIn_r _ [246, 247, 248, 249, 250, 134, 251, 145, 224, 225, 226, 162, 227, 169, 228, 229, 230, 231, 232, 233, 170, 234, 371, 372, 373, 374, 375, 376] rfl (by decide +kernel)
set_option maxRecDepth 20000 in
theorem gX4_open_X9_takeAll : GoodIn wsX4_open (wsV RX4 179 RX9 yX9_takeAll wsX9_takeAll) := goodIn_app (goodIn_of _ (by decide +kernel)) ggX4_open_X9_takeAll
set_option maxRecDepth 20000 in
theorem ggX4_open_X9_finish : GoodIn wsX4_open wsX9_finish := goodIn_r _ [238, 169, 239, 229, 240, 228, 170, 224, 225, 226, 162, 227, 230, 231, 232, 233, 234, 241, 132, 133, 134, 135, 136, 242, 155, 156, 157, 158, 142, 143, 144, 145, 373, 374, 375, 376, 371, 372] rfl (by decide +kernel)
set_option maxRecDepth 20000 in
theorem gX4_open_X9_finish : GoodIn wsX4_open (wsV RX4 182 RX9 yX9_finish wsX9_finish) := goodIn_app (goodIn_of _ (by decide +kernel)) ggX4_open_X9_finish
set_option maxRecDepth 20000 in
theorem ggX4_open_X8_takeDigest : GoodIn wsX4_open wsX8_takeDigest := goodIn_r _ [258, 259, 260, 261, 257, 262, 263, 264, 265, 266, 134, 267, 268, 249, 250, 251, 145, 269, 270, 271, 272, 273, 274, 275, 276, 277, 278, 279, 280, 281, 282, 283, 377, 371, 372] rfl (by decide +kernel)
set_option maxRecDepth 20000 in
theorem gX4_open_X8_takeDigest : GoodIn wsX4_open (wsV RX4 193 RX8 yX8_takeDigest wsX8_takeDigest) := goodIn_app (goodIn_of _ (by decide +kernel)) ggX4_open_X8_takeDigest
set_option maxRecDepth 20000 in
theorem ggX4_open_X2_times : GoodIn wsX4_open wsX2_times := goodIn_r _ [287, 288, 32, 41, 42, 43, 44, 45, 46, 47, 48, 49, 50, 51, 52, 53, 54, 55, 56, 57, 58, 59, 60, 61, 62, 63, 289, 28, 29, 30, 31, 33, 34, 35, 36, 37, 38, 39, 40, 64, 65, 66, 67, 68, 69, 70, 71, 72, 73, 74, 75, 76, 77, 78, 79, 80, 81, 82, 83, 84, 85, 86, 87, 88, 89, 90, 91, 92, 93, 94, 95, 96, 97, 98, 99, 100, 101, 102, 103, 104, 290, 291, 292, 257, 293, 263, 336, 337, 338, 339, 340, 341, 342, 343, 344, 332, 333, 334, 335, 356, 357, 358, 359, 360, 361, 362, 363, 364, 377] rfl (by decide +kernel)
set_option maxRecDepth 20000 in
theorem gX4_open_X2_times : GoodIn wsX4_open (wsV RX4 145 RX2 yX2_times wsX2_times) := goodIn_app (goodIn_of _ (by decide +kernel)) ggX4_open_X2_times
set_option maxRecDepth 20000 in
theorem ggX4_open_X2_plus : GoodIn wsX4_open wsX2_plus := goodIn_r _ [31, 32, 33, 34, 35, 36, 37, 38, 39, 40, 41, 42, 43, 44, 45, 46, 47, 48, 49, 50, 51, 52, 53, 54, 55, 56, 57, 58, 59, 60, 61, 62, 63, 64, 65, 66, 67, 68, 69, 70, 71, 72, 73, 74, 75, 76, 77, 78, 79, 80, 81, 82, 83, 84, 85, 86, 87, 88, 89, 90, 91, 92, 93, 94, 95, 96, 97, 98, 99, 30, 100, 101, 102, 103, 104, 332, 333, 334, 335, 336, 337, 338, 339, 340, 341, 342, 343, 344, 356, 357, 358, 359, 360, 361, 362, 363, 364] rfl (by decide +kernel)
set_option maxRecDepth 20000 in
theorem gX4_open_X2_plus : GoodIn wsX4_open (wsV RX4 149 RX2 yX2_plus wsX2_plus) := goodIn_app (goodIn_of _ (by decide +kernel)) ggX4_open_X2_plus
set_option maxRecDepth 20000 in
theorem ggX4_open_X6_become : GoodIn wsX4_open wsX6_become := goodIn_r _ [45, 46, 47, 48, 49, 50, 51, 52, 53, 54, 55, 56, 57, 58, 59, 60, 61, 62, 63, 332, 333, 334, 335, 356, 357, 358, 359, 360, 361, 362, 363, 364] rfl (by decide +kernel)
set_option maxRecDepth 20000 in
theorem gX4_open_X6_become : GoodIn wsX4_open (wsV RX4 116 RX6 yX6_become wsX6_become) := goodIn_app (goodIn_of _ (by decide +kernel)) ggX4_open_X6_become
set_option maxRecDepth 20000 in
theorem ggX4_open_X2_settle : GoodIn wsX4_open wsX2_settle := goodIn_r _ [108, 32, 109, 33, 34, 35, 36, 38, 110, 111, 112, 113, 114, 115, 116, 117, 118, 119, 120, 121, 122, 123, 124, 53, 125, 126, 51, 52, 54, 55, 56, 57, 58, 59, 60, 61, 62, 63, 127, 65, 66, 67, 68, 69, 70, 71, 128, 129, 64, 130, 332, 333, 334, 335, 336, 337, 338, 339, 340, 341, 342, 343, 344, 365, 366, 367, 368, 369, 370, 356, 357, 358, 359, 360, 361, 362, 363, 364] rfl (by decide +kernel)
set_option maxRecDepth 20000 in
theorem gX4_open_X2_settle : GoodIn wsX4_open (wsV RX4 153 RX2 yX2_settle wsX2_settle) := goodIn_app (goodIn_of _ (by decide +kernel)) ggX4_open_X2_settle
set_option maxRecDepth 20000 in
theorem ggX4_open_X1_isOdd : GoodIn wsX4_open wsX1_isOdd := goodIn_r _ [149, 55, 84, 85, 86, 53, 87, 56, 88, 76, 77, 78, 79, 63, 71, 68, 57, 58, 59, 60, 61, 62, 70, 89, 90, 91, 92, 93, 94, 95, 96, 356, 357, 358, 359, 360, 361, 362, 363, 364] rfl (by decide +kernel)
set_option maxRecDepth 20000 in
theorem gX4_open_X1_isOdd : GoodIn wsX4_open (wsV RX4 160 RX1 yX1_isOdd wsX1_isOdd) := goodIn_app (goodIn_of _ (by decide +kernel)) ggX4_open_X1_isOdd
set_option maxRecDepth 20000 in
theorem ggX4_open_X0_empty : GoodIn wsX4_open wsX0_empty := goodIn_r _ [135, 136, 371, 372] rfl (by decide +kernel)
set_option maxRecDepth 20000 in
theorem gX4_open_X0_empty : GoodIn wsX4_open (wsV RX4 165 RX0 yX0_empty wsX0_empty) := goodIn_app (goodIn_of _ (by decide +kernel)) ggX4_open_X0_empty
set_option maxRecDepth 20000 in
theorem ggX4_open_X1_addTo : GoodIn wsX4_open wsX1_addTo := goodIn_r _ [153, 61, 62, 63, 59, 60, 57, 58, 55, 56, 84, 85, 86, 53, 87, 88, 76, 77, 78, 79, 71, 68, 70, 89, 90, 91, 92, 93, 94, 95, 96, 154, 155, 156, 134, 157, 158, 142, 143, 144, 136, 145, 356, 357, 358, 359, 360, 361, 362, 363, 364, 371, 372] rfl (by decide +kernel)
set_option maxRecDepth 20000 in
theorem gX4_open_X1_addTo : GoodIn wsX4_open (wsV RX4 171 RX1 yX1_addTo wsX1_addTo) := goodIn_app (goodIn_of _ (by decide +kernel)) ggX4_open_X1_addTo
set_option maxRecDepth 20000 in
theorem ggX4_open_X10_challenge : GoodIn wsX4_open wsX10_challenge := goodIn_r _ [301, 302, 303, 304, 160, 161, 162, 163, 164, 165, 166, 167, 168, 169, 170, 171, 172, 173, 174, 175, 176, 177, 178, 179, 180, 181, 182, 183, 184, 185, 186, 187, 188, 189, 190, 191, 192, 193, 194, 195, 196, 197, 198, 199, 200, 201, 202, 203, 204, 205, 206, 207, 208, 209, 210, 211, 212, 213, 214, 215, 216, 217, 218, 219, 220, 221, 222, 223, 224, 225, 226, 227, 228, 229, 230, 231, 232, 233, 234, 235, 236, 237, 238, 239, 240, 241, 132, 133, 134, 135, 136, 242, 155, 156, 157, 158, 142, 143, 144, 145, 243, 244, 245, 246, 247, 248, 249, 250, 251, 305, 306, 307, 308, 309, 310, 311, 255, 256, 257, 258, 259, 260, 261, 262, 263, 264, 265, 266, 267, 268, 269, 270, 271, 272, 273, 274, 275, 276, 277, 278, 279, 280, 281, 282, 283, 378, 379, 380, 381, 382, 383, 384, 385, 386, 387, 388, 389, 390, 373, 374, 375, 376, 371, 372, 377] rfl (by decide +kernel)
set_option maxRecDepth 20000 in
theorem gX4_open_X10_challenge : GoodIn wsX4_open (wsV RX4 249 RX10 yX10_challenge wsX10_challenge) := goodIn_app (goodIn_of _ (by decide +kernel)) ggX4_open_X10_challenge
theorem dX4_open_0 : decode cX4_open 0 = .ok (.aload_n 0, 1) := by decide +kernel
theorem dX4_open_1 : decode cX4_open 1 = .ok (.invokevirtual 246, 3) := by decide +kernel
theorem dX4_open_4 : decode cX4_open 4 = .ok (.aload_n 0, 1) := by decide +kernel
theorem dX4_open_5 : decode cX4_open 5 = .ok (.getfield 79, 3) := by decide +kernel
theorem dX4_open_8 : decode cX4_open 8 = .ok (.bipush 7, 2) := by decide +kernel
theorem dX4_open_10 : decode cX4_open 10 = .ok (.invokevirtual 176, 3) := by decide +kernel
theorem dX4_open_13 : decode cX4_open 13 = .ok (.aload_n 0, 1) := by decide +kernel
theorem dX4_open_14 : decode cX4_open 14 = .ok (.getfield 79, 3) := by decide +kernel
theorem dX4_open_17 : decode cX4_open 17 = .ok (.aload_n 0, 1) := by decide +kernel
theorem dX4_open_18 : decode cX4_open 18 = .ok (.getfield 38, 3) := by decide +kernel
theorem dX4_open_21 : decode cX4_open 21 = .ok (.invokevirtual 179, 3) := by decide +kernel
theorem dX4_open_24 : decode cX4_open 24 = .ok (.aload_n 0, 1) := by decide +kernel
theorem dX4_open_25 : decode cX4_open 25 = .ok (.getfield 79, 3) := by decide +kernel
theorem dX4_open_28 : decode cX4_open 28 = .ok (.aload_n 0, 1) := by decide +kernel
theorem dX4_open_29 : decode cX4_open 29 = .ok (.getfield 22, 3) := by decide +kernel
theorem dX4_open_32 : decode cX4_open 32 = .ok (.invokevirtual 179, 3) := by decide +kernel
theorem dX4_open_35 : decode cX4_open 35 = .ok (.aload_n 0, 1) := by decide +kernel
theorem dX4_open_36 : decode cX4_open 36 = .ok (.getfield 79, 3) := by decide +kernel
theorem dX4_open_39 : decode cX4_open 39 = .ok (.aload_n 1, 1) := by decide +kernel
theorem dX4_open_40 : decode cX4_open 40 = .ok (.invokevirtual 179, 3) := by decide +kernel
theorem dX4_open_43 : decode cX4_open 43 = .ok (.aload_n 0, 1) := by decide +kernel
theorem dX4_open_44 : decode cX4_open 44 = .ok (.getfield 79, 3) := by decide +kernel
theorem dX4_open_47 : decode cX4_open 47 = .ok (.aload_n 0, 1) := by decide +kernel
theorem dX4_open_48 : decode cX4_open 48 = .ok (.getfield 32, 3) := by decide +kernel
theorem dX4_open_51 : decode cX4_open 51 = .ok (.invokevirtual 182, 3) := by decide +kernel
theorem dX4_open_54 : decode cX4_open 54 = .ok (.aload_n 0, 1) := by decide +kernel
theorem dX4_open_55 : decode cX4_open 55 = .ok (.getfield 47, 3) := by decide +kernel
theorem dX4_open_58 : decode cX4_open 58 = .ok (.aload_n 0, 1) := by decide +kernel
theorem dX4_open_59 : decode cX4_open 59 = .ok (.getfield 32, 3) := by decide +kernel
theorem dX4_open_62 : decode cX4_open 62 = .ok (.invokevirtual 193, 3) := by decide +kernel
theorem dX4_open_65 : decode cX4_open 65 = .ok (.aload_n 0, 1) := by decide +kernel
theorem dX4_open_66 : decode cX4_open 66 = .ok (.getfield 93, 3) := by decide +kernel
theorem dX4_open_69 : decode cX4_open 69 = .ok (.aload_n 0, 1) := by decide +kernel
theorem dX4_open_70 : decode cX4_open 70 = .ok (.getfield 70, 3) := by decide +kernel
theorem dX4_open_73 : decode cX4_open 73 = .ok (.aload_n 0, 1) := by decide +kernel
theorem dX4_open_74 : decode cX4_open 74 = .ok (.getfield 70, 3) := by decide +kernel
theorem dX4_open_77 : decode cX4_open 77 = .ok (.aload_n 0, 1) := by decide +kernel
theorem dX4_open_78 : decode cX4_open 78 = .ok (.getfield 47, 3) := by decide +kernel
theorem dX4_open_81 : decode cX4_open 81 = .ok (.invokevirtual 145, 3) := by decide +kernel
theorem dX4_open_84 : decode cX4_open 84 = .ok (.aload_n 0, 1) := by decide +kernel
theorem dX4_open_85 : decode cX4_open 85 = .ok (.getfield 93, 3) := by decide +kernel
theorem dX4_open_88 : decode cX4_open 88 = .ok (.aload_n 0, 1) := by decide +kernel
theorem dX4_open_89 : decode cX4_open 89 = .ok (.getfield 66, 3) := by decide +kernel
theorem dX4_open_92 : decode cX4_open 92 = .ok (.aload_n 0, 1) := by decide +kernel
theorem dX4_open_93 : decode cX4_open 93 = .ok (.getfield 70, 3) := by decide +kernel
theorem dX4_open_96 : decode cX4_open 96 = .ok (.invokevirtual 149, 3) := by decide +kernel
theorem dX4_open_99 : decode cX4_open 99 = .ok (.aload_n 0, 1) := by decide +kernel
theorem dX4_open_100 : decode cX4_open 100 = .ok (.getfield 66, 3) := by decide +kernel
theorem dX4_open_103 : decode cX4_open 103 = .ok (.getfield 135, 3) := by decide +kernel
theorem dX4_open_106 : decode cX4_open 106 = .ok (.ifCond .eq 17, 3) := by decide +kernel
theorem dX4_open_109 : decode cX4_open 109 = .ok (.aload_n 0, 1) := by decide +kernel
theorem dX4_open_110 : decode cX4_open 110 = .ok (.getfield 66, 3) := by decide +kernel
theorem dX4_open_113 : decode cX4_open 113 = .ok (.aload_n 0, 1) := by decide +kernel
theorem dX4_open_114 : decode cX4_open 114 = .ok (.getfield 93, 3) := by decide +kernel
theorem dX4_open_117 : decode cX4_open 117 = .ok (.getfield 233, 3) := by decide +kernel
theorem dX4_open_120 : decode cX4_open 120 = .ok (.invokevirtual 116, 3) := by decide +kernel
theorem dX4_open_123 : decode cX4_open 123 = .ok (.aload_n 0, 1) := by decide +kernel
theorem dX4_open_124 : decode cX4_open 124 = .ok (.getfield 93, 3) := by decide +kernel
theorem dX4_open_127 : decode cX4_open 127 = .ok (.aload_n 0, 1) := by decide +kernel
theorem dX4_open_128 : decode cX4_open 128 = .ok (.getfield 66, 3) := by decide +kernel
theorem dX4_open_131 : decode cX4_open 131 = .ok (.invokevirtual 153, 3) := by decide +kernel
theorem dX4_open_134 : decode cX4_open 134 = .ok (.aload_n 0, 1) := by decide +kernel
theorem dX4_open_135 : decode cX4_open 135 = .ok (.aload_n 0, 1) := by decide +kernel
theorem dX4_open_136 : decode cX4_open 136 = .ok (.getfield 66, 3) := by decide +kernel
theorem dX4_open_139 : decode cX4_open 139 = .ok (.getfield 156, 3) := by decide +kernel
theorem dX4_open_142 : decode cX4_open 142 = .ok (.invokevirtual 160, 3) := by decide +kernel
theorem dX4_open_145 : decode cX4_open 145 = .ok (.putfield 76, 3) := by decide +kernel
theorem dX4_open_148 : decode cX4_open 148 = .ok (.aload_n 0, 1) := by decide +kernel
theorem dX4_open_149 : decode cX4_open 149 = .ok (.getfield 41, 3) := by decide +kernel
theorem dX4_open_152 : decode cX4_open 152 = .ok (.invokevirtual 165, 3) := by decide +kernel
theorem dX4_open_155 : decode cX4_open 155 = .ok (.aload_n 0, 1) := by decide +kernel
theorem dX4_open_156 : decode cX4_open 156 = .ok (.getfield 66, 3) := by decide +kernel
theorem dX4_open_159 : decode cX4_open 159 = .ok (.getfield 168, 3) := by decide +kernel
theorem dX4_open_162 : decode cX4_open 162 = .ok (.aload_n 0, 1) := by decide +kernel
theorem dX4_open_163 : decode cX4_open 163 = .ok (.getfield 41, 3) := by decide +kernel
theorem dX4_open_166 : decode cX4_open 166 = .ok (.invokevirtual 171, 3) := by decide +kernel
theorem dX4_open_169 : decode cX4_open 169 = .ok (.aload_n 0, 1) := by decide +kernel
theorem dX4_open_170 : decode cX4_open 170 = .ok (.getfield 83, 3) := by decide +kernel
theorem dX4_open_173 : decode cX4_open 173 = .ok (.aload_n 0, 1) := by decide +kernel
theorem dX4_open_174 : decode cX4_open 174 = .ok (.getfield 51, 3) := by decide +kernel
theorem dX4_open_177 : decode cX4_open 177 = .ok (.aload_n 0, 1) := by decide +kernel
theorem dX4_open_178 : decode cX4_open 178 = .ok (.getfield 41, 3) := by decide +kernel
theorem dX4_open_181 : decode cX4_open 181 = .ok (.aload_n 0, 1) := by decide +kernel
theorem dX4_open_182 : decode cX4_open 182 = .ok (.getfield 22, 3) := by decide +kernel
theorem dX4_open_185 : decode cX4_open 185 = .ok (.iconst 0, 1) := by decide +kernel
theorem dX4_open_186 : decode cX4_open 186 = .ok (.aload_n 1, 1) := by decide +kernel
theorem dX4_open_187 : decode cX4_open 187 = .ok (.invokevirtual 249, 3) := by decide +kernel
theorem dX4_open_190 : decode cX4_open 190 = .ok (.aload_n 0, 1) := by decide +kernel
theorem dX4_open_191 : decode cX4_open 191 = .ok (.iconst 1, 1) := by decide +kernel
theorem dX4_open_192 : decode cX4_open 192 = .ok (.putfield 13, 3) := by decide +kernel
theorem dX4_open_195 : decode cX4_open 195 = .ok (.return_, 1) := by decide +kernel
set_option maxRecDepth 20000 in
theorem ggX4_addNonces_X2_plus : GoodIn wsX4_addNonces wsX2_plus := goodIn_r _ [14, 15, 16, 17, 18, 19, 20, 21, 22, 23, 24, 25, 26, 27, 28, 29, 30, 31, 32, 33, 34, 35, 36, 37, 38, 39, 40, 41, 42, 43, 44, 45, 46, 47, 48, 49, 50, 51, 52, 53, 54, 55, 56, 57, 58, 59, 60, 61, 62, 63, 64, 65, 66, 67, 68, 69, 70, 71, 72, 73, 74, 75, 76, 77, 78, 79, 80, 81, 82, 13, 83, 84, 85, 86, 87, 162, 163, 164, 165, 177, 178, 179, 180, 181, 182, 183, 184, 185, 186, 187, 188, 189, 190, 191, 192, 193, 194] rfl (by decide +kernel)
set_option maxRecDepth 20000 in
theorem gX4_addNonces_X2_plus : GoodIn wsX4_addNonces (wsV RX4 149 RX2 yX2_plus wsX2_plus) := goodIn_app (goodIn_of _ (by decide +kernel)) ggX4_addNonces_X2_plus
set_option maxRecDepth 20000 in
theorem ggX4_addNonces_X2_settle : GoodIn wsX4_addNonces wsX2_settle := goodIn_r _ [91, 15, 92, 16, 17, 18, 19, 21, 93, 94, 95, 96, 97, 98, 99, 100, 101, 102, 103, 104, 105, 106, 107, 36, 108, 109, 34, 35, 37, 38, 39, 40, 41, 42, 43, 44, 45, 46, 110, 48, 49, 50, 51, 52, 53, 54, 111, 112, 47, 113, 162, 163, 164, 165, 177, 178, 179, 180, 181, 182, 183, 184, 185, 195, 196, 197, 198, 199, 200, 186, 187, 188, 189, 190, 191, 192, 193, 194] rfl (by decide +kernel)
set_option maxRecDepth 20000 in
theorem gX4_addNonces_X2_settle : GoodIn wsX4_addNonces (wsV RX4 153 RX2 yX2_settle wsX2_settle) := goodIn_app (goodIn_of _ (by decide +kernel)) ggX4_addNonces_X2_settle
set_option maxRecDepth 20000 in
theorem ggX4_addNonces_X0_empty : GoodIn wsX4_addNonces wsX0_empty := goodIn_r _ [118, 119, 201, 202] rfl (by decide +kernel)
set_option maxRecDepth 20000 in
theorem gX4_addNonces_X0_empty : GoodIn wsX4_addNonces (wsV RX4 165 RX0 yX0_empty wsX0_empty) := goodIn_app (goodIn_of _ (by decide +kernel)) ggX4_addNonces_X0_empty
set_option maxRecDepth 20000 in
theorem ggX4_addNonces_X6_addTo : GoodIn wsX4_addNonces wsX6_addTo := goodIn_r _ [123, 32, 30, 29, 124, 125, 126, 117, 127, 119, 128, 129, 130, 131, 36, 132, 38, 67, 68, 69, 70, 39, 71, 59, 60, 61, 62, 46, 54, 51, 40, 41, 42, 43, 44, 45, 53, 72, 73, 74, 75, 76, 77, 78, 79, 133, 134, 135, 136, 137, 138, 139, 140, 141, 162, 163, 164, 165, 201, 202, 186, 187, 188, 189, 190, 191, 192, 193, 194] rfl (by decide +kernel)
set_option maxRecDepth 20000 in
theorem gX4_addNonces_X6_addTo : GoodIn wsX4_addNonces (wsV RX4 236 RX6 yX6_addTo wsX6_addTo) := goodIn_app (goodIn_of _ (by decide +kernel)) ggX4_addNonces_X6_addTo
theorem dX4_addNonces_0 : decode cX4_addNonces 0 = .ok (.aload_n 0, 1) := by decide +kernel
theorem dX4_addNonces_1 : decode cX4_addNonces 1 = .ok (.getfield 66, 3) := by decide +kernel
theorem dX4_addNonces_4 : decode cX4_addNonces 4 = .ok (.iconst 1, 1) := by decide +kernel
theorem dX4_addNonces_5 : decode cX4_addNonces 5 = .ok (.putfield 135, 3) := by decide +kernel
theorem dX4_addNonces_8 : decode cX4_addNonces 8 = .ok (.aload_n 0, 1) := by decide +kernel
theorem dX4_addNonces_9 : decode cX4_addNonces 9 = .ok (.getfield 70, 3) := by decide +kernel
theorem dX4_addNonces_12 : decode cX4_addNonces 12 = .ok (.iconst 1, 1) := by decide +kernel
theorem dX4_addNonces_13 : decode cX4_addNonces 13 = .ok (.putfield 135, 3) := by decide +kernel
theorem dX4_addNonces_16 : decode cX4_addNonces 16 = .ok (.iconst 0, 1) := by decide +kernel
theorem dX4_addNonces_17 : decode cX4_addNonces 17 = .ok (.istore_n 1, 1) := by decide +kernel
theorem dX4_addNonces_18 : decode cX4_addNonces 18 = .ok (.iload_n 1, 1) := by decide +kernel
theorem dX4_addNonces_19 : decode cX4_addNonces 19 = .ok (.aload_n 0, 1) := by decide +kernel
theorem dX4_addNonces_20 : decode cX4_addNonces 20 = .ok (.getfield 7, 3) := by decide +kernel
theorem dX4_addNonces_23 : decode cX4_addNonces 23 = .ok (.if_icmp .ge 54, 3) := by decide +kernel
theorem dX4_addNonces_26 : decode cX4_addNonces 26 = .ok (.iload_n 1, 1) := by decide +kernel
theorem dX4_addNonces_27 : decode cX4_addNonces 27 = .ok (.iconst 4, 1) := by decide +kernel
theorem dX4_addNonces_28 : decode cX4_addNonces 28 = .ok (.if_icmp .ge 49, 3) := by decide +kernel
theorem dX4_addNonces_31 : decode cX4_addNonces 31 = .ok (.aload_n 0, 1) := by decide +kernel
theorem dX4_addNonces_32 : decode cX4_addNonces 32 = .ok (.getfield 93, 3) := by decide +kernel
theorem dX4_addNonces_35 : decode cX4_addNonces 35 = .ok (.aload_n 0, 1) := by decide +kernel
theorem dX4_addNonces_36 : decode cX4_addNonces 36 = .ok (.getfield 66, 3) := by decide +kernel
theorem dX4_addNonces_39 : decode cX4_addNonces 39 = .ok (.aload_n 0, 1) := by decide +kernel
theorem dX4_addNonces_40 : decode cX4_addNonces 40 = .ok (.getfield 28, 3) := by decide +kernel
theorem dX4_addNonces_43 : decode cX4_addNonces 43 = .ok (.iload_n 1, 1) := by decide +kernel
theorem dX4_addNonces_44 : decode cX4_addNonces 44 = .ok (.aaload, 1) := by decide +kernel
theorem dX4_addNonces_45 : decode cX4_addNonces 45 = .ok (.getfield 237, 3) := by decide +kernel
theorem dX4_addNonces_48 : decode cX4_addNonces 48 = .ok (.invokevirtual 149, 3) := by decide +kernel
theorem dX4_addNonces_51 : decode cX4_addNonces 51 = .ok (.aload_n 0, 1) := by decide +kernel
theorem dX4_addNonces_52 : decode cX4_addNonces 52 = .ok (.getfield 93, 3) := by decide +kernel
theorem dX4_addNonces_55 : decode cX4_addNonces 55 = .ok (.aload_n 0, 1) := by decide +kernel
theorem dX4_addNonces_56 : decode cX4_addNonces 56 = .ok (.getfield 70, 3) := by decide +kernel
theorem dX4_addNonces_59 : decode cX4_addNonces 59 = .ok (.aload_n 0, 1) := by decide +kernel
theorem dX4_addNonces_60 : decode cX4_addNonces 60 = .ok (.getfield 28, 3) := by decide +kernel
theorem dX4_addNonces_63 : decode cX4_addNonces 63 = .ok (.iload_n 1, 1) := by decide +kernel
theorem dX4_addNonces_64 : decode cX4_addNonces 64 = .ok (.aaload, 1) := by decide +kernel
theorem dX4_addNonces_65 : decode cX4_addNonces 65 = .ok (.getfield 240, 3) := by decide +kernel
theorem dX4_addNonces_68 : decode cX4_addNonces 68 = .ok (.invokevirtual 149, 3) := by decide +kernel
theorem dX4_addNonces_71 : decode cX4_addNonces 71 = .ok (.iinc 1 1, 3) := by decide +kernel
theorem dX4_addNonces_74 : decode cX4_addNonces 74 = .ok (.goto (-56), 3) := by decide +kernel
theorem dX4_addNonces_77 : decode cX4_addNonces 77 = .ok (.aload_n 0, 1) := by decide +kernel
theorem dX4_addNonces_78 : decode cX4_addNonces 78 = .ok (.getfield 93, 3) := by decide +kernel
theorem dX4_addNonces_81 : decode cX4_addNonces 81 = .ok (.aload_n 0, 1) := by decide +kernel
theorem dX4_addNonces_82 : decode cX4_addNonces 82 = .ok (.getfield 66, 3) := by decide +kernel
theorem dX4_addNonces_85 : decode cX4_addNonces 85 = .ok (.invokevirtual 153, 3) := by decide +kernel
theorem dX4_addNonces_88 : decode cX4_addNonces 88 = .ok (.aload_n 0, 1) := by decide +kernel
theorem dX4_addNonces_89 : decode cX4_addNonces 89 = .ok (.getfield 93, 3) := by decide +kernel
theorem dX4_addNonces_92 : decode cX4_addNonces 92 = .ok (.aload_n 0, 1) := by decide +kernel
theorem dX4_addNonces_93 : decode cX4_addNonces 93 = .ok (.getfield 70, 3) := by decide +kernel
theorem dX4_addNonces_96 : decode cX4_addNonces 96 = .ok (.invokevirtual 153, 3) := by decide +kernel
theorem dX4_addNonces_99 : decode cX4_addNonces 99 = .ok (.aload_n 0, 1) := by decide +kernel
theorem dX4_addNonces_100 : decode cX4_addNonces 100 = .ok (.getfield 38, 3) := by decide +kernel
theorem dX4_addNonces_103 : decode cX4_addNonces 103 = .ok (.invokevirtual 165, 3) := by decide +kernel
theorem dX4_addNonces_106 : decode cX4_addNonces 106 = .ok (.aload_n 0, 1) := by decide +kernel
theorem dX4_addNonces_107 : decode cX4_addNonces 107 = .ok (.getfield 66, 3) := by decide +kernel
theorem dX4_addNonces_110 : decode cX4_addNonces 110 = .ok (.aload_n 0, 1) := by decide +kernel
theorem dX4_addNonces_111 : decode cX4_addNonces 111 = .ok (.getfield 38, 3) := by decide +kernel
theorem dX4_addNonces_114 : decode cX4_addNonces 114 = .ok (.invokevirtual 236, 3) := by decide +kernel
theorem dX4_addNonces_117 : decode cX4_addNonces 117 = .ok (.aload_n 0, 1) := by decide +kernel
theorem dX4_addNonces_118 : decode cX4_addNonces 118 = .ok (.getfield 70, 3) := by decide +kernel
theorem dX4_addNonces_121 : decode cX4_addNonces 121 = .ok (.aload_n 0, 1) := by decide +kernel
theorem dX4_addNonces_122 : decode cX4_addNonces 122 = .ok (.getfield 38, 3) := by decide +kernel
theorem dX4_addNonces_125 : decode cX4_addNonces 125 = .ok (.invokevirtual 236, 3) := by decide +kernel
theorem dX4_addNonces_128 : decode cX4_addNonces 128 = .ok (.return_, 1) := by decide +kernel
set_option maxRecDepth 20000 in
theorem ggX4_describe_X0_empty : GoodIn wsX4_describe wsX0_empty := goodIn_r _ [9, 10, 58, 59] rfl (by decide +kernel)
set_option maxRecDepth 20000 in
theorem gX4_describe_X0_empty : GoodIn wsX4_describe (wsV RX4 165 RX0 yX0_empty wsX0_empty) := goodIn_app (goodIn_of _ (by decide +kernel)) ggX4_describe_X0_empty
set_option maxRecDepth 20000 in
theorem ggX4_describe_X0_addAll : GoodIn wsX4_describe wsX0_addAll := goodIn_r _ [14, 10, 15, 16, 17, 8, 18, 19, 20, 21, 22, 23, 24, 25, 26, 27, 58, 59] rfl (by decide +kernel)
set_option maxRecDepth 20000 in
theorem gX4_describe_X0_addAll : GoodIn wsX4_describe (wsV RX4 253 RX0 yX0_addAll wsX0_addAll) := goodIn_app (goodIn_of _ (by decide +kernel)) ggX4_describe_X0_addAll
set_option maxRecDepth 20000 in
theorem ggX4_describe_X8_addTo : GoodIn wsX4_describe wsX8_addTo := goodIn_r _ [32, 33, 34, 35, 36, 8, 37, 24, 25, 26, 27, 10, 23, 60, 58, 59] rfl (by decide +kernel)
set_option maxRecDepth 20000 in
theorem gX4_describe_X8_addTo : GoodIn wsX4_describe (wsV RX4 256 RX8 yX8_addTo wsX8_addTo) := goodIn_app (goodIn_of _ (by decide +kernel)) ggX4_describe_X8_addTo
theorem dX4_describe_0 : decode cX4_describe 0 = .ok (.aload_n 2, 1) := by decide +kernel
theorem dX4_describe_1 : decode cX4_describe 1 = .ok (.invokevirtual 165, 3) := by decide +kernel
theorem dX4_describe_4 : decode cX4_describe 4 = .ok (.iload_n 1, 1) := by decide +kernel
theorem dX4_describe_5 : decode cX4_describe 5 = .ok (.tableswitch 75 0 3 #[31, 42, 53, 64], 31) := by decide +kernel
theorem dX4_describe_36 : decode cX4_describe 36 = .ok (.aload_n 2, 1) := by decide +kernel
theorem dX4_describe_37 : decode cX4_describe 37 = .ok (.aload_n 0, 1) := by decide +kernel
theorem dX4_describe_38 : decode cX4_describe 38 = .ok (.getfield 38, 3) := by decide +kernel
theorem dX4_describe_41 : decode cX4_describe 41 = .ok (.invokevirtual 253, 3) := by decide +kernel
theorem dX4_describe_44 : decode cX4_describe 44 = .ok (.goto 36, 3) := by decide +kernel
theorem dX4_describe_47 : decode cX4_describe 47 = .ok (.aload_n 2, 1) := by decide +kernel
theorem dX4_describe_48 : decode cX4_describe 48 = .ok (.aload_n 0, 1) := by decide +kernel
theorem dX4_describe_49 : decode cX4_describe 49 = .ok (.getfield 41, 3) := by decide +kernel
theorem dX4_describe_52 : decode cX4_describe 52 = .ok (.invokevirtual 253, 3) := by decide +kernel
theorem dX4_describe_55 : decode cX4_describe 55 = .ok (.goto 25, 3) := by decide +kernel
theorem dX4_describe_58 : decode cX4_describe 58 = .ok (.aload_n 0, 1) := by decide +kernel
theorem dX4_describe_59 : decode cX4_describe 59 = .ok (.getfield 51, 3) := by decide +kernel
theorem dX4_describe_62 : decode cX4_describe 62 = .ok (.aload_n 2, 1) := by decide +kernel
theorem dX4_describe_63 : decode cX4_describe 63 = .ok (.invokevirtual 256, 3) := by decide +kernel
theorem dX4_describe_66 : decode cX4_describe 66 = .ok (.goto 14, 3) := by decide +kernel
theorem dX4_describe_69 : decode cX4_describe 69 = .ok (.aload_n 0, 1) := by decide +kernel
theorem dX4_describe_70 : decode cX4_describe 70 = .ok (.getfield 47, 3) := by decide +kernel
theorem dX4_describe_73 : decode cX4_describe 73 = .ok (.aload_n 2, 1) := by decide +kernel
theorem dX4_describe_74 : decode cX4_describe 74 = .ok (.invokevirtual 256, 3) := by decide +kernel
theorem dX4_describe_77 : decode cX4_describe 77 = .ok (.goto 3, 3) := by decide +kernel
theorem dX4_describe_80 : decode cX4_describe 80 = .ok (.return_, 1) := by decide +kernel
set_option maxRecDepth 20000 in
theorem ggX4_hasToldNonce_X4_hasMember : GoodIn wsX4_hasToldNonce wsX4_hasMember := goodIn_r _ [9, 10, 22, 23, 24, 25, 26, 27, 28, 29, 30, 31, 32, 33, 34, 35, 36, 37, 38, 39, 40, 41] rfl (by decide +kernel)
set_option maxRecDepth 20000 in
theorem gX4_hasToldNonce_X4_hasMember : GoodIn wsX4_hasToldNonce (wsV RX4 196 RX4 yX4_hasMember wsX4_hasMember) := goodIn_app (goodIn_of _ (by decide +kernel)) ggX4_hasToldNonce_X4_hasMember
set_option maxRecDepth 20000 in
theorem ggX4_hasToldNonce_X0_isLike : GoodIn wsX4_hasToldNonce wsX0_isLike := goodIn_r _ [15, 16, 17, 18, 19, 14, 20, 21, 53, 54] rfl (by decide +kernel)
set_option maxRecDepth 20000 in
theorem gX4_hasToldNonce_X0_isLike : GoodIn wsX4_hasToldNonce (wsV RX4 185 RX0 yX0_isLike wsX0_isLike) := goodIn_app (goodIn_of _ (by decide +kernel)) ggX4_hasToldNonce_X0_isLike
theorem dX4_hasToldNonce_0 : decode cX4_hasToldNonce 0 = .ok (.aload_n 0, 1) := by decide +kernel
theorem dX4_hasToldNonce_1 : decode cX4_hasToldNonce 1 = .ok (.iload_n 1, 1) := by decide +kernel
theorem dX4_hasToldNonce_2 : decode cX4_hasToldNonce 2 = .ok (.invokevirtual 196, 3) := by decide +kernel
theorem dX4_hasToldNonce_5 : decode cX4_hasToldNonce 5 = .ok (.ifCond .eq 43, 3) := by decide +kernel
theorem dX4_hasToldNonce_8 : decode cX4_hasToldNonce 8 = .ok (.aload_n 0, 1) := by decide +kernel
theorem dX4_hasToldNonce_9 : decode cX4_hasToldNonce 9 = .ok (.getfield 28, 3) := by decide +kernel
theorem dX4_hasToldNonce_12 : decode cX4_hasToldNonce 12 = .ok (.iload_n 1, 1) := by decide +kernel
theorem dX4_hasToldNonce_13 : decode cX4_hasToldNonce 13 = .ok (.aaload, 1) := by decide +kernel
theorem dX4_hasToldNonce_14 : decode cX4_hasToldNonce 14 = .ok (.getfield 122, 3) := by decide +kernel
theorem dX4_hasToldNonce_17 : decode cX4_hasToldNonce 17 = .ok (.ifCond .eq 31, 3) := by decide +kernel
theorem dX4_hasToldNonce_20 : decode cX4_hasToldNonce 20 = .ok (.aload_n 0, 1) := by decide +kernel
theorem dX4_hasToldNonce_21 : decode cX4_hasToldNonce 21 = .ok (.getfield 28, 3) := by decide +kernel
theorem dX4_hasToldNonce_24 : decode cX4_hasToldNonce 24 = .ok (.iload_n 1, 1) := by decide +kernel
theorem dX4_hasToldNonce_25 : decode cX4_hasToldNonce 25 = .ok (.aaload, 1) := by decide +kernel
theorem dX4_hasToldNonce_26 : decode cX4_hasToldNonce 26 = .ok (.getfield 230, 3) := by decide +kernel
theorem dX4_hasToldNonce_29 : decode cX4_hasToldNonce 29 = .ok (.aload_n 0, 1) := by decide +kernel
theorem dX4_hasToldNonce_30 : decode cX4_hasToldNonce 30 = .ok (.getfield 28, 3) := by decide +kernel
theorem dX4_hasToldNonce_33 : decode cX4_hasToldNonce 33 = .ok (.iload_n 1, 1) := by decide +kernel
theorem dX4_hasToldNonce_34 : decode cX4_hasToldNonce 34 = .ok (.aaload, 1) := by decide +kernel
theorem dX4_hasToldNonce_35 : decode cX4_hasToldNonce 35 = .ok (.getfield 243, 3) := by decide +kernel
theorem dX4_hasToldNonce_38 : decode cX4_hasToldNonce 38 = .ok (.invokevirtual 185, 3) := by decide +kernel
theorem dX4_hasToldNonce_41 : decode cX4_hasToldNonce 41 = .ok (.ifCond .eq 7, 3) := by decide +kernel
theorem dX4_hasToldNonce_44 : decode cX4_hasToldNonce 44 = .ok (.iconst 1, 1) := by decide +kernel
theorem dX4_hasToldNonce_45 : decode cX4_hasToldNonce 45 = .ok (.goto 4, 3) := by decide +kernel
theorem dX4_hasToldNonce_48 : decode cX4_hasToldNonce 48 = .ok (.iconst 0, 1) := by decide +kernel
theorem dX4_hasToldNonce_49 : decode cX4_hasToldNonce 49 = .ok (.ireturn, 1) := by decide +kernel
set_option maxRecDepth 20000 in
theorem ggX4_makePart_X4_hasMember : GoodIn wsX4_makePart wsX4_hasMember := goodIn_r _ [16, 17, 81, 82, 83, 84, 85, 86, 87, 88, 89, 90, 91, 92, 93, 94, 95, 96, 97, 98, 99, 100] rfl (by decide +kernel)
set_option maxRecDepth 20000 in
theorem gX4_makePart_X4_hasMember : GoodIn wsX4_makePart (wsV RX4 196 RX4 yX4_hasMember wsX4_hasMember) := goodIn_app (goodIn_of _ (by decide +kernel)) ggX4_makePart_X4_hasMember
set_option maxRecDepth 20000 in
theorem ggX4_makePart_X8_product : GoodIn wsX4_makePart wsX8_product := goodIn_r _ [22, 23, 24, 25, 26, 21, 27, 28, 29, 30, 31, 32, 33, 34, 35, 36, 37, 38, 39, 40, 41, 42, 125] rfl (by decide +kernel)
set_option maxRecDepth 20000 in
theorem gX4_makePart_X8_product : GoodIn wsX4_makePart (wsV RX4 257 RX8 yX8_product wsX8_product) := goodIn_app (goodIn_of _ (by decide +kernel)) ggX4_makePart_X8_product
set_option maxRecDepth 20000 in
theorem ggX4_makePart_X8_sum : GoodIn wsX4_makePart wsX8_sum := goodIn_r _ [46, 23, 28, 29, 30, 31, 21, 32, 33, 34, 35, 36, 37, 38, 39, 40, 41, 42, 125] rfl (by decide +kernel)
set_option maxRecDepth 20000 in
theorem gX4_makePart_X8_sum : GoodIn wsX4_makePart (wsV RX4 261 RX8 yX8_sum wsX8_sum) := goodIn_app (goodIn_of _ (by decide +kernel)) ggX4_makePart_X8_sum
set_option maxRecDepth 20000 in
theorem ggX4_makePart_X8_negate : GoodIn wsX4_makePart wsX8_negate := goodIn_r _ [50, 42, 23, 28, 51, 52, 53, 21, 54, 125] rfl (by decide +kernel)
set_option maxRecDepth 20000 in
theorem gX4_makePart_X8_negate : GoodIn wsX4_makePart (wsV RX4 264 RX8 yX8_negate wsX8_negate) := goodIn_app (goodIn_of _ (by decide +kernel)) ggX4_makePart_X8_negate
set_option maxRecDepth 20000 in
theorem ggX4_makePart_X4_weighChallenge : GoodIn wsX4_makePart wsX4_weighChallenge := goodIn_r _ [58, 8, 59, 60, 61, 18, 19, 20, 21, 22, 23, 24, 25, 26, 27, 28, 29, 30, 31, 32, 33, 34, 35, 36, 37, 38, 39, 40, 41, 42, 47, 48, 49, 50, 51, 52, 53, 54, 81, 82, 83, 84, 85, 86, 87, 88, 89, 90, 91, 92, 93, 94, 95, 96, 97, 98, 99, 100, 101, 102, 103, 104, 105, 106, 107, 108, 109, 110, 111, 125] rfl (by decide +kernel)
set_option maxRecDepth 20000 in
theorem gX4_makePart_X4_weighChallenge : GoodIn wsX4_makePart (wsV RX4 267 RX4 yX4_weighChallenge wsX4_weighChallenge) := goodIn_app (goodIn_of _ (by decide +kernel)) ggX4_makePart_X4_weighChallenge
set_option maxRecDepth 20000 in
theorem ggX4_makePart_X0_empty : GoodIn wsX4_makePart wsX0_empty := goodIn_r _ [66, 67, 126, 127] rfl (by decide +kernel)
set_option maxRecDepth 20000 in
theorem gX4_makePart_X0_empty : GoodIn wsX4_makePart (wsV RX4 165 RX0 yX0_empty wsX0_empty) := goodIn_app (goodIn_of _ (by decide +kernel)) ggX4_makePart_X0_empty
set_option maxRecDepth 20000 in
theorem ggX4_makePart_X8_addTo : GoodIn wsX4_makePart wsX8_addTo := goodIn_r _ [71, 23, 72, 73, 74, 65, 75, 76, 77, 78, 79, 67, 80, 125, 126, 127] rfl (by decide +kernel)
set_option maxRecDepth 20000 in
theorem gX4_makePart_X8_addTo : GoodIn wsX4_makePart (wsV RX4 256 RX8 yX8_addTo wsX8_addTo) := goodIn_app (goodIn_of _ (by decide +kernel)) ggX4_makePart_X8_addTo
theorem dX4_makePart_0 : decode cX4_makePart 0 = .ok (.aload_n 0, 1) := by decide +kernel
theorem dX4_makePart_1 : decode cX4_makePart 1 = .ok (.iload_n 1, 1) := by decide +kernel
theorem dX4_makePart_2 : decode cX4_makePart 2 = .ok (.invokevirtual 196, 3) := by decide +kernel
theorem dX4_makePart_5 : decode cX4_makePart 5 = .ok (.ifCond .ne 4, 3) := by decide +kernel
theorem dX4_makePart_8 : decode cX4_makePart 8 = .ok (.return_, 1) := by decide +kernel
theorem dX4_makePart_9 : decode cX4_makePart 9 = .ok (.aload_n 0, 1) := by decide +kernel
theorem dX4_makePart_10 : decode cX4_makePart 10 = .ok (.getfield 28, 3) := by decide +kernel
theorem dX4_makePart_13 : decode cX4_makePart 13 = .ok (.iload_n 1, 1) := by decide +kernel
theorem dX4_makePart_14 : decode cX4_makePart 14 = .ok (.aaload, 1) := by decide +kernel
theorem dX4_makePart_15 : decode cX4_makePart 15 = .ok (.astore_n 3, 1) := by decide +kernel
theorem dX4_makePart_16 : decode cX4_makePart 16 = .ok (.aload_n 0, 1) := by decide +kernel
theorem dX4_makePart_17 : decode cX4_makePart 17 = .ok (.getfield 54, 3) := by decide +kernel
theorem dX4_makePart_20 : decode cX4_makePart 20 = .ok (.aload_n 0, 1) := by decide +kernel
theorem dX4_makePart_21 : decode cX4_makePart 21 = .ok (.getfield 47, 3) := by decide +kernel
theorem dX4_makePart_24 : decode cX4_makePart 24 = .ok (.aload_n 3, 1) := by decide +kernel
theorem dX4_makePart_25 : decode cX4_makePart 25 = .ok (.getfield 220, 3) := by decide +kernel
theorem dX4_makePart_28 : decode cX4_makePart 28 = .ok (.invokevirtual 257, 3) := by decide +kernel
theorem dX4_makePart_31 : decode cX4_makePart 31 = .ok (.aload_n 0, 1) := by decide +kernel
theorem dX4_makePart_32 : decode cX4_makePart 32 = .ok (.getfield 54, 3) := by decide +kernel
theorem dX4_makePart_35 : decode cX4_makePart 35 = .ok (.aload_n 0, 1) := by decide +kernel
theorem dX4_makePart_36 : decode cX4_makePart 36 = .ok (.getfield 54, 3) := by decide +kernel
theorem dX4_makePart_39 : decode cX4_makePart 39 = .ok (.aload_n 3, 1) := by decide +kernel
theorem dX4_makePart_40 : decode cX4_makePart 40 = .ok (.getfield 214, 3) := by decide +kernel
theorem dX4_makePart_43 : decode cX4_makePart 43 = .ok (.invokevirtual 261, 3) := by decide +kernel
theorem dX4_makePart_46 : decode cX4_makePart 46 = .ok (.aload_n 0, 1) := by decide +kernel
theorem dX4_makePart_47 : decode cX4_makePart 47 = .ok (.getfield 76, 3) := by decide +kernel
theorem dX4_makePart_50 : decode cX4_makePart 50 = .ok (.ifCond .eq 10, 3) := by decide +kernel
theorem dX4_makePart_53 : decode cX4_makePart 53 = .ok (.aload_n 0, 1) := by decide +kernel
theorem dX4_makePart_54 : decode cX4_makePart 54 = .ok (.getfield 54, 3) := by decide +kernel
theorem dX4_makePart_57 : decode cX4_makePart 57 = .ok (.invokevirtual 264, 3) := by decide +kernel
theorem dX4_makePart_60 : decode cX4_makePart 60 = .ok (.aload_n 0, 1) := by decide +kernel
theorem dX4_makePart_61 : decode cX4_makePart 61 = .ok (.aload_n 3, 1) := by decide +kernel
theorem dX4_makePart_62 : decode cX4_makePart 62 = .ok (.invokevirtual 267, 3) := by decide +kernel
theorem dX4_makePart_65 : decode cX4_makePart 65 = .ok (.aload_n 0, 1) := by decide +kernel
theorem dX4_makePart_66 : decode cX4_makePart 66 = .ok (.getfield 60, 3) := by decide +kernel
theorem dX4_makePart_69 : decode cX4_makePart 69 = .ok (.aload_n 0, 1) := by decide +kernel
theorem dX4_makePart_70 : decode cX4_makePart 70 = .ok (.getfield 57, 3) := by decide +kernel
theorem dX4_makePart_73 : decode cX4_makePart 73 = .ok (.aload_n 0, 1) := by decide +kernel
theorem dX4_makePart_74 : decode cX4_makePart 74 = .ok (.getfield 83, 3) := by decide +kernel
theorem dX4_makePart_77 : decode cX4_makePart 77 = .ok (.getfield 271, 3) := by decide +kernel
theorem dX4_makePart_80 : decode cX4_makePart 80 = .ok (.invokevirtual 257, 3) := by decide +kernel
theorem dX4_makePart_83 : decode cX4_makePart 83 = .ok (.aload_n 0, 1) := by decide +kernel
theorem dX4_makePart_84 : decode cX4_makePart 84 = .ok (.getfield 54, 3) := by decide +kernel
theorem dX4_makePart_87 : decode cX4_makePart 87 = .ok (.aload_n 0, 1) := by decide +kernel
theorem dX4_makePart_88 : decode cX4_makePart 88 = .ok (.getfield 54, 3) := by decide +kernel
theorem dX4_makePart_91 : decode cX4_makePart 91 = .ok (.aload_n 0, 1) := by decide +kernel
theorem dX4_makePart_92 : decode cX4_makePart 92 = .ok (.getfield 60, 3) := by decide +kernel
theorem dX4_makePart_95 : decode cX4_makePart 95 = .ok (.invokevirtual 261, 3) := by decide +kernel
theorem dX4_makePart_98 : decode cX4_makePart 98 = .ok (.aload_n 2, 1) := by decide +kernel
theorem dX4_makePart_99 : decode cX4_makePart 99 = .ok (.invokevirtual 165, 3) := by decide +kernel
theorem dX4_makePart_102 : decode cX4_makePart 102 = .ok (.aload_n 0, 1) := by decide +kernel
theorem dX4_makePart_103 : decode cX4_makePart 103 = .ok (.getfield 54, 3) := by decide +kernel
theorem dX4_makePart_106 : decode cX4_makePart 106 = .ok (.aload_n 2, 1) := by decide +kernel
theorem dX4_makePart_107 : decode cX4_makePart 107 = .ok (.invokevirtual 256, 3) := by decide +kernel
theorem dX4_makePart_110 : decode cX4_makePart 110 = .ok (.aload_n 3, 1) := by decide +kernel
theorem dX4_makePart_111 : decode cX4_makePart 111 = .ok (.iconst 0, 1) := by decide +kernel
theorem dX4_makePart_112 : decode cX4_makePart 112 = .ok (.putfield 122, 3) := by decide +kernel
theorem dX4_makePart_115 : decode cX4_makePart 115 = .ok (.return_, 1) := by decide +kernel
set_option maxRecDepth 20000 in
theorem ggX4_weighChallenge_X8_product : GoodIn wsX4_weighChallenge wsX8_product := goodIn_r _ [9, 10, 11, 12, 13, 8, 14, 15, 16, 17, 18, 19, 20, 21, 22, 23, 24, 25, 26, 27, 28, 29, 69] rfl (by decide +kernel)
set_option maxRecDepth 20000 in
theorem gX4_weighChallenge_X8_product : GoodIn wsX4_weighChallenge (wsV RX4 257 RX8 yX8_product wsX8_product) := goodIn_app (goodIn_of _ (by decide +kernel)) ggX4_weighChallenge_X8_product
set_option maxRecDepth 20000 in
theorem ggX4_weighChallenge_X8_negate : GoodIn wsX4_weighChallenge wsX8_negate := goodIn_r _ [33, 29, 10, 15, 34, 35, 36, 8, 37, 69] rfl (by decide +kernel)
set_option maxRecDepth 20000 in
theorem gX4_weighChallenge_X8_negate : GoodIn wsX4_weighChallenge (wsV RX4 264 RX8 yX8_negate wsX8_negate) := goodIn_app (goodIn_of _ (by decide +kernel)) ggX4_weighChallenge_X8_negate
theorem dX4_weighChallenge_0 : decode cX4_weighChallenge 0 = .ok (.aload_n 0, 1) := by decide +kernel
theorem dX4_weighChallenge_1 : decode cX4_weighChallenge 1 = .ok (.getfield 57, 3) := by decide +kernel
theorem dX4_weighChallenge_4 : decode cX4_weighChallenge 4 = .ok (.aload_n 0, 1) := by decide +kernel
theorem dX4_weighChallenge_5 : decode cX4_weighChallenge 5 = .ok (.getfield 51, 3) := by decide +kernel
theorem dX4_weighChallenge_8 : decode cX4_weighChallenge 8 = .ok (.aload_n 1, 1) := by decide +kernel
theorem dX4_weighChallenge_9 : decode cX4_weighChallenge 9 = .ok (.getfield 142, 3) := by decide +kernel
theorem dX4_weighChallenge_12 : decode cX4_weighChallenge 12 = .ok (.invokevirtual 257, 3) := by decide +kernel
theorem dX4_weighChallenge_15 : decode cX4_weighChallenge 15 = .ok (.aload_n 0, 1) := by decide +kernel
theorem dX4_weighChallenge_16 : decode cX4_weighChallenge 16 = .ok (.getfield 73, 3) := by decide +kernel
theorem dX4_weighChallenge_19 : decode cX4_weighChallenge 19 = .ok (.ifCond .eq 10, 3) := by decide +kernel
theorem dX4_weighChallenge_22 : decode cX4_weighChallenge 22 = .ok (.aload_n 0, 1) := by decide +kernel
theorem dX4_weighChallenge_23 : decode cX4_weighChallenge 23 = .ok (.getfield 57, 3) := by decide +kernel
theorem dX4_weighChallenge_26 : decode cX4_weighChallenge 26 = .ok (.invokevirtual 264, 3) := by decide +kernel
theorem dX4_weighChallenge_29 : decode cX4_weighChallenge 29 = .ok (.return_, 1) := by decide +kernel
set_option maxRecDepth 20000 in
theorem ggX4_takePart_X8_take : GoodIn wsX4_takePart wsX8_take := goodIn_r _ [6, 7, 8, 9, 10, 11, 12, 13, 14, 15, 16, 17, 18, 19, 20, 5, 21, 22, 43, 44, 45] rfl (by decide +kernel)
set_option maxRecDepth 20000 in
theorem gX4_takePart_X8_take : GoodIn wsX4_takePart (wsV RX4 274 RX8 yX8_take wsX8_take) := goodIn_app (goodIn_of _ (by decide +kernel)) ggX4_takePart_X8_take
theorem dX4_takePart_0 : decode cX4_takePart 0 = .ok (.aload_n 0, 1) := by decide +kernel
theorem dX4_takePart_1 : decode cX4_takePart 1 = .ok (.getfield 54, 3) := by decide +kernel
theorem dX4_takePart_4 : decode cX4_takePart 4 = .ok (.aload_n 1, 1) := by decide +kernel
theorem dX4_takePart_5 : decode cX4_takePart 5 = .ok (.iconst 0, 1) := by decide +kernel
theorem dX4_takePart_6 : decode cX4_takePart 6 = .ok (.invokevirtual 274, 3) := by decide +kernel
theorem dX4_takePart_9 : decode cX4_takePart 9 = .ok (.ireturn, 1) := by decide +kernel
set_option maxRecDepth 20000 in
theorem ggX4_judgePart_X4_hasMember : GoodIn wsX4_judgePart wsX4_hasMember := goodIn_r _ [18, 19, 153, 154, 155, 156, 157, 158, 159, 160, 161, 162, 163, 164, 165, 166, 167, 168, 169, 170, 171, 172] rfl (by decide +kernel)
set_option maxRecDepth 20000 in
theorem gX4_judgePart_X4_hasMember : GoodIn wsX4_judgePart (wsV RX4 196 RX4 yX4_hasMember wsX4_hasMember) := goodIn_app (goodIn_of _ (by decide +kernel)) ggX4_judgePart_X4_hasMember
set_option maxRecDepth 20000 in
theorem ggX4_judgePart_X2_times : GoodIn wsX4_judgePart wsX2_times := goodIn_r _ [24, 25, 26, 27, 28, 29, 30, 31, 32, 33, 34, 35, 36, 37, 38, 39, 40, 41, 42, 43, 44, 45, 46, 47, 48, 49, 50, 51, 52, 23, 53, 54, 55, 56, 57, 58, 59, 60, 61, 62, 63, 64, 65, 66, 67, 68, 69, 70, 71, 72, 73, 74, 75, 76, 77, 78, 79, 80, 81, 82, 83, 84, 85, 86, 87, 88, 89, 90, 91, 92, 93, 94, 95, 96, 97, 98, 99, 100, 101, 102, 103, 104, 105, 106, 107, 108, 184, 185, 186, 187, 188, 189, 190, 191, 192, 193, 194, 195, 196, 197, 198, 199, 200, 201, 202, 203, 204, 205, 206] rfl (by decide +kernel)
set_option maxRecDepth 20000 in
theorem gX4_judgePart_X2_times : GoodIn wsX4_judgePart (wsV RX4 145 RX2 yX2_times wsX2_times) := goodIn_app (goodIn_of _ (by decide +kernel)) ggX4_judgePart_X2_times
set_option maxRecDepth 20000 in
theorem ggX4_judgePart_X2_plus : GoodIn wsX4_judgePart wsX2_plus := goodIn_r _ [53, 26, 54, 55, 56, 57, 58, 59, 60, 61, 27, 28, 29, 30, 31, 32, 33, 34, 35, 36, 37, 38, 39, 40, 41, 42, 43, 44, 45, 46, 47, 48, 49, 62, 63, 64, 65, 66, 67, 68, 69, 70, 71, 72, 73, 74, 75, 76, 77, 78, 79, 80, 81, 82, 83, 84, 85, 86, 87, 88, 89, 90, 91, 92, 93, 94, 95, 96, 97, 23, 98, 99, 100, 101, 102, 193, 194, 195, 196, 184, 185, 186, 187, 188, 189, 190, 191, 192, 197, 198, 199, 200, 201, 202, 203, 204, 205] rfl (by decide +kernel)
set_option maxRecDepth 20000 in
theorem gX4_judgePart_X2_plus : GoodIn wsX4_judgePart (wsV RX4 149 RX2 yX2_plus wsX2_plus) := goodIn_app (goodIn_of _ (by decide +kernel)) ggX4_judgePart_X2_plus
set_option maxRecDepth 20000 in
theorem ggX4_judgePart_X6_negate : GoodIn wsX4_judgePart wsX6_negate := goodIn_r _ [113, 33, 114, 100, 101, 39, 102, 41, 42, 43, 44, 45, 46, 47, 48, 49, 74, 75, 76, 77, 69, 66, 68, 193, 194, 195, 196, 197, 198, 199, 200, 201, 202, 203, 204, 205] rfl (by decide +kernel)
set_option maxRecDepth 20000 in
theorem gX4_judgePart_X6_negate : GoodIn wsX4_judgePart (wsV RX4 277 RX6 yX6_negate wsX6_negate) := goodIn_app (goodIn_of _ (by decide +kernel)) ggX4_judgePart_X6_negate
set_option maxRecDepth 20000 in
theorem ggX4_judgePart_X4_weighChallenge : GoodIn wsX4_judgePart wsX4_weighChallenge := goodIn_r _ [118, 10, 119, 120, 121, 122, 123, 124, 106, 125, 108, 126, 127, 128, 129, 130, 131, 132, 133, 134, 135, 136, 137, 138, 139, 140, 141, 142, 143, 144, 145, 146, 147, 148, 149, 150, 151, 152, 153, 154, 155, 156, 157, 158, 159, 160, 161, 162, 163, 164, 165, 166, 167, 168, 169, 170, 171, 172, 173, 174, 175, 176, 177, 178, 179, 180, 181, 182, 183, 206] rfl (by decide +kernel)
set_option maxRecDepth 20000 in
theorem gX4_judgePart_X4_weighChallenge : GoodIn wsX4_judgePart (wsV RX4 267 RX4 yX4_weighChallenge wsX4_weighChallenge) := goodIn_app (goodIn_of _ (by decide +kernel)) ggX4_judgePart_X4_weighChallenge
set_option maxRecDepth 20000 in
theorem ggX4_judgePart_X8_negate : GoodIn wsX4_judgePart wsX8_negate := goodIn_r _ [148, 144, 108, 130, 149, 150, 151, 106, 152, 206] rfl (by decide +kernel)
set_option maxRecDepth 20000 in
theorem gX4_judgePart_X8_negate : GoodIn wsX4_judgePart (wsV RX4 264 RX8 yX8_negate wsX8_negate) := goodIn_app (goodIn_of _ (by decide +kernel)) ggX4_judgePart_X8_negate
theorem dX4_judgePart_0 : decode cX4_judgePart 0 = .ok (.aload_n 0, 1) := by decide +kernel
theorem dX4_judgePart_1 : decode cX4_judgePart 1 = .ok (.iload_n 1, 1) := by decide +kernel
theorem dX4_judgePart_2 : decode cX4_judgePart 2 = .ok (.invokevirtual 196, 3) := by decide +kernel
theorem dX4_judgePart_5 : decode cX4_judgePart 5 = .ok (.ifCond .ne 5, 3) := by decide +kernel
theorem dX4_judgePart_8 : decode cX4_judgePart 8 = .ok (.iconst 0, 1) := by decide +kernel
theorem dX4_judgePart_9 : decode cX4_judgePart 9 = .ok (.ireturn, 1) := by decide +kernel
theorem dX4_judgePart_10 : decode cX4_judgePart 10 = .ok (.aload_n 0, 1) := by decide +kernel
theorem dX4_judgePart_11 : decode cX4_judgePart 11 = .ok (.getfield 28, 3) := by decide +kernel
theorem dX4_judgePart_14 : decode cX4_judgePart 14 = .ok (.iload_n 1, 1) := by decide +kernel
theorem dX4_judgePart_15 : decode cX4_judgePart 15 = .ok (.aaload, 1) := by decide +kernel
theorem dX4_judgePart_16 : decode cX4_judgePart 16 = .ok (.astore_n 2, 1) := by decide +kernel
theorem dX4_judgePart_17 : decode cX4_judgePart 17 = .ok (.aload_n 0, 1) := by decide +kernel
theorem dX4_judgePart_18 : decode cX4_judgePart 18 = .ok (.getfield 93, 3) := by decide +kernel
theorem dX4_judgePart_21 : decode cX4_judgePart 21 = .ok (.aload_n 0, 1) := by decide +kernel
theorem dX4_judgePart_22 : decode cX4_judgePart 22 = .ok (.getfield 66, 3) := by decide +kernel
theorem dX4_judgePart_25 : decode cX4_judgePart 25 = .ok (.aload_n 2, 1) := by decide +kernel
theorem dX4_judgePart_26 : decode cX4_judgePart 26 = .ok (.getfield 240, 3) := by decide +kernel
theorem dX4_judgePart_29 : decode cX4_judgePart 29 = .ok (.aload_n 0, 1) := by decide +kernel
theorem dX4_judgePart_30 : decode cX4_judgePart 30 = .ok (.getfield 47, 3) := by decide +kernel
theorem dX4_judgePart_33 : decode cX4_judgePart 33 = .ok (.invokevirtual 145, 3) := by decide +kernel
theorem dX4_judgePart_36 : decode cX4_judgePart 36 = .ok (.aload_n 0, 1) := by decide +kernel
theorem dX4_judgePart_37 : decode cX4_judgePart 37 = .ok (.getfield 93, 3) := by decide +kernel
theorem dX4_judgePart_40 : decode cX4_judgePart 40 = .ok (.aload_n 0, 1) := by decide +kernel
theorem dX4_judgePart_41 : decode cX4_judgePart 41 = .ok (.getfield 66, 3) := by decide +kernel
theorem dX4_judgePart_44 : decode cX4_judgePart 44 = .ok (.aload_n 2, 1) := by decide +kernel
theorem dX4_judgePart_45 : decode cX4_judgePart 45 = .ok (.getfield 237, 3) := by decide +kernel
theorem dX4_judgePart_48 : decode cX4_judgePart 48 = .ok (.invokevirtual 149, 3) := by decide +kernel
theorem dX4_judgePart_51 : decode cX4_judgePart 51 = .ok (.aload_n 0, 1) := by decide +kernel
theorem dX4_judgePart_52 : decode cX4_judgePart 52 = .ok (.getfield 76, 3) := by decide +kernel
theorem dX4_judgePart_55 : decode cX4_judgePart 55 = .ok (.ifCond .eq 10, 3) := by decide +kernel
theorem dX4_judgePart_58 : decode cX4_judgePart 58 = .ok (.aload_n 0, 1) := by decide +kernel
theorem dX4_judgePart_59 : decode cX4_judgePart 59 = .ok (.getfield 66, 3) := by decide +kernel
theorem dX4_judgePart_62 : decode cX4_judgePart 62 = .ok (.invokevirtual 277, 3) := by decide +kernel
theorem dX4_judgePart_65 : decode cX4_judgePart 65 = .ok (.aload_n 0, 1) := by decide +kernel
theorem dX4_judgePart_66 : decode cX4_judgePart 66 = .ok (.aload_n 2, 1) := by decide +kernel
theorem dX4_judgePart_67 : decode cX4_judgePart 67 = .ok (.invokevirtual 267, 3) := by decide +kernel
theorem dX4_judgePart_70 : decode cX4_judgePart 70 = .ok (.aload_n 0, 1) := by decide +kernel
theorem dX4_judgePart_71 : decode cX4_judgePart 71 = .ok (.getfield 93, 3) := by decide +kernel
theorem dX4_judgePart_74 : decode cX4_judgePart 74 = .ok (.aload_n 0, 1) := by decide +kernel
theorem dX4_judgePart_75 : decode cX4_judgePart 75 = .ok (.getfield 70, 3) := by decide +kernel
theorem dX4_judgePart_78 : decode cX4_judgePart 78 = .ok (.aload_n 2, 1) := by decide +kernel
theorem dX4_judgePart_79 : decode cX4_judgePart 79 = .ok (.getfield 115, 3) := by decide +kernel
theorem dX4_judgePart_82 : decode cX4_judgePart 82 = .ok (.aload_n 0, 1) := by decide +kernel
theorem dX4_judgePart_83 : decode cX4_judgePart 83 = .ok (.getfield 57, 3) := by decide +kernel
theorem dX4_judgePart_86 : decode cX4_judgePart 86 = .ok (.invokevirtual 145, 3) := by decide +kernel
theorem dX4_judgePart_89 : decode cX4_judgePart 89 = .ok (.aload_n 0, 1) := by decide +kernel
theorem dX4_judgePart_90 : decode cX4_judgePart 90 = .ok (.getfield 93, 3) := by decide +kernel
theorem dX4_judgePart_93 : decode cX4_judgePart 93 = .ok (.aload_n 0, 1) := by decide +kernel
theorem dX4_judgePart_94 : decode cX4_judgePart 94 = .ok (.getfield 66, 3) := by decide +kernel
theorem dX4_judgePart_97 : decode cX4_judgePart 97 = .ok (.aload_n 0, 1) := by decide +kernel
theorem dX4_judgePart_98 : decode cX4_judgePart 98 = .ok (.getfield 70, 3) := by decide +kernel
theorem dX4_judgePart_101 : decode cX4_judgePart 101 = .ok (.invokevirtual 149, 3) := by decide +kernel
theorem dX4_judgePart_104 : decode cX4_judgePart 104 = .ok (.aload_n 0, 1) := by decide +kernel
theorem dX4_judgePart_105 : decode cX4_judgePart 105 = .ok (.getfield 54, 3) := by decide +kernel
theorem dX4_judgePart_108 : decode cX4_judgePart 108 = .ok (.invokevirtual 264, 3) := by decide +kernel
theorem dX4_judgePart_111 : decode cX4_judgePart 111 = .ok (.aload_n 0, 1) := by decide +kernel
theorem dX4_judgePart_112 : decode cX4_judgePart 112 = .ok (.getfield 93, 3) := by decide +kernel
theorem dX4_judgePart_115 : decode cX4_judgePart 115 = .ok (.aload_n 0, 1) := by decide +kernel
theorem dX4_judgePart_116 : decode cX4_judgePart 116 = .ok (.getfield 70, 3) := by decide +kernel
theorem dX4_judgePart_119 : decode cX4_judgePart 119 = .ok (.aload_n 0, 1) := by decide +kernel
theorem dX4_judgePart_120 : decode cX4_judgePart 120 = .ok (.getfield 93, 3) := by decide +kernel
theorem dX4_judgePart_123 : decode cX4_judgePart 123 = .ok (.getfield 233, 3) := by decide +kernel
theorem dX4_judgePart_126 : decode cX4_judgePart 126 = .ok (.aload_n 0, 1) := by decide +kernel
theorem dX4_judgePart_127 : decode cX4_judgePart 127 = .ok (.getfield 54, 3) := by decide +kernel
theorem dX4_judgePart_130 : decode cX4_judgePart 130 = .ok (.invokevirtual 145, 3) := by decide +kernel
theorem dX4_judgePart_133 : decode cX4_judgePart 133 = .ok (.aload_n 0, 1) := by decide +kernel
theorem dX4_judgePart_134 : decode cX4_judgePart 134 = .ok (.getfield 93, 3) := by decide +kernel
theorem dX4_judgePart_137 : decode cX4_judgePart 137 = .ok (.aload_n 0, 1) := by decide +kernel
theorem dX4_judgePart_138 : decode cX4_judgePart 138 = .ok (.getfield 66, 3) := by decide +kernel
theorem dX4_judgePart_141 : decode cX4_judgePart 141 = .ok (.aload_n 0, 1) := by decide +kernel
theorem dX4_judgePart_142 : decode cX4_judgePart 142 = .ok (.getfield 70, 3) := by decide +kernel
theorem dX4_judgePart_145 : decode cX4_judgePart 145 = .ok (.invokevirtual 149, 3) := by decide +kernel
theorem dX4_judgePart_148 : decode cX4_judgePart 148 = .ok (.aload_n 0, 1) := by decide +kernel
theorem dX4_judgePart_149 : decode cX4_judgePart 149 = .ok (.getfield 66, 3) := by decide +kernel
theorem dX4_judgePart_152 : decode cX4_judgePart 152 = .ok (.getfield 135, 3) := by decide +kernel
theorem dX4_judgePart_155 : decode cX4_judgePart 155 = .ok (.ireturn, 1) := by decide +kernel
set_option maxRecDepth 20000 in
theorem ggX4_beginSum_X8_becomeNumber : GoodIn wsX4_beginSum wsX8_becomeNumber := goodIn_r _ [6, 7, 8, 29] rfl (by decide +kernel)
set_option maxRecDepth 20000 in
theorem gX4_beginSum_X8_becomeNumber : GoodIn wsX4_beginSum (wsV RX4 189 RX8 yX8_becomeNumber wsX8_becomeNumber) := goodIn_app (goodIn_of _ (by decide +kernel)) ggX4_beginSum_X8_becomeNumber
theorem dX4_beginSum_0 : decode cX4_beginSum 0 = .ok (.aload_n 0, 1) := by decide +kernel
theorem dX4_beginSum_1 : decode cX4_beginSum 1 = .ok (.getfield 60, 3) := by decide +kernel
theorem dX4_beginSum_4 : decode cX4_beginSum 4 = .ok (.lconst 0, 1) := by decide +kernel
theorem dX4_beginSum_5 : decode cX4_beginSum 5 = .ok (.invokevirtual 189, 3) := by decide +kernel
theorem dX4_beginSum_8 : decode cX4_beginSum 8 = .ok (.return_, 1) := by decide +kernel
set_option maxRecDepth 20000 in
theorem ggX4_addToSum_X8_sum : GoodIn wsX4_addToSum wsX8_sum := goodIn_r _ [7, 8, 9, 10, 11, 12, 6, 13, 14, 15, 16, 17, 18, 19, 20, 21, 22, 23, 44] rfl (by decide +kernel)
set_option maxRecDepth 20000 in
theorem gX4_addToSum_X8_sum : GoodIn wsX4_addToSum (wsV RX4 261 RX8 yX8_sum wsX8_sum) := goodIn_app (goodIn_of _ (by decide +kernel)) ggX4_addToSum_X8_sum
theorem dX4_addToSum_0 : decode cX4_addToSum 0 = .ok (.aload_n 0, 1) := by decide +kernel
theorem dX4_addToSum_1 : decode cX4_addToSum 1 = .ok (.getfield 60, 3) := by decide +kernel
theorem dX4_addToSum_4 : decode cX4_addToSum 4 = .ok (.aload_n 0, 1) := by decide +kernel
theorem dX4_addToSum_5 : decode cX4_addToSum 5 = .ok (.getfield 60, 3) := by decide +kernel
theorem dX4_addToSum_8 : decode cX4_addToSum 8 = .ok (.aload_n 0, 1) := by decide +kernel
theorem dX4_addToSum_9 : decode cX4_addToSum 9 = .ok (.getfield 54, 3) := by decide +kernel
theorem dX4_addToSum_12 : decode cX4_addToSum 12 = .ok (.invokevirtual 261, 3) := by decide +kernel
theorem dX4_addToSum_15 : decode cX4_addToSum 15 = .ok (.return_, 1) := by decide +kernel
set_option maxRecDepth 20000 in
theorem ggX4_tellSum_X0_become : GoodIn wsX4_tellSum wsX0_become := goodIn_r _ [7, 8, 9, 10, 6, 11, 12, 13, 14, 15, 16, 17, 18, 19, 20, 21, 22, 23, 24, 25, 26, 27, 28, 29, 60, 61] rfl (by decide +kernel)
set_option maxRecDepth 20000 in
theorem gX4_tellSum_X0_become : GoodIn wsX4_tellSum (wsV RX4 111 RX0 yX0_become wsX0_become) := goodIn_app (goodIn_of _ (by decide +kernel)) ggX4_tellSum_X0_become
set_option maxRecDepth 20000 in
theorem ggX4_tellSum_X8_addTo : GoodIn wsX4_tellSum wsX8_addTo := goodIn_r _ [34, 35, 36, 37, 38, 6, 39, 26, 27, 28, 29, 12, 25, 62, 60, 61] rfl (by decide +kernel)
set_option maxRecDepth 20000 in
theorem gX4_tellSum_X8_addTo : GoodIn wsX4_tellSum (wsV RX4 256 RX8 yX8_addTo wsX8_addTo) := goodIn_app (goodIn_of _ (by decide +kernel)) ggX4_tellSum_X8_addTo
theorem dX4_tellSum_0 : decode cX4_tellSum 0 = .ok (.aload_n 1, 1) := by decide +kernel
theorem dX4_tellSum_1 : decode cX4_tellSum 1 = .ok (.aload_n 0, 1) := by decide +kernel
theorem dX4_tellSum_2 : decode cX4_tellSum 2 = .ok (.getfield 41, 3) := by decide +kernel
theorem dX4_tellSum_5 : decode cX4_tellSum 5 = .ok (.invokevirtual 111, 3) := by decide +kernel
theorem dX4_tellSum_8 : decode cX4_tellSum 8 = .ok (.aload_n 0, 1) := by decide +kernel
theorem dX4_tellSum_9 : decode cX4_tellSum 9 = .ok (.getfield 60, 3) := by decide +kernel
theorem dX4_tellSum_12 : decode cX4_tellSum 12 = .ok (.aload_n 1, 1) := by decide +kernel
theorem dX4_tellSum_13 : decode cX4_tellSum 13 = .ok (.invokevirtual 256, 3) := by decide +kernel
theorem dX4_tellSum_16 : decode cX4_tellSum 16 = .ok (.return_, 1) := by decide +kernel
