set_option maxRecDepth 20000 in
theorem ggX12_key_X12_isRow : GoodIn wsX12_key wsX12_isRow := goodIn_r _ [7, 8, 9, 10, 6, 11] rfl (by decide +kernel)
set_option maxRecDepth 20000 in
theorem gX12_key_X12_isRow : GoodIn wsX12_key (va_wsS RX12 460 yX12_isRow wsX12_isRow) := goodIn_app (goodIn_of _ (by decide +kernel)) ggX12_key_X12_isRow
set_option maxRecDepth 20000 in
theorem ggX12_key_X12_in : GoodIn wsX12_key wsX12_in := goodIn_r _ [11] rfl (by decide +kernel)
set_option maxRecDepth 20000 in
theorem gX12_key_X12_in : GoodIn wsX12_key (va_wsS RX12 361 yX12_in wsX12_in) := goodIn_app (goodIn_of _ (by decide +kernel)) ggX12_key_X12_in
set_option maxRecDepth 20000 in
theorem ggX12_key_X12_isSecret : GoodIn wsX12_key wsX12_isSecret := goodIn_r _ [15, 16, 2, 17, 18, 19, 20, 6, 21, 22, 23, 24, 25, 26, 27, 116, 117, 118, 119, 120, 121, 122, 123, 124, 125, 126, 127, 128, 129, 130, 131, 132, 133, 134, 135, 136, 137, 138, 139, 140, 141, 142, 143, 144, 145, 146, 147, 148, 149, 150, 151, 152, 153, 154, 155, 156, 157, 158, 159, 160, 161, 162, 163, 164, 165, 166, 167, 168, 169, 170, 171, 172, 173, 174, 175, 176, 177, 178, 179, 180, 181, 182, 183, 184, 185, 186, 187, 188, 189, 190, 191, 192, 193, 194, 195, 196] rfl (by decide +kernel)
set_option maxRecDepth 20000 in
theorem gX12_key_X12_isSecret : GoodIn wsX12_key (wsV RX12 481 RX12 yX12_isSecret wsX12_isSecret) := goodIn_app (goodIn_of _ (by decide +kernel)) ggX12_key_X12_isSecret
set_option maxRecDepth 20000 in
theorem ggX12_key_X12_isSpent : GoodIn wsX12_key wsX12_isSpent := goodIn_r _ [31, 1, 116, 117, 118, 119, 120, 121, 122, 123, 124, 125, 126, 127, 128, 129, 130, 131, 132, 133, 134, 135, 136, 137, 138, 139, 140, 141, 142, 143, 144, 145, 146, 147, 148, 149, 150, 151, 152, 153, 154, 155, 156, 157, 158, 159, 160, 161, 162, 163, 164, 165, 166, 167, 168, 169, 170, 171, 172, 173, 174, 175, 176, 177, 178, 179, 180, 181, 182, 183, 184, 185, 186, 187, 188, 189, 190, 191, 192, 193, 194, 195, 196] rfl (by decide +kernel)
set_option maxRecDepth 20000 in
theorem gX12_key_X12_isSpent : GoodIn wsX12_key (wsV RX12 484 RX12 yX12_isSpent wsX12_isSpent) := goodIn_app (goodIn_of _ (by decide +kernel)) ggX12_key_X12_isSpent
set_option maxRecDepth 20000 in
theorem ggX12_key_X12_generator : GoodIn wsX12_key wsX12_generator := goodIn_r _ [35, 36, 37, 38, 39, 40, 41, 6, 42, 116, 117, 118, 119, 120, 121, 122, 123, 124, 125, 126, 127, 128, 129, 130, 131, 132, 133, 134, 135, 136, 137, 138, 139, 140, 141, 142, 143, 144, 145, 146, 147, 148, 149, 150, 151, 152, 153, 154, 155, 156, 157, 158, 159, 160, 161, 162, 163, 164, 165, 166, 167, 168, 169, 170, 171, 172, 173, 174, 175, 176, 177, 178, 179, 180, 181, 182, 183, 184, 185, 186, 187, 188, 189, 190, 191, 192, 193, 194, 195, 196] rfl (by decide +kernel)
set_option maxRecDepth 20000 in
theorem gX12_key_X12_generator : GoodIn wsX12_key (wsV RX12 487 RX12 yX12_generator wsX12_generator) := goodIn_app (goodIn_of _ (by decide +kernel)) ggX12_key_X12_generator
set_option maxRecDepth 20000 in
theorem ggX12_key_X12_multiply : GoodIn wsX12_key wsX12_multiply := goodIn_r _ [46, 47, 48, 49, 6, 50, 51, 52, 53, 54, 55, 56, 57, 58, 59, 60, 61, 62, 63, 22, 23, 24, 64, 65, 66, 67, 68, 69, 70, 71, 72, 73, 74, 75, 18, 76, 25, 26, 27, 77, 78, 79, 80, 81, 82, 83, 84, 85, 86, 87, 88, 40, 41, 42, 89, 90, 91, 92, 36, 38, 93, 94, 95, 96, 97, 98, 99, 100, 101, 102, 103, 116, 117, 118, 119, 120, 121, 122, 123, 124, 125, 126, 127, 128, 129, 130, 131, 132, 133, 134, 135, 136, 137, 138, 139, 140, 141, 142, 143, 144, 145, 146, 147, 148, 149, 150, 151, 152, 153, 154, 155, 156, 157, 158, 159, 160, 161, 162, 163, 164, 165, 166, 167, 168, 169, 170, 171, 172, 173, 174, 175, 176, 177, 178, 179, 180, 181, 182, 183, 184, 185, 186, 187, 188, 189, 190, 191, 192, 193, 194, 195, 196] rfl (by decide +kernel)
set_option maxRecDepth 20000 in
theorem gX12_key_X12_multiply : GoodIn wsX12_key (wsV RX12 490 RX12 yX12_multiply wsX12_multiply) := goodIn_app (goodIn_of _ (by decide +kernel)) ggX12_key_X12_multiply
set_option maxRecDepth 20000 in
theorem ggX12_key_X12_tells : GoodIn wsX12_key wsX12_tells := goodIn_r _ [107, 47, 59, 57, 22, 23, 6, 24, 108, 109, 110, 111, 116, 117, 118, 119, 120, 121, 122, 123, 124, 125, 126, 127, 128, 129, 130, 131, 132, 133, 134, 135, 136, 137, 138, 139, 140, 141, 142, 143, 144, 145, 146, 147, 148, 149, 150, 151, 152, 153, 154, 155, 156, 157, 158, 159, 160, 161, 162, 163, 164, 165, 166, 167, 168, 169, 170, 171, 172, 173, 174, 175, 176, 177, 178, 179, 180, 181, 182, 183, 184, 185, 186, 187, 188, 189, 190, 191, 192, 193, 194, 195, 196] rfl (by decide +kernel)
set_option maxRecDepth 20000 in
theorem gX12_key_X12_tells : GoodIn wsX12_key (wsV RX12 494 RX12 yX12_tells wsX12_tells) := goodIn_app (goodIn_of _ (by decide +kernel)) ggX12_key_X12_tells
set_option maxRecDepth 20000 in
theorem ggX12_key_X12_gives : GoodIn wsX12_key wsX12_gives := goodIn_r _ [115, 17, 3, 16, 116, 117, 118, 119, 120, 121, 122, 123, 124, 125, 126, 127, 128, 129, 130, 131, 132, 133, 134, 135, 136, 137, 138, 139, 140, 141, 142, 143, 144, 145, 146, 147, 148, 149, 150, 151, 152, 153, 154, 155, 156, 157, 158, 159, 160, 161, 162, 163, 164, 165, 166, 167, 168, 169, 170, 171, 172, 173, 174, 175, 176, 177, 178, 179, 180, 181, 182, 183, 184, 185, 186, 187, 188, 189, 190, 191, 192, 193, 194, 195, 196] rfl (by decide +kernel)
set_option maxRecDepth 20000 in
theorem gX12_key_X12_gives : GoodIn wsX12_key (wsV RX12 475 RX12 yX12_gives wsX12_gives) := goodIn_app (goodIn_of _ (by decide +kernel)) ggX12_key_X12_gives
theorem dX12_key_0 : decode cX12_key 0 = .ok (.iload_n 1, 1) := by decide +kernel
theorem dX12_key_1 : decode cX12_key 1 = .ok (.invokestatic 460, 3) := by decide +kernel
theorem dX12_key_4 : decode cX12_key 4 = .ok (.ifCond .eq 20, 3) := by decide +kernel
theorem dX12_key_7 : decode cX12_key 7 = .ok (.iload_n 2, 1) := by decide +kernel
theorem dX12_key_8 : decode cX12_key 8 = .ok (.invokestatic 460, 3) := by decide +kernel
theorem dX12_key_11 : decode cX12_key 11 = .ok (.ifCond .eq 13, 3) := by decide +kernel
theorem dX12_key_14 : decode cX12_key 14 = .ok (.iload_n 3, 1) := by decide +kernel
theorem dX12_key_15 : decode cX12_key 15 = .ok (.i2l, 1) := by decide +kernel
theorem dX12_key_16 : decode cX12_key 16 = .ok (.lconst 0, 1) := by decide +kernel
theorem dX12_key_17 : decode cX12_key 17 = .ok (.lconst 1, 1) := by decide +kernel
theorem dX12_key_18 : decode cX12_key 18 = .ok (.invokestatic 361, 3) := by decide +kernel
theorem dX12_key_21 : decode cX12_key 21 = .ok (.ifCond .ne 5, 3) := by decide +kernel
theorem dX12_key_24 : decode cX12_key 24 = .ok (.iconst (-1), 1) := by decide +kernel
theorem dX12_key_25 : decode cX12_key 25 = .ok (.ireturn, 1) := by decide +kernel
theorem dX12_key_26 : decode cX12_key 26 = .ok (.aload_n 0, 1) := by decide +kernel
theorem dX12_key_27 : decode cX12_key 27 = .ok (.iload_n 2, 1) := by decide +kernel
theorem dX12_key_28 : decode cX12_key 28 = .ok (.invokevirtual 481, 3) := by decide +kernel
theorem dX12_key_31 : decode cX12_key 31 = .ok (.ifCond .ne 6, 3) := by decide +kernel
theorem dX12_key_34 : decode cX12_key 34 = .ok (.bipush (-2), 2) := by decide +kernel
theorem dX12_key_36 : decode cX12_key 36 = .ok (.ireturn, 1) := by decide +kernel
theorem dX12_key_37 : decode cX12_key 37 = .ok (.aload_n 0, 1) := by decide +kernel
theorem dX12_key_38 : decode cX12_key 38 = .ok (.iconst 1, 1) := by decide +kernel
theorem dX12_key_39 : decode cX12_key 39 = .ok (.invokevirtual 484, 3) := by decide +kernel
theorem dX12_key_42 : decode cX12_key 42 = .ok (.ifCond .eq 6, 3) := by decide +kernel
theorem dX12_key_45 : decode cX12_key 45 = .ok (.bipush (-5), 2) := by decide +kernel
theorem dX12_key_47 : decode cX12_key 47 = .ok (.ireturn, 1) := by decide +kernel
theorem dX12_key_48 : decode cX12_key 48 = .ok (.aload_n 0, 1) := by decide +kernel
theorem dX12_key_49 : decode cX12_key 49 = .ok (.dup, 1) := by decide +kernel
theorem dX12_key_50 : decode cX12_key 50 = .ok (.getfield 478, 3) := by decide +kernel
theorem dX12_key_53 : decode cX12_key 53 = .ok (.iconst 1, 1) := by decide +kernel
theorem dX12_key_54 : decode cX12_key 54 = .ok (.iadd, 1) := by decide +kernel
theorem dX12_key_55 : decode cX12_key 55 = .ok (.putfield 478, 3) := by decide +kernel
theorem dX12_key_58 : decode cX12_key 58 = .ok (.aload_n 0, 1) := by decide +kernel
theorem dX12_key_59 : decode cX12_key 59 = .ok (.invokevirtual 487, 3) := by decide +kernel
theorem dX12_key_62 : decode cX12_key 62 = .ok (.aload_n 0, 1) := by decide +kernel
theorem dX12_key_63 : decode cX12_key 63 = .ok (.aload_n 0, 1) := by decide +kernel
theorem dX12_key_64 : decode cX12_key 64 = .ok (.getfield 305, 3) := by decide +kernel
theorem dX12_key_67 : decode cX12_key 67 = .ok (.invokevirtual 490, 3) := by decide +kernel
theorem dX12_key_70 : decode cX12_key 70 = .ok (.aload_n 0, 1) := by decide +kernel
theorem dX12_key_71 : decode cX12_key 71 = .ok (.aload_n 0, 1) := by decide +kernel
theorem dX12_key_72 : decode cX12_key 72 = .ok (.getfield 302, 3) := by decide +kernel
theorem dX12_key_75 : decode cX12_key 75 = .ok (.iconst 0, 1) := by decide +kernel
theorem dX12_key_76 : decode cX12_key 76 = .ok (.invokevirtual 494, 3) := by decide +kernel
theorem dX12_key_79 : decode cX12_key 79 = .ok (.iconst 0, 1) := by decide +kernel
theorem dX12_key_80 : decode cX12_key 80 = .ok (.istore 4, 2) := by decide +kernel
theorem dX12_key_82 : decode cX12_key 82 = .ok (.iload 4, 2) := by decide +kernel
theorem dX12_key_84 : decode cX12_key 84 = .ok (.bipush 32, 2) := by decide +kernel
theorem dX12_key_86 : decode cX12_key 86 = .ok (.if_icmp .ge 29, 3) := by decide +kernel
theorem dX12_key_89 : decode cX12_key 89 = .ok (.iload_n 3, 1) := by decide +kernel
theorem dX12_key_90 : decode cX12_key 90 = .ok (.ifCond .ne 25, 3) := by decide +kernel
theorem dX12_key_93 : decode cX12_key 93 = .ok (.aload_n 0, 1) := by decide +kernel
theorem dX12_key_94 : decode cX12_key 94 = .ok (.getfield 302, 3) := by decide +kernel
theorem dX12_key_97 : decode cX12_key 97 = .ok (.iload 4, 2) := by decide +kernel
theorem dX12_key_99 : decode cX12_key 99 = .ok (.aload_n 0, 1) := by decide +kernel
theorem dX12_key_100 : decode cX12_key 100 = .ok (.getfield 302, 3) := by decide +kernel
theorem dX12_key_103 : decode cX12_key 103 = .ok (.iload 4, 2) := by decide +kernel
theorem dX12_key_105 : decode cX12_key 105 = .ok (.iconst 1, 1) := by decide +kernel
theorem dX12_key_106 : decode cX12_key 106 = .ok (.iadd, 1) := by decide +kernel
theorem dX12_key_107 : decode cX12_key 107 = .ok (.iaload, 1) := by decide +kernel
theorem dX12_key_108 : decode cX12_key 108 = .ok (.iastore, 1) := by decide +kernel
theorem dX12_key_109 : decode cX12_key 109 = .ok (.iinc 4 1, 3) := by decide +kernel
theorem dX12_key_112 : decode cX12_key 112 = .ok (.goto (-30), 3) := by decide +kernel
theorem dX12_key_115 : decode cX12_key 115 = .ok (.aload_n 0, 1) := by decide +kernel
theorem dX12_key_116 : decode cX12_key 116 = .ok (.iload_n 1, 1) := by decide +kernel
theorem dX12_key_117 : decode cX12_key 117 = .ok (.iload_n 3, 1) := by decide +kernel
theorem dX12_key_118 : decode cX12_key 118 = .ok (.ifCond .ne 8, 3) := by decide +kernel
theorem dX12_key_121 : decode cX12_key 121 = .ok (.bipush 32, 2) := by decide +kernel
theorem dX12_key_123 : decode cX12_key 123 = .ok (.goto 5, 3) := by decide +kernel
theorem dX12_key_126 : decode cX12_key 126 = .ok (.bipush 33, 2) := by decide +kernel
theorem dX12_key_128 : decode cX12_key 128 = .ok (.invokevirtual 475, 3) := by decide +kernel
theorem dX12_key_131 : decode cX12_key 131 = .ok (.ireturn, 1) := by decide +kernel
set_option maxRecDepth 20000 in
theorem ggX12_mix_X12_begin : GoodIn wsX12_mix wsX12_begin := goodIn_r _ [9, 10, 11, 12, 13, 4, 14, 15, 16, 17, 8, 18, 19, 20, 21, 22, 23, 24, 25, 26, 27, 28, 29, 30, 31, 32, 33, 34, 35, 36, 37, 54, 55, 56, 57, 58, 59, 60, 61, 62, 63, 64, 65, 66, 67, 68, 69, 70, 71, 72, 73, 74, 75, 76, 77, 78, 79, 80, 81, 82, 83, 84, 85, 86, 87, 88, 89, 90, 91, 92, 93, 94, 95, 96, 97, 98, 99, 100, 101, 102, 103, 104, 105, 106, 107, 108, 109, 110, 111, 112, 113, 114, 115, 116, 117, 118, 119, 120, 121, 122, 123, 124, 125, 126, 127, 128, 129, 130, 131, 132, 133, 134] rfl (by decide +kernel)
set_option maxRecDepth 20000 in
theorem gX12_mix_X12_begin : GoodIn wsX12_mix (wsV RX12 468 RX12 yX12_begin wsX12_begin) := goodIn_app (goodIn_of _ (by decide +kernel)) ggX12_mix_X12_begin
set_option maxRecDepth 20000 in
theorem ggX12_mix_X12_putAll : GoodIn wsX12_mix wsX12_putAll := goodIn_r _ [41, 42, 43, 44, 8, 45, 13, 14, 54, 55, 56, 57, 58, 59, 60, 61, 62, 63, 64, 65, 66, 67, 68, 69, 70, 71, 72, 73, 74, 75, 76, 77, 78, 79, 80, 81, 82, 83, 84, 85, 86, 87, 88, 89, 90, 91, 92, 93, 94, 95, 96, 97, 98, 99, 100, 101, 102, 103, 104, 105, 106, 107, 108, 109, 110, 111, 112, 113, 114, 115, 116, 117, 118, 119, 120, 121, 122, 123, 124, 125, 126, 127, 128, 129, 130, 131, 132, 133, 134] rfl (by decide +kernel)
set_option maxRecDepth 20000 in
theorem gX12_mix_X12_putAll : GoodIn wsX12_mix (wsV RX12 471 RX12 yX12_putAll wsX12_putAll) := goodIn_app (goodIn_of _ (by decide +kernel)) ggX12_mix_X12_putAll
set_option maxRecDepth 20000 in
theorem ggX12_mix_X12_end : GoodIn wsX12_mix wsX12_end := goodIn_r _ [49, 13, 14, 15, 16, 17, 8, 18, 19, 20, 21, 22, 23, 24, 25, 26, 27, 28, 4, 29, 30, 31, 32, 33, 34, 35, 36, 37, 54, 55, 56, 57, 58, 59, 60, 61, 62, 63, 64, 65, 66, 67, 68, 69, 70, 71, 72, 73, 74, 75, 76, 77, 78, 79, 80, 81, 82, 83, 84, 85, 86, 87, 88, 89, 90, 91, 92, 93, 94, 95, 96, 97, 98, 99, 100, 101, 102, 103, 104, 105, 106, 107, 108, 109, 110, 111, 112, 113, 114, 115, 116, 117, 118, 119, 120, 121, 122, 123, 124, 125, 126, 127, 128, 129, 130, 131, 132, 133, 134] rfl (by decide +kernel)
set_option maxRecDepth 20000 in
theorem gX12_mix_X12_end : GoodIn wsX12_mix (wsV RX12 457 RX12 yX12_end wsX12_end) := goodIn_app (goodIn_of _ (by decide +kernel)) ggX12_mix_X12_end
set_option maxRecDepth 20000 in
theorem ggX12_mix_X12_bytesOf : GoodIn wsX12_mix wsX12_bytesOf := goodIn_r _ [52, 53] rfl (by decide +kernel)
set_option maxRecDepth 20000 in
theorem gX12_mix_X12_bytesOf : GoodIn wsX12_mix (va_wsS RX12 426 yX12_bytesOf wsX12_bytesOf) := goodIn_app (goodIn_of _ (by decide +kernel)) ggX12_mix_X12_bytesOf
theorem dX12_mix_0 : decode cX12_mix 0 = .ok (.aload_n 0, 1) := by decide +kernel
theorem dX12_mix_1 : decode cX12_mix 1 = .ok (.iload_n 1, 1) := by decide +kernel
theorem dX12_mix_2 : decode cX12_mix 2 = .ok (.invokevirtual 468, 3) := by decide +kernel
theorem dX12_mix_5 : decode cX12_mix 5 = .ok (.aload_n 0, 1) := by decide +kernel
theorem dX12_mix_6 : decode cX12_mix 6 = .ok (.aload_n 0, 1) := by decide +kernel
theorem dX12_mix_7 : decode cX12_mix 7 = .ok (.getfield 100, 3) := by decide +kernel
theorem dX12_mix_10 : decode cX12_mix 10 = .ok (.bipush 100, 2) := by decide +kernel
theorem dX12_mix_12 : decode cX12_mix 12 = .ok (.iload_n 2, 1) := by decide +kernel
theorem dX12_mix_13 : decode cX12_mix 13 = .ok (.imul, 1) := by decide +kernel
theorem dX12_mix_14 : decode cX12_mix 14 = .ok (.bipush 32, 2) := by decide +kernel
theorem dX12_mix_16 : decode cX12_mix 16 = .ok (.invokevirtual 471, 3) := by decide +kernel
theorem dX12_mix_19 : decode cX12_mix 19 = .ok (.aload_n 0, 1) := by decide +kernel
theorem dX12_mix_20 : decode cX12_mix 20 = .ok (.invokevirtual 457, 3) := by decide +kernel
theorem dX12_mix_23 : decode cX12_mix 23 = .ok (.aload_n 0, 1) := by decide +kernel
theorem dX12_mix_24 : decode cX12_mix 24 = .ok (.getfield 320, 3) := by decide +kernel
theorem dX12_mix_27 : decode cX12_mix 27 = .ok (.iconst 0, 1) := by decide +kernel
theorem dX12_mix_28 : decode cX12_mix 28 = .ok (.aload_n 0, 1) := by decide +kernel
theorem dX12_mix_29 : decode cX12_mix 29 = .ok (.getfield 305, 3) := by decide +kernel
theorem dX12_mix_32 : decode cX12_mix 32 = .ok (.invokestatic 426, 3) := by decide +kernel
theorem dX12_mix_35 : decode cX12_mix 35 = .ok (.iconst 0, 1) := by decide +kernel
theorem dX12_mix_36 : decode cX12_mix 36 = .ok (.istore_n 3, 1) := by decide +kernel
theorem dX12_mix_37 : decode cX12_mix 37 = .ok (.iload_n 3, 1) := by decide +kernel
theorem dX12_mix_38 : decode cX12_mix 38 = .ok (.bipush 32, 2) := by decide +kernel
theorem dX12_mix_40 : decode cX12_mix 40 = .ok (.if_icmp .ge 24, 3) := by decide +kernel
theorem dX12_mix_43 : decode cX12_mix 43 = .ok (.aload_n 0, 1) := by decide +kernel
theorem dX12_mix_44 : decode cX12_mix 44 = .ok (.getfield 320, 3) := by decide +kernel
theorem dX12_mix_47 : decode cX12_mix 47 = .ok (.iload_n 3, 1) := by decide +kernel
theorem dX12_mix_48 : decode cX12_mix 48 = .ok (.dup2, 1) := by decide +kernel
theorem dX12_mix_49 : decode cX12_mix 49 = .ok (.iaload, 1) := by decide +kernel
theorem dX12_mix_50 : decode cX12_mix 50 = .ok (.aload_n 0, 1) := by decide +kernel
theorem dX12_mix_51 : decode cX12_mix 51 = .ok (.getfield 293, 3) := by decide +kernel
theorem dX12_mix_54 : decode cX12_mix 54 = .ok (.iload_n 3, 1) := by decide +kernel
theorem dX12_mix_55 : decode cX12_mix 55 = .ok (.iaload, 1) := by decide +kernel
theorem dX12_mix_56 : decode cX12_mix 56 = .ok (.ixor, 1) := by decide +kernel
theorem dX12_mix_57 : decode cX12_mix 57 = .ok (.iastore, 1) := by decide +kernel
theorem dX12_mix_58 : decode cX12_mix 58 = .ok (.iinc 3 1, 3) := by decide +kernel
theorem dX12_mix_61 : decode cX12_mix 61 = .ok (.goto (-24), 3) := by decide +kernel
theorem dX12_mix_64 : decode cX12_mix 64 = .ok (.return_, 1) := by decide +kernel
set_option maxRecDepth 20000 in
theorem ggX12_challenge_X12_begin : GoodIn wsX12_challenge wsX12_begin := goodIn_r _ [5, 6, 7, 8, 9, 10, 11, 12, 13, 14, 4, 15, 16, 17, 18, 19, 20, 21, 22, 23, 24, 25, 26, 27, 28, 29, 30, 31, 32, 33, 34, 70, 71, 72, 73, 74, 75, 76, 77, 78, 79, 80, 81, 82, 83, 84, 85, 86, 87, 88, 89, 90, 91, 92, 93, 94, 95, 96, 97, 98, 99, 100, 101, 102, 103, 104, 105, 106, 107, 108, 109, 110, 111, 112, 113, 114, 115, 116, 117, 118, 119, 120, 121, 122, 123, 124, 125, 126, 127, 128, 129, 130, 131, 132, 133, 134, 135, 136, 137, 138, 139, 140, 141, 142, 143, 144, 145, 146, 147, 148, 149, 150] rfl (by decide +kernel)
set_option maxRecDepth 20000 in
theorem gX12_challenge_X12_begin : GoodIn wsX12_challenge (wsV RX12 468 RX12 yX12_begin wsX12_begin) := goodIn_app (goodIn_of _ (by decide +kernel)) ggX12_challenge_X12_begin
set_option maxRecDepth 20000 in
theorem ggX12_challenge_X12_putNumber : GoodIn wsX12_challenge wsX12_putNumber := goodIn_r _ [38, 9, 11, 39, 40, 4, 41, 42, 70, 71, 72, 73, 74, 75, 76, 77, 78, 79, 80, 81, 82, 83, 84, 85, 86, 87, 88, 89, 90, 91, 92, 93, 94, 95, 96, 97, 98, 99, 100, 101, 102, 103, 104, 105, 106, 107, 108, 109, 110, 111, 112, 113, 114, 115, 116, 117, 118, 119, 120, 121, 122, 123, 124, 125, 126, 127, 128, 129, 130, 131, 132, 133, 134, 135, 136, 137, 138, 139, 140, 141, 142, 143, 144, 145, 146, 147, 148, 149, 150] rfl (by decide +kernel)
set_option maxRecDepth 20000 in
theorem gX12_challenge_X12_putNumber : GoodIn wsX12_challenge (wsV RX12 497 RX12 yX12_putNumber wsX12_putNumber) := goodIn_app (goodIn_of _ (by decide +kernel)) ggX12_challenge_X12_putNumber
set_option maxRecDepth 20000 in
theorem ggX12_challenge_X12_putAll : GoodIn wsX12_challenge wsX12_putAll := goodIn_r _ [46, 47, 48, 49, 4, 50, 9, 11, 70, 71, 72, 73, 74, 75, 76, 77, 78, 79, 80, 81, 82, 83, 84, 85, 86, 87, 88, 89, 90, 91, 92, 93, 94, 95, 96, 97, 98, 99, 100, 101, 102, 103, 104, 105, 106, 107, 108, 109, 110, 111, 112, 113, 114, 115, 116, 117, 118, 119, 120, 121, 122, 123, 124, 125, 126, 127, 128, 129, 130, 131, 132, 133, 134, 135, 136, 137, 138, 139, 140, 141, 142, 143, 144, 145, 146, 147, 148, 149, 150] rfl (by decide +kernel)
set_option maxRecDepth 20000 in
theorem gX12_challenge_X12_putAll : GoodIn wsX12_challenge (wsV RX12 471 RX12 yX12_putAll wsX12_putAll) := goodIn_app (goodIn_of _ (by decide +kernel)) ggX12_challenge_X12_putAll
set_option maxRecDepth 20000 in
theorem ggX12_challenge_X12_endNumber : GoodIn wsX12_challenge wsX12_endNumber := goodIn_r _ [54, 10, 55, 56, 57, 58, 4, 59, 9, 11, 12, 13, 14, 15, 16, 17, 18, 19, 20, 21, 22, 23, 24, 25, 26, 27, 28, 29, 30, 31, 32, 33, 34, 60, 61, 62, 63, 64, 65, 66, 67, 68, 69, 70, 71, 72, 73, 74, 75, 76, 77, 78, 79, 80, 81, 82, 83, 84, 85, 86, 87, 88, 89, 90, 91, 92, 93, 94, 95, 96, 97, 98, 99, 100, 101, 102, 103, 104, 105, 106, 107, 108, 109, 110, 111, 112, 113, 114, 115, 116, 117, 118, 119, 120, 121, 122, 123, 124, 125, 126, 127, 128, 129, 130, 131, 132, 133, 134, 135, 136, 137, 138, 139, 140, 141, 142, 143, 144, 145, 146, 147, 148, 149, 150] rfl (by decide +kernel)
set_option maxRecDepth 20000 in
theorem gX12_challenge_X12_endNumber : GoodIn wsX12_challenge (wsV RX12 500 RX12 yX12_endNumber wsX12_endNumber) := goodIn_app (goodIn_of _ (by decide +kernel)) ggX12_challenge_X12_endNumber
theorem dX12_challenge_0 : decode cX12_challenge 0 = .ok (.aload_n 0, 1) := by decide +kernel
theorem dX12_challenge_1 : decode cX12_challenge 1 = .ok (.iconst 2, 1) := by decide +kernel
theorem dX12_challenge_2 : decode cX12_challenge 2 = .ok (.invokevirtual 468, 3) := by decide +kernel
theorem dX12_challenge_5 : decode cX12_challenge 5 = .ok (.aload_n 0, 1) := by decide +kernel
theorem dX12_challenge_6 : decode cX12_challenge 6 = .ok (.aload_n 2, 1) := by decide +kernel
theorem dX12_challenge_7 : decode cX12_challenge 7 = .ok (.invokevirtual 497, 3) := by decide +kernel
theorem dX12_challenge_10 : decode cX12_challenge 10 = .ok (.aload_n 0, 1) := by decide +kernel
theorem dX12_challenge_11 : decode cX12_challenge 11 = .ok (.aload_n 3, 1) := by decide +kernel
theorem dX12_challenge_12 : decode cX12_challenge 12 = .ok (.invokevirtual 497, 3) := by decide +kernel
theorem dX12_challenge_15 : decode cX12_challenge 15 = .ok (.aload_n 0, 1) := by decide +kernel
theorem dX12_challenge_16 : decode cX12_challenge 16 = .ok (.aload 4, 2) := by decide +kernel
theorem dX12_challenge_18 : decode cX12_challenge 18 = .ok (.iload 5, 2) := by decide +kernel
theorem dX12_challenge_20 : decode cX12_challenge 20 = .ok (.iload 6, 2) := by decide +kernel
theorem dX12_challenge_22 : decode cX12_challenge 22 = .ok (.invokevirtual 471, 3) := by decide +kernel
theorem dX12_challenge_25 : decode cX12_challenge 25 = .ok (.aload_n 0, 1) := by decide +kernel
theorem dX12_challenge_26 : decode cX12_challenge 26 = .ok (.aload_n 1, 1) := by decide +kernel
theorem dX12_challenge_27 : decode cX12_challenge 27 = .ok (.invokevirtual 500, 3) := by decide +kernel
theorem dX12_challenge_30 : decode cX12_challenge 30 = .ok (.return_, 1) := by decide +kernel
set_option maxRecDepth 20000 in
theorem ggX12_sign_X12_isRow : GoodIn wsX12_sign wsX12_isRow := goodIn_r _ [16, 17, 18, 19, 15, 20] rfl (by decide +kernel)
set_option maxRecDepth 20000 in
theorem gX12_sign_X12_isRow : GoodIn wsX12_sign (va_wsS RX12 460 yX12_isRow wsX12_isRow) := goodIn_app (goodIn_of _ (by decide +kernel)) ggX12_sign_X12_isRow
set_option maxRecDepth 20000 in
theorem ggX12_sign_X12_isSecret : GoodIn wsX12_sign wsX12_isSecret := goodIn_r _ [24, 1, 3, 9, 7, 25, 26, 15, 27, 28, 29, 30, 31, 32, 33, 177, 178, 179, 180, 181, 182, 183, 184, 185, 186, 187, 188, 189, 190, 191, 192, 193, 194, 195, 196, 197, 198, 199, 200, 201, 202, 203, 204, 205, 206, 207, 208, 209, 210, 211, 212, 213, 214, 215, 216, 217, 218, 219, 220, 221, 222, 223, 224, 225, 226, 227, 228, 229, 230, 231, 232, 233, 234, 235, 236, 237, 238, 239, 240, 241, 242, 243, 244, 245, 246, 247, 248, 249, 250, 251, 252, 253, 254, 255, 256, 257] rfl (by decide +kernel)
set_option maxRecDepth 20000 in
theorem gX12_sign_X12_isSecret : GoodIn wsX12_sign (wsV RX12 481 RX12 yX12_isSecret wsX12_isSecret) := goodIn_app (goodIn_of _ (by decide +kernel)) ggX12_sign_X12_isSecret
set_option maxRecDepth 20000 in
theorem ggX12_sign_X12_isSpent : GoodIn wsX12_sign wsX12_isSpent := goodIn_r _ [37, 2, 177, 178, 179, 180, 181, 182, 183, 184, 185, 186, 187, 188, 189, 190, 191, 192, 193, 194, 195, 196, 197, 198, 199, 200, 201, 202, 203, 204, 205, 206, 207, 208, 209, 210, 211, 212, 213, 214, 215, 216, 217, 218, 219, 220, 221, 222, 223, 224, 225, 226, 227, 228, 229, 230, 231, 232, 233, 234, 235, 236, 237, 238, 239, 240, 241, 242, 243, 244, 245, 246, 247, 248, 249, 250, 251, 252, 253, 254, 255, 256, 257] rfl (by decide +kernel)
set_option maxRecDepth 20000 in
theorem gX12_sign_X12_isSpent : GoodIn wsX12_sign (wsV RX12 484 RX12 yX12_isSpent wsX12_isSpent) := goodIn_app (goodIn_of _ (by decide +kernel)) ggX12_sign_X12_isSpent
set_option maxRecDepth 20000 in
theorem ggX12_sign_X12_generator : GoodIn wsX12_sign wsX12_generator := goodIn_r _ [41, 42, 43, 44, 45, 46, 47, 15, 48, 177, 178, 179, 180, 181, 182, 183, 184, 185, 186, 187, 188, 189, 190, 191, 192, 193, 194, 195, 196, 197, 198, 199, 200, 201, 202, 203, 204, 205, 206, 207, 208, 209, 210, 211, 212, 213, 214, 215, 216, 217, 218, 219, 220, 221, 222, 223, 224, 225, 226, 227, 228, 229, 230, 231, 232, 233, 234, 235, 236, 237, 238, 239, 240, 241, 242, 243, 244, 245, 246, 247, 248, 249, 250, 251, 252, 253, 254, 255, 256, 257] rfl (by decide +kernel)
set_option maxRecDepth 20000 in
theorem gX12_sign_X12_generator : GoodIn wsX12_sign (wsV RX12 487 RX12 yX12_generator wsX12_generator) := goodIn_app (goodIn_of _ (by decide +kernel)) ggX12_sign_X12_generator
set_option maxRecDepth 20000 in
theorem ggX12_sign_X12_multiply : GoodIn wsX12_sign wsX12_multiply := goodIn_r _ [52, 53, 54, 55, 15, 56, 57, 58, 59, 60, 61, 62, 5, 63, 6, 64, 65, 66, 67, 28, 29, 30, 68, 69, 70, 71, 72, 73, 74, 75, 76, 77, 78, 79, 7, 80, 31, 32, 33, 81, 82, 83, 84, 85, 86, 87, 88, 89, 90, 91, 92, 46, 47, 48, 93, 94, 95, 96, 42, 44, 97, 98, 99, 100, 101, 102, 103, 104, 105, 106, 107, 177, 178, 179, 180, 181, 182, 183, 184, 185, 186, 187, 188, 189, 190, 191, 192, 193, 194, 195, 196, 197, 198, 199, 200, 201, 202, 203, 204, 205, 206, 207, 208, 209, 210, 211, 212, 213, 214, 215, 216, 217, 218, 219, 220, 221, 222, 223, 224, 225, 226, 227, 228, 229, 230, 231, 232, 233, 234, 235, 236, 237, 238, 239, 240, 241, 242, 243, 244, 245, 246, 247, 248, 249, 250, 251, 252, 253, 254, 255, 256, 257] rfl (by decide +kernel)
set_option maxRecDepth 20000 in
theorem gX12_sign_X12_multiply : GoodIn wsX12_sign (wsV RX12 490 RX12 yX12_multiply wsX12_multiply) := goodIn_app (goodIn_of _ (by decide +kernel)) ggX12_sign_X12_multiply
set_option maxRecDepth 20000 in
theorem ggX12_sign_X12_set : GoodIn wsX12_sign wsX12_set := goodIn_r _ [48] rfl (by decide +kernel)
set_option maxRecDepth 20000 in
theorem gX12_sign_X12_set : GoodIn wsX12_sign (va_wsS RX12 381 yX12_set wsX12_set) := goodIn_app (goodIn_of _ (by decide +kernel)) ggX12_sign_X12_set
set_option maxRecDepth 20000 in
theorem ggX12_sign_X12_take : GoodIn wsX12_sign wsX12_take := goodIn_r _ [83, 57] rfl (by decide +kernel)
set_option maxRecDepth 20000 in
theorem gX12_sign_X12_take : GoodIn wsX12_sign (va_wsS RX12 369 yX12_take wsX12_take) := goodIn_app (goodIn_of _ (by decide +kernel)) ggX12_sign_X12_take
set_option maxRecDepth 20000 in
theorem ggX12_sign_X12_mix : GoodIn wsX12_sign wsX12_mix := goodIn_r _ [111, 9, 8, 3, 112, 113, 114, 115, 15, 116, 117, 118, 119, 120, 121, 122, 123, 124, 125, 126, 127, 128, 129, 130, 131, 132, 133, 134, 135, 136, 137, 138, 139, 140, 141, 142, 143, 144, 145, 146, 147, 148, 149, 150, 151, 152, 153, 154, 155, 156, 157, 158, 159, 160, 177, 178, 179, 180, 181, 182, 183, 184, 185, 186, 187, 188, 189, 190, 191, 192, 193, 194, 195, 196, 197, 198, 199, 200, 201, 202, 203, 204, 205, 206, 207, 208, 209, 210, 211, 212, 213, 214, 215, 216, 217, 218, 219, 220, 221, 222, 223, 224, 225, 226, 227, 228, 229, 230, 231, 232, 233, 234, 235, 236, 237, 238, 239, 240, 241, 242, 243, 244, 245, 246, 247, 248, 249, 250, 251, 252, 253, 254, 255, 256, 257] rfl (by decide +kernel)
set_option maxRecDepth 20000 in
theorem gX12_sign_X12_mix : GoodIn wsX12_sign (wsV RX12 503 RX12 yX12_mix wsX12_mix) := goodIn_app (goodIn_of _ (by decide +kernel)) ggX12_sign_X12_mix
set_option maxRecDepth 20000 in
theorem ggX12_sign_X12_begin : GoodIn wsX12_sign wsX12_begin := goodIn_r _ [116, 117, 118, 119, 120, 112, 121, 122, 123, 124, 15, 125, 126, 127, 128, 129, 130, 131, 132, 133, 134, 135, 136, 137, 138, 139, 140, 141, 142, 143, 144, 177, 178, 179, 180, 181, 182, 183, 184, 185, 186, 187, 188, 189, 190, 191, 192, 193, 194, 195, 196, 197, 198, 199, 200, 201, 202, 203, 204, 205, 206, 207, 208, 209, 210, 211, 212, 213, 214, 215, 216, 217, 218, 219, 220, 221, 222, 223, 224, 225, 226, 227, 228, 229, 230, 231, 232, 233, 234, 235, 236, 237, 238, 239, 240, 241, 242, 243, 244, 245, 246, 247, 248, 249, 250, 251, 252, 253, 254, 255, 256, 257] rfl (by decide +kernel)
set_option maxRecDepth 20000 in
theorem gX12_sign_X12_begin : GoodIn wsX12_sign (wsV RX12 468 RX12 yX12_begin wsX12_begin) := goodIn_app (goodIn_of _ (by decide +kernel)) ggX12_sign_X12_begin
set_option maxRecDepth 20000 in
theorem ggX12_sign_X12_putAll : GoodIn wsX12_sign wsX12_putAll := goodIn_r _ [148, 149, 150, 151, 15, 152, 120, 121, 177, 178, 179, 180, 181, 182, 183, 184, 185, 186, 187, 188, 189, 190, 191, 192, 193, 194, 195, 196, 197, 198, 199, 200, 201, 202, 203, 204, 205, 206, 207, 208, 209, 210, 211, 212, 213, 214, 215, 216, 217, 218, 219, 220, 221, 222, 223, 224, 225, 226, 227, 228, 229, 230, 231, 232, 233, 234, 235, 236, 237, 238, 239, 240, 241, 242, 243, 244, 245, 246, 247, 248, 249, 250, 251, 252, 253, 254, 255, 256, 257] rfl (by decide +kernel)
set_option maxRecDepth 20000 in
theorem gX12_sign_X12_putAll : GoodIn wsX12_sign (wsV RX12 471 RX12 yX12_putAll wsX12_putAll) := goodIn_app (goodIn_of _ (by decide +kernel)) ggX12_sign_X12_putAll
set_option maxRecDepth 20000 in
theorem ggX12_sign_X12_putNumber : GoodIn wsX12_sign wsX12_putNumber := goodIn_r _ [164, 120, 121, 157, 158, 15, 159, 160, 177, 178, 179, 180, 181, 182, 183, 184, 185, 186, 187, 188, 189, 190, 191, 192, 193, 194, 195, 196, 197, 198, 199, 200, 201, 202, 203, 204, 205, 206, 207, 208, 209, 210, 211, 212, 213, 214, 215, 216, 217, 218, 219, 220, 221, 222, 223, 224, 225, 226, 227, 228, 229, 230, 231, 232, 233, 234, 235, 236, 237, 238, 239, 240, 241, 242, 243, 244, 245, 246, 247, 248, 249, 250, 251, 252, 253, 254, 255, 256, 257] rfl (by decide +kernel)
set_option maxRecDepth 20000 in
theorem gX12_sign_X12_putNumber : GoodIn wsX12_sign (wsV RX12 497 RX12 yX12_putNumber wsX12_putNumber) := goodIn_app (goodIn_of _ (by decide +kernel)) ggX12_sign_X12_putNumber
set_option maxRecDepth 20000 in
theorem ggX12_sign_X12_endNumber : GoodIn wsX12_sign wsX12_endNumber := goodIn_r _ [168, 112, 7, 153, 154, 155, 15, 156, 120, 121, 122, 123, 124, 125, 126, 127, 128, 129, 130, 131, 132, 133, 134, 135, 136, 137, 138, 139, 140, 141, 142, 143, 144, 25, 26, 27, 31, 32, 33, 81, 82, 83, 57, 177, 178, 179, 180, 181, 182, 183, 184, 185, 186, 187, 188, 189, 190, 191, 192, 193, 194, 195, 196, 197, 198, 199, 200, 201, 202, 203, 204, 205, 206, 207, 208, 209, 210, 211, 212, 213, 214, 215, 216, 217, 218, 219, 220, 221, 222, 223, 224, 225, 226, 227, 228, 229, 230, 231, 232, 233, 234, 235, 236, 237, 238, 239, 240, 241, 242, 243, 244, 245, 246, 247, 248, 249, 250, 251, 252, 253, 254, 255, 256, 257] rfl (by decide +kernel)
set_option maxRecDepth 20000 in
theorem gX12_sign_X12_endNumber : GoodIn wsX12_sign (wsV RX12 500 RX12 yX12_endNumber wsX12_endNumber) := goodIn_app (goodIn_of _ (by decide +kernel)) ggX12_sign_X12_endNumber
set_option maxRecDepth 20000 in
theorem ggX12_sign_X12_isNull : GoodIn wsX12_sign wsX12_isNull := goodIn_r _ [30] rfl (by decide +kernel)
set_option maxRecDepth 20000 in
theorem gX12_sign_X12_isNull : GoodIn wsX12_sign (va_wsS RX12 377 yX12_isNull wsX12_isNull) := goodIn_app (goodIn_of _ (by decide +kernel)) ggX12_sign_X12_isNull
set_option maxRecDepth 20000 in
theorem ggX12_sign_X12_bytesOf : GoodIn wsX12_sign wsX12_bytesOf := goodIn_r _ [159, 160] rfl (by decide +kernel)
set_option maxRecDepth 20000 in
theorem gX12_sign_X12_bytesOf : GoodIn wsX12_sign (va_wsS RX12 426 yX12_bytesOf wsX12_bytesOf) := goodIn_app (goodIn_of _ (by decide +kernel)) ggX12_sign_X12_bytesOf
set_option maxRecDepth 20000 in
theorem ggX12_sign_X12_challenge : GoodIn wsX12_sign wsX12_challenge := goodIn_r _ [172, 113, 114, 115, 15, 116, 117, 118, 119, 120, 112, 121, 122, 123, 124, 125, 126, 127, 128, 129, 130, 131, 132, 133, 134, 135, 136, 137, 138, 139, 140, 141, 142, 143, 144, 161, 162, 163, 164, 157, 158, 159, 160, 145, 146, 147, 148, 149, 150, 151, 152, 165, 166, 167, 168, 7, 153, 154, 155, 156, 25, 26, 27, 31, 32, 33, 81, 82, 83, 57, 177, 178, 179, 180, 181, 182, 183, 184, 185, 186, 187, 188, 189, 190, 191, 192, 193, 194, 195, 196, 197, 198, 199, 200, 201, 202, 203, 204, 205, 206, 207, 208, 209, 210, 211, 212, 213, 214, 215, 216, 217, 218, 219, 220, 221, 222, 223, 224, 225, 226, 227, 228, 229, 230, 231, 232, 233, 234, 235, 236, 237, 238, 239, 240, 241, 242, 243, 244, 245, 246, 247, 248, 249, 250, 251, 252, 253, 254, 255, 256, 257] rfl (by decide +kernel)
set_option maxRecDepth 20000 in
theorem gX12_sign_X12_challenge : GoodIn wsX12_sign (wsV RX12 507 RX12 yX12_challenge wsX12_challenge) := goodIn_app (goodIn_of _ (by decide +kernel)) ggX12_sign_X12_challenge
set_option maxRecDepth 20000 in
theorem ggX12_sign_X12_times : GoodIn wsX12_sign wsX12_times := goodIn_r _ [71, 72, 57, 73, 74, 75, 15, 76, 77, 78, 79, 7, 80, 31, 32, 33, 81, 82, 83, 177, 178, 179, 180, 181, 182, 183, 184, 185, 186, 187, 188, 189, 190, 191, 192, 193, 194, 195, 196, 197, 198, 199, 200, 201, 202, 203, 204, 205, 206, 207, 208, 209, 210, 211, 212, 213, 214, 215, 216, 217, 218, 219, 220, 221, 222, 223, 224, 225, 226, 227, 228, 229, 230, 231, 232, 233, 234, 235, 236, 237, 238, 239, 240, 241, 242, 243, 244, 245, 246, 247, 248, 249, 250, 251, 252, 253, 254, 255, 256, 257] rfl (by decide +kernel)
set_option maxRecDepth 20000 in
theorem gX12_sign_X12_times : GoodIn wsX12_sign (wsV RX12 393 RX12 yX12_times wsX12_times) := goodIn_app (goodIn_of _ (by decide +kernel)) ggX12_sign_X12_times
set_option maxRecDepth 20000 in
theorem ggX12_sign_X12_add : GoodIn wsX12_sign wsX12_add := goodIn_r _ [87, 72, 57, 73, 74, 75, 15, 76, 77, 78, 79, 7, 80, 31, 32, 33, 81, 82, 83, 177, 178, 179, 180, 181, 182, 183, 184, 185, 186, 187, 188, 189, 190, 191, 192, 193, 194, 195, 196, 197, 198, 199, 200, 201, 202, 203, 204, 205, 206, 207, 208, 209, 210, 211, 212, 213, 214, 215, 216, 217, 218, 219, 220, 221, 222, 223, 224, 225, 226, 227, 228, 229, 230, 231, 232, 233, 234, 235, 236, 237, 238, 239, 240, 241, 242, 243, 244, 245, 246, 247, 248, 249, 250, 251, 252, 253, 254, 255, 256, 257] rfl (by decide +kernel)
set_option maxRecDepth 20000 in
theorem gX12_sign_X12_add : GoodIn wsX12_sign (wsV RX12 385 RX12 yX12_add wsX12_add) := goodIn_app (goodIn_of _ (by decide +kernel)) ggX12_sign_X12_add
set_option maxRecDepth 20000 in
theorem ggX12_sign_X12_gives : GoodIn wsX12_sign wsX12_gives := goodIn_r _ [176, 9, 11, 1, 177, 178, 179, 180, 181, 182, 183, 184, 185, 186, 187, 188, 189, 190, 191, 192, 193, 194, 195, 196, 197, 198, 199, 200, 201, 202, 203, 204, 205, 206, 207, 208, 209, 210, 211, 212, 213, 214, 215, 216, 217, 218, 219, 220, 221, 222, 223, 224, 225, 226, 227, 228, 229, 230, 231, 232, 233, 234, 235, 236, 237, 238, 239, 240, 241, 242, 243, 244, 245, 246, 247, 248, 249, 250, 251, 252, 253, 254, 255, 256, 257] rfl (by decide +kernel)
set_option maxRecDepth 20000 in
theorem gX12_sign_X12_gives : GoodIn wsX12_sign (wsV RX12 475 RX12 yX12_gives wsX12_gives) := goodIn_app (goodIn_of _ (by decide +kernel)) ggX12_sign_X12_gives
theorem dX12_sign_0 : decode cX12_sign 0 = .ok (.iload_n 1, 1) := by decide +kernel
theorem dX12_sign_1 : decode cX12_sign 1 = .ok (.invokestatic 460, 3) := by decide +kernel
theorem dX12_sign_4 : decode cX12_sign 4 = .ok (.ifCond .eq 25, 3) := by decide +kernel
theorem dX12_sign_7 : decode cX12_sign 7 = .ok (.iload_n 2, 1) := by decide +kernel
theorem dX12_sign_8 : decode cX12_sign 8 = .ok (.invokestatic 460, 3) := by decide +kernel
theorem dX12_sign_11 : decode cX12_sign 11 = .ok (.ifCond .eq 18, 3) := by decide +kernel
theorem dX12_sign_14 : decode cX12_sign 14 = .ok (.iload_n 3, 1) := by decide +kernel
theorem dX12_sign_15 : decode cX12_sign 15 = .ok (.invokestatic 460, 3) := by decide +kernel
theorem dX12_sign_18 : decode cX12_sign 18 = .ok (.ifCond .eq 11, 3) := by decide +kernel
theorem dX12_sign_21 : decode cX12_sign 21 = .ok (.iload 4, 2) := by decide +kernel
theorem dX12_sign_23 : decode cX12_sign 23 = .ok (.invokestatic 460, 3) := by decide +kernel
theorem dX12_sign_26 : decode cX12_sign 26 = .ok (.ifCond .ne 5, 3) := by decide +kernel
theorem dX12_sign_29 : decode cX12_sign 29 = .ok (.iconst (-1), 1) := by decide +kernel
theorem dX12_sign_30 : decode cX12_sign 30 = .ok (.ireturn, 1) := by decide +kernel
theorem dX12_sign_31 : decode cX12_sign 31 = .ok (.aload_n 0, 1) := by decide +kernel
theorem dX12_sign_32 : decode cX12_sign 32 = .ok (.iload_n 2, 1) := by decide +kernel
theorem dX12_sign_33 : decode cX12_sign 33 = .ok (.invokevirtual 481, 3) := by decide +kernel
theorem dX12_sign_36 : decode cX12_sign 36 = .ok (.ifCond .eq 15, 3) := by decide +kernel
theorem dX12_sign_39 : decode cX12_sign 39 = .ok (.aload_n 0, 1) := by decide +kernel
theorem dX12_sign_40 : decode cX12_sign 40 = .ok (.getfield 96, 3) := by decide +kernel
theorem dX12_sign_43 : decode cX12_sign 43 = .ok (.iload 4, 2) := by decide +kernel
theorem dX12_sign_45 : decode cX12_sign 45 = .ok (.iaload, 1) := by decide +kernel
theorem dX12_sign_46 : decode cX12_sign 46 = .ok (.bipush 32, 2) := by decide +kernel
theorem dX12_sign_48 : decode cX12_sign 48 = .ok (.if_icmp .eq 6, 3) := by decide +kernel
theorem dX12_sign_51 : decode cX12_sign 51 = .ok (.bipush (-2), 2) := by decide +kernel
theorem dX12_sign_53 : decode cX12_sign 53 = .ok (.ireturn, 1) := by decide +kernel
theorem dX12_sign_54 : decode cX12_sign 54 = .ok (.aload_n 0, 1) := by decide +kernel
theorem dX12_sign_55 : decode cX12_sign 55 = .ok (.iconst 2, 1) := by decide +kernel
theorem dX12_sign_56 : decode cX12_sign 56 = .ok (.invokevirtual 484, 3) := by decide +kernel
theorem dX12_sign_59 : decode cX12_sign 59 = .ok (.ifCond .eq 6, 3) := by decide +kernel
theorem dX12_sign_62 : decode cX12_sign 62 = .ok (.bipush (-5), 2) := by decide +kernel
theorem dX12_sign_64 : decode cX12_sign 64 = .ok (.ireturn, 1) := by decide +kernel
theorem dX12_sign_65 : decode cX12_sign 65 = .ok (.aload_n 0, 1) := by decide +kernel
theorem dX12_sign_66 : decode cX12_sign 66 = .ok (.dup, 1) := by decide +kernel
theorem dX12_sign_67 : decode cX12_sign 67 = .ok (.getfield 478, 3) := by decide +kernel
theorem dX12_sign_70 : decode cX12_sign 70 = .ok (.iconst 2, 1) := by decide +kernel
theorem dX12_sign_71 : decode cX12_sign 71 = .ok (.iadd, 1) := by decide +kernel
theorem dX12_sign_72 : decode cX12_sign 72 = .ok (.putfield 478, 3) := by decide +kernel
theorem dX12_sign_75 : decode cX12_sign 75 = .ok (.aload_n 0, 1) := by decide +kernel
theorem dX12_sign_76 : decode cX12_sign 76 = .ok (.invokevirtual 487, 3) := by decide +kernel
theorem dX12_sign_79 : decode cX12_sign 79 = .ok (.aload_n 0, 1) := by decide +kernel
theorem dX12_sign_80 : decode cX12_sign 80 = .ok (.aload_n 0, 1) := by decide +kernel
theorem dX12_sign_81 : decode cX12_sign 81 = .ok (.getfield 305, 3) := by decide +kernel
theorem dX12_sign_84 : decode cX12_sign 84 = .ok (.invokevirtual 490, 3) := by decide +kernel
theorem dX12_sign_87 : decode cX12_sign 87 = .ok (.aload_n 0, 1) := by decide +kernel
theorem dX12_sign_88 : decode cX12_sign 88 = .ok (.getfield 308, 3) := by decide +kernel
theorem dX12_sign_91 : decode cX12_sign 91 = .ok (.aload_n 0, 1) := by decide +kernel
theorem dX12_sign_92 : decode cX12_sign 92 = .ok (.getfield 167, 3) := by decide +kernel
theorem dX12_sign_95 : decode cX12_sign 95 = .ok (.invokestatic 381, 3) := by decide +kernel
theorem dX12_sign_98 : decode cX12_sign 98 = .ok (.aload_n 0, 1) := by decide +kernel
theorem dX12_sign_99 : decode cX12_sign 99 = .ok (.getfield 170, 3) := by decide +kernel
theorem dX12_sign_102 : decode cX12_sign 102 = .ok (.iconst 0, 1) := by decide +kernel
theorem dX12_sign_103 : decode cX12_sign 103 = .ok (.laload, 1) := by decide +kernel
theorem dX12_sign_104 : decode cX12_sign 104 = .ok (.lconst 1, 1) := by decide +kernel
theorem dX12_sign_105 : decode cX12_sign 105 = .ok (.land, 1) := by decide +kernel
theorem dX12_sign_106 : decode cX12_sign 106 = .ok (.lconst 1, 1) := by decide +kernel
theorem dX12_sign_107 : decode cX12_sign 107 = .ok (.lcmp, 1) := by decide +kernel
theorem dX12_sign_108 : decode cX12_sign 108 = .ok (.ifCond .ne 18, 3) := by decide +kernel
theorem dX12_sign_111 : decode cX12_sign 111 = .ok (.aload_n 0, 1) := by decide +kernel
theorem dX12_sign_112 : decode cX12_sign 112 = .ok (.getfield 305, 3) := by decide +kernel
theorem dX12_sign_115 : decode cX12_sign 115 = .ok (.aload_n 0, 1) := by decide +kernel
theorem dX12_sign_116 : decode cX12_sign 116 = .ok (.getfield 27, 3) := by decide +kernel
theorem dX12_sign_119 : decode cX12_sign 119 = .ok (.aload_n 0, 1) := by decide +kernel
theorem dX12_sign_120 : decode cX12_sign 120 = .ok (.getfield 305, 3) := by decide +kernel
theorem dX12_sign_123 : decode cX12_sign 123 = .ok (.invokestatic 369, 3) := by decide +kernel
theorem dX12_sign_126 : decode cX12_sign 126 = .ok (.aload_n 0, 1) := by decide +kernel
theorem dX12_sign_127 : decode cX12_sign 127 = .ok (.iconst 0, 1) := by decide +kernel
theorem dX12_sign_128 : decode cX12_sign 128 = .ok (.iload 4, 2) := by decide +kernel
theorem dX12_sign_130 : decode cX12_sign 130 = .ok (.invokevirtual 503, 3) := by decide +kernel
theorem dX12_sign_133 : decode cX12_sign 133 = .ok (.aload_n 0, 1) := by decide +kernel
theorem dX12_sign_134 : decode cX12_sign 134 = .ok (.iconst 1, 1) := by decide +kernel
theorem dX12_sign_135 : decode cX12_sign 135 = .ok (.invokevirtual 468, 3) := by decide +kernel
theorem dX12_sign_138 : decode cX12_sign 138 = .ok (.aload_n 0, 1) := by decide +kernel
theorem dX12_sign_139 : decode cX12_sign 139 = .ok (.aload_n 0, 1) := by decide +kernel
theorem dX12_sign_140 : decode cX12_sign 140 = .ok (.getfield 320, 3) := by decide +kernel
theorem dX12_sign_143 : decode cX12_sign 143 = .ok (.iconst 0, 1) := by decide +kernel
theorem dX12_sign_144 : decode cX12_sign 144 = .ok (.bipush 32, 2) := by decide +kernel
theorem dX12_sign_146 : decode cX12_sign 146 = .ok (.invokevirtual 471, 3) := by decide +kernel
theorem dX12_sign_149 : decode cX12_sign 149 = .ok (.aload_n 0, 1) := by decide +kernel
theorem dX12_sign_150 : decode cX12_sign 150 = .ok (.aload_n 0, 1) := by decide +kernel
theorem dX12_sign_151 : decode cX12_sign 151 = .ok (.getfield 308, 3) := by decide +kernel
theorem dX12_sign_154 : decode cX12_sign 154 = .ok (.invokevirtual 497, 3) := by decide +kernel
theorem dX12_sign_157 : decode cX12_sign 157 = .ok (.aload_n 0, 1) := by decide +kernel
theorem dX12_sign_158 : decode cX12_sign 158 = .ok (.aload_n 0, 1) := by decide +kernel
theorem dX12_sign_159 : decode cX12_sign 159 = .ok (.getfield 100, 3) := by decide +kernel
theorem dX12_sign_162 : decode cX12_sign 162 = .ok (.bipush 100, 2) := by decide +kernel
theorem dX12_sign_164 : decode cX12_sign 164 = .ok (.iload_n 3, 1) := by decide +kernel
theorem dX12_sign_165 : decode cX12_sign 165 = .ok (.imul, 1) := by decide +kernel
theorem dX12_sign_166 : decode cX12_sign 166 = .ok (.aload_n 0, 1) := by decide +kernel
theorem dX12_sign_167 : decode cX12_sign 167 = .ok (.getfield 96, 3) := by decide +kernel
theorem dX12_sign_170 : decode cX12_sign 170 = .ok (.iload_n 3, 1) := by decide +kernel
theorem dX12_sign_171 : decode cX12_sign 171 = .ok (.iaload, 1) := by decide +kernel
theorem dX12_sign_172 : decode cX12_sign 172 = .ok (.invokevirtual 471, 3) := by decide +kernel
theorem dX12_sign_175 : decode cX12_sign 175 = .ok (.aload_n 0, 1) := by decide +kernel
theorem dX12_sign_176 : decode cX12_sign 176 = .ok (.aload_n 0, 1) := by decide +kernel
theorem dX12_sign_177 : decode cX12_sign 177 = .ok (.getfield 311, 3) := by decide +kernel
theorem dX12_sign_180 : decode cX12_sign 180 = .ok (.invokevirtual 500, 3) := by decide +kernel
theorem dX12_sign_183 : decode cX12_sign 183 = .ok (.aload_n 0, 1) := by decide +kernel
theorem dX12_sign_184 : decode cX12_sign 184 = .ok (.getfield 311, 3) := by decide +kernel
theorem dX12_sign_187 : decode cX12_sign 187 = .ok (.invokestatic 377, 3) := by decide +kernel
theorem dX12_sign_190 : decode cX12_sign 190 = .ok (.ifCond .eq 6, 3) := by decide +kernel
theorem dX12_sign_193 : decode cX12_sign 193 = .ok (.bipush (-2), 2) := by decide +kernel
theorem dX12_sign_195 : decode cX12_sign 195 = .ok (.ireturn, 1) := by decide +kernel
theorem dX12_sign_196 : decode cX12_sign 196 = .ok (.aload_n 0, 1) := by decide +kernel
theorem dX12_sign_197 : decode cX12_sign 197 = .ok (.invokevirtual 487, 3) := by decide +kernel
theorem dX12_sign_200 : decode cX12_sign 200 = .ok (.aload_n 0, 1) := by decide +kernel
theorem dX12_sign_201 : decode cX12_sign 201 = .ok (.aload_n 0, 1) := by decide +kernel
theorem dX12_sign_202 : decode cX12_sign 202 = .ok (.getfield 311, 3) := by decide +kernel
theorem dX12_sign_205 : decode cX12_sign 205 = .ok (.invokevirtual 490, 3) := by decide +kernel
theorem dX12_sign_208 : decode cX12_sign 208 = .ok (.aload_n 0, 1) := by decide +kernel
theorem dX12_sign_209 : decode cX12_sign 209 = .ok (.getfield 170, 3) := by decide +kernel
theorem dX12_sign_212 : decode cX12_sign 212 = .ok (.iconst 0, 1) := by decide +kernel
theorem dX12_sign_213 : decode cX12_sign 213 = .ok (.laload, 1) := by decide +kernel
theorem dX12_sign_214 : decode cX12_sign 214 = .ok (.lconst 1, 1) := by decide +kernel
theorem dX12_sign_215 : decode cX12_sign 215 = .ok (.land, 1) := by decide +kernel
theorem dX12_sign_216 : decode cX12_sign 216 = .ok (.lconst 1, 1) := by decide +kernel
theorem dX12_sign_217 : decode cX12_sign 217 = .ok (.lcmp, 1) := by decide +kernel
theorem dX12_sign_218 : decode cX12_sign 218 = .ok (.ifCond .ne 18, 3) := by decide +kernel
theorem dX12_sign_221 : decode cX12_sign 221 = .ok (.aload_n 0, 1) := by decide +kernel
theorem dX12_sign_222 : decode cX12_sign 222 = .ok (.getfield 311, 3) := by decide +kernel
theorem dX12_sign_225 : decode cX12_sign 225 = .ok (.aload_n 0, 1) := by decide +kernel
theorem dX12_sign_226 : decode cX12_sign 226 = .ok (.getfield 27, 3) := by decide +kernel
theorem dX12_sign_229 : decode cX12_sign 229 = .ok (.aload_n 0, 1) := by decide +kernel
theorem dX12_sign_230 : decode cX12_sign 230 = .ok (.getfield 311, 3) := by decide +kernel
theorem dX12_sign_233 : decode cX12_sign 233 = .ok (.invokestatic 369, 3) := by decide +kernel
theorem dX12_sign_236 : decode cX12_sign 236 = .ok (.aload_n 0, 1) := by decide +kernel
theorem dX12_sign_237 : decode cX12_sign 237 = .ok (.getfield 302, 3) := by decide +kernel
theorem dX12_sign_240 : decode cX12_sign 240 = .ok (.iconst 0, 1) := by decide +kernel
theorem dX12_sign_241 : decode cX12_sign 241 = .ok (.aload_n 0, 1) := by decide +kernel
theorem dX12_sign_242 : decode cX12_sign 242 = .ok (.getfield 167, 3) := by decide +kernel
theorem dX12_sign_245 : decode cX12_sign 245 = .ok (.invokestatic 426, 3) := by decide +kernel
theorem dX12_sign_248 : decode cX12_sign 248 = .ok (.aload_n 0, 1) := by decide +kernel
theorem dX12_sign_249 : decode cX12_sign 249 = .ok (.aload_n 0, 1) := by decide +kernel
theorem dX12_sign_250 : decode cX12_sign 250 = .ok (.getfield 317, 3) := by decide +kernel
theorem dX12_sign_253 : decode cX12_sign 253 = .ok (.aload_n 0, 1) := by decide +kernel
theorem dX12_sign_254 : decode cX12_sign 254 = .ok (.getfield 167, 3) := by decide +kernel
theorem dX12_sign_257 : decode cX12_sign 257 = .ok (.aload_n 0, 1) := by decide +kernel
theorem dX12_sign_258 : decode cX12_sign 258 = .ok (.getfield 308, 3) := by decide +kernel
theorem dX12_sign_261 : decode cX12_sign 261 = .ok (.aload_n 0, 1) := by decide +kernel
theorem dX12_sign_262 : decode cX12_sign 262 = .ok (.getfield 100, 3) := by decide +kernel
theorem dX12_sign_265 : decode cX12_sign 265 = .ok (.bipush 100, 2) := by decide +kernel
theorem dX12_sign_267 : decode cX12_sign 267 = .ok (.iload_n 3, 1) := by decide +kernel
theorem dX12_sign_268 : decode cX12_sign 268 = .ok (.imul, 1) := by decide +kernel
theorem dX12_sign_269 : decode cX12_sign 269 = .ok (.aload_n 0, 1) := by decide +kernel
theorem dX12_sign_270 : decode cX12_sign 270 = .ok (.getfield 96, 3) := by decide +kernel
theorem dX12_sign_273 : decode cX12_sign 273 = .ok (.iload_n 3, 1) := by decide +kernel
theorem dX12_sign_274 : decode cX12_sign 274 = .ok (.iaload, 1) := by decide +kernel
theorem dX12_sign_275 : decode cX12_sign 275 = .ok (.invokevirtual 507, 3) := by decide +kernel
theorem dX12_sign_278 : decode cX12_sign 278 = .ok (.aload_n 0, 1) := by decide +kernel
theorem dX12_sign_279 : decode cX12_sign 279 = .ok (.aload_n 0, 1) := by decide +kernel
theorem dX12_sign_280 : decode cX12_sign 280 = .ok (.getfield 317, 3) := by decide +kernel
theorem dX12_sign_283 : decode cX12_sign 283 = .ok (.aload_n 0, 1) := by decide +kernel
theorem dX12_sign_284 : decode cX12_sign 284 = .ok (.getfield 317, 3) := by decide +kernel
theorem dX12_sign_287 : decode cX12_sign 287 = .ok (.aload_n 0, 1) := by decide +kernel
theorem dX12_sign_288 : decode cX12_sign 288 = .ok (.getfield 305, 3) := by decide +kernel
theorem dX12_sign_291 : decode cX12_sign 291 = .ok (.iconst 1, 1) := by decide +kernel
theorem dX12_sign_292 : decode cX12_sign 292 = .ok (.invokevirtual 393, 3) := by decide +kernel
theorem dX12_sign_295 : decode cX12_sign 295 = .ok (.aload_n 0, 1) := by decide +kernel
theorem dX12_sign_296 : decode cX12_sign 296 = .ok (.aload_n 0, 1) := by decide +kernel
theorem dX12_sign_297 : decode cX12_sign 297 = .ok (.getfield 311, 3) := by decide +kernel
theorem dX12_sign_300 : decode cX12_sign 300 = .ok (.aload_n 0, 1) := by decide +kernel
theorem dX12_sign_301 : decode cX12_sign 301 = .ok (.getfield 311, 3) := by decide +kernel
theorem dX12_sign_304 : decode cX12_sign 304 = .ok (.aload_n 0, 1) := by decide +kernel
theorem dX12_sign_305 : decode cX12_sign 305 = .ok (.getfield 317, 3) := by decide +kernel
theorem dX12_sign_308 : decode cX12_sign 308 = .ok (.iconst 1, 1) := by decide +kernel
theorem dX12_sign_309 : decode cX12_sign 309 = .ok (.invokevirtual 385, 3) := by decide +kernel
theorem dX12_sign_312 : decode cX12_sign 312 = .ok (.aload_n 0, 1) := by decide +kernel
theorem dX12_sign_313 : decode cX12_sign 313 = .ok (.getfield 302, 3) := by decide +kernel
theorem dX12_sign_316 : decode cX12_sign 316 = .ok (.bipush 32, 2) := by decide +kernel
theorem dX12_sign_318 : decode cX12_sign 318 = .ok (.aload_n 0, 1) := by decide +kernel
theorem dX12_sign_319 : decode cX12_sign 319 = .ok (.getfield 311, 3) := by decide +kernel
theorem dX12_sign_322 : decode cX12_sign 322 = .ok (.invokestatic 426, 3) := by decide +kernel
theorem dX12_sign_325 : decode cX12_sign 325 = .ok (.aload_n 0, 1) := by decide +kernel
theorem dX12_sign_326 : decode cX12_sign 326 = .ok (.iload_n 1, 1) := by decide +kernel
theorem dX12_sign_327 : decode cX12_sign 327 = .ok (.bipush 64, 2) := by decide +kernel
theorem dX12_sign_329 : decode cX12_sign 329 = .ok (.invokevirtual 475, 3) := by decide +kernel
theorem dX12_sign_332 : decode cX12_sign 332 = .ok (.ireturn, 1) := by decide +kernel
set_option maxRecDepth 20000 in
theorem ggX12_holds_X12_isRow : GoodIn wsX12_holds wsX12_isRow := goodIn_r _ [16, 17, 18, 19, 15, 20] rfl (by decide +kernel)
set_option maxRecDepth 20000 in
theorem gX12_holds_X12_isRow : GoodIn wsX12_holds (va_wsS RX12 460 yX12_isRow wsX12_isRow) := goodIn_app (goodIn_of _ (by decide +kernel)) ggX12_holds_X12_isRow
set_option maxRecDepth 20000 in
theorem ggX12_holds_X12_numberOf : GoodIn wsX12_holds wsX12_numberOf := goodIn_r _ [23] rfl (by decide +kernel)
set_option maxRecDepth 20000 in
theorem gX12_holds_X12_numberOf : GoodIn wsX12_holds (va_wsS RX12 419 yX12_numberOf wsX12_numberOf) := goodIn_app (goodIn_of _ (by decide +kernel)) ggX12_holds_X12_numberOf
set_option maxRecDepth 20000 in
theorem ggX12_holds_X12_lift : GoodIn wsX12_holds wsX12_lift := goodIn_r _ [27, 6, 28, 29, 30, 31, 32, 33, 34, 35, 15, 36, 37, 38, 39, 40, 41, 42, 43, 44, 45, 46, 47, 48, 49, 50, 51, 52, 7, 53, 54, 55, 56, 57, 58, 59, 60, 61, 62, 63, 64, 65, 66, 67, 68, 69, 70, 71, 72, 73, 74, 75, 76, 77, 78, 191, 192, 193, 194, 195, 196, 197, 198, 199, 200, 201, 202, 203, 204, 205, 206, 207, 208, 209, 210, 211, 212, 213, 214, 215, 216, 217, 218, 219, 220, 221, 222, 223, 224, 225, 226, 227, 228, 229, 230, 231, 232, 233, 234, 235, 236, 237, 238, 239, 240, 241, 242, 243, 244, 245, 246, 247, 248, 249, 250, 251, 252, 253, 254, 255, 256, 257, 258, 259, 260, 261, 262, 263, 264, 265, 266, 267, 268, 269, 270, 271] rfl (by decide +kernel)
set_option maxRecDepth 20000 in
theorem gX12_holds_X12_lift : GoodIn wsX12_holds (wsV RX12 423 RX12 yX12_lift wsX12_lift) := goodIn_app (goodIn_of _ (by decide +kernel)) ggX12_holds_X12_lift
set_option maxRecDepth 20000 in
theorem ggX12_holds_X12_isBelow : GoodIn wsX12_holds wsX12_isBelow := goodIn_r _ [36] rfl (by decide +kernel)
set_option maxRecDepth 20000 in
theorem gX12_holds_X12_isBelow : GoodIn wsX12_holds (va_wsS RX12 365 yX12_isBelow wsX12_isBelow) := goodIn_app (goodIn_of _ (by decide +kernel)) ggX12_holds_X12_isBelow
set_option maxRecDepth 20000 in
theorem ggX12_holds_X12_isSpent : GoodIn wsX12_holds wsX12_isSpent := goodIn_r _ [82, 8, 191, 192, 193, 194, 195, 196, 197, 198, 199, 200, 201, 202, 203, 204, 205, 206, 207, 208, 209, 210, 211, 212, 213, 214, 215, 216, 217, 218, 219, 220, 221, 222, 223, 224, 225, 226, 227, 228, 229, 230, 231, 232, 233, 234, 235, 236, 237, 238, 239, 240, 241, 242, 243, 244, 245, 246, 247, 248, 249, 250, 251, 252, 253, 254, 255, 256, 257, 258, 259, 260, 261, 262, 263, 264, 265, 266, 267, 268, 269, 270, 271] rfl (by decide +kernel)
set_option maxRecDepth 20000 in
theorem gX12_holds_X12_isSpent : GoodIn wsX12_holds (wsV RX12 484 RX12 yX12_isSpent wsX12_isSpent) := goodIn_app (goodIn_of _ (by decide +kernel)) ggX12_holds_X12_isSpent
set_option maxRecDepth 20000 in
theorem ggX12_holds_X12_challenge : GoodIn wsX12_holds wsX12_challenge := goodIn_r _ [86, 87, 88, 89, 15, 90, 91, 92, 93, 94, 95, 96, 97, 98, 99, 100, 101, 102, 103, 104, 105, 106, 107, 108, 109, 110, 111, 112, 113, 114, 115, 116, 117, 118, 119, 120, 121, 122, 123, 124, 125, 126, 127, 128, 129, 130, 131, 132, 133, 134, 135, 136, 137, 138, 139, 7, 140, 141, 142, 143, 21, 22, 23, 34, 35, 36, 53, 54, 55, 45, 191, 192, 193, 194, 195, 196, 197, 198, 199, 200, 201, 202, 203, 204, 205, 206, 207, 208, 209, 210, 211, 212, 213, 214, 215, 216, 217, 218, 219, 220, 221, 222, 223, 224, 225, 226, 227, 228, 229, 230, 231, 232, 233, 234, 235, 236, 237, 238, 239, 240, 241, 242, 243, 244, 245, 246, 247, 248, 249, 250, 251, 252, 253, 254, 255, 256, 257, 258, 259, 260, 261, 262, 263, 264, 265, 266, 267, 268, 269, 270, 271] rfl (by decide +kernel)
set_option maxRecDepth 20000 in
theorem gX12_holds_X12_challenge : GoodIn wsX12_holds (wsV RX12 507 RX12 yX12_challenge wsX12_challenge) := goodIn_app (goodIn_of _ (by decide +kernel)) ggX12_holds_X12_challenge
set_option maxRecDepth 20000 in
theorem ggX12_holds_X12_noSum : GoodIn wsX12_holds wsX12_noSum := goodIn_r _ [147, 10, 66, 67, 15, 68, 45, 191, 192, 193, 194, 195, 196, 197, 198, 199, 200, 201, 202, 203, 204, 205, 206, 207, 208, 209, 210, 211, 212, 213, 214, 215, 216, 217, 218, 219, 220, 221, 222, 223, 224, 225, 226, 227, 228, 229, 230, 231, 232, 233, 234, 235, 236, 237, 238, 239, 240, 241, 242, 243, 244, 245, 246, 247, 248, 249, 250, 251, 252, 253, 254, 255, 256, 257, 258, 259, 260, 261, 262, 263, 264, 265, 266, 267, 268, 269, 270, 271] rfl (by decide +kernel)
set_option maxRecDepth 20000 in
theorem gX12_holds_X12_noSum : GoodIn wsX12_holds (wsV RX12 514 RX12 yX12_noSum wsX12_noSum) := goodIn_app (goodIn_of _ (by decide +kernel)) ggX12_holds_X12_noSum
set_option maxRecDepth 20000 in
theorem ggX12_holds_X12_negateQ : GoodIn wsX12_holds wsX12_negateQ := goodIn_r _ [75, 31, 6, 76, 77, 15, 78, 53, 54, 55, 45, 191, 192, 193, 194, 195, 196, 197, 198, 199, 200, 201, 202, 203, 204, 205, 206, 207, 208, 209, 210, 211, 212, 213, 214, 215, 216, 217, 218, 219, 220, 221, 222, 223, 224, 225, 226, 227, 228, 229, 230, 231, 232, 233, 234, 235, 236, 237, 238, 239, 240, 241, 242, 243, 244, 245, 246, 247, 248, 249, 250, 251, 252, 253, 254, 255, 256, 257, 258, 259, 260, 261, 262, 263, 264, 265, 266, 267, 268, 269, 270, 271] rfl (by decide +kernel)
set_option maxRecDepth 20000 in
theorem gX12_holds_X12_negateQ : GoodIn wsX12_holds (wsV RX12 414 RX12 yX12_negateQ wsX12_negateQ) := goodIn_app (goodIn_of _ (by decide +kernel)) ggX12_holds_X12_negateQ
set_option maxRecDepth 20000 in
theorem ggX12_holds_X12_multiply : GoodIn wsX12_holds wsX12_multiply := goodIn_r _ [151, 152, 66, 67, 15, 68, 45, 153, 154, 155, 156, 29, 157, 33, 158, 159, 160, 161, 162, 76, 77, 78, 40, 41, 42, 43, 44, 46, 47, 48, 49, 50, 51, 52, 7, 6, 34, 35, 36, 53, 54, 55, 56, 57, 58, 59, 163, 164, 165, 166, 167, 37, 38, 39, 168, 169, 170, 171, 28, 31, 172, 173, 174, 175, 176, 60, 61, 62, 63, 64, 65, 191, 192, 193, 194, 195, 196, 197, 198, 199, 200, 201, 202, 203, 204, 205, 206, 207, 208, 209, 210, 211, 212, 213, 214, 215, 216, 217, 218, 219, 220, 221, 222, 223, 224, 225, 226, 227, 228, 229, 230, 231, 232, 233, 234, 235, 236, 237, 238, 239, 240, 241, 242, 243, 244, 245, 246, 247, 248, 249, 250, 251, 252, 253, 254, 255, 256, 257, 258, 259, 260, 261, 262, 263, 264, 265, 266, 267, 268, 269, 270, 271] rfl (by decide +kernel)
set_option maxRecDepth 20000 in
theorem gX12_holds_X12_multiply : GoodIn wsX12_holds (wsV RX12 490 RX12 yX12_multiply wsX12_multiply) := goodIn_app (goodIn_of _ (by decide +kernel)) ggX12_holds_X12_multiply
set_option maxRecDepth 20000 in
theorem ggX12_holds_X12_addToSum : GoodIn wsX12_holds wsX12_addToSum := goodIn_r _ [180, 152, 157, 12, 158, 11, 10, 76, 77, 15, 78, 181, 182, 183, 184, 28, 31, 37, 38, 39, 168, 169, 170, 171, 29, 33, 159, 160, 161, 162, 66, 67, 68, 45, 40, 41, 42, 43, 44, 46, 47, 48, 49, 50, 51, 52, 7, 6, 34, 35, 36, 53, 54, 55, 163, 164, 165, 166, 167, 56, 57, 58, 59, 153, 154, 155, 156, 172, 173, 174, 175, 176, 60, 61, 62, 63, 64, 65, 191, 192, 193, 194, 195, 196, 197, 198, 199, 200, 201, 202, 203, 204, 205, 206, 207, 208, 209, 210, 211, 212, 213, 214, 215, 216, 217, 218, 219, 220, 221, 222, 223, 224, 225, 226, 227, 228, 229, 230, 231, 232, 233, 234, 235, 236, 237, 238, 239, 240, 241, 242, 243, 244, 245, 246, 247, 248, 249, 250, 251, 252, 253, 254, 255, 256, 257, 258, 259, 260, 261, 262, 263, 264, 265, 266, 267, 268, 269, 270, 271] rfl (by decide +kernel)
set_option maxRecDepth 20000 in
theorem gX12_holds_X12_addToSum : GoodIn wsX12_holds (wsV RX12 517 RX12 yX12_addToSum wsX12_addToSum) := goodIn_app (goodIn_of _ (by decide +kernel)) ggX12_holds_X12_addToSum
set_option maxRecDepth 20000 in
theorem ggX12_holds_X12_generator : GoodIn wsX12_holds wsX12_generator := goodIn_r _ [188, 28, 189, 31, 190, 37, 38, 15, 39, 191, 192, 193, 194, 195, 196, 197, 198, 199, 200, 201, 202, 203, 204, 205, 206, 207, 208, 209, 210, 211, 212, 213, 214, 215, 216, 217, 218, 219, 220, 221, 222, 223, 224, 225, 226, 227, 228, 229, 230, 231, 232, 233, 234, 235, 236, 237, 238, 239, 240, 241, 242, 243, 244, 245, 246, 247, 248, 249, 250, 251, 252, 253, 254, 255, 256, 257, 258, 259, 260, 261, 262, 263, 264, 265, 266, 267, 268, 269, 270, 271] rfl (by decide +kernel)
set_option maxRecDepth 20000 in
theorem gX12_holds_X12_generator : GoodIn wsX12_holds (wsV RX12 487 RX12 yX12_generator wsX12_generator) := goodIn_app (goodIn_of _ (by decide +kernel)) ggX12_holds_X12_generator
set_option maxRecDepth 20000 in
theorem ggX12_holds_X12_isNull : GoodIn wsX12_holds wsX12_isNull := goodIn_r _ [78] rfl (by decide +kernel)
set_option maxRecDepth 20000 in
theorem gX12_holds_X12_isNull : GoodIn wsX12_holds (va_wsS RX12 377 yX12_isNull wsX12_isNull) := goodIn_app (goodIn_of _ (by decide +kernel)) ggX12_holds_X12_isNull
set_option maxRecDepth 20000 in
theorem ggX12_holds_X12_isSame : GoodIn wsX12_holds wsX12_isSame := goodIn_r _ [71] rfl (by decide +kernel)
set_option maxRecDepth 20000 in
theorem gX12_holds_X12_isSame : GoodIn wsX12_holds (va_wsS RX12 411 yX12_isSame wsX12_isSame) := goodIn_app (goodIn_of _ (by decide +kernel)) ggX12_holds_X12_isSame
theorem dX12_holds_0 : decode cX12_holds 0 = .ok (.iload_n 1, 1) := by decide +kernel
theorem dX12_holds_1 : decode cX12_holds 1 = .ok (.invokestatic 460, 3) := by decide +kernel
theorem dX12_holds_4 : decode cX12_holds 4 = .ok (.ifCond .eq 17, 3) := by decide +kernel
theorem dX12_holds_7 : decode cX12_holds 7 = .ok (.iload_n 2, 1) := by decide +kernel
theorem dX12_holds_8 : decode cX12_holds 8 = .ok (.invokestatic 460, 3) := by decide +kernel
theorem dX12_holds_11 : decode cX12_holds 11 = .ok (.ifCond .eq 10, 3) := by decide +kernel
theorem dX12_holds_14 : decode cX12_holds 14 = .ok (.iload_n 3, 1) := by decide +kernel
theorem dX12_holds_15 : decode cX12_holds 15 = .ok (.invokestatic 460, 3) := by decide +kernel
theorem dX12_holds_18 : decode cX12_holds 18 = .ok (.ifCond .ne 5, 3) := by decide +kernel
theorem dX12_holds_21 : decode cX12_holds 21 = .ok (.iconst (-1), 1) := by decide +kernel
theorem dX12_holds_22 : decode cX12_holds 22 = .ok (.ireturn, 1) := by decide +kernel
theorem dX12_holds_23 : decode cX12_holds 23 = .ok (.aload_n 0, 1) := by decide +kernel
theorem dX12_holds_24 : decode cX12_holds 24 = .ok (.getfield 96, 3) := by decide +kernel
theorem dX12_holds_27 : decode cX12_holds 27 = .ok (.iload_n 1, 1) := by decide +kernel
theorem dX12_holds_28 : decode cX12_holds 28 = .ok (.iaload, 1) := by decide +kernel
theorem dX12_holds_29 : decode cX12_holds 29 = .ok (.bipush 32, 2) := by decide +kernel
theorem dX12_holds_31 : decode cX12_holds 31 = .ok (.if_icmp .ne 14, 3) := by decide +kernel
theorem dX12_holds_34 : decode cX12_holds 34 = .ok (.aload_n 0, 1) := by decide +kernel
theorem dX12_holds_35 : decode cX12_holds 35 = .ok (.getfield 96, 3) := by decide +kernel
theorem dX12_holds_38 : decode cX12_holds 38 = .ok (.iload_n 3, 1) := by decide +kernel
theorem dX12_holds_39 : decode cX12_holds 39 = .ok (.iaload, 1) := by decide +kernel
theorem dX12_holds_40 : decode cX12_holds 40 = .ok (.bipush 64, 2) := by decide +kernel
theorem dX12_holds_42 : decode cX12_holds 42 = .ok (.if_icmp .eq 5, 3) := by decide +kernel
theorem dX12_holds_45 : decode cX12_holds 45 = .ok (.iconst 0, 1) := by decide +kernel
theorem dX12_holds_46 : decode cX12_holds 46 = .ok (.ireturn, 1) := by decide +kernel
theorem dX12_holds_47 : decode cX12_holds 47 = .ok (.aload_n 0, 1) := by decide +kernel
theorem dX12_holds_48 : decode cX12_holds 48 = .ok (.getfield 308, 3) := by decide +kernel
theorem dX12_holds_51 : decode cX12_holds 51 = .ok (.aload_n 0, 1) := by decide +kernel
theorem dX12_holds_52 : decode cX12_holds 52 = .ok (.getfield 100, 3) := by decide +kernel
theorem dX12_holds_55 : decode cX12_holds 55 = .ok (.bipush 100, 2) := by decide +kernel
theorem dX12_holds_57 : decode cX12_holds 57 = .ok (.iload_n 1, 1) := by decide +kernel
theorem dX12_holds_58 : decode cX12_holds 58 = .ok (.imul, 1) := by decide +kernel
theorem dX12_holds_59 : decode cX12_holds 59 = .ok (.invokestatic 419, 3) := by decide +kernel
theorem dX12_holds_62 : decode cX12_holds 62 = .ok (.aload_n 0, 1) := by decide +kernel
theorem dX12_holds_63 : decode cX12_holds 63 = .ok (.getfield 332, 3) := by decide +kernel
theorem dX12_holds_66 : decode cX12_holds 66 = .ok (.aload_n 0, 1) := by decide +kernel
theorem dX12_holds_67 : decode cX12_holds 67 = .ok (.getfield 100, 3) := by decide +kernel
theorem dX12_holds_70 : decode cX12_holds 70 = .ok (.bipush 100, 2) := by decide +kernel
theorem dX12_holds_72 : decode cX12_holds 72 = .ok (.iload_n 3, 1) := by decide +kernel
theorem dX12_holds_73 : decode cX12_holds 73 = .ok (.imul, 1) := by decide +kernel
theorem dX12_holds_74 : decode cX12_holds 74 = .ok (.invokestatic 419, 3) := by decide +kernel
theorem dX12_holds_77 : decode cX12_holds 77 = .ok (.aload_n 0, 1) := by decide +kernel
theorem dX12_holds_78 : decode cX12_holds 78 = .ok (.getfield 335, 3) := by decide +kernel
theorem dX12_holds_81 : decode cX12_holds 81 = .ok (.aload_n 0, 1) := by decide +kernel
theorem dX12_holds_82 : decode cX12_holds 82 = .ok (.getfield 100, 3) := by decide +kernel
theorem dX12_holds_85 : decode cX12_holds 85 = .ok (.bipush 100, 2) := by decide +kernel
theorem dX12_holds_87 : decode cX12_holds 87 = .ok (.iload_n 3, 1) := by decide +kernel
theorem dX12_holds_88 : decode cX12_holds 88 = .ok (.imul, 1) := by decide +kernel
theorem dX12_holds_89 : decode cX12_holds 89 = .ok (.bipush 32, 2) := by decide +kernel
theorem dX12_holds_91 : decode cX12_holds 91 = .ok (.iadd, 1) := by decide +kernel
theorem dX12_holds_92 : decode cX12_holds 92 = .ok (.invokestatic 419, 3) := by decide +kernel
theorem dX12_holds_95 : decode cX12_holds 95 = .ok (.aload_n 0, 1) := by decide +kernel
theorem dX12_holds_96 : decode cX12_holds 96 = .ok (.aload_n 0, 1) := by decide +kernel
theorem dX12_holds_97 : decode cX12_holds 97 = .ok (.getfield 308, 3) := by decide +kernel
theorem dX12_holds_100 : decode cX12_holds 100 = .ok (.invokevirtual 423, 3) := by decide +kernel
theorem dX12_holds_103 : decode cX12_holds 103 = .ok (.ifCond .eq 31, 3) := by decide +kernel
theorem dX12_holds_106 : decode cX12_holds 106 = .ok (.aload_n 0, 1) := by decide +kernel
theorem dX12_holds_107 : decode cX12_holds 107 = .ok (.getfield 332, 3) := by decide +kernel
theorem dX12_holds_110 : decode cX12_holds 110 = .ok (.aload_n 0, 1) := by decide +kernel
theorem dX12_holds_111 : decode cX12_holds 111 = .ok (.getfield 15, 3) := by decide +kernel
theorem dX12_holds_114 : decode cX12_holds 114 = .ok (.invokestatic 365, 3) := by decide +kernel
theorem dX12_holds_117 : decode cX12_holds 117 = .ok (.ifCond .eq 17, 3) := by decide +kernel
theorem dX12_holds_120 : decode cX12_holds 120 = .ok (.aload_n 0, 1) := by decide +kernel
theorem dX12_holds_121 : decode cX12_holds 121 = .ok (.getfield 335, 3) := by decide +kernel
theorem dX12_holds_124 : decode cX12_holds 124 = .ok (.aload_n 0, 1) := by decide +kernel
theorem dX12_holds_125 : decode cX12_holds 125 = .ok (.getfield 27, 3) := by decide +kernel
theorem dX12_holds_128 : decode cX12_holds 128 = .ok (.invokestatic 365, 3) := by decide +kernel
theorem dX12_holds_131 : decode cX12_holds 131 = .ok (.ifCond .ne 5, 3) := by decide +kernel
theorem dX12_holds_134 : decode cX12_holds 134 = .ok (.iconst 0, 1) := by decide +kernel
theorem dX12_holds_135 : decode cX12_holds 135 = .ok (.ireturn, 1) := by decide +kernel
theorem dX12_holds_136 : decode cX12_holds 136 = .ok (.aload_n 0, 1) := by decide +kernel
theorem dX12_holds_137 : decode cX12_holds 137 = .ok (.iconst 2, 1) := by decide +kernel
theorem dX12_holds_138 : decode cX12_holds 138 = .ok (.invokevirtual 484, 3) := by decide +kernel
theorem dX12_holds_141 : decode cX12_holds 141 = .ok (.ifCond .eq 6, 3) := by decide +kernel
theorem dX12_holds_144 : decode cX12_holds 144 = .ok (.bipush (-5), 2) := by decide +kernel
theorem dX12_holds_146 : decode cX12_holds 146 = .ok (.ireturn, 1) := by decide +kernel
theorem dX12_holds_147 : decode cX12_holds 147 = .ok (.aload_n 0, 1) := by decide +kernel
theorem dX12_holds_148 : decode cX12_holds 148 = .ok (.dup, 1) := by decide +kernel
theorem dX12_holds_149 : decode cX12_holds 149 = .ok (.getfield 478, 3) := by decide +kernel
theorem dX12_holds_152 : decode cX12_holds 152 = .ok (.iconst 2, 1) := by decide +kernel
theorem dX12_holds_153 : decode cX12_holds 153 = .ok (.iadd, 1) := by decide +kernel
theorem dX12_holds_154 : decode cX12_holds 154 = .ok (.putfield 478, 3) := by decide +kernel
theorem dX12_holds_157 : decode cX12_holds 157 = .ok (.aload_n 0, 1) := by decide +kernel
theorem dX12_holds_158 : decode cX12_holds 158 = .ok (.aload_n 0, 1) := by decide +kernel
theorem dX12_holds_159 : decode cX12_holds 159 = .ok (.getfield 317, 3) := by decide +kernel
theorem dX12_holds_162 : decode cX12_holds 162 = .ok (.aload_n 0, 1) := by decide +kernel
theorem dX12_holds_163 : decode cX12_holds 163 = .ok (.getfield 332, 3) := by decide +kernel
theorem dX12_holds_166 : decode cX12_holds 166 = .ok (.aload_n 0, 1) := by decide +kernel
theorem dX12_holds_167 : decode cX12_holds 167 = .ok (.getfield 308, 3) := by decide +kernel
theorem dX12_holds_170 : decode cX12_holds 170 = .ok (.aload_n 0, 1) := by decide +kernel
theorem dX12_holds_171 : decode cX12_holds 171 = .ok (.getfield 100, 3) := by decide +kernel
theorem dX12_holds_174 : decode cX12_holds 174 = .ok (.bipush 100, 2) := by decide +kernel
theorem dX12_holds_176 : decode cX12_holds 176 = .ok (.iload_n 2, 1) := by decide +kernel
theorem dX12_holds_177 : decode cX12_holds 177 = .ok (.imul, 1) := by decide +kernel
theorem dX12_holds_178 : decode cX12_holds 178 = .ok (.aload_n 0, 1) := by decide +kernel
theorem dX12_holds_179 : decode cX12_holds 179 = .ok (.getfield 96, 3) := by decide +kernel
theorem dX12_holds_182 : decode cX12_holds 182 = .ok (.iload_n 2, 1) := by decide +kernel
theorem dX12_holds_183 : decode cX12_holds 183 = .ok (.iaload, 1) := by decide +kernel
theorem dX12_holds_184 : decode cX12_holds 184 = .ok (.invokevirtual 507, 3) := by decide +kernel
theorem dX12_holds_187 : decode cX12_holds 187 = .ok (.aload_n 0, 1) := by decide +kernel
theorem dX12_holds_188 : decode cX12_holds 188 = .ok (.invokevirtual 514, 3) := by decide +kernel
theorem dX12_holds_191 : decode cX12_holds 191 = .ok (.aload_n 0, 1) := by decide +kernel
theorem dX12_holds_192 : decode cX12_holds 192 = .ok (.aload_n 0, 1) := by decide +kernel
theorem dX12_holds_193 : decode cX12_holds 193 = .ok (.getfield 308, 3) := by decide +kernel
theorem dX12_holds_196 : decode cX12_holds 196 = .ok (.invokevirtual 423, 3) := by decide +kernel
theorem dX12_holds_199 : decode cX12_holds 199 = .ok (.istore 4, 2) := by decide +kernel
theorem dX12_holds_201 : decode cX12_holds 201 = .ok (.aload_n 0, 1) := by decide +kernel
theorem dX12_holds_202 : decode cX12_holds 202 = .ok (.invokevirtual 414, 3) := by decide +kernel
theorem dX12_holds_205 : decode cX12_holds 205 = .ok (.aload_n 0, 1) := by decide +kernel
theorem dX12_holds_206 : decode cX12_holds 206 = .ok (.aload_n 0, 1) := by decide +kernel
theorem dX12_holds_207 : decode cX12_holds 207 = .ok (.getfield 317, 3) := by decide +kernel
theorem dX12_holds_210 : decode cX12_holds 210 = .ok (.invokevirtual 490, 3) := by decide +kernel
theorem dX12_holds_213 : decode cX12_holds 213 = .ok (.aload_n 0, 1) := by decide +kernel
theorem dX12_holds_214 : decode cX12_holds 214 = .ok (.invokevirtual 517, 3) := by decide +kernel
theorem dX12_holds_217 : decode cX12_holds 217 = .ok (.aload_n 0, 1) := by decide +kernel
theorem dX12_holds_218 : decode cX12_holds 218 = .ok (.invokevirtual 487, 3) := by decide +kernel
theorem dX12_holds_221 : decode cX12_holds 221 = .ok (.aload_n 0, 1) := by decide +kernel
theorem dX12_holds_222 : decode cX12_holds 222 = .ok (.aload_n 0, 1) := by decide +kernel
theorem dX12_holds_223 : decode cX12_holds 223 = .ok (.getfield 335, 3) := by decide +kernel
theorem dX12_holds_226 : decode cX12_holds 226 = .ok (.invokevirtual 490, 3) := by decide +kernel
theorem dX12_holds_229 : decode cX12_holds 229 = .ok (.aload_n 0, 1) := by decide +kernel
theorem dX12_holds_230 : decode cX12_holds 230 = .ok (.invokevirtual 517, 3) := by decide +kernel
theorem dX12_holds_233 : decode cX12_holds 233 = .ok (.aload_n 0, 1) := by decide +kernel
theorem dX12_holds_234 : decode cX12_holds 234 = .ok (.getfield 329, 3) := by decide +kernel
theorem dX12_holds_237 : decode cX12_holds 237 = .ok (.invokestatic 377, 3) := by decide +kernel
theorem dX12_holds_240 : decode cX12_holds 240 = .ok (.ifCond .ne 34, 3) := by decide +kernel
theorem dX12_holds_243 : decode cX12_holds 243 = .ok (.aload_n 0, 1) := by decide +kernel
theorem dX12_holds_244 : decode cX12_holds 244 = .ok (.getfield 326, 3) := by decide +kernel
theorem dX12_holds_247 : decode cX12_holds 247 = .ok (.iconst 0, 1) := by decide +kernel
theorem dX12_holds_248 : decode cX12_holds 248 = .ok (.laload, 1) := by decide +kernel
theorem dX12_holds_249 : decode cX12_holds 249 = .ok (.lconst 1, 1) := by decide +kernel
theorem dX12_holds_250 : decode cX12_holds 250 = .ok (.land, 1) := by decide +kernel
theorem dX12_holds_251 : decode cX12_holds 251 = .ok (.lconst 0, 1) := by decide +kernel
theorem dX12_holds_252 : decode cX12_holds 252 = .ok (.lcmp, 1) := by decide +kernel
theorem dX12_holds_253 : decode cX12_holds 253 = .ok (.ifCond .ne 21, 3) := by decide +kernel
theorem dX12_holds_256 : decode cX12_holds 256 = .ok (.aload_n 0, 1) := by decide +kernel
theorem dX12_holds_257 : decode cX12_holds 257 = .ok (.getfield 323, 3) := by decide +kernel
theorem dX12_holds_260 : decode cX12_holds 260 = .ok (.aload_n 0, 1) := by decide +kernel
theorem dX12_holds_261 : decode cX12_holds 261 = .ok (.getfield 332, 3) := by decide +kernel
theorem dX12_holds_264 : decode cX12_holds 264 = .ok (.invokestatic 411, 3) := by decide +kernel
theorem dX12_holds_267 : decode cX12_holds 267 = .ok (.ifCond .eq 7, 3) := by decide +kernel
theorem dX12_holds_270 : decode cX12_holds 270 = .ok (.iconst 1, 1) := by decide +kernel
theorem dX12_holds_271 : decode cX12_holds 271 = .ok (.goto 4, 3) := by decide +kernel
theorem dX12_holds_274 : decode cX12_holds 274 = .ok (.iconst 0, 1) := by decide +kernel
theorem dX12_holds_275 : decode cX12_holds 275 = .ok (.ireturn, 1) := by decide +kernel
set_option maxRecDepth 20000 in
theorem ggX12_entry_X12_isRow : GoodIn wsX12_entry wsX12_isRow := goodIn_r _ [13, 14, 15, 16, 12, 17] rfl (by decide +kernel)
set_option maxRecDepth 20000 in
theorem gX12_entry_X12_isRow : GoodIn wsX12_entry (va_wsS RX12 460 yX12_isRow wsX12_isRow) := goodIn_app (goodIn_of _ (by decide +kernel)) ggX12_entry_X12_isRow
set_option maxRecDepth 20000 in
theorem ggX12_entry_X12_in : GoodIn wsX12_entry wsX12_in := goodIn_r _ [17] rfl (by decide +kernel)
set_option maxRecDepth 20000 in
theorem gX12_entry_X12_in : GoodIn wsX12_entry (va_wsS RX12 361 yX12_in wsX12_in) := goodIn_app (goodIn_of _ (by decide +kernel)) ggX12_entry_X12_in
theorem dX12_entry_0 : decode cX12_entry 0 = .ok (.iload_n 1, 1) := by decide +kernel
theorem dX12_entry_1 : decode cX12_entry 1 = .ok (.invokestatic 460, 3) := by decide +kernel
theorem dX12_entry_4 : decode cX12_entry 4 = .ok (.ifCond .eq 46, 3) := by decide +kernel
theorem dX12_entry_7 : decode cX12_entry 7 = .ok (.iload_n 2, 1) := by decide +kernel
theorem dX12_entry_8 : decode cX12_entry 8 = .ok (.invokestatic 460, 3) := by decide +kernel
theorem dX12_entry_11 : decode cX12_entry 11 = .ok (.ifCond .eq 39, 3) := by decide +kernel
theorem dX12_entry_14 : decode cX12_entry 14 = .ok (.iload_n 3, 1) := by decide +kernel
theorem dX12_entry_15 : decode cX12_entry 15 = .ok (.invokestatic 460, 3) := by decide +kernel
theorem dX12_entry_18 : decode cX12_entry 18 = .ok (.ifCond .eq 32, 3) := by decide +kernel
theorem dX12_entry_21 : decode cX12_entry 21 = .ok (.aload_n 0, 1) := by decide +kernel
theorem dX12_entry_22 : decode cX12_entry 22 = .ok (.getfield 520, 3) := by decide +kernel
theorem dX12_entry_25 : decode cX12_entry 25 = .ok (.ifCond .ne 13, 3) := by decide +kernel
theorem dX12_entry_28 : decode cX12_entry 28 = .ok (.lload 4, 2) := by decide +kernel
theorem dX12_entry_30 : decode cX12_entry 30 = .ok (.lconst 1, 1) := by decide +kernel
theorem dX12_entry_31 : decode cX12_entry 31 = .ok (.lcmp, 1) := by decide +kernel
theorem dX12_entry_32 : decode cX12_entry 32 = .ok (.ifCond .ne 18, 3) := by decide +kernel
theorem dX12_entry_35 : decode cX12_entry 35 = .ok (.goto 17, 3) := by decide +kernel
theorem dX12_entry_38 : decode cX12_entry 38 = .ok (.lload 4, 2) := by decide +kernel
theorem dX12_entry_40 : decode cX12_entry 40 = .ok (.lconst 1, 1) := by decide +kernel
theorem dX12_entry_41 : decode cX12_entry 41 = .ok (.ldc2_w 523, 3) := by decide +kernel
theorem dX12_entry_44 : decode cX12_entry 44 = .ok (.invokestatic 361, 3) := by decide +kernel
theorem dX12_entry_47 : decode cX12_entry 47 = .ok (.ifCond .ne 5, 3) := by decide +kernel
theorem dX12_entry_50 : decode cX12_entry 50 = .ok (.iconst (-1), 1) := by decide +kernel
theorem dX12_entry_51 : decode cX12_entry 51 = .ok (.ireturn, 1) := by decide +kernel
theorem dX12_entry_52 : decode cX12_entry 52 = .ok (.aload_n 0, 1) := by decide +kernel
theorem dX12_entry_53 : decode cX12_entry 53 = .ok (.getfield 96, 3) := by decide +kernel
theorem dX12_entry_56 : decode cX12_entry 56 = .ok (.iload_n 1, 1) := by decide +kernel
theorem dX12_entry_57 : decode cX12_entry 57 = .ok (.iaload, 1) := by decide +kernel
theorem dX12_entry_58 : decode cX12_entry 58 = .ok (.bipush 32, 2) := by decide +kernel
theorem dX12_entry_60 : decode cX12_entry 60 = .ok (.if_icmp .ne 25, 3) := by decide +kernel
theorem dX12_entry_63 : decode cX12_entry 63 = .ok (.aload_n 0, 1) := by decide +kernel
theorem dX12_entry_64 : decode cX12_entry 64 = .ok (.getfield 96, 3) := by decide +kernel
theorem dX12_entry_67 : decode cX12_entry 67 = .ok (.iload_n 3, 1) := by decide +kernel
theorem dX12_entry_68 : decode cX12_entry 68 = .ok (.iaload, 1) := by decide +kernel
theorem dX12_entry_69 : decode cX12_entry 69 = .ok (.bipush 64, 2) := by decide +kernel
theorem dX12_entry_71 : decode cX12_entry 71 = .ok (.if_icmp .ne 14, 3) := by decide +kernel
theorem dX12_entry_74 : decode cX12_entry 74 = .ok (.aload_n 0, 1) := by decide +kernel
theorem dX12_entry_75 : decode cX12_entry 75 = .ok (.getfield 96, 3) := by decide +kernel
theorem dX12_entry_78 : decode cX12_entry 78 = .ok (.iload_n 2, 1) := by decide +kernel
theorem dX12_entry_79 : decode cX12_entry 79 = .ok (.iaload, 1) := by decide +kernel
theorem dX12_entry_80 : decode cX12_entry 80 = .ok (.bipush 40, 2) := by decide +kernel
theorem dX12_entry_82 : decode cX12_entry 82 = .ok (.if_icmp .le 6, 3) := by decide +kernel
theorem dX12_entry_85 : decode cX12_entry 85 = .ok (.bipush (-2), 2) := by decide +kernel
theorem dX12_entry_87 : decode cX12_entry 87 = .ok (.ireturn, 1) := by decide +kernel
theorem dX12_entry_88 : decode cX12_entry 88 = .ok (.aload_n 0, 1) := by decide +kernel
theorem dX12_entry_89 : decode cX12_entry 89 = .ok (.getfield 520, 3) := by decide +kernel
theorem dX12_entry_92 : decode cX12_entry 92 = .ok (.iconst 4, 1) := by decide +kernel
theorem dX12_entry_93 : decode cX12_entry 93 = .ok (.if_icmp .ne 6, 3) := by decide +kernel
theorem dX12_entry_96 : decode cX12_entry 96 = .ok (.bipush (-3), 2) := by decide +kernel
theorem dX12_entry_98 : decode cX12_entry 98 = .ok (.ireturn, 1) := by decide +kernel
theorem dX12_entry_99 : decode cX12_entry 99 = .ok (.iconst 0, 1) := by decide +kernel
theorem dX12_entry_100 : decode cX12_entry 100 = .ok (.istore 6, 2) := by decide +kernel
theorem dX12_entry_102 : decode cX12_entry 102 = .ok (.iload 6, 2) := by decide +kernel
theorem dX12_entry_104 : decode cX12_entry 104 = .ok (.bipush 64, 2) := by decide +kernel
theorem dX12_entry_106 : decode cX12_entry 106 = .ok (.if_icmp .ge 36, 3) := by decide +kernel
theorem dX12_entry_109 : decode cX12_entry 109 = .ok (.aload_n 0, 1) := by decide +kernel
theorem dX12_entry_110 : decode cX12_entry 110 = .ok (.getfield 112, 3) := by decide +kernel
theorem dX12_entry_113 : decode cX12_entry 113 = .ok (.bipush 64, 2) := by decide +kernel
theorem dX12_entry_115 : decode cX12_entry 115 = .ok (.aload_n 0, 1) := by decide +kernel
theorem dX12_entry_116 : decode cX12_entry 116 = .ok (.getfield 520, 3) := by decide +kernel
theorem dX12_entry_119 : decode cX12_entry 119 = .ok (.imul, 1) := by decide +kernel
theorem dX12_entry_120 : decode cX12_entry 120 = .ok (.iload 6, 2) := by decide +kernel
theorem dX12_entry_122 : decode cX12_entry 122 = .ok (.iadd, 1) := by decide +kernel
theorem dX12_entry_123 : decode cX12_entry 123 = .ok (.aload_n 0, 1) := by decide +kernel
theorem dX12_entry_124 : decode cX12_entry 124 = .ok (.getfield 100, 3) := by decide +kernel
theorem dX12_entry_127 : decode cX12_entry 127 = .ok (.bipush 100, 2) := by decide +kernel
theorem dX12_entry_129 : decode cX12_entry 129 = .ok (.iload_n 3, 1) := by decide +kernel
theorem dX12_entry_130 : decode cX12_entry 130 = .ok (.imul, 1) := by decide +kernel
theorem dX12_entry_131 : decode cX12_entry 131 = .ok (.iload 6, 2) := by decide +kernel
theorem dX12_entry_133 : decode cX12_entry 133 = .ok (.iadd, 1) := by decide +kernel
theorem dX12_entry_134 : decode cX12_entry 134 = .ok (.iaload, 1) := by decide +kernel
theorem dX12_entry_135 : decode cX12_entry 135 = .ok (.iastore, 1) := by decide +kernel
theorem dX12_entry_136 : decode cX12_entry 136 = .ok (.iinc 6 1, 3) := by decide +kernel
theorem dX12_entry_139 : decode cX12_entry 139 = .ok (.goto (-37), 3) := by decide +kernel
theorem dX12_entry_142 : decode cX12_entry 142 = .ok (.iconst 0, 1) := by decide +kernel
theorem dX12_entry_143 : decode cX12_entry 143 = .ok (.istore 6, 2) := by decide +kernel
theorem dX12_entry_145 : decode cX12_entry 145 = .ok (.iload 6, 2) := by decide +kernel
theorem dX12_entry_147 : decode cX12_entry 147 = .ok (.bipush 32, 2) := by decide +kernel
theorem dX12_entry_149 : decode cX12_entry 149 = .ok (.if_icmp .ge 36, 3) := by decide +kernel
theorem dX12_entry_152 : decode cX12_entry 152 = .ok (.aload_n 0, 1) := by decide +kernel
theorem dX12_entry_153 : decode cX12_entry 153 = .ok (.getfield 103, 3) := by decide +kernel
theorem dX12_entry_156 : decode cX12_entry 156 = .ok (.bipush 32, 2) := by decide +kernel
theorem dX12_entry_158 : decode cX12_entry 158 = .ok (.aload_n 0, 1) := by decide +kernel
theorem dX12_entry_159 : decode cX12_entry 159 = .ok (.getfield 520, 3) := by decide +kernel
theorem dX12_entry_162 : decode cX12_entry 162 = .ok (.imul, 1) := by decide +kernel
theorem dX12_entry_163 : decode cX12_entry 163 = .ok (.iload 6, 2) := by decide +kernel
theorem dX12_entry_165 : decode cX12_entry 165 = .ok (.iadd, 1) := by decide +kernel
theorem dX12_entry_166 : decode cX12_entry 166 = .ok (.aload_n 0, 1) := by decide +kernel
theorem dX12_entry_167 : decode cX12_entry 167 = .ok (.getfield 100, 3) := by decide +kernel
theorem dX12_entry_170 : decode cX12_entry 170 = .ok (.bipush 100, 2) := by decide +kernel
theorem dX12_entry_172 : decode cX12_entry 172 = .ok (.iload_n 1, 1) := by decide +kernel
theorem dX12_entry_173 : decode cX12_entry 173 = .ok (.imul, 1) := by decide +kernel
theorem dX12_entry_174 : decode cX12_entry 174 = .ok (.iload 6, 2) := by decide +kernel
theorem dX12_entry_176 : decode cX12_entry 176 = .ok (.iadd, 1) := by decide +kernel
theorem dX12_entry_177 : decode cX12_entry 177 = .ok (.iaload, 1) := by decide +kernel
theorem dX12_entry_178 : decode cX12_entry 178 = .ok (.iastore, 1) := by decide +kernel
theorem dX12_entry_179 : decode cX12_entry 179 = .ok (.iinc 6 1, 3) := by decide +kernel
theorem dX12_entry_182 : decode cX12_entry 182 = .ok (.goto (-37), 3) := by decide +kernel
theorem dX12_entry_185 : decode cX12_entry 185 = .ok (.iconst 0, 1) := by decide +kernel
theorem dX12_entry_186 : decode cX12_entry 186 = .ok (.istore 6, 2) := by decide +kernel
theorem dX12_entry_188 : decode cX12_entry 188 = .ok (.iload 6, 2) := by decide +kernel
theorem dX12_entry_190 : decode cX12_entry 190 = .ok (.aload_n 0, 1) := by decide +kernel
theorem dX12_entry_191 : decode cX12_entry 191 = .ok (.getfield 96, 3) := by decide +kernel
theorem dX12_entry_194 : decode cX12_entry 194 = .ok (.iload_n 2, 1) := by decide +kernel
theorem dX12_entry_195 : decode cX12_entry 195 = .ok (.iaload, 1) := by decide +kernel
theorem dX12_entry_196 : decode cX12_entry 196 = .ok (.if_icmp .ge 36, 3) := by decide +kernel
theorem dX12_entry_199 : decode cX12_entry 199 = .ok (.aload_n 0, 1) := by decide +kernel
theorem dX12_entry_200 : decode cX12_entry 200 = .ok (.getfield 106, 3) := by decide +kernel
theorem dX12_entry_203 : decode cX12_entry 203 = .ok (.bipush 40, 2) := by decide +kernel
theorem dX12_entry_205 : decode cX12_entry 205 = .ok (.aload_n 0, 1) := by decide +kernel
theorem dX12_entry_206 : decode cX12_entry 206 = .ok (.getfield 520, 3) := by decide +kernel
theorem dX12_entry_209 : decode cX12_entry 209 = .ok (.imul, 1) := by decide +kernel
theorem dX12_entry_210 : decode cX12_entry 210 = .ok (.iload 6, 2) := by decide +kernel
theorem dX12_entry_212 : decode cX12_entry 212 = .ok (.iadd, 1) := by decide +kernel
theorem dX12_entry_213 : decode cX12_entry 213 = .ok (.aload_n 0, 1) := by decide +kernel
theorem dX12_entry_214 : decode cX12_entry 214 = .ok (.getfield 100, 3) := by decide +kernel
theorem dX12_entry_217 : decode cX12_entry 217 = .ok (.bipush 100, 2) := by decide +kernel
theorem dX12_entry_219 : decode cX12_entry 219 = .ok (.iload_n 2, 1) := by decide +kernel
theorem dX12_entry_220 : decode cX12_entry 220 = .ok (.imul, 1) := by decide +kernel
theorem dX12_entry_221 : decode cX12_entry 221 = .ok (.iload 6, 2) := by decide +kernel
theorem dX12_entry_223 : decode cX12_entry 223 = .ok (.iadd, 1) := by decide +kernel
theorem dX12_entry_224 : decode cX12_entry 224 = .ok (.iaload, 1) := by decide +kernel
theorem dX12_entry_225 : decode cX12_entry 225 = .ok (.iastore, 1) := by decide +kernel
theorem dX12_entry_226 : decode cX12_entry 226 = .ok (.iinc 6 1, 3) := by decide +kernel
theorem dX12_entry_229 : decode cX12_entry 229 = .ok (.goto (-41), 3) := by decide +kernel
theorem dX12_entry_232 : decode cX12_entry 232 = .ok (.aload_n 0, 1) := by decide +kernel
theorem dX12_entry_233 : decode cX12_entry 233 = .ok (.getfield 109, 3) := by decide +kernel
theorem dX12_entry_236 : decode cX12_entry 236 = .ok (.aload_n 0, 1) := by decide +kernel
theorem dX12_entry_237 : decode cX12_entry 237 = .ok (.getfield 520, 3) := by decide +kernel
theorem dX12_entry_240 : decode cX12_entry 240 = .ok (.aload_n 0, 1) := by decide +kernel
theorem dX12_entry_241 : decode cX12_entry 241 = .ok (.getfield 96, 3) := by decide +kernel
theorem dX12_entry_244 : decode cX12_entry 244 = .ok (.iload_n 2, 1) := by decide +kernel
theorem dX12_entry_245 : decode cX12_entry 245 = .ok (.iaload, 1) := by decide +kernel
theorem dX12_entry_246 : decode cX12_entry 246 = .ok (.iastore, 1) := by decide +kernel
theorem dX12_entry_247 : decode cX12_entry 247 = .ok (.aload_n 0, 1) := by decide +kernel
theorem dX12_entry_248 : decode cX12_entry 248 = .ok (.getfield 115, 3) := by decide +kernel
theorem dX12_entry_251 : decode cX12_entry 251 = .ok (.aload_n 0, 1) := by decide +kernel
theorem dX12_entry_252 : decode cX12_entry 252 = .ok (.getfield 520, 3) := by decide +kernel
theorem dX12_entry_255 : decode cX12_entry 255 = .ok (.lload 4, 2) := by decide +kernel
theorem dX12_entry_257 : decode cX12_entry 257 = .ok (.lastore, 1) := by decide +kernel
theorem dX12_entry_258 : decode cX12_entry 258 = .ok (.aload_n 0, 1) := by decide +kernel
theorem dX12_entry_259 : decode cX12_entry 259 = .ok (.dup, 1) := by decide +kernel
theorem dX12_entry_260 : decode cX12_entry 260 = .ok (.getfield 520, 3) := by decide +kernel
theorem dX12_entry_263 : decode cX12_entry 263 = .ok (.iconst 1, 1) := by decide +kernel
theorem dX12_entry_264 : decode cX12_entry 264 = .ok (.iadd, 1) := by decide +kernel
theorem dX12_entry_265 : decode cX12_entry 265 = .ok (.putfield 520, 3) := by decide +kernel
theorem dX12_entry_268 : decode cX12_entry 268 = .ok (.aload_n 0, 1) := by decide +kernel
theorem dX12_entry_269 : decode cX12_entry 269 = .ok (.getfield 520, 3) := by decide +kernel
theorem dX12_entry_272 : decode cX12_entry 272 = .ok (.ireturn, 1) := by decide +kernel
set_option maxRecDepth 20000 in
theorem ggX12_areWell_X12_numberOf : GoodIn wsX12_areWell wsX12_numberOf := goodIn_r _ [11] rfl (by decide +kernel)
set_option maxRecDepth 20000 in
theorem gX12_areWell_X12_numberOf : GoodIn wsX12_areWell (va_wsS RX12 419 yX12_numberOf wsX12_numberOf) := goodIn_app (goodIn_of _ (by decide +kernel)) ggX12_areWell_X12_numberOf
set_option maxRecDepth 20000 in
theorem ggX12_areWell_X12_lift : GoodIn wsX12_areWell wsX12_lift := goodIn_r _ [15, 16, 17, 18, 19, 20, 21, 22, 23, 24, 10, 25, 26, 27, 28, 29, 30, 31, 32, 33, 34, 35, 36, 37, 38, 39, 40, 41, 7, 42, 43, 44, 45, 46, 47, 48, 49, 50, 51, 52, 53, 54, 55, 56, 57, 58, 59, 60, 61, 62, 63, 64, 65, 66, 67, 68, 69, 70, 71, 72, 73, 74, 75, 76, 77, 78, 79, 80, 81, 82, 83, 84, 85, 86, 87, 88, 89, 90, 91, 92, 93, 94, 95, 96, 97, 98, 99, 100, 101, 102, 103, 104, 105, 106, 107, 108, 109, 110, 111, 112, 113, 114, 115, 116, 117, 118, 119, 120, 121, 122, 123, 124, 125, 126, 127, 128, 129, 130, 131, 132, 133, 134, 135, 136, 137, 138, 139, 140, 141, 142, 143, 144, 145, 146, 147, 148] rfl (by decide +kernel)
set_option maxRecDepth 20000 in
theorem gX12_areWell_X12_lift : GoodIn wsX12_areWell (wsV RX12 423 RX12 yX12_lift wsX12_lift) := goodIn_app (goodIn_of _ (by decide +kernel)) ggX12_areWell_X12_lift
set_option maxRecDepth 20000 in
theorem ggX12_areWell_X12_isBelow : GoodIn wsX12_areWell wsX12_isBelow := goodIn_r _ [25] rfl (by decide +kernel)
set_option maxRecDepth 20000 in
theorem gX12_areWell_X12_isBelow : GoodIn wsX12_areWell (va_wsS RX12 365 yX12_isBelow wsX12_isBelow) := goodIn_app (goodIn_of _ (by decide +kernel)) ggX12_areWell_X12_isBelow
theorem dX12_areWell_0 : decode cX12_areWell 0 = .ok (.iconst 1, 1) := by decide +kernel
theorem dX12_areWell_1 : decode cX12_areWell 1 = .ok (.istore_n 1, 1) := by decide +kernel
theorem dX12_areWell_2 : decode cX12_areWell 2 = .ok (.iconst 0, 1) := by decide +kernel
theorem dX12_areWell_3 : decode cX12_areWell 3 = .ok (.istore_n 2, 1) := by decide +kernel
theorem dX12_areWell_4 : decode cX12_areWell 4 = .ok (.iload_n 2, 1) := by decide +kernel
theorem dX12_areWell_5 : decode cX12_areWell 5 = .ok (.aload_n 0, 1) := by decide +kernel
theorem dX12_areWell_6 : decode cX12_areWell 6 = .ok (.getfield 520, 3) := by decide +kernel
theorem dX12_areWell_9 : decode cX12_areWell 9 = .ok (.if_icmp .ge 103, 3) := by decide +kernel
theorem dX12_areWell_12 : decode cX12_areWell 12 = .ok (.iload_n 1, 1) := by decide +kernel
theorem dX12_areWell_13 : decode cX12_areWell 13 = .ok (.ifCond .eq 99, 3) := by decide +kernel
theorem dX12_areWell_16 : decode cX12_areWell 16 = .ok (.aload_n 0, 1) := by decide +kernel
theorem dX12_areWell_17 : decode cX12_areWell 17 = .ok (.getfield 308, 3) := by decide +kernel
theorem dX12_areWell_20 : decode cX12_areWell 20 = .ok (.aload_n 0, 1) := by decide +kernel
theorem dX12_areWell_21 : decode cX12_areWell 21 = .ok (.getfield 103, 3) := by decide +kernel
theorem dX12_areWell_24 : decode cX12_areWell 24 = .ok (.bipush 32, 2) := by decide +kernel
theorem dX12_areWell_26 : decode cX12_areWell 26 = .ok (.iload_n 2, 1) := by decide +kernel
theorem dX12_areWell_27 : decode cX12_areWell 27 = .ok (.imul, 1) := by decide +kernel
theorem dX12_areWell_28 : decode cX12_areWell 28 = .ok (.invokestatic 419, 3) := by decide +kernel
theorem dX12_areWell_31 : decode cX12_areWell 31 = .ok (.aload_n 0, 1) := by decide +kernel
theorem dX12_areWell_32 : decode cX12_areWell 32 = .ok (.getfield 332, 3) := by decide +kernel
theorem dX12_areWell_35 : decode cX12_areWell 35 = .ok (.aload_n 0, 1) := by decide +kernel
theorem dX12_areWell_36 : decode cX12_areWell 36 = .ok (.getfield 112, 3) := by decide +kernel
theorem dX12_areWell_39 : decode cX12_areWell 39 = .ok (.bipush 64, 2) := by decide +kernel
theorem dX12_areWell_41 : decode cX12_areWell 41 = .ok (.iload_n 2, 1) := by decide +kernel
theorem dX12_areWell_42 : decode cX12_areWell 42 = .ok (.imul, 1) := by decide +kernel
theorem dX12_areWell_43 : decode cX12_areWell 43 = .ok (.invokestatic 419, 3) := by decide +kernel
theorem dX12_areWell_46 : decode cX12_areWell 46 = .ok (.aload_n 0, 1) := by decide +kernel
theorem dX12_areWell_47 : decode cX12_areWell 47 = .ok (.getfield 335, 3) := by decide +kernel
theorem dX12_areWell_50 : decode cX12_areWell 50 = .ok (.aload_n 0, 1) := by decide +kernel
theorem dX12_areWell_51 : decode cX12_areWell 51 = .ok (.getfield 112, 3) := by decide +kernel
theorem dX12_areWell_54 : decode cX12_areWell 54 = .ok (.bipush 64, 2) := by decide +kernel
theorem dX12_areWell_56 : decode cX12_areWell 56 = .ok (.iload_n 2, 1) := by decide +kernel
theorem dX12_areWell_57 : decode cX12_areWell 57 = .ok (.imul, 1) := by decide +kernel
theorem dX12_areWell_58 : decode cX12_areWell 58 = .ok (.bipush 32, 2) := by decide +kernel
theorem dX12_areWell_60 : decode cX12_areWell 60 = .ok (.iadd, 1) := by decide +kernel
theorem dX12_areWell_61 : decode cX12_areWell 61 = .ok (.invokestatic 419, 3) := by decide +kernel
theorem dX12_areWell_64 : decode cX12_areWell 64 = .ok (.aload_n 0, 1) := by decide +kernel
theorem dX12_areWell_65 : decode cX12_areWell 65 = .ok (.aload_n 0, 1) := by decide +kernel
theorem dX12_areWell_66 : decode cX12_areWell 66 = .ok (.getfield 308, 3) := by decide +kernel
theorem dX12_areWell_69 : decode cX12_areWell 69 = .ok (.invokevirtual 423, 3) := by decide +kernel
theorem dX12_areWell_72 : decode cX12_areWell 72 = .ok (.ifCond .eq 32, 3) := by decide +kernel
theorem dX12_areWell_75 : decode cX12_areWell 75 = .ok (.aload_n 0, 1) := by decide +kernel
theorem dX12_areWell_76 : decode cX12_areWell 76 = .ok (.aload_n 0, 1) := by decide +kernel
theorem dX12_areWell_77 : decode cX12_areWell 77 = .ok (.getfield 332, 3) := by decide +kernel
theorem dX12_areWell_80 : decode cX12_areWell 80 = .ok (.invokevirtual 423, 3) := by decide +kernel
theorem dX12_areWell_83 : decode cX12_areWell 83 = .ok (.ifCond .eq 21, 3) := by decide +kernel
theorem dX12_areWell_86 : decode cX12_areWell 86 = .ok (.aload_n 0, 1) := by decide +kernel
theorem dX12_areWell_87 : decode cX12_areWell 87 = .ok (.getfield 335, 3) := by decide +kernel
theorem dX12_areWell_90 : decode cX12_areWell 90 = .ok (.aload_n 0, 1) := by decide +kernel
theorem dX12_areWell_91 : decode cX12_areWell 91 = .ok (.getfield 27, 3) := by decide +kernel
theorem dX12_areWell_94 : decode cX12_areWell 94 = .ok (.invokestatic 365, 3) := by decide +kernel
theorem dX12_areWell_97 : decode cX12_areWell 97 = .ok (.ifCond .eq 7, 3) := by decide +kernel
theorem dX12_areWell_100 : decode cX12_areWell 100 = .ok (.iconst 1, 1) := by decide +kernel
theorem dX12_areWell_101 : decode cX12_areWell 101 = .ok (.goto 4, 3) := by decide +kernel
theorem dX12_areWell_104 : decode cX12_areWell 104 = .ok (.iconst 0, 1) := by decide +kernel
theorem dX12_areWell_105 : decode cX12_areWell 105 = .ok (.istore_n 1, 1) := by decide +kernel
theorem dX12_areWell_106 : decode cX12_areWell 106 = .ok (.iinc 2 1, 3) := by decide +kernel
theorem dX12_areWell_109 : decode cX12_areWell 109 = .ok (.goto (-105), 3) := by decide +kernel
theorem dX12_areWell_112 : decode cX12_areWell 112 = .ok (.iload_n 1, 1) := by decide +kernel
theorem dX12_areWell_113 : decode cX12_areWell 113 = .ok (.ireturn, 1) := by decide +kernel
set_option maxRecDepth 20000 in
theorem ggX12_manyHold_X12_areWell : GoodIn wsX12_manyHold wsX12_areWell := goodIn_r _ [24, 1, 4, 5, 6, 7, 8, 25, 26, 27, 23, 28, 29, 30, 31, 32, 33, 34, 35, 36, 37, 38, 39, 40, 41, 42, 43, 44, 45, 46, 47, 48, 49, 50, 51, 52, 53, 54, 55, 56, 57, 58, 59, 60, 61, 62, 63, 64, 65, 66, 67, 68, 69, 70, 71, 72, 73, 74, 75, 76, 77, 78, 79, 80, 81, 82, 83, 84, 194, 195, 196, 197, 198, 199, 200, 201, 202, 203, 204, 205, 206, 207, 208, 209, 210, 211, 212, 213, 214, 215, 216, 217, 218, 219, 220, 221, 222, 223, 224, 225, 226, 227, 228, 229, 230, 231, 232, 233, 234, 235, 236, 237, 238, 239, 240, 241, 242, 243, 244, 245, 246, 247, 248, 249, 250, 251, 252, 253, 254, 255, 256, 257, 258, 259, 260, 261, 262, 263, 264, 265, 266, 267, 268, 269, 270, 271, 272, 273, 274] rfl (by decide +kernel)
set_option maxRecDepth 20000 in
theorem gX12_manyHold_X12_areWell : GoodIn wsX12_manyHold (wsV RX12 525 RX12 yX12_areWell wsX12_areWell) := goodIn_app (goodIn_of _ (by decide +kernel)) ggX12_manyHold_X12_areWell
set_option maxRecDepth 20000 in
theorem ggX12_manyHold_X12_isSpent : GoodIn wsX12_manyHold wsX12_isSpent := goodIn_r _ [88, 2, 194, 195, 196, 197, 198, 199, 200, 201, 202, 203, 204, 205, 206, 207, 208, 209, 210, 211, 212, 213, 214, 215, 216, 217, 218, 219, 220, 221, 222, 223, 224, 225, 226, 227, 228, 229, 230, 231, 232, 233, 234, 235, 236, 237, 238, 239, 240, 241, 242, 243, 244, 245, 246, 247, 248, 249, 250, 251, 252, 253, 254, 255, 256, 257, 258, 259, 260, 261, 262, 263, 264, 265, 266, 267, 268, 269, 270, 271, 272, 273, 274] rfl (by decide +kernel)
set_option maxRecDepth 20000 in
theorem gX12_manyHold_X12_isSpent : GoodIn wsX12_manyHold (wsV RX12 484 RX12 yX12_isSpent wsX12_isSpent) := goodIn_app (goodIn_of _ (by decide +kernel)) ggX12_manyHold_X12_isSpent
set_option maxRecDepth 20000 in
theorem ggX12_manyHold_X12_noSum : GoodIn wsX12_manyHold wsX12_noSum := goodIn_r _ [92, 15, 72, 73, 23, 74, 51, 194, 195, 196, 197, 198, 199, 200, 201, 202, 203, 204, 205, 206, 207, 208, 209, 210, 211, 212, 213, 214, 215, 216, 217, 218, 219, 220, 221, 222, 223, 224, 225, 226, 227, 228, 229, 230, 231, 232, 233, 234, 235, 236, 237, 238, 239, 240, 241, 242, 243, 244, 245, 246, 247, 248, 249, 250, 251, 252, 253, 254, 255, 256, 257, 258, 259, 260, 261, 262, 263, 264, 265, 266, 267, 268, 269, 270, 271, 272, 273, 274] rfl (by decide +kernel)
set_option maxRecDepth 20000 in
theorem gX12_manyHold_X12_noSum : GoodIn wsX12_manyHold (wsV RX12 514 RX12 yX12_noSum wsX12_noSum) := goodIn_app (goodIn_of _ (by decide +kernel)) ggX12_manyHold_X12_noSum
set_option maxRecDepth 20000 in
theorem ggX12_manyHold_X12_small : GoodIn wsX12_manyHold wsX12_small := goodIn_r _ [74, 51] rfl (by decide +kernel)
set_option maxRecDepth 20000 in
theorem gX12_manyHold_X12_small : GoodIn wsX12_manyHold (va_wsS RX12 389 yX12_small wsX12_small) := goodIn_app (goodIn_of _ (by decide +kernel)) ggX12_manyHold_X12_small
set_option maxRecDepth 20000 in
theorem ggX12_manyHold_X12_numberOf : GoodIn wsX12_manyHold wsX12_numberOf := goodIn_r _ [28] rfl (by decide +kernel)
set_option maxRecDepth 20000 in
theorem gX12_manyHold_X12_numberOf : GoodIn wsX12_manyHold (va_wsS RX12 419 yX12_numberOf wsX12_numberOf) := goodIn_app (goodIn_of _ (by decide +kernel)) ggX12_manyHold_X12_numberOf
set_option maxRecDepth 20000 in
theorem ggX12_manyHold_X12_challenge : GoodIn wsX12_manyHold wsX12_challenge := goodIn_r _ [96, 97, 98, 99, 23, 100, 101, 102, 103, 104, 105, 106, 107, 108, 109, 110, 111, 112, 113, 114, 115, 116, 117, 118, 119, 120, 121, 122, 123, 124, 125, 126, 127, 128, 129, 130, 131, 132, 133, 134, 135, 136, 137, 138, 139, 140, 141, 142, 143, 144, 145, 146, 147, 148, 149, 25, 150, 151, 152, 153, 26, 27, 28, 40, 41, 42, 59, 60, 61, 51, 194, 195, 196, 197, 198, 199, 200, 201, 202, 203, 204, 205, 206, 207, 208, 209, 210, 211, 212, 213, 214, 215, 216, 217, 218, 219, 220, 221, 222, 223, 224, 225, 226, 227, 228, 229, 230, 231, 232, 233, 234, 235, 236, 237, 238, 239, 240, 241, 242, 243, 244, 245, 246, 247, 248, 249, 250, 251, 252, 253, 254, 255, 256, 257, 258, 259, 260, 261, 262, 263, 264, 265, 266, 267, 268, 269, 270, 271, 272, 273, 274] rfl (by decide +kernel)
set_option maxRecDepth 20000 in
theorem gX12_manyHold_X12_challenge : GoodIn wsX12_manyHold (wsV RX12 507 RX12 yX12_challenge wsX12_challenge) := goodIn_app (goodIn_of _ (by decide +kernel)) ggX12_manyHold_X12_challenge
set_option maxRecDepth 20000 in
theorem ggX12_manyHold_X12_times : GoodIn wsX12_manyHold wsX12_times := goodIn_r _ [49, 50, 51, 52, 53, 54, 23, 55, 56, 57, 58, 25, 33, 40, 41, 42, 59, 60, 61, 194, 195, 196, 197, 198, 199, 200, 201, 202, 203, 204, 205, 206, 207, 208, 209, 210, 211, 212, 213, 214, 215, 216, 217, 218, 219, 220, 221, 222, 223, 224, 225, 226, 227, 228, 229, 230, 231, 232, 233, 234, 235, 236, 237, 238, 239, 240, 241, 242, 243, 244, 245, 246, 247, 248, 249, 250, 251, 252, 253, 254, 255, 256, 257, 258, 259, 260, 261, 262, 263, 264, 265, 266, 267, 268, 269, 270, 271, 272, 273, 274] rfl (by decide +kernel)
set_option maxRecDepth 20000 in
theorem gX12_manyHold_X12_times : GoodIn wsX12_manyHold (wsV RX12 393 RX12 yX12_times wsX12_times) := goodIn_app (goodIn_of _ (by decide +kernel)) ggX12_manyHold_X12_times
set_option maxRecDepth 20000 in
theorem ggX12_manyHold_X12_add : GoodIn wsX12_manyHold wsX12_add := goodIn_r _ [65, 50, 51, 52, 53, 54, 23, 55, 56, 57, 58, 25, 33, 40, 41, 42, 59, 60, 61, 194, 195, 196, 197, 198, 199, 200, 201, 202, 203, 204, 205, 206, 207, 208, 209, 210, 211, 212, 213, 214, 215, 216, 217, 218, 219, 220, 221, 222, 223, 224, 225, 226, 227, 228, 229, 230, 231, 232, 233, 234, 235, 236, 237, 238, 239, 240, 241, 242, 243, 244, 245, 246, 247, 248, 249, 250, 251, 252, 253, 254, 255, 256, 257, 258, 259, 260, 261, 262, 263, 264, 265, 266, 267, 268, 269, 270, 271, 272, 273, 274] rfl (by decide +kernel)
set_option maxRecDepth 20000 in
theorem gX12_manyHold_X12_add : GoodIn wsX12_manyHold (wsV RX12 385 RX12 yX12_add wsX12_add) := goodIn_app (goodIn_of _ (by decide +kernel)) ggX12_manyHold_X12_add
set_option maxRecDepth 20000 in
theorem ggX12_manyHold_X12_lift : GoodIn wsX12_manyHold wsX12_lift := goodIn_r _ [32, 33, 34, 35, 36, 37, 38, 39, 40, 41, 23, 42, 43, 44, 45, 46, 47, 48, 49, 50, 51, 52, 53, 54, 55, 56, 57, 58, 25, 59, 60, 61, 62, 63, 64, 65, 66, 67, 68, 69, 70, 71, 72, 73, 74, 75, 76, 77, 78, 79, 80, 81, 82, 83, 84, 194, 195, 196, 197, 198, 199, 200, 201, 202, 203, 204, 205, 206, 207, 208, 209, 210, 211, 212, 213, 214, 215, 216, 217, 218, 219, 220, 221, 222, 223, 224, 225, 226, 227, 228, 229, 230, 231, 232, 233, 234, 235, 236, 237, 238, 239, 240, 241, 242, 243, 244, 245, 246, 247, 248, 249, 250, 251, 252, 253, 254, 255, 256, 257, 258, 259, 260, 261, 262, 263, 264, 265, 266, 267, 268, 269, 270, 271, 272, 273, 274] rfl (by decide +kernel)
set_option maxRecDepth 20000 in
theorem gX12_manyHold_X12_lift : GoodIn wsX12_manyHold (wsV RX12 423 RX12 yX12_lift wsX12_lift) := goodIn_app (goodIn_of _ (by decide +kernel)) ggX12_manyHold_X12_lift
set_option maxRecDepth 20000 in
theorem ggX12_manyHold_X12_multiply : GoodIn wsX12_manyHold wsX12_multiply := goodIn_r _ [157, 14, 72, 73, 23, 74, 51, 158, 159, 160, 161, 35, 16, 39, 18, 162, 163, 164, 165, 82, 83, 84, 46, 47, 48, 49, 50, 52, 53, 54, 55, 56, 57, 58, 25, 33, 40, 41, 42, 59, 60, 61, 62, 63, 64, 65, 166, 167, 168, 169, 170, 43, 44, 45, 171, 172, 173, 174, 34, 37, 175, 176, 177, 178, 179, 66, 67, 68, 69, 70, 71, 194, 195, 196, 197, 198, 199, 200, 201, 202, 203, 204, 205, 206, 207, 208, 209, 210, 211, 212, 213, 214, 215, 216, 217, 218, 219, 220, 221, 222, 223, 224, 225, 226, 227, 228, 229, 230, 231, 232, 233, 234, 235, 236, 237, 238, 239, 240, 241, 242, 243, 244, 245, 246, 247, 248, 249, 250, 251, 252, 253, 254, 255, 256, 257, 258, 259, 260, 261, 262, 263, 264, 265, 266, 267, 268, 269, 270, 271, 272, 273, 274] rfl (by decide +kernel)
set_option maxRecDepth 20000 in
theorem gX12_manyHold_X12_multiply : GoodIn wsX12_manyHold (wsV RX12 490 RX12 yX12_multiply wsX12_multiply) := goodIn_app (goodIn_of _ (by decide +kernel)) ggX12_manyHold_X12_multiply
set_option maxRecDepth 20000 in
theorem ggX12_manyHold_X12_addToSum : GoodIn wsX12_manyHold wsX12_addToSum := goodIn_r _ [183, 14, 16, 17, 18, 19, 15, 82, 83, 23, 84, 184, 185, 186, 187, 34, 37, 43, 44, 45, 171, 172, 173, 174, 35, 39, 162, 163, 164, 165, 72, 73, 74, 51, 46, 47, 48, 49, 50, 52, 53, 54, 55, 56, 57, 58, 25, 33, 40, 41, 42, 59, 60, 61, 166, 167, 168, 169, 170, 62, 63, 64, 65, 158, 159, 160, 161, 175, 176, 177, 178, 179, 66, 67, 68, 69, 70, 71, 194, 195, 196, 197, 198, 199, 200, 201, 202, 203, 204, 205, 206, 207, 208, 209, 210, 211, 212, 213, 214, 215, 216, 217, 218, 219, 220, 221, 222, 223, 224, 225, 226, 227, 228, 229, 230, 231, 232, 233, 234, 235, 236, 237, 238, 239, 240, 241, 242, 243, 244, 245, 246, 247, 248, 249, 250, 251, 252, 253, 254, 255, 256, 257, 258, 259, 260, 261, 262, 263, 264, 265, 266, 267, 268, 269, 270, 271, 272, 273, 274] rfl (by decide +kernel)
set_option maxRecDepth 20000 in
theorem gX12_manyHold_X12_addToSum : GoodIn wsX12_manyHold (wsV RX12 517 RX12 yX12_addToSum wsX12_addToSum) := goodIn_app (goodIn_of _ (by decide +kernel)) ggX12_manyHold_X12_addToSum
set_option maxRecDepth 20000 in
theorem ggX12_manyHold_X12_generator : GoodIn wsX12_manyHold wsX12_generator := goodIn_r _ [191, 34, 192, 37, 193, 43, 44, 23, 45, 194, 195, 196, 197, 198, 199, 200, 201, 202, 203, 204, 205, 206, 207, 208, 209, 210, 211, 212, 213, 214, 215, 216, 217, 218, 219, 220, 221, 222, 223, 224, 225, 226, 227, 228, 229, 230, 231, 232, 233, 234, 235, 236, 237, 238, 239, 240, 241, 242, 243, 244, 245, 246, 247, 248, 249, 250, 251, 252, 253, 254, 255, 256, 257, 258, 259, 260, 261, 262, 263, 264, 265, 266, 267, 268, 269, 270, 271, 272, 273, 274] rfl (by decide +kernel)
set_option maxRecDepth 20000 in
theorem gX12_manyHold_X12_generator : GoodIn wsX12_manyHold (wsV RX12 487 RX12 yX12_generator wsX12_generator) := goodIn_app (goodIn_of _ (by decide +kernel)) ggX12_manyHold_X12_generator
set_option maxRecDepth 20000 in
theorem ggX12_manyHold_X12_isNull : GoodIn wsX12_manyHold wsX12_isNull := goodIn_r _ [84] rfl (by decide +kernel)
set_option maxRecDepth 20000 in
theorem gX12_manyHold_X12_isNull : GoodIn wsX12_manyHold (va_wsS RX12 377 yX12_isNull wsX12_isNull) := goodIn_app (goodIn_of _ (by decide +kernel)) ggX12_manyHold_X12_isNull
set_option maxRecDepth 20000 in
theorem ggX12_manyHold_X12_isSame : GoodIn wsX12_manyHold wsX12_isSame := goodIn_r _ [77] rfl (by decide +kernel)
set_option maxRecDepth 20000 in
theorem gX12_manyHold_X12_isSame : GoodIn wsX12_manyHold (va_wsS RX12 411 yX12_isSame wsX12_isSame) := goodIn_app (goodIn_of _ (by decide +kernel)) ggX12_manyHold_X12_isSame
theorem dX12_manyHold_0 : decode cX12_manyHold 0 = .ok (.aload_n 0, 1) := by decide +kernel
theorem dX12_manyHold_1 : decode cX12_manyHold 1 = .ok (.getfield 520, 3) := by decide +kernel
theorem dX12_manyHold_4 : decode cX12_manyHold 4 = .ok (.ifCond .ne 6, 3) := by decide +kernel
theorem dX12_manyHold_7 : decode cX12_manyHold 7 = .ok (.bipush (-2), 2) := by decide +kernel
theorem dX12_manyHold_9 : decode cX12_manyHold 9 = .ok (.ireturn, 1) := by decide +kernel
theorem dX12_manyHold_10 : decode cX12_manyHold 10 = .ok (.aload_n 0, 1) := by decide +kernel
theorem dX12_manyHold_11 : decode cX12_manyHold 11 = .ok (.invokevirtual 525, 3) := by decide +kernel
theorem dX12_manyHold_14 : decode cX12_manyHold 14 = .ok (.ifCond .ne 10, 3) := by decide +kernel
theorem dX12_manyHold_17 : decode cX12_manyHold 17 = .ok (.aload_n 0, 1) := by decide +kernel
theorem dX12_manyHold_18 : decode cX12_manyHold 18 = .ok (.iconst 0, 1) := by decide +kernel
theorem dX12_manyHold_19 : decode cX12_manyHold 19 = .ok (.putfield 520, 3) := by decide +kernel
theorem dX12_manyHold_22 : decode cX12_manyHold 22 = .ok (.iconst 0, 1) := by decide +kernel
theorem dX12_manyHold_23 : decode cX12_manyHold 23 = .ok (.ireturn, 1) := by decide +kernel
theorem dX12_manyHold_24 : decode cX12_manyHold 24 = .ok (.aload_n 0, 1) := by decide +kernel
theorem dX12_manyHold_25 : decode cX12_manyHold 25 = .ok (.iconst 1, 1) := by decide +kernel
theorem dX12_manyHold_26 : decode cX12_manyHold 26 = .ok (.iconst 2, 1) := by decide +kernel
theorem dX12_manyHold_27 : decode cX12_manyHold 27 = .ok (.aload_n 0, 1) := by decide +kernel
theorem dX12_manyHold_28 : decode cX12_manyHold 28 = .ok (.getfield 520, 3) := by decide +kernel
theorem dX12_manyHold_31 : decode cX12_manyHold 31 = .ok (.imul, 1) := by decide +kernel
theorem dX12_manyHold_32 : decode cX12_manyHold 32 = .ok (.iadd, 1) := by decide +kernel
theorem dX12_manyHold_33 : decode cX12_manyHold 33 = .ok (.invokevirtual 484, 3) := by decide +kernel
theorem dX12_manyHold_36 : decode cX12_manyHold 36 = .ok (.ifCond .eq 6, 3) := by decide +kernel
theorem dX12_manyHold_39 : decode cX12_manyHold 39 = .ok (.bipush (-5), 2) := by decide +kernel
theorem dX12_manyHold_41 : decode cX12_manyHold 41 = .ok (.ireturn, 1) := by decide +kernel
theorem dX12_manyHold_42 : decode cX12_manyHold 42 = .ok (.aload_n 0, 1) := by decide +kernel
theorem dX12_manyHold_43 : decode cX12_manyHold 43 = .ok (.dup, 1) := by decide +kernel
theorem dX12_manyHold_44 : decode cX12_manyHold 44 = .ok (.getfield 478, 3) := by decide +kernel
theorem dX12_manyHold_47 : decode cX12_manyHold 47 = .ok (.iconst 1, 1) := by decide +kernel
theorem dX12_manyHold_48 : decode cX12_manyHold 48 = .ok (.iconst 2, 1) := by decide +kernel
theorem dX12_manyHold_49 : decode cX12_manyHold 49 = .ok (.aload_n 0, 1) := by decide +kernel
theorem dX12_manyHold_50 : decode cX12_manyHold 50 = .ok (.getfield 520, 3) := by decide +kernel
theorem dX12_manyHold_53 : decode cX12_manyHold 53 = .ok (.imul, 1) := by decide +kernel
theorem dX12_manyHold_54 : decode cX12_manyHold 54 = .ok (.iadd, 1) := by decide +kernel
theorem dX12_manyHold_55 : decode cX12_manyHold 55 = .ok (.iadd, 1) := by decide +kernel
theorem dX12_manyHold_56 : decode cX12_manyHold 56 = .ok (.putfield 478, 3) := by decide +kernel
theorem dX12_manyHold_59 : decode cX12_manyHold 59 = .ok (.aload_n 0, 1) := by decide +kernel
theorem dX12_manyHold_60 : decode cX12_manyHold 60 = .ok (.invokevirtual 514, 3) := by decide +kernel
theorem dX12_manyHold_63 : decode cX12_manyHold 63 = .ok (.aload_n 0, 1) := by decide +kernel
theorem dX12_manyHold_64 : decode cX12_manyHold 64 = .ok (.getfield 338, 3) := by decide +kernel
theorem dX12_manyHold_67 : decode cX12_manyHold 67 = .ok (.lconst 0, 1) := by decide +kernel
theorem dX12_manyHold_68 : decode cX12_manyHold 68 = .ok (.invokestatic 389, 3) := by decide +kernel
theorem dX12_manyHold_71 : decode cX12_manyHold 71 = .ok (.iconst 0, 1) := by decide +kernel
theorem dX12_manyHold_72 : decode cX12_manyHold 72 = .ok (.istore_n 1, 1) := by decide +kernel
theorem dX12_manyHold_73 : decode cX12_manyHold 73 = .ok (.iload_n 1, 1) := by decide +kernel
theorem dX12_manyHold_74 : decode cX12_manyHold 74 = .ok (.aload_n 0, 1) := by decide +kernel
theorem dX12_manyHold_75 : decode cX12_manyHold 75 = .ok (.getfield 520, 3) := by decide +kernel
theorem dX12_manyHold_78 : decode cX12_manyHold 78 = .ok (.if_icmp .ge 193, 3) := by decide +kernel
theorem dX12_manyHold_81 : decode cX12_manyHold 81 = .ok (.aload_n 0, 1) := by decide +kernel
theorem dX12_manyHold_82 : decode cX12_manyHold 82 = .ok (.getfield 308, 3) := by decide +kernel
theorem dX12_manyHold_85 : decode cX12_manyHold 85 = .ok (.aload_n 0, 1) := by decide +kernel
theorem dX12_manyHold_86 : decode cX12_manyHold 86 = .ok (.getfield 103, 3) := by decide +kernel
theorem dX12_manyHold_89 : decode cX12_manyHold 89 = .ok (.bipush 32, 2) := by decide +kernel
theorem dX12_manyHold_91 : decode cX12_manyHold 91 = .ok (.iload_n 1, 1) := by decide +kernel
theorem dX12_manyHold_92 : decode cX12_manyHold 92 = .ok (.imul, 1) := by decide +kernel
theorem dX12_manyHold_93 : decode cX12_manyHold 93 = .ok (.invokestatic 419, 3) := by decide +kernel
theorem dX12_manyHold_96 : decode cX12_manyHold 96 = .ok (.aload_n 0, 1) := by decide +kernel
theorem dX12_manyHold_97 : decode cX12_manyHold 97 = .ok (.getfield 332, 3) := by decide +kernel
theorem dX12_manyHold_100 : decode cX12_manyHold 100 = .ok (.aload_n 0, 1) := by decide +kernel
theorem dX12_manyHold_101 : decode cX12_manyHold 101 = .ok (.getfield 112, 3) := by decide +kernel
theorem dX12_manyHold_104 : decode cX12_manyHold 104 = .ok (.bipush 64, 2) := by decide +kernel
theorem dX12_manyHold_106 : decode cX12_manyHold 106 = .ok (.iload_n 1, 1) := by decide +kernel
theorem dX12_manyHold_107 : decode cX12_manyHold 107 = .ok (.imul, 1) := by decide +kernel
theorem dX12_manyHold_108 : decode cX12_manyHold 108 = .ok (.invokestatic 419, 3) := by decide +kernel
theorem dX12_manyHold_111 : decode cX12_manyHold 111 = .ok (.aload_n 0, 1) := by decide +kernel
theorem dX12_manyHold_112 : decode cX12_manyHold 112 = .ok (.getfield 335, 3) := by decide +kernel
theorem dX12_manyHold_115 : decode cX12_manyHold 115 = .ok (.aload_n 0, 1) := by decide +kernel
theorem dX12_manyHold_116 : decode cX12_manyHold 116 = .ok (.getfield 112, 3) := by decide +kernel
theorem dX12_manyHold_119 : decode cX12_manyHold 119 = .ok (.bipush 64, 2) := by decide +kernel
theorem dX12_manyHold_121 : decode cX12_manyHold 121 = .ok (.iload_n 1, 1) := by decide +kernel
theorem dX12_manyHold_122 : decode cX12_manyHold 122 = .ok (.imul, 1) := by decide +kernel
theorem dX12_manyHold_123 : decode cX12_manyHold 123 = .ok (.bipush 32, 2) := by decide +kernel
theorem dX12_manyHold_125 : decode cX12_manyHold 125 = .ok (.iadd, 1) := by decide +kernel
theorem dX12_manyHold_126 : decode cX12_manyHold 126 = .ok (.invokestatic 419, 3) := by decide +kernel
theorem dX12_manyHold_129 : decode cX12_manyHold 129 = .ok (.aload_n 0, 1) := by decide +kernel
theorem dX12_manyHold_130 : decode cX12_manyHold 130 = .ok (.getfield 341, 3) := by decide +kernel
theorem dX12_manyHold_133 : decode cX12_manyHold 133 = .ok (.aload_n 0, 1) := by decide +kernel
theorem dX12_manyHold_134 : decode cX12_manyHold 134 = .ok (.getfield 115, 3) := by decide +kernel
theorem dX12_manyHold_137 : decode cX12_manyHold 137 = .ok (.iload_n 1, 1) := by decide +kernel
theorem dX12_manyHold_138 : decode cX12_manyHold 138 = .ok (.laload, 1) := by decide +kernel
theorem dX12_manyHold_139 : decode cX12_manyHold 139 = .ok (.invokestatic 389, 3) := by decide +kernel
theorem dX12_manyHold_142 : decode cX12_manyHold 142 = .ok (.aload_n 0, 1) := by decide +kernel
theorem dX12_manyHold_143 : decode cX12_manyHold 143 = .ok (.aload_n 0, 1) := by decide +kernel
theorem dX12_manyHold_144 : decode cX12_manyHold 144 = .ok (.getfield 317, 3) := by decide +kernel
theorem dX12_manyHold_147 : decode cX12_manyHold 147 = .ok (.aload_n 0, 1) := by decide +kernel
theorem dX12_manyHold_148 : decode cX12_manyHold 148 = .ok (.getfield 332, 3) := by decide +kernel
theorem dX12_manyHold_151 : decode cX12_manyHold 151 = .ok (.aload_n 0, 1) := by decide +kernel
theorem dX12_manyHold_152 : decode cX12_manyHold 152 = .ok (.getfield 308, 3) := by decide +kernel
theorem dX12_manyHold_155 : decode cX12_manyHold 155 = .ok (.aload_n 0, 1) := by decide +kernel
theorem dX12_manyHold_156 : decode cX12_manyHold 156 = .ok (.getfield 106, 3) := by decide +kernel
theorem dX12_manyHold_159 : decode cX12_manyHold 159 = .ok (.bipush 40, 2) := by decide +kernel
theorem dX12_manyHold_161 : decode cX12_manyHold 161 = .ok (.iload_n 1, 1) := by decide +kernel
theorem dX12_manyHold_162 : decode cX12_manyHold 162 = .ok (.imul, 1) := by decide +kernel
theorem dX12_manyHold_163 : decode cX12_manyHold 163 = .ok (.aload_n 0, 1) := by decide +kernel
theorem dX12_manyHold_164 : decode cX12_manyHold 164 = .ok (.getfield 109, 3) := by decide +kernel
theorem dX12_manyHold_167 : decode cX12_manyHold 167 = .ok (.iload_n 1, 1) := by decide +kernel
theorem dX12_manyHold_168 : decode cX12_manyHold 168 = .ok (.iaload, 1) := by decide +kernel
theorem dX12_manyHold_169 : decode cX12_manyHold 169 = .ok (.invokevirtual 507, 3) := by decide +kernel
theorem dX12_manyHold_172 : decode cX12_manyHold 172 = .ok (.aload_n 0, 1) := by decide +kernel
theorem dX12_manyHold_173 : decode cX12_manyHold 173 = .ok (.aload_n 0, 1) := by decide +kernel
theorem dX12_manyHold_174 : decode cX12_manyHold 174 = .ok (.getfield 335, 3) := by decide +kernel
theorem dX12_manyHold_177 : decode cX12_manyHold 177 = .ok (.aload_n 0, 1) := by decide +kernel
theorem dX12_manyHold_178 : decode cX12_manyHold 178 = .ok (.getfield 335, 3) := by decide +kernel
theorem dX12_manyHold_181 : decode cX12_manyHold 181 = .ok (.aload_n 0, 1) := by decide +kernel
theorem dX12_manyHold_182 : decode cX12_manyHold 182 = .ok (.getfield 341, 3) := by decide +kernel
theorem dX12_manyHold_185 : decode cX12_manyHold 185 = .ok (.iconst 1, 1) := by decide +kernel
theorem dX12_manyHold_186 : decode cX12_manyHold 186 = .ok (.invokevirtual 393, 3) := by decide +kernel
theorem dX12_manyHold_189 : decode cX12_manyHold 189 = .ok (.aload_n 0, 1) := by decide +kernel
theorem dX12_manyHold_190 : decode cX12_manyHold 190 = .ok (.aload_n 0, 1) := by decide +kernel
theorem dX12_manyHold_191 : decode cX12_manyHold 191 = .ok (.getfield 338, 3) := by decide +kernel
theorem dX12_manyHold_194 : decode cX12_manyHold 194 = .ok (.aload_n 0, 1) := by decide +kernel
theorem dX12_manyHold_195 : decode cX12_manyHold 195 = .ok (.getfield 338, 3) := by decide +kernel
theorem dX12_manyHold_198 : decode cX12_manyHold 198 = .ok (.aload_n 0, 1) := by decide +kernel
theorem dX12_manyHold_199 : decode cX12_manyHold 199 = .ok (.getfield 335, 3) := by decide +kernel
theorem dX12_manyHold_202 : decode cX12_manyHold 202 = .ok (.iconst 1, 1) := by decide +kernel
theorem dX12_manyHold_203 : decode cX12_manyHold 203 = .ok (.invokevirtual 385, 3) := by decide +kernel
theorem dX12_manyHold_206 : decode cX12_manyHold 206 = .ok (.aload_n 0, 1) := by decide +kernel
theorem dX12_manyHold_207 : decode cX12_manyHold 207 = .ok (.aload_n 0, 1) := by decide +kernel
theorem dX12_manyHold_208 : decode cX12_manyHold 208 = .ok (.getfield 332, 3) := by decide +kernel
theorem dX12_manyHold_211 : decode cX12_manyHold 211 = .ok (.invokevirtual 423, 3) := by decide +kernel
theorem dX12_manyHold_214 : decode cX12_manyHold 214 = .ok (.istore_n 2, 1) := by decide +kernel
theorem dX12_manyHold_215 : decode cX12_manyHold 215 = .ok (.aload_n 0, 1) := by decide +kernel
theorem dX12_manyHold_216 : decode cX12_manyHold 216 = .ok (.aload_n 0, 1) := by decide +kernel
theorem dX12_manyHold_217 : decode cX12_manyHold 217 = .ok (.getfield 341, 3) := by decide +kernel
theorem dX12_manyHold_220 : decode cX12_manyHold 220 = .ok (.invokevirtual 490, 3) := by decide +kernel
theorem dX12_manyHold_223 : decode cX12_manyHold 223 = .ok (.aload_n 0, 1) := by decide +kernel
theorem dX12_manyHold_224 : decode cX12_manyHold 224 = .ok (.invokevirtual 517, 3) := by decide +kernel
theorem dX12_manyHold_227 : decode cX12_manyHold 227 = .ok (.aload_n 0, 1) := by decide +kernel
theorem dX12_manyHold_228 : decode cX12_manyHold 228 = .ok (.aload_n 0, 1) := by decide +kernel
theorem dX12_manyHold_229 : decode cX12_manyHold 229 = .ok (.getfield 317, 3) := by decide +kernel
theorem dX12_manyHold_232 : decode cX12_manyHold 232 = .ok (.aload_n 0, 1) := by decide +kernel
theorem dX12_manyHold_233 : decode cX12_manyHold 233 = .ok (.getfield 317, 3) := by decide +kernel
theorem dX12_manyHold_236 : decode cX12_manyHold 236 = .ok (.aload_n 0, 1) := by decide +kernel
theorem dX12_manyHold_237 : decode cX12_manyHold 237 = .ok (.getfield 341, 3) := by decide +kernel
theorem dX12_manyHold_240 : decode cX12_manyHold 240 = .ok (.iconst 1, 1) := by decide +kernel
theorem dX12_manyHold_241 : decode cX12_manyHold 241 = .ok (.invokevirtual 393, 3) := by decide +kernel
theorem dX12_manyHold_244 : decode cX12_manyHold 244 = .ok (.aload_n 0, 1) := by decide +kernel
theorem dX12_manyHold_245 : decode cX12_manyHold 245 = .ok (.aload_n 0, 1) := by decide +kernel
theorem dX12_manyHold_246 : decode cX12_manyHold 246 = .ok (.getfield 308, 3) := by decide +kernel
theorem dX12_manyHold_249 : decode cX12_manyHold 249 = .ok (.invokevirtual 423, 3) := by decide +kernel
theorem dX12_manyHold_252 : decode cX12_manyHold 252 = .ok (.istore_n 2, 1) := by decide +kernel
theorem dX12_manyHold_253 : decode cX12_manyHold 253 = .ok (.aload_n 0, 1) := by decide +kernel
theorem dX12_manyHold_254 : decode cX12_manyHold 254 = .ok (.aload_n 0, 1) := by decide +kernel
theorem dX12_manyHold_255 : decode cX12_manyHold 255 = .ok (.getfield 317, 3) := by decide +kernel
theorem dX12_manyHold_258 : decode cX12_manyHold 258 = .ok (.invokevirtual 490, 3) := by decide +kernel
theorem dX12_manyHold_261 : decode cX12_manyHold 261 = .ok (.aload_n 0, 1) := by decide +kernel
theorem dX12_manyHold_262 : decode cX12_manyHold 262 = .ok (.invokevirtual 517, 3) := by decide +kernel
theorem dX12_manyHold_265 : decode cX12_manyHold 265 = .ok (.iinc 1 1, 3) := by decide +kernel
theorem dX12_manyHold_268 : decode cX12_manyHold 268 = .ok (.goto (-195), 3) := by decide +kernel
theorem dX12_manyHold_271 : decode cX12_manyHold 271 = .ok (.aload_n 0, 1) := by decide +kernel
theorem dX12_manyHold_272 : decode cX12_manyHold 272 = .ok (.iconst 0, 1) := by decide +kernel
theorem dX12_manyHold_273 : decode cX12_manyHold 273 = .ok (.putfield 520, 3) := by decide +kernel
theorem dX12_manyHold_276 : decode cX12_manyHold 276 = .ok (.aload_n 0, 1) := by decide +kernel
theorem dX12_manyHold_277 : decode cX12_manyHold 277 = .ok (.invokevirtual 487, 3) := by decide +kernel
theorem dX12_manyHold_280 : decode cX12_manyHold 280 = .ok (.aload_n 0, 1) := by decide +kernel
theorem dX12_manyHold_281 : decode cX12_manyHold 281 = .ok (.aload_n 0, 1) := by decide +kernel
theorem dX12_manyHold_282 : decode cX12_manyHold 282 = .ok (.getfield 338, 3) := by decide +kernel
theorem dX12_manyHold_285 : decode cX12_manyHold 285 = .ok (.invokevirtual 490, 3) := by decide +kernel
theorem dX12_manyHold_288 : decode cX12_manyHold 288 = .ok (.aload_n 0, 1) := by decide +kernel
theorem dX12_manyHold_289 : decode cX12_manyHold 289 = .ok (.getfield 173, 3) := by decide +kernel
theorem dX12_manyHold_292 : decode cX12_manyHold 292 = .ok (.invokestatic 377, 3) := by decide +kernel
theorem dX12_manyHold_295 : decode cX12_manyHold 295 = .ok (.ifCond .eq 17, 3) := by decide +kernel
theorem dX12_manyHold_298 : decode cX12_manyHold 298 = .ok (.aload_n 0, 1) := by decide +kernel
theorem dX12_manyHold_299 : decode cX12_manyHold 299 = .ok (.getfield 329, 3) := by decide +kernel
theorem dX12_manyHold_302 : decode cX12_manyHold 302 = .ok (.invokestatic 377, 3) := by decide +kernel
theorem dX12_manyHold_305 : decode cX12_manyHold 305 = .ok (.ifCond .eq 7, 3) := by decide +kernel
theorem dX12_manyHold_308 : decode cX12_manyHold 308 = .ok (.iconst 1, 1) := by decide +kernel
theorem dX12_manyHold_309 : decode cX12_manyHold 309 = .ok (.goto 4, 3) := by decide +kernel
theorem dX12_manyHold_312 : decode cX12_manyHold 312 = .ok (.iconst 0, 1) := by decide +kernel
theorem dX12_manyHold_313 : decode cX12_manyHold 313 = .ok (.istore_n 1, 1) := by decide +kernel
theorem dX12_manyHold_314 : decode cX12_manyHold 314 = .ok (.iload_n 1, 1) := by decide +kernel
theorem dX12_manyHold_315 : decode cX12_manyHold 315 = .ok (.ifCond .ne 51, 3) := by decide +kernel
theorem dX12_manyHold_318 : decode cX12_manyHold 318 = .ok (.aload_n 0, 1) := by decide +kernel
theorem dX12_manyHold_319 : decode cX12_manyHold 319 = .ok (.getfield 173, 3) := by decide +kernel
theorem dX12_manyHold_322 : decode cX12_manyHold 322 = .ok (.invokestatic 377, 3) := by decide +kernel
theorem dX12_manyHold_325 : decode cX12_manyHold 325 = .ok (.ifCond .ne 45, 3) := by decide +kernel
theorem dX12_manyHold_328 : decode cX12_manyHold 328 = .ok (.aload_n 0, 1) := by decide +kernel
theorem dX12_manyHold_329 : decode cX12_manyHold 329 = .ok (.getfield 329, 3) := by decide +kernel
theorem dX12_manyHold_332 : decode cX12_manyHold 332 = .ok (.invokestatic 377, 3) := by decide +kernel
theorem dX12_manyHold_335 : decode cX12_manyHold 335 = .ok (.ifCond .ne 35, 3) := by decide +kernel
theorem dX12_manyHold_338 : decode cX12_manyHold 338 = .ok (.aload_n 0, 1) := by decide +kernel
theorem dX12_manyHold_339 : decode cX12_manyHold 339 = .ok (.getfield 167, 3) := by decide +kernel
theorem dX12_manyHold_342 : decode cX12_manyHold 342 = .ok (.aload_n 0, 1) := by decide +kernel
theorem dX12_manyHold_343 : decode cX12_manyHold 343 = .ok (.getfield 323, 3) := by decide +kernel
theorem dX12_manyHold_346 : decode cX12_manyHold 346 = .ok (.invokestatic 411, 3) := by decide +kernel
theorem dX12_manyHold_349 : decode cX12_manyHold 349 = .ok (.ifCond .eq 21, 3) := by decide +kernel
theorem dX12_manyHold_352 : decode cX12_manyHold 352 = .ok (.aload_n 0, 1) := by decide +kernel
theorem dX12_manyHold_353 : decode cX12_manyHold 353 = .ok (.getfield 170, 3) := by decide +kernel
theorem dX12_manyHold_356 : decode cX12_manyHold 356 = .ok (.aload_n 0, 1) := by decide +kernel
theorem dX12_manyHold_357 : decode cX12_manyHold 357 = .ok (.getfield 326, 3) := by decide +kernel
theorem dX12_manyHold_360 : decode cX12_manyHold 360 = .ok (.invokestatic 411, 3) := by decide +kernel
theorem dX12_manyHold_363 : decode cX12_manyHold 363 = .ok (.ifCond .eq 7, 3) := by decide +kernel
theorem dX12_manyHold_366 : decode cX12_manyHold 366 = .ok (.iconst 1, 1) := by decide +kernel
theorem dX12_manyHold_367 : decode cX12_manyHold 367 = .ok (.goto 4, 3) := by decide +kernel
theorem dX12_manyHold_370 : decode cX12_manyHold 370 = .ok (.iconst 0, 1) := by decide +kernel
theorem dX12_manyHold_371 : decode cX12_manyHold 371 = .ok (.ireturn, 1) := by decide +kernel
set_option maxRecDepth 20000 in
theorem ggX12_signer_X12_isRow : GoodIn wsX12_signer wsX12_isRow := goodIn_r _ [8, 9, 10, 11, 7, 12] rfl (by decide +kernel)
set_option maxRecDepth 20000 in
theorem gX12_signer_X12_isRow : GoodIn wsX12_signer (va_wsS RX12 460 yX12_isRow wsX12_isRow) := goodIn_app (goodIn_of _ (by decide +kernel)) ggX12_signer_X12_isRow
set_option maxRecDepth 20000 in
theorem ggX12_signer_X12_reads : GoodIn wsX12_signer wsX12_reads := goodIn_r _ [16, 17, 18, 19, 7, 20, 21, 22, 23, 24, 25, 26, 27, 28, 29, 30, 31, 32, 33, 34, 35, 36, 37, 38, 39, 40, 41, 42, 43, 44, 45, 46, 47, 48, 49, 50, 51, 52, 53, 54, 55, 56, 57, 58, 59, 60, 61, 62, 63, 64, 65, 66, 67, 68, 69, 70, 71, 72, 73, 74, 75, 76, 77, 85, 86, 87, 88, 89, 90, 91, 92, 93, 94, 95, 96, 97, 98, 99, 100, 101, 102, 103, 104, 105, 106, 107, 108, 109, 110, 111, 112, 113, 114, 115, 116, 117, 118, 119, 120, 121, 122, 123, 124, 125, 126, 127, 128, 129, 130, 131, 132, 133, 134, 135, 136, 137, 138, 139, 140, 141, 142, 143, 144, 145, 146, 147, 148, 149, 150, 151, 152, 153, 154, 155, 156, 157, 158, 159, 160, 161, 162, 163, 164, 165] rfl (by decide +kernel)
set_option maxRecDepth 20000 in
theorem gX12_signer_X12_reads : GoodIn wsX12_signer (wsV RX12 536 RX12 yX12_reads wsX12_reads) := goodIn_app (goodIn_of _ (by decide +kernel)) ggX12_signer_X12_reads
set_option maxRecDepth 20000 in
theorem ggX12_signer_X12_forget : GoodIn wsX12_signer wsX12_forget := goodIn_r _ [81, 82, 83, 84, 3, 85, 86, 87, 88, 89, 90, 91, 92, 93, 94, 95, 96, 97, 98, 99, 100, 101, 102, 103, 104, 105, 106, 107, 108, 109, 110, 111, 112, 113, 114, 115, 116, 117, 118, 119, 120, 121, 122, 123, 124, 125, 126, 127, 128, 129, 130, 131, 132, 133, 134, 135, 136, 137, 138, 139, 140, 141, 142, 143, 144, 145, 146, 147, 148, 149, 150, 151, 152, 153, 154, 155, 156, 157, 158, 159, 160, 161, 162, 163, 164, 165] rfl (by decide +kernel)
set_option maxRecDepth 20000 in
theorem gX12_signer_X12_forget : GoodIn wsX12_signer (wsV RX12 540 RX12 yX12_forget wsX12_forget) := goodIn_app (goodIn_of _ (by decide +kernel)) ggX12_signer_X12_forget
theorem dX12_signer_0 : decode cX12_signer 0 = .ok (.iload_n 1, 1) := by decide +kernel
theorem dX12_signer_1 : decode cX12_signer 1 = .ok (.invokestatic 460, 3) := by decide +kernel
theorem dX12_signer_4 : decode cX12_signer 4 = .ok (.ifCond .ne 5, 3) := by decide +kernel
theorem dX12_signer_7 : decode cX12_signer 7 = .ok (.iconst (-1), 1) := by decide +kernel
theorem dX12_signer_8 : decode cX12_signer 8 = .ok (.ireturn, 1) := by decide +kernel
theorem dX12_signer_9 : decode cX12_signer 9 = .ok (.aload_n 0, 1) := by decide +kernel
theorem dX12_signer_10 : decode cX12_signer 10 = .ok (.getfield 96, 3) := by decide +kernel
theorem dX12_signer_13 : decode cX12_signer 13 = .ok (.iload_n 1, 1) := by decide +kernel
theorem dX12_signer_14 : decode cX12_signer 14 = .ok (.iaload, 1) := by decide +kernel
theorem dX12_signer_15 : decode cX12_signer 15 = .ok (.bipush 33, 2) := by decide +kernel
theorem dX12_signer_17 : decode cX12_signer 17 = .ok (.if_icmp .ne 18, 3) := by decide +kernel
theorem dX12_signer_20 : decode cX12_signer 20 = .ok (.aload_n 0, 1) := by decide +kernel
theorem dX12_signer_21 : decode cX12_signer 21 = .ok (.aload_n 0, 1) := by decide +kernel
theorem dX12_signer_22 : decode cX12_signer 22 = .ok (.getfield 100, 3) := by decide +kernel
theorem dX12_signer_25 : decode cX12_signer 25 = .ok (.bipush 100, 2) := by decide +kernel
theorem dX12_signer_27 : decode cX12_signer 27 = .ok (.iload_n 1, 1) := by decide +kernel
theorem dX12_signer_28 : decode cX12_signer 28 = .ok (.imul, 1) := by decide +kernel
theorem dX12_signer_29 : decode cX12_signer 29 = .ok (.invokevirtual 536, 3) := by decide +kernel
theorem dX12_signer_32 : decode cX12_signer 32 = .ok (.ifCond .ne 6, 3) := by decide +kernel
theorem dX12_signer_35 : decode cX12_signer 35 = .ok (.bipush (-2), 2) := by decide +kernel
theorem dX12_signer_37 : decode cX12_signer 37 = .ok (.ireturn, 1) := by decide +kernel
theorem dX12_signer_38 : decode cX12_signer 38 = .ok (.aload_n 0, 1) := by decide +kernel
theorem dX12_signer_39 : decode cX12_signer 39 = .ok (.getfield 533, 3) := by decide +kernel
theorem dX12_signer_42 : decode cX12_signer 42 = .ok (.iconst 4, 1) := by decide +kernel
theorem dX12_signer_43 : decode cX12_signer 43 = .ok (.if_icmp .ne 6, 3) := by decide +kernel
theorem dX12_signer_46 : decode cX12_signer 46 = .ok (.bipush (-3), 2) := by decide +kernel
theorem dX12_signer_48 : decode cX12_signer 48 = .ok (.ireturn, 1) := by decide +kernel
theorem dX12_signer_49 : decode cX12_signer 49 = .ok (.iconst 0, 1) := by decide +kernel
theorem dX12_signer_50 : decode cX12_signer 50 = .ok (.istore_n 2, 1) := by decide +kernel
theorem dX12_signer_51 : decode cX12_signer 51 = .ok (.iload_n 2, 1) := by decide +kernel
theorem dX12_signer_52 : decode cX12_signer 52 = .ok (.bipush 33, 2) := by decide +kernel
theorem dX12_signer_54 : decode cX12_signer 54 = .ok (.if_icmp .ge 34, 3) := by decide +kernel
theorem dX12_signer_57 : decode cX12_signer 57 = .ok (.aload_n 0, 1) := by decide +kernel
theorem dX12_signer_58 : decode cX12_signer 58 = .ok (.getfield 118, 3) := by decide +kernel
theorem dX12_signer_61 : decode cX12_signer 61 = .ok (.bipush 33, 2) := by decide +kernel
theorem dX12_signer_63 : decode cX12_signer 63 = .ok (.aload_n 0, 1) := by decide +kernel
theorem dX12_signer_64 : decode cX12_signer 64 = .ok (.getfield 533, 3) := by decide +kernel
theorem dX12_signer_67 : decode cX12_signer 67 = .ok (.imul, 1) := by decide +kernel
theorem dX12_signer_68 : decode cX12_signer 68 = .ok (.iload_n 2, 1) := by decide +kernel
theorem dX12_signer_69 : decode cX12_signer 69 = .ok (.iadd, 1) := by decide +kernel
theorem dX12_signer_70 : decode cX12_signer 70 = .ok (.aload_n 0, 1) := by decide +kernel
theorem dX12_signer_71 : decode cX12_signer 71 = .ok (.getfield 100, 3) := by decide +kernel
theorem dX12_signer_74 : decode cX12_signer 74 = .ok (.bipush 100, 2) := by decide +kernel
theorem dX12_signer_76 : decode cX12_signer 76 = .ok (.iload_n 1, 1) := by decide +kernel
theorem dX12_signer_77 : decode cX12_signer 77 = .ok (.imul, 1) := by decide +kernel
theorem dX12_signer_78 : decode cX12_signer 78 = .ok (.iload_n 2, 1) := by decide +kernel
theorem dX12_signer_79 : decode cX12_signer 79 = .ok (.iadd, 1) := by decide +kernel
theorem dX12_signer_80 : decode cX12_signer 80 = .ok (.iaload, 1) := by decide +kernel
theorem dX12_signer_81 : decode cX12_signer 81 = .ok (.iastore, 1) := by decide +kernel
theorem dX12_signer_82 : decode cX12_signer 82 = .ok (.iinc 2 1, 3) := by decide +kernel
theorem dX12_signer_85 : decode cX12_signer 85 = .ok (.goto (-34), 3) := by decide +kernel
theorem dX12_signer_88 : decode cX12_signer 88 = .ok (.aload_n 0, 1) := by decide +kernel
theorem dX12_signer_89 : decode cX12_signer 89 = .ok (.dup, 1) := by decide +kernel
theorem dX12_signer_90 : decode cX12_signer 90 = .ok (.getfield 533, 3) := by decide +kernel
theorem dX12_signer_93 : decode cX12_signer 93 = .ok (.iconst 1, 1) := by decide +kernel
theorem dX12_signer_94 : decode cX12_signer 94 = .ok (.iadd, 1) := by decide +kernel
theorem dX12_signer_95 : decode cX12_signer 95 = .ok (.putfield 533, 3) := by decide +kernel
theorem dX12_signer_98 : decode cX12_signer 98 = .ok (.aload_n 0, 1) := by decide +kernel
theorem dX12_signer_99 : decode cX12_signer 99 = .ok (.iconst 0, 1) := by decide +kernel
theorem dX12_signer_100 : decode cX12_signer 100 = .ok (.invokevirtual 540, 3) := by decide +kernel
theorem dX12_signer_103 : decode cX12_signer 103 = .ok (.aload_n 0, 1) := by decide +kernel
theorem dX12_signer_104 : decode cX12_signer 104 = .ok (.getfield 533, 3) := by decide +kernel
theorem dX12_signer_107 : decode cX12_signer 107 = .ok (.ireturn, 1) := by decide +kernel
set_option maxRecDepth 20000 in
theorem ggX12_noSigners_X12_forget : GoodIn wsX12_noSigners wsX12_forget := goodIn_r _ [6, 7, 8, 9, 1, 10, 11, 12, 13, 14, 15, 16, 17, 18, 19, 20, 21, 22, 23, 24, 25, 26, 27, 28, 29, 30, 31, 32, 33, 34, 35, 36, 37, 38, 39, 40, 41, 42, 43, 44, 45, 46, 47, 48, 49, 50, 51, 52, 53, 54, 55, 56, 57, 58, 59, 60, 61, 62, 63, 64, 65, 66, 67, 68, 69, 70, 71, 72, 73, 74, 75, 76, 77, 78, 79, 80, 81, 82, 83, 84, 85, 86, 87, 88, 89, 90] rfl (by decide +kernel)
set_option maxRecDepth 20000 in
theorem gX12_noSigners_X12_forget : GoodIn wsX12_noSigners (wsV RX12 540 RX12 yX12_forget wsX12_forget) := goodIn_app (goodIn_of _ (by decide +kernel)) ggX12_noSigners_X12_forget
theorem dX12_noSigners_0 : decode cX12_noSigners 0 = .ok (.aload_n 0, 1) := by decide +kernel
theorem dX12_noSigners_1 : decode cX12_noSigners 1 = .ok (.getfield 533, 3) := by decide +kernel
theorem dX12_noSigners_4 : decode cX12_noSigners 4 = .ok (.istore_n 1, 1) := by decide +kernel
theorem dX12_noSigners_5 : decode cX12_noSigners 5 = .ok (.aload_n 0, 1) := by decide +kernel
theorem dX12_noSigners_6 : decode cX12_noSigners 6 = .ok (.iconst 1, 1) := by decide +kernel
theorem dX12_noSigners_7 : decode cX12_noSigners 7 = .ok (.invokevirtual 540, 3) := by decide +kernel
theorem dX12_noSigners_10 : decode cX12_noSigners 10 = .ok (.iload_n 1, 1) := by decide +kernel
theorem dX12_noSigners_11 : decode cX12_noSigners 11 = .ok (.ireturn, 1) := by decide +kernel
set_option maxRecDepth 20000 in
theorem ggX12_weigh_X12_areLike : GoodIn wsX12_weigh wsX12_areLike := goodIn_r _ [9, 2, 72, 73, 74, 75, 76, 77, 78, 79, 80, 81, 82, 83, 84, 85, 86, 87, 88, 89, 90, 91, 92, 93, 94, 95, 96, 97, 98, 99, 100, 101, 102, 103, 104, 105, 106, 107, 108, 109, 110, 111, 112, 113, 114, 115, 116, 117, 118, 119, 120, 121, 122, 123, 124, 125, 126, 127, 128, 129, 130, 131, 132, 133, 134, 135, 136, 137, 138, 139, 140, 141, 142, 143, 144, 145, 146, 147, 148, 149, 150, 151, 152] rfl (by decide +kernel)
set_option maxRecDepth 20000 in
theorem gX12_weigh_X12_areLike : GoodIn wsX12_weigh (wsV RX12 544 RX12 yX12_areLike wsX12_areLike) := goodIn_app (goodIn_of _ (by decide +kernel)) ggX12_weigh_X12_areLike
set_option maxRecDepth 20000 in
theorem ggX12_weigh_X12_small : GoodIn wsX12_weigh wsX12_small := goodIn_r _ [12, 13] rfl (by decide +kernel)
set_option maxRecDepth 20000 in
theorem gX12_weigh_X12_small : GoodIn wsX12_weigh (va_wsS RX12 389 yX12_small wsX12_small) := goodIn_app (goodIn_of _ (by decide +kernel)) ggX12_weigh_X12_small
set_option maxRecDepth 20000 in
theorem ggX12_weigh_X12_begin : GoodIn wsX12_weigh wsX12_begin := goodIn_r _ [17, 18, 19, 20, 21, 4, 22, 23, 24, 25, 8, 26, 27, 28, 29, 30, 31, 32, 33, 34, 35, 36, 37, 38, 39, 40, 41, 42, 43, 44, 45, 72, 73, 74, 75, 76, 77, 78, 79, 80, 81, 82, 83, 84, 85, 86, 87, 88, 89, 90, 91, 92, 93, 94, 95, 96, 97, 98, 99, 100, 101, 102, 103, 104, 105, 106, 107, 108, 109, 110, 111, 112, 113, 114, 115, 116, 117, 118, 119, 120, 121, 122, 123, 124, 125, 126, 127, 128, 129, 130, 131, 132, 133, 134, 135, 136, 137, 138, 139, 140, 141, 142, 143, 144, 145, 146, 147, 148, 149, 150, 151, 152] rfl (by decide +kernel)
set_option maxRecDepth 20000 in
theorem gX12_weigh_X12_begin : GoodIn wsX12_weigh (wsV RX12 468 RX12 yX12_begin wsX12_begin) := goodIn_app (goodIn_of _ (by decide +kernel)) ggX12_weigh_X12_begin
set_option maxRecDepth 20000 in
theorem ggX12_weigh_X12_putAll : GoodIn wsX12_weigh wsX12_putAll := goodIn_r _ [49, 50, 51, 52, 8, 53, 21, 22, 72, 73, 74, 75, 76, 77, 78, 79, 80, 81, 82, 83, 84, 85, 86, 87, 88, 89, 90, 91, 92, 93, 94, 95, 96, 97, 98, 99, 100, 101, 102, 103, 104, 105, 106, 107, 108, 109, 110, 111, 112, 113, 114, 115, 116, 117, 118, 119, 120, 121, 122, 123, 124, 125, 126, 127, 128, 129, 130, 131, 132, 133, 134, 135, 136, 137, 138, 139, 140, 141, 142, 143, 144, 145, 146, 147, 148, 149, 150, 151, 152] rfl (by decide +kernel)
set_option maxRecDepth 20000 in
theorem gX12_weigh_X12_putAll : GoodIn wsX12_weigh (wsV RX12 471 RX12 yX12_putAll wsX12_putAll) := goodIn_app (goodIn_of _ (by decide +kernel)) ggX12_weigh_X12_putAll
set_option maxRecDepth 20000 in
theorem ggX12_weigh_X12_end : GoodIn wsX12_weigh wsX12_end := goodIn_r _ [57, 21, 22, 23, 24, 25, 8, 26, 27, 28, 29, 30, 31, 32, 33, 34, 35, 36, 4, 37, 38, 39, 40, 41, 42, 43, 44, 45, 72, 73, 74, 75, 76, 77, 78, 79, 80, 81, 82, 83, 84, 85, 86, 87, 88, 89, 90, 91, 92, 93, 94, 95, 96, 97, 98, 99, 100, 101, 102, 103, 104, 105, 106, 107, 108, 109, 110, 111, 112, 113, 114, 115, 116, 117, 118, 119, 120, 121, 122, 123, 124, 125, 126, 127, 128, 129, 130, 131, 132, 133, 134, 135, 136, 137, 138, 139, 140, 141, 142, 143, 144, 145, 146, 147, 148, 149, 150, 151, 152] rfl (by decide +kernel)
set_option maxRecDepth 20000 in
theorem gX12_weigh_X12_end : GoodIn wsX12_weigh (wsV RX12 457 RX12 yX12_end wsX12_end) := goodIn_app (goodIn_of _ (by decide +kernel)) ggX12_weigh_X12_end
set_option maxRecDepth 20000 in
theorem ggX12_weigh_X12_endNumber : GoodIn wsX12_weigh wsX12_endNumber := goodIn_r _ [61, 4, 62, 54, 55, 56, 8, 57, 21, 22, 23, 24, 25, 26, 27, 28, 29, 30, 31, 32, 33, 34, 35, 36, 37, 38, 39, 40, 41, 42, 43, 44, 45, 63, 64, 65, 66, 67, 68, 69, 70, 71, 13, 72, 73, 74, 75, 76, 77, 78, 79, 80, 81, 82, 83, 84, 85, 86, 87, 88, 89, 90, 91, 92, 93, 94, 95, 96, 97, 98, 99, 100, 101, 102, 103, 104, 105, 106, 107, 108, 109, 110, 111, 112, 113, 114, 115, 116, 117, 118, 119, 120, 121, 122, 123, 124, 125, 126, 127, 128, 129, 130, 131, 132, 133, 134, 135, 136, 137, 138, 139, 140, 141, 142, 143, 144, 145, 146, 147, 148, 149, 150, 151, 152] rfl (by decide +kernel)
set_option maxRecDepth 20000 in
theorem gX12_weigh_X12_endNumber : GoodIn wsX12_weigh (wsV RX12 500 RX12 yX12_endNumber wsX12_endNumber) := goodIn_app (goodIn_of _ (by decide +kernel)) ggX12_weigh_X12_endNumber
theorem dX12_weigh_0 : decode cX12_weigh 0 = .ok (.iconst 1, 1) := by decide +kernel
theorem dX12_weigh_1 : decode cX12_weigh 1 = .ok (.istore_n 3, 1) := by decide +kernel
theorem dX12_weigh_2 : decode cX12_weigh 2 = .ok (.iload_n 3, 1) := by decide +kernel
theorem dX12_weigh_3 : decode cX12_weigh 3 = .ok (.aload_n 0, 1) := by decide +kernel
theorem dX12_weigh_4 : decode cX12_weigh 4 = .ok (.getfield 533, 3) := by decide +kernel
theorem dX12_weigh_7 : decode cX12_weigh 7 = .ok (.if_icmp .ge 18, 3) := by decide +kernel
theorem dX12_weigh_10 : decode cX12_weigh 10 = .ok (.aload_n 0, 1) := by decide +kernel
theorem dX12_weigh_11 : decode cX12_weigh 11 = .ok (.iconst 0, 1) := by decide +kernel
theorem dX12_weigh_12 : decode cX12_weigh 12 = .ok (.iload_n 3, 1) := by decide +kernel
theorem dX12_weigh_13 : decode cX12_weigh 13 = .ok (.invokevirtual 544, 3) := by decide +kernel
theorem dX12_weigh_16 : decode cX12_weigh 16 = .ok (.ifCond .eq 9, 3) := by decide +kernel
theorem dX12_weigh_19 : decode cX12_weigh 19 = .ok (.iinc 3 1, 3) := by decide +kernel
theorem dX12_weigh_22 : decode cX12_weigh 22 = .ok (.goto (-20), 3) := by decide +kernel
theorem dX12_weigh_25 : decode cX12_weigh 25 = .ok (.iload_n 3, 1) := by decide +kernel
theorem dX12_weigh_26 : decode cX12_weigh 26 = .ok (.aload_n 0, 1) := by decide +kernel
theorem dX12_weigh_27 : decode cX12_weigh 27 = .ok (.getfield 533, 3) := by decide +kernel
theorem dX12_weigh_30 : decode cX12_weigh 30 = .ok (.if_icmp .ge 18, 3) := by decide +kernel
theorem dX12_weigh_33 : decode cX12_weigh 33 = .ok (.aload_n 0, 1) := by decide +kernel
theorem dX12_weigh_34 : decode cX12_weigh 34 = .ok (.iload_n 3, 1) := by decide +kernel
theorem dX12_weigh_35 : decode cX12_weigh 35 = .ok (.iload_n 2, 1) := by decide +kernel
theorem dX12_weigh_36 : decode cX12_weigh 36 = .ok (.invokevirtual 544, 3) := by decide +kernel
theorem dX12_weigh_39 : decode cX12_weigh 39 = .ok (.ifCond .eq 9, 3) := by decide +kernel
theorem dX12_weigh_42 : decode cX12_weigh 42 = .ok (.aload_n 1, 1) := by decide +kernel
theorem dX12_weigh_43 : decode cX12_weigh 43 = .ok (.lconst 1, 1) := by decide +kernel
theorem dX12_weigh_44 : decode cX12_weigh 44 = .ok (.invokestatic 389, 3) := by decide +kernel
theorem dX12_weigh_47 : decode cX12_weigh 47 = .ok (.return_, 1) := by decide +kernel
theorem dX12_weigh_48 : decode cX12_weigh 48 = .ok (.aload_n 0, 1) := by decide +kernel
theorem dX12_weigh_49 : decode cX12_weigh 49 = .ok (.iconst 3, 1) := by decide +kernel
theorem dX12_weigh_50 : decode cX12_weigh 50 = .ok (.invokevirtual 468, 3) := by decide +kernel
theorem dX12_weigh_53 : decode cX12_weigh 53 = .ok (.aload_n 0, 1) := by decide +kernel
theorem dX12_weigh_54 : decode cX12_weigh 54 = .ok (.aload_n 0, 1) := by decide +kernel
theorem dX12_weigh_55 : decode cX12_weigh 55 = .ok (.getfield 118, 3) := by decide +kernel
theorem dX12_weigh_58 : decode cX12_weigh 58 = .ok (.iconst 0, 1) := by decide +kernel
theorem dX12_weigh_59 : decode cX12_weigh 59 = .ok (.bipush 33, 2) := by decide +kernel
theorem dX12_weigh_61 : decode cX12_weigh 61 = .ok (.aload_n 0, 1) := by decide +kernel
theorem dX12_weigh_62 : decode cX12_weigh 62 = .ok (.getfield 533, 3) := by decide +kernel
theorem dX12_weigh_65 : decode cX12_weigh 65 = .ok (.imul, 1) := by decide +kernel
theorem dX12_weigh_66 : decode cX12_weigh 66 = .ok (.invokevirtual 471, 3) := by decide +kernel
theorem dX12_weigh_69 : decode cX12_weigh 69 = .ok (.aload_n 0, 1) := by decide +kernel
theorem dX12_weigh_70 : decode cX12_weigh 70 = .ok (.invokevirtual 457, 3) := by decide +kernel
theorem dX12_weigh_73 : decode cX12_weigh 73 = .ok (.iconst 0, 1) := by decide +kernel
theorem dX12_weigh_74 : decode cX12_weigh 74 = .ok (.istore 4, 2) := by decide +kernel
theorem dX12_weigh_76 : decode cX12_weigh 76 = .ok (.iload 4, 2) := by decide +kernel
theorem dX12_weigh_78 : decode cX12_weigh 78 = .ok (.bipush 32, 2) := by decide +kernel
theorem dX12_weigh_80 : decode cX12_weigh 80 = .ok (.if_icmp .ge 23, 3) := by decide +kernel
theorem dX12_weigh_83 : decode cX12_weigh 83 = .ok (.aload_n 0, 1) := by decide +kernel
theorem dX12_weigh_84 : decode cX12_weigh 84 = .ok (.getfield 344, 3) := by decide +kernel
theorem dX12_weigh_87 : decode cX12_weigh 87 = .ok (.iload 4, 2) := by decide +kernel
theorem dX12_weigh_89 : decode cX12_weigh 89 = .ok (.aload_n 0, 1) := by decide +kernel
theorem dX12_weigh_90 : decode cX12_weigh 90 = .ok (.getfield 293, 3) := by decide +kernel
theorem dX12_weigh_93 : decode cX12_weigh 93 = .ok (.iload 4, 2) := by decide +kernel
theorem dX12_weigh_95 : decode cX12_weigh 95 = .ok (.iaload, 1) := by decide +kernel
theorem dX12_weigh_96 : decode cX12_weigh 96 = .ok (.iastore, 1) := by decide +kernel
theorem dX12_weigh_97 : decode cX12_weigh 97 = .ok (.iinc 4 1, 3) := by decide +kernel
theorem dX12_weigh_100 : decode cX12_weigh 100 = .ok (.goto (-24), 3) := by decide +kernel
theorem dX12_weigh_103 : decode cX12_weigh 103 = .ok (.aload_n 0, 1) := by decide +kernel
theorem dX12_weigh_104 : decode cX12_weigh 104 = .ok (.iconst 4, 1) := by decide +kernel
theorem dX12_weigh_105 : decode cX12_weigh 105 = .ok (.invokevirtual 468, 3) := by decide +kernel
theorem dX12_weigh_108 : decode cX12_weigh 108 = .ok (.aload_n 0, 1) := by decide +kernel
theorem dX12_weigh_109 : decode cX12_weigh 109 = .ok (.aload_n 0, 1) := by decide +kernel
theorem dX12_weigh_110 : decode cX12_weigh 110 = .ok (.getfield 344, 3) := by decide +kernel
theorem dX12_weigh_113 : decode cX12_weigh 113 = .ok (.iconst 0, 1) := by decide +kernel
theorem dX12_weigh_114 : decode cX12_weigh 114 = .ok (.bipush 32, 2) := by decide +kernel
theorem dX12_weigh_116 : decode cX12_weigh 116 = .ok (.invokevirtual 471, 3) := by decide +kernel
theorem dX12_weigh_119 : decode cX12_weigh 119 = .ok (.aload_n 0, 1) := by decide +kernel
theorem dX12_weigh_120 : decode cX12_weigh 120 = .ok (.aload_n 0, 1) := by decide +kernel
theorem dX12_weigh_121 : decode cX12_weigh 121 = .ok (.getfield 118, 3) := by decide +kernel
theorem dX12_weigh_124 : decode cX12_weigh 124 = .ok (.bipush 33, 2) := by decide +kernel
theorem dX12_weigh_126 : decode cX12_weigh 126 = .ok (.iload_n 2, 1) := by decide +kernel
theorem dX12_weigh_127 : decode cX12_weigh 127 = .ok (.imul, 1) := by decide +kernel
theorem dX12_weigh_128 : decode cX12_weigh 128 = .ok (.bipush 33, 2) := by decide +kernel
theorem dX12_weigh_130 : decode cX12_weigh 130 = .ok (.invokevirtual 471, 3) := by decide +kernel
theorem dX12_weigh_133 : decode cX12_weigh 133 = .ok (.aload_n 0, 1) := by decide +kernel
theorem dX12_weigh_134 : decode cX12_weigh 134 = .ok (.aload_n 1, 1) := by decide +kernel
theorem dX12_weigh_135 : decode cX12_weigh 135 = .ok (.invokevirtual 500, 3) := by decide +kernel
theorem dX12_weigh_138 : decode cX12_weigh 138 = .ok (.return_, 1) := by decide +kernel
set_option maxRecDepth 20000 in
theorem ggX12_join_X12_noSum : GoodIn wsX12_join wsX12_noSum := goodIn_r _ [14, 9, 15, 16, 13, 17, 18, 175, 176, 177, 178, 179, 180, 181, 182, 183, 184, 185, 186, 187, 188, 189, 190, 191, 192, 193, 194, 195, 196, 197, 198, 199, 200, 201, 202, 203, 204, 205, 206, 207, 208, 209, 210, 211, 212, 213, 214, 215, 216, 217, 218, 219, 220, 221, 222, 223, 224, 225, 226, 227, 228, 229, 230, 231, 232, 233, 234, 235, 236, 237, 238, 239, 240, 241, 242, 243, 244, 245, 246, 247, 248, 249, 250, 251, 252, 253, 254, 255] rfl (by decide +kernel)
set_option maxRecDepth 20000 in
theorem gX12_join_X12_noSum : GoodIn wsX12_join (wsV RX12 514 RX12 yX12_noSum wsX12_noSum) := goodIn_app (goodIn_of _ (by decide +kernel)) ggX12_join_X12_noSum
set_option maxRecDepth 20000 in
theorem ggX12_join_X12_weigh : GoodIn wsX12_join wsX12_weigh := goodIn_r _ [22, 2, 4, 23, 24, 25, 26, 27, 13, 28, 15, 16, 17, 18, 29, 30, 31, 32, 33, 34, 35, 36, 37, 38, 39, 40, 41, 42, 43, 44, 45, 46, 47, 48, 49, 50, 51, 52, 53, 54, 55, 56, 57, 58, 59, 60, 61, 62, 63, 64, 65, 66, 67, 68, 69, 70, 71, 72, 73, 74, 75, 76, 77, 78, 79, 80, 81, 82, 83, 84, 85, 86, 175, 176, 177, 178, 179, 180, 181, 182, 183, 184, 185, 186, 187, 188, 189, 190, 191, 192, 193, 194, 195, 196, 197, 198, 199, 200, 201, 202, 203, 204, 205, 206, 207, 208, 209, 210, 211, 212, 213, 214, 215, 216, 217, 218, 219, 220, 221, 222, 223, 224, 225, 226, 227, 228, 229, 230, 231, 232, 233, 234, 235, 236, 237, 238, 239, 240, 241, 242, 243, 244, 245, 246, 247, 248, 249, 250, 251, 252, 253, 254, 255] rfl (by decide +kernel)
set_option maxRecDepth 20000 in
theorem gX12_join_X12_weigh : GoodIn wsX12_join (wsV RX12 548 RX12 yX12_weigh wsX12_weigh) := goodIn_app (goodIn_of _ (by decide +kernel)) ggX12_join_X12_weigh
set_option maxRecDepth 20000 in
theorem ggX12_join_X12_reads : GoodIn wsX12_join wsX12_reads := goodIn_r _ [90, 91, 78, 79, 13, 80, 92, 93, 94, 95, 96, 97, 98, 99, 100, 101, 102, 81, 82, 83, 103, 104, 105, 106, 107, 108, 109, 110, 18, 111, 112, 113, 114, 115, 116, 117, 77, 84, 85, 86, 118, 119, 120, 121, 122, 123, 124, 125, 126, 127, 15, 16, 17, 128, 129, 130, 131, 132, 133, 134, 135, 136, 137, 175, 176, 177, 178, 179, 180, 181, 182, 183, 184, 185, 186, 187, 188, 189, 190, 191, 192, 193, 194, 195, 196, 197, 198, 199, 200, 201, 202, 203, 204, 205, 206, 207, 208, 209, 210, 211, 212, 213, 214, 215, 216, 217, 218, 219, 220, 221, 222, 223, 224, 225, 226, 227, 228, 229, 230, 231, 232, 233, 234, 235, 236, 237, 238, 239, 240, 241, 242, 243, 244, 245, 246, 247, 248, 249, 250, 251, 252, 253, 254, 255] rfl (by decide +kernel)
set_option maxRecDepth 20000 in
theorem gX12_join_X12_reads : GoodIn wsX12_join (wsV RX12 536 RX12 yX12_reads wsX12_reads) := goodIn_app (goodIn_of _ (by decide +kernel)) ggX12_join_X12_reads
set_option maxRecDepth 20000 in
theorem ggX12_join_X12_multiply : GoodIn wsX12_join wsX12_multiply := goodIn_r _ [141, 142, 15, 16, 13, 17, 18, 143, 144, 145, 146, 98, 147, 102, 148, 149, 150, 151, 152, 135, 136, 137, 106, 107, 108, 109, 110, 111, 112, 113, 114, 115, 116, 117, 77, 96, 81, 82, 83, 84, 85, 86, 118, 119, 120, 121, 153, 154, 155, 156, 157, 103, 104, 105, 158, 159, 160, 161, 97, 100, 162, 163, 164, 165, 166, 122, 123, 124, 125, 126, 127, 175, 176, 177, 178, 179, 180, 181, 182, 183, 184, 185, 186, 187, 188, 189, 190, 191, 192, 193, 194, 195, 196, 197, 198, 199, 200, 201, 202, 203, 204, 205, 206, 207, 208, 209, 210, 211, 212, 213, 214, 215, 216, 217, 218, 219, 220, 221, 222, 223, 224, 225, 226, 227, 228, 229, 230, 231, 232, 233, 234, 235, 236, 237, 238, 239, 240, 241, 242, 243, 244, 245, 246, 247, 248, 249, 250, 251, 252, 253, 254, 255] rfl (by decide +kernel)
set_option maxRecDepth 20000 in
theorem gX12_join_X12_multiply : GoodIn wsX12_join (wsV RX12 490 RX12 yX12_multiply wsX12_multiply) := goodIn_app (goodIn_of _ (by decide +kernel)) ggX12_join_X12_multiply
set_option maxRecDepth 20000 in
theorem ggX12_join_X12_addToSum : GoodIn wsX12_join wsX12_addToSum := goodIn_r _ [170, 142, 147, 6, 148, 7, 9, 135, 136, 13, 137, 171, 172, 173, 174, 97, 100, 103, 104, 105, 158, 159, 160, 161, 98, 102, 149, 150, 151, 152, 15, 16, 17, 18, 106, 107, 108, 109, 110, 111, 112, 113, 114, 115, 116, 117, 77, 96, 81, 82, 83, 84, 85, 86, 153, 154, 155, 156, 157, 118, 119, 120, 121, 143, 144, 145, 146, 162, 163, 164, 165, 166, 122, 123, 124, 125, 126, 127, 175, 176, 177, 178, 179, 180, 181, 182, 183, 184, 185, 186, 187, 188, 189, 190, 191, 192, 193, 194, 195, 196, 197, 198, 199, 200, 201, 202, 203, 204, 205, 206, 207, 208, 209, 210, 211, 212, 213, 214, 215, 216, 217, 218, 219, 220, 221, 222, 223, 224, 225, 226, 227, 228, 229, 230, 231, 232, 233, 234, 235, 236, 237, 238, 239, 240, 241, 242, 243, 244, 245, 246, 247, 248, 249, 250, 251, 252, 253, 254, 255] rfl (by decide +kernel)
set_option maxRecDepth 20000 in
theorem gX12_join_X12_addToSum : GoodIn wsX12_join (wsV RX12 517 RX12 yX12_addToSum wsX12_addToSum) := goodIn_app (goodIn_of _ (by decide +kernel)) ggX12_join_X12_addToSum
set_option maxRecDepth 20000 in
theorem ggX12_join_X12_set : GoodIn wsX12_join wsX12_set := goodIn_r _ [105] rfl (by decide +kernel)
set_option maxRecDepth 20000 in
theorem gX12_join_X12_set : GoodIn wsX12_join (va_wsS RX12 381 yX12_set wsX12_set) := goodIn_app (goodIn_of _ (by decide +kernel)) ggX12_join_X12_set
set_option maxRecDepth 20000 in
theorem ggX12_join_X12_isNull : GoodIn wsX12_join wsX12_isNull := goodIn_r _ [137] rfl (by decide +kernel)
set_option maxRecDepth 20000 in
theorem gX12_join_X12_isNull : GoodIn wsX12_join (va_wsS RX12 377 yX12_isNull wsX12_isNull) := goodIn_app (goodIn_of _ (by decide +kernel)) ggX12_join_X12_isNull
theorem dX12_join_0 : decode cX12_join 0 = .ok (.aload_n 0, 1) := by decide +kernel
theorem dX12_join_1 : decode cX12_join 1 = .ok (.dup, 1) := by decide +kernel
theorem dX12_join_2 : decode cX12_join 2 = .ok (.getfield 478, 3) := by decide +kernel
theorem dX12_join_5 : decode cX12_join 5 = .ok (.aload_n 0, 1) := by decide +kernel
theorem dX12_join_6 : decode cX12_join 6 = .ok (.getfield 533, 3) := by decide +kernel
theorem dX12_join_9 : decode cX12_join 9 = .ok (.iadd, 1) := by decide +kernel
theorem dX12_join_10 : decode cX12_join 10 = .ok (.putfield 478, 3) := by decide +kernel
theorem dX12_join_13 : decode cX12_join 13 = .ok (.aload_n 0, 1) := by decide +kernel
theorem dX12_join_14 : decode cX12_join 14 = .ok (.invokevirtual 514, 3) := by decide +kernel
theorem dX12_join_17 : decode cX12_join 17 = .ok (.iconst 0, 1) := by decide +kernel
theorem dX12_join_18 : decode cX12_join 18 = .ok (.istore_n 1, 1) := by decide +kernel
theorem dX12_join_19 : decode cX12_join 19 = .ok (.iload_n 1, 1) := by decide +kernel
theorem dX12_join_20 : decode cX12_join 20 = .ok (.aload_n 0, 1) := by decide +kernel
theorem dX12_join_21 : decode cX12_join 21 = .ok (.getfield 533, 3) := by decide +kernel
theorem dX12_join_24 : decode cX12_join 24 = .ok (.if_icmp .ge 43, 3) := by decide +kernel
theorem dX12_join_27 : decode cX12_join 27 = .ok (.aload_n 0, 1) := by decide +kernel
theorem dX12_join_28 : decode cX12_join 28 = .ok (.aload_n 0, 1) := by decide +kernel
theorem dX12_join_29 : decode cX12_join 29 = .ok (.getfield 347, 3) := by decide +kernel
theorem dX12_join_32 : decode cX12_join 32 = .ok (.iload_n 1, 1) := by decide +kernel
theorem dX12_join_33 : decode cX12_join 33 = .ok (.invokevirtual 548, 3) := by decide +kernel
theorem dX12_join_36 : decode cX12_join 36 = .ok (.aload_n 0, 1) := by decide +kernel
theorem dX12_join_37 : decode cX12_join 37 = .ok (.aload_n 0, 1) := by decide +kernel
theorem dX12_join_38 : decode cX12_join 38 = .ok (.getfield 118, 3) := by decide +kernel
theorem dX12_join_41 : decode cX12_join 41 = .ok (.bipush 33, 2) := by decide +kernel
theorem dX12_join_43 : decode cX12_join 43 = .ok (.iload_n 1, 1) := by decide +kernel
theorem dX12_join_44 : decode cX12_join 44 = .ok (.imul, 1) := by decide +kernel
theorem dX12_join_45 : decode cX12_join 45 = .ok (.invokevirtual 536, 3) := by decide +kernel
theorem dX12_join_48 : decode cX12_join 48 = .ok (.istore_n 2, 1) := by decide +kernel
theorem dX12_join_49 : decode cX12_join 49 = .ok (.aload_n 0, 1) := by decide +kernel
theorem dX12_join_50 : decode cX12_join 50 = .ok (.aload_n 0, 1) := by decide +kernel
theorem dX12_join_51 : decode cX12_join 51 = .ok (.getfield 347, 3) := by decide +kernel
theorem dX12_join_54 : decode cX12_join 54 = .ok (.invokevirtual 490, 3) := by decide +kernel
theorem dX12_join_57 : decode cX12_join 57 = .ok (.aload_n 0, 1) := by decide +kernel
theorem dX12_join_58 : decode cX12_join 58 = .ok (.invokevirtual 517, 3) := by decide +kernel
theorem dX12_join_61 : decode cX12_join 61 = .ok (.iinc 1 1, 3) := by decide +kernel
theorem dX12_join_64 : decode cX12_join 64 = .ok (.goto (-45), 3) := by decide +kernel
theorem dX12_join_67 : decode cX12_join 67 = .ok (.aload_n 0, 1) := by decide +kernel
theorem dX12_join_68 : decode cX12_join 68 = .ok (.getfield 350, 3) := by decide +kernel
theorem dX12_join_71 : decode cX12_join 71 = .ok (.aload_n 0, 1) := by decide +kernel
theorem dX12_join_72 : decode cX12_join 72 = .ok (.getfield 323, 3) := by decide +kernel
theorem dX12_join_75 : decode cX12_join 75 = .ok (.invokestatic 381, 3) := by decide +kernel
theorem dX12_join_78 : decode cX12_join 78 = .ok (.aload_n 0, 1) := by decide +kernel
theorem dX12_join_79 : decode cX12_join 79 = .ok (.aload_n 0, 1) := by decide +kernel
theorem dX12_join_80 : decode cX12_join 80 = .ok (.getfield 326, 3) := by decide +kernel
theorem dX12_join_83 : decode cX12_join 83 = .ok (.iconst 0, 1) := by decide +kernel
theorem dX12_join_84 : decode cX12_join 84 = .ok (.laload, 1) := by decide +kernel
theorem dX12_join_85 : decode cX12_join 85 = .ok (.lconst 1, 1) := by decide +kernel
theorem dX12_join_86 : decode cX12_join 86 = .ok (.land, 1) := by decide +kernel
theorem dX12_join_87 : decode cX12_join 87 = .ok (.lconst 1, 1) := by decide +kernel
theorem dX12_join_88 : decode cX12_join 88 = .ok (.lcmp, 1) := by decide +kernel
theorem dX12_join_89 : decode cX12_join 89 = .ok (.ifCond .ne 7, 3) := by decide +kernel
theorem dX12_join_92 : decode cX12_join 92 = .ok (.iconst 1, 1) := by decide +kernel
theorem dX12_join_93 : decode cX12_join 93 = .ok (.goto 4, 3) := by decide +kernel
theorem dX12_join_96 : decode cX12_join 96 = .ok (.iconst 0, 1) := by decide +kernel
theorem dX12_join_97 : decode cX12_join 97 = .ok (.putfield 552, 3) := by decide +kernel
theorem dX12_join_100 : decode cX12_join 100 = .ok (.aload_n 0, 1) := by decide +kernel
theorem dX12_join_101 : decode cX12_join 101 = .ok (.getfield 329, 3) := by decide +kernel
theorem dX12_join_104 : decode cX12_join 104 = .ok (.invokestatic 377, 3) := by decide +kernel
theorem dX12_join_107 : decode cX12_join 107 = .ok (.ifCond .ne 7, 3) := by decide +kernel
theorem dX12_join_110 : decode cX12_join 110 = .ok (.iconst 1, 1) := by decide +kernel
theorem dX12_join_111 : decode cX12_join 111 = .ok (.goto 4, 3) := by decide +kernel
theorem dX12_join_114 : decode cX12_join 114 = .ok (.iconst 0, 1) := by decide +kernel
theorem dX12_join_115 : decode cX12_join 115 = .ok (.ireturn, 1) := by decide +kernel
set_option maxRecDepth 20000 in
theorem ggX12_jointKey_X12_isRow : GoodIn wsX12_jointKey wsX12_isRow := goodIn_r _ [7, 8, 9, 10, 6, 11] rfl (by decide +kernel)
set_option maxRecDepth 20000 in
theorem gX12_jointKey_X12_isRow : GoodIn wsX12_jointKey (va_wsS RX12 460 yX12_isRow wsX12_isRow) := goodIn_app (goodIn_of _ (by decide +kernel)) ggX12_jointKey_X12_isRow
set_option maxRecDepth 20000 in
theorem ggX12_jointKey_X12_isSpent : GoodIn wsX12_jointKey wsX12_isSpent := goodIn_r _ [15, 16, 201, 202, 203, 204, 205, 206, 207, 208, 209, 210, 211, 212, 213, 214, 215, 216, 217, 218, 219, 220, 221, 222, 223, 224, 225, 226, 227, 228, 229, 230, 231, 232, 233, 234, 235, 236, 237, 238, 239, 240, 241, 242, 243, 244, 245, 246, 247, 248, 249, 250, 251, 252, 253, 254, 255, 256, 257, 258, 259, 260, 261, 262, 263, 264, 265, 266, 267, 268, 269, 270, 271, 272, 273, 274, 275, 276, 277, 278, 279, 280, 281] rfl (by decide +kernel)
set_option maxRecDepth 20000 in
theorem gX12_jointKey_X12_isSpent : GoodIn wsX12_jointKey (wsV RX12 484 RX12 yX12_isSpent wsX12_isSpent) := goodIn_app (goodIn_of _ (by decide +kernel)) ggX12_jointKey_X12_isSpent
set_option maxRecDepth 20000 in
theorem ggX12_jointKey_X12_join : GoodIn wsX12_jointKey wsX12_join := goodIn_r _ [20, 16, 1, 21, 22, 3, 23, 24, 25, 26, 27, 28, 29, 6, 30, 31, 32, 33, 34, 35, 36, 37, 38, 39, 40, 41, 42, 43, 44, 45, 46, 47, 48, 49, 50, 51, 52, 53, 54, 55, 56, 57, 58, 59, 60, 61, 62, 63, 64, 65, 66, 67, 68, 69, 70, 71, 72, 73, 74, 75, 76, 77, 78, 79, 80, 81, 82, 83, 84, 85, 86, 87, 88, 89, 90, 91, 92, 93, 94, 95, 96, 97, 98, 99, 100, 101, 102, 103, 104, 105, 106, 107, 108, 109, 110, 111, 112, 113, 114, 115, 116, 117, 118, 119, 120, 121, 122, 123, 124, 125, 126, 127, 128, 129, 130, 131, 132, 133, 134, 135, 136, 137, 138, 139, 140, 141, 142, 143, 144, 145, 146, 147, 148, 149, 150, 151, 152, 153, 154, 155, 156, 157, 158, 159, 160, 161, 162, 163, 164, 165, 166, 167, 168, 169, 170, 171, 172, 173, 174, 175, 176, 177, 178, 179, 180, 181, 182, 183, 184, 185, 186, 187, 188, 189, 190, 201, 202, 203, 204, 205, 206, 207, 208, 209, 210, 211, 212, 213, 214, 215, 216, 217, 218, 219, 220, 221, 222, 223, 224, 225, 226, 227, 228, 229, 230, 231, 232, 233, 234, 235, 236, 237, 238, 239, 240, 241, 242, 243, 244, 245, 246, 247, 248, 249, 250, 251, 252, 253, 254, 255, 256, 257, 258, 259, 260, 261, 262, 263, 264, 265, 266, 267, 268, 269, 270, 271, 272, 273, 274, 275, 276, 277, 278, 279, 280, 281] rfl (by decide +kernel)
set_option maxRecDepth 20000 in
theorem gX12_jointKey_X12_join : GoodIn wsX12_jointKey (wsV RX12 555 RX12 yX12_join wsX12_join) := goodIn_app (goodIn_of _ (by decide +kernel)) ggX12_jointKey_X12_join
set_option maxRecDepth 20000 in
theorem ggX12_jointKey_X12_bytesOf : GoodIn wsX12_jointKey wsX12_bytesOf := goodIn_r _ [193, 194] rfl (by decide +kernel)
set_option maxRecDepth 20000 in
theorem gX12_jointKey_X12_bytesOf : GoodIn wsX12_jointKey (va_wsS RX12 426 yX12_bytesOf wsX12_bytesOf) := goodIn_app (goodIn_of _ (by decide +kernel)) ggX12_jointKey_X12_bytesOf
set_option maxRecDepth 20000 in
theorem ggX12_jointKey_X12_gives : GoodIn wsX12_jointKey wsX12_gives := goodIn_r _ [198, 199, 2, 200, 201, 202, 203, 204, 205, 206, 207, 208, 209, 210, 211, 212, 213, 214, 215, 216, 217, 218, 219, 220, 221, 222, 223, 224, 225, 226, 227, 228, 229, 230, 231, 232, 233, 234, 235, 236, 237, 238, 239, 240, 241, 242, 243, 244, 245, 246, 247, 248, 249, 250, 251, 252, 253, 254, 255, 256, 257, 258, 259, 260, 261, 262, 263, 264, 265, 266, 267, 268, 269, 270, 271, 272, 273, 274, 275, 276, 277, 278, 279, 280, 281] rfl (by decide +kernel)
set_option maxRecDepth 20000 in
theorem gX12_jointKey_X12_gives : GoodIn wsX12_jointKey (wsV RX12 475 RX12 yX12_gives wsX12_gives) := goodIn_app (goodIn_of _ (by decide +kernel)) ggX12_jointKey_X12_gives
theorem dX12_jointKey_0 : decode cX12_jointKey 0 = .ok (.iload_n 1, 1) := by decide +kernel
theorem dX12_jointKey_1 : decode cX12_jointKey 1 = .ok (.invokestatic 460, 3) := by decide +kernel
theorem dX12_jointKey_4 : decode cX12_jointKey 4 = .ok (.ifCond .ne 5, 3) := by decide +kernel
theorem dX12_jointKey_7 : decode cX12_jointKey 7 = .ok (.iconst (-1), 1) := by decide +kernel
theorem dX12_jointKey_8 : decode cX12_jointKey 8 = .ok (.ireturn, 1) := by decide +kernel
theorem dX12_jointKey_9 : decode cX12_jointKey 9 = .ok (.aload_n 0, 1) := by decide +kernel
theorem dX12_jointKey_10 : decode cX12_jointKey 10 = .ok (.getfield 533, 3) := by decide +kernel
theorem dX12_jointKey_13 : decode cX12_jointKey 13 = .ok (.ifCond .ne 6, 3) := by decide +kernel
theorem dX12_jointKey_16 : decode cX12_jointKey 16 = .ok (.bipush (-2), 2) := by decide +kernel
theorem dX12_jointKey_18 : decode cX12_jointKey 18 = .ok (.ireturn, 1) := by decide +kernel
theorem dX12_jointKey_19 : decode cX12_jointKey 19 = .ok (.aload_n 0, 1) := by decide +kernel
theorem dX12_jointKey_20 : decode cX12_jointKey 20 = .ok (.aload_n 0, 1) := by decide +kernel
theorem dX12_jointKey_21 : decode cX12_jointKey 21 = .ok (.getfield 533, 3) := by decide +kernel
theorem dX12_jointKey_24 : decode cX12_jointKey 24 = .ok (.invokevirtual 484, 3) := by decide +kernel
theorem dX12_jointKey_27 : decode cX12_jointKey 27 = .ok (.ifCond .eq 6, 3) := by decide +kernel
theorem dX12_jointKey_30 : decode cX12_jointKey 30 = .ok (.bipush (-5), 2) := by decide +kernel
theorem dX12_jointKey_32 : decode cX12_jointKey 32 = .ok (.ireturn, 1) := by decide +kernel
theorem dX12_jointKey_33 : decode cX12_jointKey 33 = .ok (.aload_n 0, 1) := by decide +kernel
theorem dX12_jointKey_34 : decode cX12_jointKey 34 = .ok (.invokevirtual 555, 3) := by decide +kernel
theorem dX12_jointKey_37 : decode cX12_jointKey 37 = .ok (.ifCond .ne 6, 3) := by decide +kernel
theorem dX12_jointKey_40 : decode cX12_jointKey 40 = .ok (.bipush (-2), 2) := by decide +kernel
theorem dX12_jointKey_42 : decode cX12_jointKey 42 = .ok (.ireturn, 1) := by decide +kernel
theorem dX12_jointKey_43 : decode cX12_jointKey 43 = .ok (.aload_n 0, 1) := by decide +kernel
theorem dX12_jointKey_44 : decode cX12_jointKey 44 = .ok (.getfield 302, 3) := by decide +kernel
theorem dX12_jointKey_47 : decode cX12_jointKey 47 = .ok (.iconst 0, 1) := by decide +kernel
theorem dX12_jointKey_48 : decode cX12_jointKey 48 = .ok (.aload_n 0, 1) := by decide +kernel
theorem dX12_jointKey_49 : decode cX12_jointKey 49 = .ok (.getfield 350, 3) := by decide +kernel
theorem dX12_jointKey_52 : decode cX12_jointKey 52 = .ok (.invokestatic 426, 3) := by decide +kernel
theorem dX12_jointKey_55 : decode cX12_jointKey 55 = .ok (.aload_n 0, 1) := by decide +kernel
theorem dX12_jointKey_56 : decode cX12_jointKey 56 = .ok (.iload_n 1, 1) := by decide +kernel
theorem dX12_jointKey_57 : decode cX12_jointKey 57 = .ok (.bipush 32, 2) := by decide +kernel
theorem dX12_jointKey_59 : decode cX12_jointKey 59 = .ok (.invokevirtual 475, 3) := by decide +kernel
theorem dX12_jointKey_62 : decode cX12_jointKey 62 = .ok (.ireturn, 1) := by decide +kernel
set_option maxRecDepth 20000 in
theorem ggX12_isOf_X12_generator : GoodIn wsX12_isOf wsX12_generator := goodIn_r _ [9, 10, 11, 12, 13, 14, 15, 8, 16, 93, 94, 95, 96, 97, 98, 99, 100, 101, 102, 103, 104, 105, 106, 107, 108, 109, 110, 111, 112, 113, 114, 115, 116, 117, 118, 119, 120, 121, 122, 123, 124, 125, 126, 127, 128, 129, 130, 131, 132, 133, 134, 135, 136, 137, 138, 139, 140, 141, 142, 143, 144, 145, 146, 147, 148, 149, 150, 151, 152, 153, 154, 155, 156, 157, 158, 159, 160, 161, 162, 163, 164, 165, 166, 167, 168, 169, 170, 171, 172, 173] rfl (by decide +kernel)
set_option maxRecDepth 20000 in
theorem gX12_isOf_X12_generator : GoodIn wsX12_isOf (wsV RX12 487 RX12 yX12_generator wsX12_generator) := goodIn_app (goodIn_of _ (by decide +kernel)) ggX12_isOf_X12_generator
set_option maxRecDepth 20000 in
theorem ggX12_isOf_X12_multiply : GoodIn wsX12_isOf wsX12_multiply := goodIn_r _ [20, 21, 22, 23, 8, 24, 25, 26, 27, 28, 29, 30, 31, 32, 33, 34, 35, 36, 37, 38, 39, 40, 41, 42, 43, 44, 45, 46, 47, 48, 49, 50, 51, 52, 53, 54, 55, 56, 57, 58, 59, 60, 61, 62, 63, 64, 65, 66, 67, 68, 69, 14, 15, 16, 70, 71, 72, 73, 10, 12, 74, 75, 76, 77, 78, 79, 80, 81, 82, 83, 84, 93, 94, 95, 96, 97, 98, 99, 100, 101, 102, 103, 104, 105, 106, 107, 108, 109, 110, 111, 112, 113, 114, 115, 116, 117, 118, 119, 120, 121, 122, 123, 124, 125, 126, 127, 128, 129, 130, 131, 132, 133, 134, 135, 136, 137, 138, 139, 140, 141, 142, 143, 144, 145, 146, 147, 148, 149, 150, 151, 152, 153, 154, 155, 156, 157, 158, 159, 160, 161, 162, 163, 164, 165, 166, 167, 168, 169, 170, 171, 172, 173] rfl (by decide +kernel)
set_option maxRecDepth 20000 in
theorem gX12_isOf_X12_multiply : GoodIn wsX12_isOf (wsV RX12 490 RX12 yX12_multiply wsX12_multiply) := goodIn_app (goodIn_of _ (by decide +kernel)) ggX12_isOf_X12_multiply
set_option maxRecDepth 20000 in
theorem ggX12_isOf_X12_tells : GoodIn wsX12_isOf wsX12_tells := goodIn_r _ [88, 21, 33, 31, 38, 39, 8, 40, 89, 90, 91, 92, 93, 94, 95, 96, 97, 98, 99, 100, 101, 102, 103, 104, 105, 106, 107, 108, 109, 110, 111, 112, 113, 114, 115, 116, 117, 118, 119, 120, 121, 122, 123, 124, 125, 126, 127, 128, 129, 130, 131, 132, 133, 134, 135, 136, 137, 138, 139, 140, 141, 142, 143, 144, 145, 146, 147, 148, 149, 150, 151, 152, 153, 154, 155, 156, 157, 158, 159, 160, 161, 162, 163, 164, 165, 166, 167, 168, 169, 170, 171, 172, 173] rfl (by decide +kernel)
set_option maxRecDepth 20000 in
theorem gX12_isOf_X12_tells : GoodIn wsX12_isOf (wsV RX12 494 RX12 yX12_tells wsX12_tells) := goodIn_app (goodIn_of _ (by decide +kernel)) ggX12_isOf_X12_tells
theorem dX12_isOf_0 : decode cX12_isOf 0 = .ok (.aload_n 0, 1) := by decide +kernel
theorem dX12_isOf_1 : decode cX12_isOf 1 = .ok (.dup, 1) := by decide +kernel
theorem dX12_isOf_2 : decode cX12_isOf 2 = .ok (.getfield 478, 3) := by decide +kernel
theorem dX12_isOf_5 : decode cX12_isOf 5 = .ok (.iconst 1, 1) := by decide +kernel
theorem dX12_isOf_6 : decode cX12_isOf 6 = .ok (.iadd, 1) := by decide +kernel
theorem dX12_isOf_7 : decode cX12_isOf 7 = .ok (.putfield 478, 3) := by decide +kernel
theorem dX12_isOf_10 : decode cX12_isOf 10 = .ok (.aload_n 0, 1) := by decide +kernel
theorem dX12_isOf_11 : decode cX12_isOf 11 = .ok (.invokevirtual 487, 3) := by decide +kernel
theorem dX12_isOf_14 : decode cX12_isOf 14 = .ok (.aload_n 0, 1) := by decide +kernel
theorem dX12_isOf_15 : decode cX12_isOf 15 = .ok (.aload_n 0, 1) := by decide +kernel
theorem dX12_isOf_16 : decode cX12_isOf 16 = .ok (.getfield 305, 3) := by decide +kernel
theorem dX12_isOf_19 : decode cX12_isOf 19 = .ok (.invokevirtual 490, 3) := by decide +kernel
theorem dX12_isOf_22 : decode cX12_isOf 22 = .ok (.aload_n 0, 1) := by decide +kernel
theorem dX12_isOf_23 : decode cX12_isOf 23 = .ok (.aload_n 0, 1) := by decide +kernel
theorem dX12_isOf_24 : decode cX12_isOf 24 = .ok (.getfield 353, 3) := by decide +kernel
theorem dX12_isOf_27 : decode cX12_isOf 27 = .ok (.iconst 0, 1) := by decide +kernel
theorem dX12_isOf_28 : decode cX12_isOf 28 = .ok (.invokevirtual 494, 3) := by decide +kernel
theorem dX12_isOf_31 : decode cX12_isOf 31 = .ok (.iconst 1, 1) := by decide +kernel
theorem dX12_isOf_32 : decode cX12_isOf 32 = .ok (.istore_n 2, 1) := by decide +kernel
theorem dX12_isOf_33 : decode cX12_isOf 33 = .ok (.iconst 0, 1) := by decide +kernel
theorem dX12_isOf_34 : decode cX12_isOf 34 = .ok (.istore_n 3, 1) := by decide +kernel
theorem dX12_isOf_35 : decode cX12_isOf 35 = .ok (.iload_n 3, 1) := by decide +kernel
theorem dX12_isOf_36 : decode cX12_isOf 36 = .ok (.bipush 33, 2) := by decide +kernel
theorem dX12_isOf_38 : decode cX12_isOf 38 = .ok (.if_icmp .ge 39, 3) := by decide +kernel
theorem dX12_isOf_41 : decode cX12_isOf 41 = .ok (.iload_n 2, 1) := by decide +kernel
theorem dX12_isOf_42 : decode cX12_isOf 42 = .ok (.ifCond .eq 27, 3) := by decide +kernel
theorem dX12_isOf_45 : decode cX12_isOf 45 = .ok (.aload_n 0, 1) := by decide +kernel
theorem dX12_isOf_46 : decode cX12_isOf 46 = .ok (.getfield 353, 3) := by decide +kernel
theorem dX12_isOf_49 : decode cX12_isOf 49 = .ok (.iload_n 3, 1) := by decide +kernel
theorem dX12_isOf_50 : decode cX12_isOf 50 = .ok (.iaload, 1) := by decide +kernel
theorem dX12_isOf_51 : decode cX12_isOf 51 = .ok (.aload_n 0, 1) := by decide +kernel
theorem dX12_isOf_52 : decode cX12_isOf 52 = .ok (.getfield 118, 3) := by decide +kernel
theorem dX12_isOf_55 : decode cX12_isOf 55 = .ok (.bipush 33, 2) := by decide +kernel
theorem dX12_isOf_57 : decode cX12_isOf 57 = .ok (.iload_n 1, 1) := by decide +kernel
theorem dX12_isOf_58 : decode cX12_isOf 58 = .ok (.imul, 1) := by decide +kernel
theorem dX12_isOf_59 : decode cX12_isOf 59 = .ok (.iload_n 3, 1) := by decide +kernel
theorem dX12_isOf_60 : decode cX12_isOf 60 = .ok (.iadd, 1) := by decide +kernel
theorem dX12_isOf_61 : decode cX12_isOf 61 = .ok (.iaload, 1) := by decide +kernel
theorem dX12_isOf_62 : decode cX12_isOf 62 = .ok (.if_icmp .ne 7, 3) := by decide +kernel
theorem dX12_isOf_65 : decode cX12_isOf 65 = .ok (.iconst 1, 1) := by decide +kernel
theorem dX12_isOf_66 : decode cX12_isOf 66 = .ok (.goto 4, 3) := by decide +kernel
theorem dX12_isOf_69 : decode cX12_isOf 69 = .ok (.iconst 0, 1) := by decide +kernel
theorem dX12_isOf_70 : decode cX12_isOf 70 = .ok (.istore_n 2, 1) := by decide +kernel
theorem dX12_isOf_71 : decode cX12_isOf 71 = .ok (.iinc 3 1, 3) := by decide +kernel
theorem dX12_isOf_74 : decode cX12_isOf 74 = .ok (.goto (-39), 3) := by decide +kernel
theorem dX12_isOf_77 : decode cX12_isOf 77 = .ok (.iload_n 2, 1) := by decide +kernel
theorem dX12_isOf_78 : decode cX12_isOf 78 = .ok (.ireturn, 1) := by decide +kernel
set_option maxRecDepth 20000 in
theorem ggX12_makeNonce_X12_begin : GoodIn wsX12_makeNonce wsX12_begin := goodIn_r _ [10, 11, 12, 13, 14, 15, 16, 17, 18, 19, 9, 20, 21, 22, 23, 24, 25, 26, 27, 28, 29, 30, 31, 32, 33, 34, 35, 36, 37, 38, 39, 75, 76, 77, 78, 79, 80, 81, 82, 83, 84, 85, 86, 87, 88, 89, 90, 91, 92, 93, 94, 95, 96, 97, 98, 99, 100, 101, 102, 103, 104, 105, 106, 107, 108, 109, 110, 111, 112, 113, 114, 115, 116, 117, 118, 119, 120, 121, 122, 123, 124, 125, 126, 127, 128, 129, 130, 131, 132, 133, 134, 135, 136, 137, 138, 139, 140, 141, 142, 143, 144, 145, 146, 147, 148, 149, 150, 151, 152, 153, 154, 155] rfl (by decide +kernel)
set_option maxRecDepth 20000 in
theorem gX12_makeNonce_X12_begin : GoodIn wsX12_makeNonce (wsV RX12 468 RX12 yX12_begin wsX12_begin) := goodIn_app (goodIn_of _ (by decide +kernel)) ggX12_makeNonce_X12_begin
set_option maxRecDepth 20000 in
theorem ggX12_makeNonce_X12_putAll : GoodIn wsX12_makeNonce wsX12_putAll := goodIn_r _ [43, 44, 45, 46, 9, 47, 14, 16, 75, 76, 77, 78, 79, 80, 81, 82, 83, 84, 85, 86, 87, 88, 89, 90, 91, 92, 93, 94, 95, 96, 97, 98, 99, 100, 101, 102, 103, 104, 105, 106, 107, 108, 109, 110, 111, 112, 113, 114, 115, 116, 117, 118, 119, 120, 121, 122, 123, 124, 125, 126, 127, 128, 129, 130, 131, 132, 133, 134, 135, 136, 137, 138, 139, 140, 141, 142, 143, 144, 145, 146, 147, 148, 149, 150, 151, 152, 153, 154, 155] rfl (by decide +kernel)
set_option maxRecDepth 20000 in
theorem gX12_makeNonce_X12_putAll : GoodIn wsX12_makeNonce (wsV RX12 471 RX12 yX12_putAll wsX12_putAll) := goodIn_app (goodIn_of _ (by decide +kernel)) ggX12_makeNonce_X12_putAll
set_option maxRecDepth 20000 in
theorem ggX12_makeNonce_X12_byteTo : GoodIn wsX12_makeNonce wsX12_byteTo := goodIn_r _ [47, 14, 16, 75, 76, 77, 78, 79, 80, 81, 82, 83, 84, 85, 86, 87, 88, 89, 90, 91, 92, 93, 94, 95, 96, 97, 98, 99, 100, 101, 102, 103, 104, 105, 106, 107, 108, 109, 110, 111, 112, 113, 114, 115, 116, 117, 118, 119, 120, 121, 122, 123, 124, 125, 126, 127, 128, 129, 130, 131, 132, 133, 134, 135, 136, 137, 138, 139, 140, 141, 142, 143, 144, 145, 146, 147, 148, 149, 150, 151, 152, 153, 154, 155] rfl (by decide +kernel)
set_option maxRecDepth 20000 in
theorem gX12_makeNonce_X12_byteTo : GoodIn wsX12_makeNonce (wsV RX12 454 RX12 yX12_byteTo wsX12_byteTo) := goodIn_app (goodIn_of _ (by decide +kernel)) ggX12_makeNonce_X12_byteTo
set_option maxRecDepth 20000 in
theorem ggX12_makeNonce_X12_putNumber : GoodIn wsX12_makeNonce wsX12_putNumber := goodIn_r _ [51, 14, 16, 52, 53, 9, 54, 55, 75, 76, 77, 78, 79, 80, 81, 82, 83, 84, 85, 86, 87, 88, 89, 90, 91, 92, 93, 94, 95, 96, 97, 98, 99, 100, 101, 102, 103, 104, 105, 106, 107, 108, 109, 110, 111, 112, 113, 114, 115, 116, 117, 118, 119, 120, 121, 122, 123, 124, 125, 126, 127, 128, 129, 130, 131, 132, 133, 134, 135, 136, 137, 138, 139, 140, 141, 142, 143, 144, 145, 146, 147, 148, 149, 150, 151, 152, 153, 154, 155] rfl (by decide +kernel)
set_option maxRecDepth 20000 in
theorem gX12_makeNonce_X12_putNumber : GoodIn wsX12_makeNonce (wsV RX12 497 RX12 yX12_putNumber wsX12_putNumber) := goodIn_app (goodIn_of _ (by decide +kernel)) ggX12_makeNonce_X12_putNumber
set_option maxRecDepth 20000 in
theorem ggX12_makeNonce_X12_endNumber : GoodIn wsX12_makeNonce wsX12_endNumber := goodIn_r _ [59, 15, 60, 61, 62, 63, 9, 64, 14, 16, 17, 18, 19, 20, 21, 22, 23, 24, 25, 26, 27, 28, 29, 30, 31, 32, 33, 34, 35, 36, 37, 38, 39, 65, 66, 67, 68, 69, 70, 71, 72, 73, 74, 75, 76, 77, 78, 79, 80, 81, 82, 83, 84, 85, 86, 87, 88, 89, 90, 91, 92, 93, 94, 95, 96, 97, 98, 99, 100, 101, 102, 103, 104, 105, 106, 107, 108, 109, 110, 111, 112, 113, 114, 115, 116, 117, 118, 119, 120, 121, 122, 123, 124, 125, 126, 127, 128, 129, 130, 131, 132, 133, 134, 135, 136, 137, 138, 139, 140, 141, 142, 143, 144, 145, 146, 147, 148, 149, 150, 151, 152, 153, 154, 155] rfl (by decide +kernel)
set_option maxRecDepth 20000 in
theorem gX12_makeNonce_X12_endNumber : GoodIn wsX12_makeNonce (wsV RX12 500 RX12 yX12_endNumber wsX12_endNumber) := goodIn_app (goodIn_of _ (by decide +kernel)) ggX12_makeNonce_X12_endNumber
theorem dX12_makeNonce_0 : decode cX12_makeNonce 0 = .ok (.aload_n 0, 1) := by decide +kernel
theorem dX12_makeNonce_1 : decode cX12_makeNonce 1 = .ok (.bipush 6, 2) := by decide +kernel
theorem dX12_makeNonce_3 : decode cX12_makeNonce 3 = .ok (.invokevirtual 468, 3) := by decide +kernel
theorem dX12_makeNonce_6 : decode cX12_makeNonce 6 = .ok (.aload_n 0, 1) := by decide +kernel
theorem dX12_makeNonce_7 : decode cX12_makeNonce 7 = .ok (.aload_n 0, 1) := by decide +kernel
theorem dX12_makeNonce_8 : decode cX12_makeNonce 8 = .ok (.getfield 320, 3) := by decide +kernel
theorem dX12_makeNonce_11 : decode cX12_makeNonce 11 = .ok (.iconst 0, 1) := by decide +kernel
theorem dX12_makeNonce_12 : decode cX12_makeNonce 12 = .ok (.bipush 32, 2) := by decide +kernel
theorem dX12_makeNonce_14 : decode cX12_makeNonce 14 = .ok (.invokevirtual 471, 3) := by decide +kernel
theorem dX12_makeNonce_17 : decode cX12_makeNonce 17 = .ok (.aload_n 0, 1) := by decide +kernel
theorem dX12_makeNonce_18 : decode cX12_makeNonce 18 = .ok (.bipush 33, 2) := by decide +kernel
theorem dX12_makeNonce_20 : decode cX12_makeNonce 20 = .ok (.invokevirtual 454, 3) := by decide +kernel
theorem dX12_makeNonce_23 : decode cX12_makeNonce 23 = .ok (.aload_n 0, 1) := by decide +kernel
theorem dX12_makeNonce_24 : decode cX12_makeNonce 24 = .ok (.aload_n 0, 1) := by decide +kernel
theorem dX12_makeNonce_25 : decode cX12_makeNonce 25 = .ok (.getfield 353, 3) := by decide +kernel
theorem dX12_makeNonce_28 : decode cX12_makeNonce 28 = .ok (.iconst 0, 1) := by decide +kernel
theorem dX12_makeNonce_29 : decode cX12_makeNonce 29 = .ok (.bipush 33, 2) := by decide +kernel
theorem dX12_makeNonce_31 : decode cX12_makeNonce 31 = .ok (.invokevirtual 471, 3) := by decide +kernel
theorem dX12_makeNonce_34 : decode cX12_makeNonce 34 = .ok (.aload_n 0, 1) := by decide +kernel
theorem dX12_makeNonce_35 : decode cX12_makeNonce 35 = .ok (.bipush 32, 2) := by decide +kernel
theorem dX12_makeNonce_37 : decode cX12_makeNonce 37 = .ok (.invokevirtual 454, 3) := by decide +kernel
theorem dX12_makeNonce_40 : decode cX12_makeNonce 40 = .ok (.aload_n 0, 1) := by decide +kernel
theorem dX12_makeNonce_41 : decode cX12_makeNonce 41 = .ok (.aload_n 0, 1) := by decide +kernel
theorem dX12_makeNonce_42 : decode cX12_makeNonce 42 = .ok (.getfield 350, 3) := by decide +kernel
theorem dX12_makeNonce_45 : decode cX12_makeNonce 45 = .ok (.invokevirtual 497, 3) := by decide +kernel
theorem dX12_makeNonce_48 : decode cX12_makeNonce 48 = .ok (.aload_n 0, 1) := by decide +kernel
theorem dX12_makeNonce_49 : decode cX12_makeNonce 49 = .ok (.iconst 1, 1) := by decide +kernel
theorem dX12_makeNonce_50 : decode cX12_makeNonce 50 = .ok (.invokevirtual 454, 3) := by decide +kernel
theorem dX12_makeNonce_53 : decode cX12_makeNonce 53 = .ok (.iconst 0, 1) := by decide +kernel
theorem dX12_makeNonce_54 : decode cX12_makeNonce 54 = .ok (.istore 4, 2) := by decide +kernel
theorem dX12_makeNonce_56 : decode cX12_makeNonce 56 = .ok (.iload 4, 2) := by decide +kernel
theorem dX12_makeNonce_58 : decode cX12_makeNonce 58 = .ok (.bipush 7, 2) := by decide +kernel
theorem dX12_makeNonce_60 : decode cX12_makeNonce 60 = .ok (.if_icmp .ge 14, 3) := by decide +kernel
theorem dX12_makeNonce_63 : decode cX12_makeNonce 63 = .ok (.aload_n 0, 1) := by decide +kernel
theorem dX12_makeNonce_64 : decode cX12_makeNonce 64 = .ok (.iconst 0, 1) := by decide +kernel
theorem dX12_makeNonce_65 : decode cX12_makeNonce 65 = .ok (.invokevirtual 454, 3) := by decide +kernel
theorem dX12_makeNonce_68 : decode cX12_makeNonce 68 = .ok (.iinc 4 1, 3) := by decide +kernel
theorem dX12_makeNonce_71 : decode cX12_makeNonce 71 = .ok (.goto (-15), 3) := by decide +kernel
theorem dX12_makeNonce_74 : decode cX12_makeNonce 74 = .ok (.aload_n 0, 1) := by decide +kernel
theorem dX12_makeNonce_75 : decode cX12_makeNonce 75 = .ok (.aload_n 0, 1) := by decide +kernel
theorem dX12_makeNonce_76 : decode cX12_makeNonce 76 = .ok (.getfield 96, 3) := by decide +kernel
theorem dX12_makeNonce_79 : decode cX12_makeNonce 79 = .ok (.iload_n 2, 1) := by decide +kernel
theorem dX12_makeNonce_80 : decode cX12_makeNonce 80 = .ok (.iaload, 1) := by decide +kernel
theorem dX12_makeNonce_81 : decode cX12_makeNonce 81 = .ok (.invokevirtual 454, 3) := by decide +kernel
theorem dX12_makeNonce_84 : decode cX12_makeNonce 84 = .ok (.aload_n 0, 1) := by decide +kernel
theorem dX12_makeNonce_85 : decode cX12_makeNonce 85 = .ok (.aload_n 0, 1) := by decide +kernel
theorem dX12_makeNonce_86 : decode cX12_makeNonce 86 = .ok (.getfield 100, 3) := by decide +kernel
theorem dX12_makeNonce_89 : decode cX12_makeNonce 89 = .ok (.bipush 100, 2) := by decide +kernel
theorem dX12_makeNonce_91 : decode cX12_makeNonce 91 = .ok (.iload_n 2, 1) := by decide +kernel
theorem dX12_makeNonce_92 : decode cX12_makeNonce 92 = .ok (.imul, 1) := by decide +kernel
theorem dX12_makeNonce_93 : decode cX12_makeNonce 93 = .ok (.aload_n 0, 1) := by decide +kernel
theorem dX12_makeNonce_94 : decode cX12_makeNonce 94 = .ok (.getfield 96, 3) := by decide +kernel
theorem dX12_makeNonce_97 : decode cX12_makeNonce 97 = .ok (.iload_n 2, 1) := by decide +kernel
theorem dX12_makeNonce_98 : decode cX12_makeNonce 98 = .ok (.iaload, 1) := by decide +kernel
theorem dX12_makeNonce_99 : decode cX12_makeNonce 99 = .ok (.invokevirtual 471, 3) := by decide +kernel
theorem dX12_makeNonce_102 : decode cX12_makeNonce 102 = .ok (.iconst 0, 1) := by decide +kernel
theorem dX12_makeNonce_103 : decode cX12_makeNonce 103 = .ok (.istore 4, 2) := by decide +kernel
theorem dX12_makeNonce_105 : decode cX12_makeNonce 105 = .ok (.iload 4, 2) := by decide +kernel
theorem dX12_makeNonce_107 : decode cX12_makeNonce 107 = .ok (.iconst 4, 1) := by decide +kernel
theorem dX12_makeNonce_108 : decode cX12_makeNonce 108 = .ok (.if_icmp .ge 14, 3) := by decide +kernel
theorem dX12_makeNonce_111 : decode cX12_makeNonce 111 = .ok (.aload_n 0, 1) := by decide +kernel
theorem dX12_makeNonce_112 : decode cX12_makeNonce 112 = .ok (.iconst 0, 1) := by decide +kernel
theorem dX12_makeNonce_113 : decode cX12_makeNonce 113 = .ok (.invokevirtual 454, 3) := by decide +kernel
theorem dX12_makeNonce_116 : decode cX12_makeNonce 116 = .ok (.iinc 4 1, 3) := by decide +kernel
theorem dX12_makeNonce_119 : decode cX12_makeNonce 119 = .ok (.goto (-14), 3) := by decide +kernel
theorem dX12_makeNonce_122 : decode cX12_makeNonce 122 = .ok (.aload_n 0, 1) := by decide +kernel
theorem dX12_makeNonce_123 : decode cX12_makeNonce 123 = .ok (.iload_n 3, 1) := by decide +kernel
theorem dX12_makeNonce_124 : decode cX12_makeNonce 124 = .ok (.invokevirtual 454, 3) := by decide +kernel
theorem dX12_makeNonce_127 : decode cX12_makeNonce 127 = .ok (.aload_n 0, 1) := by decide +kernel
theorem dX12_makeNonce_128 : decode cX12_makeNonce 128 = .ok (.aload_n 1, 1) := by decide +kernel
theorem dX12_makeNonce_129 : decode cX12_makeNonce 129 = .ok (.invokevirtual 500, 3) := by decide +kernel
theorem dX12_makeNonce_132 : decode cX12_makeNonce 132 = .ok (.return_, 1) := by decide +kernel
set_option maxRecDepth 20000 in
theorem ggX12_nonce_X12_isRow : GoodIn wsX12_nonce wsX12_isRow := goodIn_r _ [14, 15, 16, 17, 13, 18] rfl (by decide +kernel)
set_option maxRecDepth 20000 in
theorem gX12_nonce_X12_isRow : GoodIn wsX12_nonce (va_wsS RX12 460 yX12_isRow wsX12_isRow) := goodIn_app (goodIn_of _ (by decide +kernel)) ggX12_nonce_X12_isRow
set_option maxRecDepth 20000 in
theorem ggX12_nonce_X12_isSigner : GoodIn wsX12_nonce wsX12_isSigner := goodIn_r _ [22, 2, 16, 17, 13, 18, 244, 245, 246, 247, 248, 249, 250, 251, 252, 253, 254, 255, 256, 257, 258, 259, 260, 261, 262, 263, 264, 265, 266, 267, 268, 269, 270, 271, 272, 273, 274, 275, 276, 277, 278, 279, 280, 281, 282, 283, 284, 285, 286, 287, 288, 289, 290, 291, 292, 293, 294, 295, 296, 297, 298, 299, 300, 301, 302, 303, 304, 305, 306, 307, 308, 309, 310, 311, 312, 313, 314, 315, 316, 317, 318, 319, 320, 321, 322, 323, 324] rfl (by decide +kernel)
set_option maxRecDepth 20000 in
theorem gX12_nonce_X12_isSigner : GoodIn wsX12_nonce (wsV RX12 558 RX12 yX12_isSigner wsX12_isSigner) := goodIn_app (goodIn_of _ (by decide +kernel)) ggX12_nonce_X12_isSigner
set_option maxRecDepth 20000 in
theorem ggX12_nonce_X12_isSecret : GoodIn wsX12_nonce wsX12_isSecret := goodIn_r _ [26, 1, 27, 28, 29, 30, 31, 13, 32, 33, 34, 35, 36, 37, 38, 244, 245, 246, 247, 248, 249, 250, 251, 252, 253, 254, 255, 256, 257, 258, 259, 260, 261, 262, 263, 264, 265, 266, 267, 268, 269, 270, 271, 272, 273, 274, 275, 276, 277, 278, 279, 280, 281, 282, 283, 284, 285, 286, 287, 288, 289, 290, 291, 292, 293, 294, 295, 296, 297, 298, 299, 300, 301, 302, 303, 304, 305, 306, 307, 308, 309, 310, 311, 312, 313, 314, 315, 316, 317, 318, 319, 320, 321, 322, 323, 324] rfl (by decide +kernel)
set_option maxRecDepth 20000 in
theorem gX12_nonce_X12_isSecret : GoodIn wsX12_nonce (wsV RX12 481 RX12 yX12_isSecret wsX12_isSecret) := goodIn_app (goodIn_of _ (by decide +kernel)) ggX12_nonce_X12_isSecret
set_option maxRecDepth 20000 in
theorem ggX12_nonce_X12_isSpent : GoodIn wsX12_nonce wsX12_isSpent := goodIn_r _ [42, 5, 244, 245, 246, 247, 248, 249, 250, 251, 252, 253, 254, 255, 256, 257, 258, 259, 260, 261, 262, 263, 264, 265, 266, 267, 268, 269, 270, 271, 272, 273, 274, 275, 276, 277, 278, 279, 280, 281, 282, 283, 284, 285, 286, 287, 288, 289, 290, 291, 292, 293, 294, 295, 296, 297, 298, 299, 300, 301, 302, 303, 304, 305, 306, 307, 308, 309, 310, 311, 312, 313, 314, 315, 316, 317, 318, 319, 320, 321, 322, 323, 324] rfl (by decide +kernel)
set_option maxRecDepth 20000 in
theorem gX12_nonce_X12_isSpent : GoodIn wsX12_nonce (wsV RX12 484 RX12 yX12_isSpent wsX12_isSpent) := goodIn_app (goodIn_of _ (by decide +kernel)) ggX12_nonce_X12_isSpent
set_option maxRecDepth 20000 in
theorem ggX12_nonce_X12_isOf : GoodIn wsX12_nonce wsX12_isOf := goodIn_r _ [46, 5, 27, 47, 48, 49, 50, 51, 13, 52, 53, 54, 55, 56, 57, 58, 59, 60, 61, 62, 63, 64, 65, 66, 67, 68, 69, 70, 71, 72, 73, 74, 75, 76, 77, 78, 79, 80, 33, 34, 35, 81, 82, 83, 84, 85, 86, 87, 88, 89, 90, 91, 92, 29, 93, 36, 37, 38, 94, 95, 96, 97, 98, 99, 100, 101, 102, 103, 104, 105, 106, 107, 108, 109, 110, 111, 112, 113, 114, 115, 116, 117, 118, 119, 120, 121, 122, 123, 124, 125, 126, 127, 128, 244, 245, 246, 247, 248, 249, 250, 251, 252, 253, 254, 255, 256, 257, 258, 259, 260, 261, 262, 263, 264, 265, 266, 267, 268, 269, 270, 271, 272, 273, 274, 275, 276, 277, 278, 279, 280, 281, 282, 283, 284, 285, 286, 287, 288, 289, 290, 291, 292, 293, 294, 295, 296, 297, 298, 299, 300, 301, 302, 303, 304, 305, 306, 307, 308, 309, 310, 311, 312, 313, 314, 315, 316, 317, 318, 319, 320, 321, 322, 323, 324] rfl (by decide +kernel)
set_option maxRecDepth 20000 in
theorem gX12_nonce_X12_isOf : GoodIn wsX12_nonce (wsV RX12 561 RX12 yX12_isOf wsX12_isOf) := goodIn_app (goodIn_of _ (by decide +kernel)) ggX12_nonce_X12_isOf
set_option maxRecDepth 20000 in
theorem ggX12_nonce_X12_join : GoodIn wsX12_nonce wsX12_join := goodIn_r _ [132, 5, 2, 133, 48, 134, 135, 136, 137, 138, 139, 140, 141, 13, 142, 65, 66, 67, 68, 143, 144, 145, 146, 147, 148, 149, 150, 151, 152, 153, 154, 155, 156, 157, 158, 159, 160, 161, 162, 163, 164, 165, 166, 167, 168, 169, 170, 171, 172, 173, 174, 175, 176, 177, 178, 179, 180, 181, 182, 183, 184, 185, 186, 187, 188, 189, 190, 191, 192, 193, 194, 195, 196, 197, 198, 199, 200, 29, 30, 31, 32, 36, 37, 38, 94, 95, 96, 201, 202, 203, 204, 205, 206, 207, 208, 209, 93, 53, 73, 210, 55, 211, 75, 57, 58, 59, 81, 82, 83, 84, 85, 86, 87, 88, 89, 90, 91, 92, 97, 98, 99, 100, 115, 116, 117, 118, 119, 120, 212, 213, 214, 215, 216, 217, 218, 33, 34, 35, 60, 61, 62, 63, 64, 69, 70, 71, 72, 74, 76, 77, 78, 79, 80, 101, 102, 103, 104, 105, 106, 107, 108, 109, 110, 111, 112, 113, 114, 219, 220, 221, 222, 223, 224, 225, 226, 244, 245, 246, 247, 248, 249, 250, 251, 252, 253, 254, 255, 256, 257, 258, 259, 260, 261, 262, 263, 264, 265, 266, 267, 268, 269, 270, 271, 272, 273, 274, 275, 276, 277, 278, 279, 280, 281, 282, 283, 284, 285, 286, 287, 288, 289, 290, 291, 292, 293, 294, 295, 296, 297, 298, 299, 300, 301, 302, 303, 304, 305, 306, 307, 308, 309, 310, 311, 312, 313, 314, 315, 316, 317, 318, 319, 320, 321, 322, 323, 324] rfl (by decide +kernel)
set_option maxRecDepth 20000 in
theorem gX12_nonce_X12_join : GoodIn wsX12_nonce (wsV RX12 555 RX12 yX12_join wsX12_join) := goodIn_app (goodIn_of _ (by decide +kernel)) ggX12_nonce_X12_join
set_option maxRecDepth 20000 in
theorem ggX12_nonce_X12_mix : GoodIn wsX12_nonce wsX12_mix := goodIn_r _ [230, 28, 231, 27, 148, 153, 154, 155, 13, 156, 157, 158, 159, 160, 161, 162, 163, 164, 165, 166, 167, 168, 169, 170, 171, 172, 173, 174, 175, 176, 177, 178, 179, 180, 181, 182, 183, 184, 185, 186, 187, 188, 189, 190, 191, 192, 193, 194, 195, 196, 125, 126, 127, 128, 244, 245, 246, 247, 248, 249, 250, 251, 252, 253, 254, 255, 256, 257, 258, 259, 260, 261, 262, 263, 264, 265, 266, 267, 268, 269, 270, 271, 272, 273, 274, 275, 276, 277, 278, 279, 280, 281, 282, 283, 284, 285, 286, 287, 288, 289, 290, 291, 292, 293, 294, 295, 296, 297, 298, 299, 300, 301, 302, 303, 304, 305, 306, 307, 308, 309, 310, 311, 312, 313, 314, 315, 316, 317, 318, 319, 320, 321, 322, 323, 324] rfl (by decide +kernel)
set_option maxRecDepth 20000 in
theorem gX12_nonce_X12_mix : GoodIn wsX12_nonce (wsV RX12 503 RX12 yX12_mix wsX12_mix) := goodIn_app (goodIn_of _ (by decide +kernel)) ggX12_nonce_X12_mix
set_option maxRecDepth 20000 in
theorem ggX12_nonce_X12_makeNonce : GoodIn wsX12_nonce wsX12_makeNonce := goodIn_r _ [235, 231, 47, 134, 1, 28, 153, 154, 155, 13, 156, 157, 158, 159, 160, 148, 161, 162, 163, 164, 165, 166, 167, 168, 169, 170, 171, 172, 173, 174, 175, 176, 177, 178, 179, 180, 181, 182, 183, 184, 185, 186, 187, 188, 189, 190, 191, 192, 236, 237, 238, 239, 125, 126, 127, 128, 197, 198, 199, 200, 29, 193, 194, 195, 196, 30, 31, 32, 36, 37, 38, 94, 95, 96, 68, 244, 245, 246, 247, 248, 249, 250, 251, 252, 253, 254, 255, 256, 257, 258, 259, 260, 261, 262, 263, 264, 265, 266, 267, 268, 269, 270, 271, 272, 273, 274, 275, 276, 277, 278, 279, 280, 281, 282, 283, 284, 285, 286, 287, 288, 289, 290, 291, 292, 293, 294, 295, 296, 297, 298, 299, 300, 301, 302, 303, 304, 305, 306, 307, 308, 309, 310, 311, 312, 313, 314, 315, 316, 317, 318, 319, 320, 321, 322, 323, 324] rfl (by decide +kernel)
set_option maxRecDepth 20000 in
theorem gX12_nonce_X12_makeNonce : GoodIn wsX12_nonce (wsV RX12 564 RX12 yX12_makeNonce wsX12_makeNonce) := goodIn_app (goodIn_of _ (by decide +kernel)) ggX12_nonce_X12_makeNonce
set_option maxRecDepth 20000 in
theorem ggX12_nonce_X12_isNull : GoodIn wsX12_nonce wsX12_isNull := goodIn_r _ [35] rfl (by decide +kernel)
set_option maxRecDepth 20000 in
theorem gX12_nonce_X12_isNull : GoodIn wsX12_nonce (va_wsS RX12 377 yX12_isNull wsX12_isNull) := goodIn_app (goodIn_of _ (by decide +kernel)) ggX12_nonce_X12_isNull
set_option maxRecDepth 20000 in
theorem ggX12_nonce_X12_generator : GoodIn wsX12_nonce wsX12_generator := goodIn_r _ [52, 53, 54, 55, 56, 57, 58, 13, 59, 244, 245, 246, 247, 248, 249, 250, 251, 252, 253, 254, 255, 256, 257, 258, 259, 260, 261, 262, 263, 264, 265, 266, 267, 268, 269, 270, 271, 272, 273, 274, 275, 276, 277, 278, 279, 280, 281, 282, 283, 284, 285, 286, 287, 288, 289, 290, 291, 292, 293, 294, 295, 296, 297, 298, 299, 300, 301, 302, 303, 304, 305, 306, 307, 308, 309, 310, 311, 312, 313, 314, 315, 316, 317, 318, 319, 320, 321, 322, 323, 324] rfl (by decide +kernel)
set_option maxRecDepth 20000 in
theorem gX12_nonce_X12_generator : GoodIn wsX12_nonce (wsV RX12 487 RX12 yX12_generator wsX12_generator) := goodIn_app (goodIn_of _ (by decide +kernel)) ggX12_nonce_X12_generator
set_option maxRecDepth 20000 in
theorem ggX12_nonce_X12_multiply : GoodIn wsX12_nonce wsX12_multiply := goodIn_r _ [63, 64, 65, 66, 13, 67, 68, 69, 70, 71, 72, 73, 74, 75, 76, 77, 78, 79, 80, 33, 34, 35, 81, 82, 83, 84, 85, 86, 87, 88, 89, 90, 91, 92, 29, 93, 36, 37, 38, 94, 95, 96, 97, 98, 99, 100, 101, 102, 103, 104, 105, 57, 58, 59, 106, 107, 108, 109, 53, 55, 110, 111, 112, 113, 114, 115, 116, 117, 118, 119, 120, 244, 245, 246, 247, 248, 249, 250, 251, 252, 253, 254, 255, 256, 257, 258, 259, 260, 261, 262, 263, 264, 265, 266, 267, 268, 269, 270, 271, 272, 273, 274, 275, 276, 277, 278, 279, 280, 281, 282, 283, 284, 285, 286, 287, 288, 289, 290, 291, 292, 293, 294, 295, 296, 297, 298, 299, 300, 301, 302, 303, 304, 305, 306, 307, 308, 309, 310, 311, 312, 313, 314, 315, 316, 317, 318, 319, 320, 321, 322, 323, 324] rfl (by decide +kernel)
set_option maxRecDepth 20000 in
theorem gX12_nonce_X12_multiply : GoodIn wsX12_nonce (wsV RX12 490 RX12 yX12_multiply wsX12_multiply) := goodIn_app (goodIn_of _ (by decide +kernel)) ggX12_nonce_X12_multiply
set_option maxRecDepth 20000 in
theorem ggX12_nonce_X12_tells : GoodIn wsX12_nonce wsX12_tells := goodIn_r _ [124, 64, 76, 74, 33, 34, 13, 35, 125, 126, 127, 128, 244, 245, 246, 247, 248, 249, 250, 251, 252, 253, 254, 255, 256, 257, 258, 259, 260, 261, 262, 263, 264, 265, 266, 267, 268, 269, 270, 271, 272, 273, 274, 275, 276, 277, 278, 279, 280, 281, 282, 283, 284, 285, 286, 287, 288, 289, 290, 291, 292, 293, 294, 295, 296, 297, 298, 299, 300, 301, 302, 303, 304, 305, 306, 307, 308, 309, 310, 311, 312, 313, 314, 315, 316, 317, 318, 319, 320, 321, 322, 323, 324] rfl (by decide +kernel)
set_option maxRecDepth 20000 in
theorem gX12_nonce_X12_tells : GoodIn wsX12_nonce (wsV RX12 494 RX12 yX12_tells wsX12_tells) := goodIn_app (goodIn_of _ (by decide +kernel)) ggX12_nonce_X12_tells
set_option maxRecDepth 20000 in
theorem ggX12_nonce_X12_gives : GoodIn wsX12_nonce wsX12_gives := goodIn_r _ [243, 28, 6, 1, 244, 245, 246, 247, 248, 249, 250, 251, 252, 253, 254, 255, 256, 257, 258, 259, 260, 261, 262, 263, 264, 265, 266, 267, 268, 269, 270, 271, 272, 273, 274, 275, 276, 277, 278, 279, 280, 281, 282, 283, 284, 285, 286, 287, 288, 289, 290, 291, 292, 293, 294, 295, 296, 297, 298, 299, 300, 301, 302, 303, 304, 305, 306, 307, 308, 309, 310, 311, 312, 313, 314, 315, 316, 317, 318, 319, 320, 321, 322, 323, 324] rfl (by decide +kernel)
set_option maxRecDepth 20000 in
theorem gX12_nonce_X12_gives : GoodIn wsX12_nonce (wsV RX12 475 RX12 yX12_gives wsX12_gives) := goodIn_app (goodIn_of _ (by decide +kernel)) ggX12_nonce_X12_gives
theorem dX12_nonce_0 : decode cX12_nonce 0 = .ok (.iload_n 1, 1) := by decide +kernel
theorem dX12_nonce_1 : decode cX12_nonce 1 = .ok (.invokestatic 460, 3) := by decide +kernel
theorem dX12_nonce_4 : decode cX12_nonce 4 = .ok (.ifCond .eq 34, 3) := by decide +kernel
theorem dX12_nonce_7 : decode cX12_nonce 7 = .ok (.aload_n 0, 1) := by decide +kernel
theorem dX12_nonce_8 : decode cX12_nonce 8 = .ok (.iload_n 2, 1) := by decide +kernel
theorem dX12_nonce_9 : decode cX12_nonce 9 = .ok (.invokevirtual 558, 3) := by decide +kernel
theorem dX12_nonce_12 : decode cX12_nonce 12 = .ok (.ifCond .eq 26, 3) := by decide +kernel
theorem dX12_nonce_15 : decode cX12_nonce 15 = .ok (.iload_n 3, 1) := by decide +kernel
theorem dX12_nonce_16 : decode cX12_nonce 16 = .ok (.invokestatic 460, 3) := by decide +kernel
theorem dX12_nonce_19 : decode cX12_nonce 19 = .ok (.ifCond .eq 19, 3) := by decide +kernel
theorem dX12_nonce_22 : decode cX12_nonce 22 = .ok (.iload 4, 2) := by decide +kernel
theorem dX12_nonce_24 : decode cX12_nonce 24 = .ok (.invokestatic 460, 3) := by decide +kernel
theorem dX12_nonce_27 : decode cX12_nonce 27 = .ok (.ifCond .eq 11, 3) := by decide +kernel
theorem dX12_nonce_30 : decode cX12_nonce 30 = .ok (.iload 5, 2) := by decide +kernel
theorem dX12_nonce_32 : decode cX12_nonce 32 = .ok (.invokestatic 460, 3) := by decide +kernel
theorem dX12_nonce_35 : decode cX12_nonce 35 = .ok (.ifCond .ne 5, 3) := by decide +kernel
theorem dX12_nonce_38 : decode cX12_nonce 38 = .ok (.iconst (-1), 1) := by decide +kernel
theorem dX12_nonce_39 : decode cX12_nonce 39 = .ok (.ireturn, 1) := by decide +kernel
theorem dX12_nonce_40 : decode cX12_nonce 40 = .ok (.aload_n 0, 1) := by decide +kernel
theorem dX12_nonce_41 : decode cX12_nonce 41 = .ok (.iload_n 3, 1) := by decide +kernel
theorem dX12_nonce_42 : decode cX12_nonce 42 = .ok (.invokevirtual 481, 3) := by decide +kernel
theorem dX12_nonce_45 : decode cX12_nonce 45 = .ok (.ifCond .eq 27, 3) := by decide +kernel
theorem dX12_nonce_48 : decode cX12_nonce 48 = .ok (.aload_n 0, 1) := by decide +kernel
theorem dX12_nonce_49 : decode cX12_nonce 49 = .ok (.getfield 96, 3) := by decide +kernel
theorem dX12_nonce_52 : decode cX12_nonce 52 = .ok (.iload 4, 2) := by decide +kernel
theorem dX12_nonce_54 : decode cX12_nonce 54 = .ok (.iaload, 1) := by decide +kernel
theorem dX12_nonce_55 : decode cX12_nonce 55 = .ok (.bipush 32, 2) := by decide +kernel
theorem dX12_nonce_57 : decode cX12_nonce 57 = .ok (.if_icmp .ne 15, 3) := by decide +kernel
theorem dX12_nonce_60 : decode cX12_nonce 60 = .ok (.aload_n 0, 1) := by decide +kernel
theorem dX12_nonce_61 : decode cX12_nonce 61 = .ok (.getfield 96, 3) := by decide +kernel
theorem dX12_nonce_64 : decode cX12_nonce 64 = .ok (.iload 5, 2) := by decide +kernel
theorem dX12_nonce_66 : decode cX12_nonce 66 = .ok (.iaload, 1) := by decide +kernel
theorem dX12_nonce_67 : decode cX12_nonce 67 = .ok (.bipush 40, 2) := by decide +kernel
theorem dX12_nonce_69 : decode cX12_nonce 69 = .ok (.if_icmp .le 6, 3) := by decide +kernel
theorem dX12_nonce_72 : decode cX12_nonce 72 = .ok (.bipush (-2), 2) := by decide +kernel
theorem dX12_nonce_74 : decode cX12_nonce 74 = .ok (.ireturn, 1) := by decide +kernel
theorem dX12_nonce_75 : decode cX12_nonce 75 = .ok (.aload_n 0, 1) := by decide +kernel
theorem dX12_nonce_76 : decode cX12_nonce 76 = .ok (.iconst 3, 1) := by decide +kernel
theorem dX12_nonce_77 : decode cX12_nonce 77 = .ok (.aload_n 0, 1) := by decide +kernel
theorem dX12_nonce_78 : decode cX12_nonce 78 = .ok (.getfield 533, 3) := by decide +kernel
theorem dX12_nonce_81 : decode cX12_nonce 81 = .ok (.iadd, 1) := by decide +kernel
theorem dX12_nonce_82 : decode cX12_nonce 82 = .ok (.invokevirtual 484, 3) := by decide +kernel
theorem dX12_nonce_85 : decode cX12_nonce 85 = .ok (.ifCond .eq 6, 3) := by decide +kernel
theorem dX12_nonce_88 : decode cX12_nonce 88 = .ok (.bipush (-5), 2) := by decide +kernel
theorem dX12_nonce_90 : decode cX12_nonce 90 = .ok (.ireturn, 1) := by decide +kernel
theorem dX12_nonce_91 : decode cX12_nonce 91 = .ok (.aload_n 0, 1) := by decide +kernel
theorem dX12_nonce_92 : decode cX12_nonce 92 = .ok (.iload_n 2, 1) := by decide +kernel
theorem dX12_nonce_93 : decode cX12_nonce 93 = .ok (.invokevirtual 561, 3) := by decide +kernel
theorem dX12_nonce_96 : decode cX12_nonce 96 = .ok (.ifCond .eq 10, 3) := by decide +kernel
theorem dX12_nonce_99 : decode cX12_nonce 99 = .ok (.aload_n 0, 1) := by decide +kernel
theorem dX12_nonce_100 : decode cX12_nonce 100 = .ok (.invokevirtual 555, 3) := by decide +kernel
theorem dX12_nonce_103 : decode cX12_nonce 103 = .ok (.ifCond .ne 6, 3) := by decide +kernel
theorem dX12_nonce_106 : decode cX12_nonce 106 = .ok (.bipush (-2), 2) := by decide +kernel
theorem dX12_nonce_108 : decode cX12_nonce 108 = .ok (.ireturn, 1) := by decide +kernel
theorem dX12_nonce_109 : decode cX12_nonce 109 = .ok (.aload_n 0, 1) := by decide +kernel
theorem dX12_nonce_110 : decode cX12_nonce 110 = .ok (.iconst 5, 1) := by decide +kernel
theorem dX12_nonce_111 : decode cX12_nonce 111 = .ok (.iload 4, 2) := by decide +kernel
theorem dX12_nonce_113 : decode cX12_nonce 113 = .ok (.invokevirtual 503, 3) := by decide +kernel
theorem dX12_nonce_116 : decode cX12_nonce 116 = .ok (.aload_n 0, 1) := by decide +kernel
theorem dX12_nonce_117 : decode cX12_nonce 117 = .ok (.aload_n 0, 1) := by decide +kernel
theorem dX12_nonce_118 : decode cX12_nonce 118 = .ok (.getfield 311, 3) := by decide +kernel
theorem dX12_nonce_121 : decode cX12_nonce 121 = .ok (.iload 5, 2) := by decide +kernel
theorem dX12_nonce_123 : decode cX12_nonce 123 = .ok (.iconst 0, 1) := by decide +kernel
theorem dX12_nonce_124 : decode cX12_nonce 124 = .ok (.invokevirtual 564, 3) := by decide +kernel
theorem dX12_nonce_127 : decode cX12_nonce 127 = .ok (.aload_n 0, 1) := by decide +kernel
theorem dX12_nonce_128 : decode cX12_nonce 128 = .ok (.aload_n 0, 1) := by decide +kernel
theorem dX12_nonce_129 : decode cX12_nonce 129 = .ok (.getfield 314, 3) := by decide +kernel
theorem dX12_nonce_132 : decode cX12_nonce 132 = .ok (.iload 5, 2) := by decide +kernel
theorem dX12_nonce_134 : decode cX12_nonce 134 = .ok (.iconst 1, 1) := by decide +kernel
theorem dX12_nonce_135 : decode cX12_nonce 135 = .ok (.invokevirtual 564, 3) := by decide +kernel
theorem dX12_nonce_138 : decode cX12_nonce 138 = .ok (.aload_n 0, 1) := by decide +kernel
theorem dX12_nonce_139 : decode cX12_nonce 139 = .ok (.getfield 311, 3) := by decide +kernel
theorem dX12_nonce_142 : decode cX12_nonce 142 = .ok (.invokestatic 377, 3) := by decide +kernel
theorem dX12_nonce_145 : decode cX12_nonce 145 = .ok (.ifCond .ne 13, 3) := by decide +kernel
theorem dX12_nonce_148 : decode cX12_nonce 148 = .ok (.aload_n 0, 1) := by decide +kernel
theorem dX12_nonce_149 : decode cX12_nonce 149 = .ok (.getfield 314, 3) := by decide +kernel
theorem dX12_nonce_152 : decode cX12_nonce 152 = .ok (.invokestatic 377, 3) := by decide +kernel
theorem dX12_nonce_155 : decode cX12_nonce 155 = .ok (.ifCond .eq 6, 3) := by decide +kernel
theorem dX12_nonce_158 : decode cX12_nonce 158 = .ok (.bipush (-2), 2) := by decide +kernel
theorem dX12_nonce_160 : decode cX12_nonce 160 = .ok (.ireturn, 1) := by decide +kernel
theorem dX12_nonce_161 : decode cX12_nonce 161 = .ok (.aload_n 0, 1) := by decide +kernel
theorem dX12_nonce_162 : decode cX12_nonce 162 = .ok (.dup, 1) := by decide +kernel
theorem dX12_nonce_163 : decode cX12_nonce 163 = .ok (.getfield 478, 3) := by decide +kernel
theorem dX12_nonce_166 : decode cX12_nonce 166 = .ok (.iconst 2, 1) := by decide +kernel
theorem dX12_nonce_167 : decode cX12_nonce 167 = .ok (.iadd, 1) := by decide +kernel
theorem dX12_nonce_168 : decode cX12_nonce 168 = .ok (.putfield 478, 3) := by decide +kernel
theorem dX12_nonce_171 : decode cX12_nonce 171 = .ok (.aload_n 0, 1) := by decide +kernel
theorem dX12_nonce_172 : decode cX12_nonce 172 = .ok (.invokevirtual 487, 3) := by decide +kernel
theorem dX12_nonce_175 : decode cX12_nonce 175 = .ok (.aload_n 0, 1) := by decide +kernel
theorem dX12_nonce_176 : decode cX12_nonce 176 = .ok (.aload_n 0, 1) := by decide +kernel
theorem dX12_nonce_177 : decode cX12_nonce 177 = .ok (.getfield 311, 3) := by decide +kernel
theorem dX12_nonce_180 : decode cX12_nonce 180 = .ok (.invokevirtual 490, 3) := by decide +kernel
theorem dX12_nonce_183 : decode cX12_nonce 183 = .ok (.aload_n 0, 1) := by decide +kernel
theorem dX12_nonce_184 : decode cX12_nonce 184 = .ok (.aload_n 0, 1) := by decide +kernel
theorem dX12_nonce_185 : decode cX12_nonce 185 = .ok (.getfield 302, 3) := by decide +kernel
theorem dX12_nonce_188 : decode cX12_nonce 188 = .ok (.iconst 0, 1) := by decide +kernel
theorem dX12_nonce_189 : decode cX12_nonce 189 = .ok (.invokevirtual 494, 3) := by decide +kernel
theorem dX12_nonce_192 : decode cX12_nonce 192 = .ok (.aload_n 0, 1) := by decide +kernel
theorem dX12_nonce_193 : decode cX12_nonce 193 = .ok (.invokevirtual 487, 3) := by decide +kernel
theorem dX12_nonce_196 : decode cX12_nonce 196 = .ok (.aload_n 0, 1) := by decide +kernel
theorem dX12_nonce_197 : decode cX12_nonce 197 = .ok (.aload_n 0, 1) := by decide +kernel
theorem dX12_nonce_198 : decode cX12_nonce 198 = .ok (.getfield 314, 3) := by decide +kernel
theorem dX12_nonce_201 : decode cX12_nonce 201 = .ok (.invokevirtual 490, 3) := by decide +kernel
theorem dX12_nonce_204 : decode cX12_nonce 204 = .ok (.aload_n 0, 1) := by decide +kernel
theorem dX12_nonce_205 : decode cX12_nonce 205 = .ok (.aload_n 0, 1) := by decide +kernel
theorem dX12_nonce_206 : decode cX12_nonce 206 = .ok (.getfield 302, 3) := by decide +kernel
theorem dX12_nonce_209 : decode cX12_nonce 209 = .ok (.bipush 33, 2) := by decide +kernel
theorem dX12_nonce_211 : decode cX12_nonce 211 = .ok (.invokevirtual 494, 3) := by decide +kernel
theorem dX12_nonce_214 : decode cX12_nonce 214 = .ok (.iconst 0, 1) := by decide +kernel
theorem dX12_nonce_215 : decode cX12_nonce 215 = .ok (.istore 6, 2) := by decide +kernel
theorem dX12_nonce_217 : decode cX12_nonce 217 = .ok (.iload 6, 2) := by decide +kernel
theorem dX12_nonce_219 : decode cX12_nonce 219 = .ok (.bipush 8, 2) := by decide +kernel
theorem dX12_nonce_221 : decode cX12_nonce 221 = .ok (.if_icmp .ge 47, 3) := by decide +kernel
theorem dX12_nonce_224 : decode cX12_nonce 224 = .ok (.aload_n 0, 1) := by decide +kernel
theorem dX12_nonce_225 : decode cX12_nonce 225 = .ok (.getfield 125, 3) := by decide +kernel
theorem dX12_nonce_228 : decode cX12_nonce 228 = .ok (.bipush 8, 2) := by decide +kernel
theorem dX12_nonce_230 : decode cX12_nonce 230 = .ok (.iload_n 2, 1) := by decide +kernel
theorem dX12_nonce_231 : decode cX12_nonce 231 = .ok (.imul, 1) := by decide +kernel
theorem dX12_nonce_232 : decode cX12_nonce 232 = .ok (.iload 6, 2) := by decide +kernel
theorem dX12_nonce_234 : decode cX12_nonce 234 = .ok (.iadd, 1) := by decide +kernel
theorem dX12_nonce_235 : decode cX12_nonce 235 = .ok (.aload_n 0, 1) := by decide +kernel
theorem dX12_nonce_236 : decode cX12_nonce 236 = .ok (.getfield 311, 3) := by decide +kernel
theorem dX12_nonce_239 : decode cX12_nonce 239 = .ok (.iload 6, 2) := by decide +kernel
theorem dX12_nonce_241 : decode cX12_nonce 241 = .ok (.laload, 1) := by decide +kernel
theorem dX12_nonce_242 : decode cX12_nonce 242 = .ok (.lastore, 1) := by decide +kernel
theorem dX12_nonce_243 : decode cX12_nonce 243 = .ok (.aload_n 0, 1) := by decide +kernel
theorem dX12_nonce_244 : decode cX12_nonce 244 = .ok (.getfield 128, 3) := by decide +kernel
theorem dX12_nonce_247 : decode cX12_nonce 247 = .ok (.bipush 8, 2) := by decide +kernel
theorem dX12_nonce_249 : decode cX12_nonce 249 = .ok (.iload_n 2, 1) := by decide +kernel
theorem dX12_nonce_250 : decode cX12_nonce 250 = .ok (.imul, 1) := by decide +kernel
theorem dX12_nonce_251 : decode cX12_nonce 251 = .ok (.iload 6, 2) := by decide +kernel
theorem dX12_nonce_253 : decode cX12_nonce 253 = .ok (.iadd, 1) := by decide +kernel
theorem dX12_nonce_254 : decode cX12_nonce 254 = .ok (.aload_n 0, 1) := by decide +kernel
theorem dX12_nonce_255 : decode cX12_nonce 255 = .ok (.getfield 314, 3) := by decide +kernel
theorem dX12_nonce_258 : decode cX12_nonce 258 = .ok (.iload 6, 2) := by decide +kernel
theorem dX12_nonce_260 : decode cX12_nonce 260 = .ok (.laload, 1) := by decide +kernel
theorem dX12_nonce_261 : decode cX12_nonce 261 = .ok (.lastore, 1) := by decide +kernel
theorem dX12_nonce_262 : decode cX12_nonce 262 = .ok (.iinc 6 1, 3) := by decide +kernel
theorem dX12_nonce_265 : decode cX12_nonce 265 = .ok (.goto (-48), 3) := by decide +kernel
theorem dX12_nonce_268 : decode cX12_nonce 268 = .ok (.iconst 0, 1) := by decide +kernel
theorem dX12_nonce_269 : decode cX12_nonce 269 = .ok (.istore 6, 2) := by decide +kernel
theorem dX12_nonce_271 : decode cX12_nonce 271 = .ok (.iload 6, 2) := by decide +kernel
theorem dX12_nonce_273 : decode cX12_nonce 273 = .ok (.bipush 66, 2) := by decide +kernel
theorem dX12_nonce_275 : decode cX12_nonce 275 = .ok (.if_icmp .ge 28, 3) := by decide +kernel
theorem dX12_nonce_278 : decode cX12_nonce 278 = .ok (.aload_n 0, 1) := by decide +kernel
theorem dX12_nonce_279 : decode cX12_nonce 279 = .ok (.getfield 131, 3) := by decide +kernel
theorem dX12_nonce_282 : decode cX12_nonce 282 = .ok (.bipush 66, 2) := by decide +kernel
theorem dX12_nonce_284 : decode cX12_nonce 284 = .ok (.iload_n 2, 1) := by decide +kernel
theorem dX12_nonce_285 : decode cX12_nonce 285 = .ok (.imul, 1) := by decide +kernel
theorem dX12_nonce_286 : decode cX12_nonce 286 = .ok (.iload 6, 2) := by decide +kernel
theorem dX12_nonce_288 : decode cX12_nonce 288 = .ok (.iadd, 1) := by decide +kernel
theorem dX12_nonce_289 : decode cX12_nonce 289 = .ok (.aload_n 0, 1) := by decide +kernel
theorem dX12_nonce_290 : decode cX12_nonce 290 = .ok (.getfield 302, 3) := by decide +kernel
theorem dX12_nonce_293 : decode cX12_nonce 293 = .ok (.iload 6, 2) := by decide +kernel
theorem dX12_nonce_295 : decode cX12_nonce 295 = .ok (.iaload, 1) := by decide +kernel
theorem dX12_nonce_296 : decode cX12_nonce 296 = .ok (.iastore, 1) := by decide +kernel
theorem dX12_nonce_297 : decode cX12_nonce 297 = .ok (.iinc 6 1, 3) := by decide +kernel
theorem dX12_nonce_300 : decode cX12_nonce 300 = .ok (.goto (-29), 3) := by decide +kernel
theorem dX12_nonce_303 : decode cX12_nonce 303 = .ok (.aload_n 0, 1) := by decide +kernel
theorem dX12_nonce_304 : decode cX12_nonce 304 = .ok (.getfield 121, 3) := by decide +kernel
theorem dX12_nonce_307 : decode cX12_nonce 307 = .ok (.iload_n 2, 1) := by decide +kernel
theorem dX12_nonce_308 : decode cX12_nonce 308 = .ok (.iconst 1, 1) := by decide +kernel
theorem dX12_nonce_309 : decode cX12_nonce 309 = .ok (.bastore, 1) := by decide +kernel
theorem dX12_nonce_310 : decode cX12_nonce 310 = .ok (.aload_n 0, 1) := by decide +kernel
theorem dX12_nonce_311 : decode cX12_nonce 311 = .ok (.iload_n 1, 1) := by decide +kernel
theorem dX12_nonce_312 : decode cX12_nonce 312 = .ok (.bipush 66, 2) := by decide +kernel
theorem dX12_nonce_314 : decode cX12_nonce 314 = .ok (.invokevirtual 475, 3) := by decide +kernel
theorem dX12_nonce_317 : decode cX12_nonce 317 = .ok (.ireturn, 1) := by decide +kernel
set_option maxRecDepth 20000 in
theorem ggX12_told_X12_isSigner : GoodIn wsX12_told wsX12_isSigner := goodIn_r _ [10, 11, 12, 13, 9, 14, 84, 85, 86, 87, 88, 89, 90, 91, 92, 93, 94, 95, 96, 97, 98, 99, 100, 101, 102, 103, 104, 105, 106, 107, 108, 109, 110, 111, 112, 113, 114, 115, 116, 117, 118, 119, 120, 121, 122, 123, 124, 125, 126, 127, 128, 129, 130, 131, 132, 133, 134, 135, 136, 137, 138, 139, 140, 141, 142, 143, 144, 145, 146, 147, 148, 149, 150, 151, 152, 153, 154, 155, 156, 157, 158, 159, 160, 161, 162, 163, 164] rfl (by decide +kernel)
set_option maxRecDepth 20000 in
theorem gX12_told_X12_isSigner : GoodIn wsX12_told (wsV RX12 558 RX12 yX12_isSigner wsX12_isSigner) := goodIn_app (goodIn_of _ (by decide +kernel)) ggX12_told_X12_isSigner
set_option maxRecDepth 20000 in
theorem ggX12_told_X12_isRow : GoodIn wsX12_told wsX12_isRow := goodIn_r _ [17, 18, 12, 13, 9, 14] rfl (by decide +kernel)
set_option maxRecDepth 20000 in
theorem gX12_told_X12_isRow : GoodIn wsX12_told (va_wsS RX12 460 yX12_isRow wsX12_isRow) := goodIn_app (goodIn_of _ (by decide +kernel)) ggX12_told_X12_isRow
set_option maxRecDepth 20000 in
theorem ggX12_told_X12_reads : GoodIn wsX12_told wsX12_reads := goodIn_r _ [22, 23, 24, 25, 9, 26, 27, 28, 29, 30, 31, 32, 33, 34, 35, 36, 37, 38, 39, 40, 41, 42, 43, 44, 45, 46, 47, 48, 49, 50, 51, 52, 53, 54, 55, 56, 57, 58, 59, 60, 61, 62, 63, 64, 65, 66, 67, 68, 69, 70, 71, 72, 73, 74, 75, 76, 77, 78, 79, 80, 81, 82, 83, 84, 85, 86, 87, 88, 89, 90, 91, 92, 93, 94, 95, 96, 97, 98, 99, 100, 101, 102, 103, 104, 105, 106, 107, 108, 109, 110, 111, 112, 113, 114, 115, 116, 117, 118, 119, 120, 121, 122, 123, 124, 125, 126, 127, 128, 129, 130, 131, 132, 133, 134, 135, 136, 137, 138, 139, 140, 141, 142, 143, 144, 145, 146, 147, 148, 149, 150, 151, 152, 153, 154, 155, 156, 157, 158, 159, 160, 161, 162, 163, 164] rfl (by decide +kernel)
set_option maxRecDepth 20000 in
theorem gX12_told_X12_reads : GoodIn wsX12_told (wsV RX12 536 RX12 yX12_reads wsX12_reads) := goodIn_app (goodIn_of _ (by decide +kernel)) ggX12_told_X12_reads
theorem dX12_told_0 : decode cX12_told 0 = .ok (.aload_n 0, 1) := by decide +kernel
theorem dX12_told_1 : decode cX12_told 1 = .ok (.iload_n 1, 1) := by decide +kernel
theorem dX12_told_2 : decode cX12_told 2 = .ok (.invokevirtual 558, 3) := by decide +kernel
theorem dX12_told_5 : decode cX12_told 5 = .ok (.ifCond .eq 10, 3) := by decide +kernel
theorem dX12_told_8 : decode cX12_told 8 = .ok (.iload_n 2, 1) := by decide +kernel
theorem dX12_told_9 : decode cX12_told 9 = .ok (.invokestatic 460, 3) := by decide +kernel
theorem dX12_told_12 : decode cX12_told 12 = .ok (.ifCond .ne 5, 3) := by decide +kernel
theorem dX12_told_15 : decode cX12_told 15 = .ok (.iconst (-1), 1) := by decide +kernel
theorem dX12_told_16 : decode cX12_told 16 = .ok (.ireturn, 1) := by decide +kernel
theorem dX12_told_17 : decode cX12_told 17 = .ok (.aload_n 0, 1) := by decide +kernel
theorem dX12_told_18 : decode cX12_told 18 = .ok (.getfield 96, 3) := by decide +kernel
theorem dX12_told_21 : decode cX12_told 21 = .ok (.iload_n 2, 1) := by decide +kernel
theorem dX12_told_22 : decode cX12_told 22 = .ok (.iaload, 1) := by decide +kernel
theorem dX12_told_23 : decode cX12_told 23 = .ok (.bipush 66, 2) := by decide +kernel
theorem dX12_told_25 : decode cX12_told 25 = .ok (.if_icmp .ne 36, 3) := by decide +kernel
theorem dX12_told_28 : decode cX12_told 28 = .ok (.aload_n 0, 1) := by decide +kernel
theorem dX12_told_29 : decode cX12_told 29 = .ok (.aload_n 0, 1) := by decide +kernel
theorem dX12_told_30 : decode cX12_told 30 = .ok (.getfield 100, 3) := by decide +kernel
theorem dX12_told_33 : decode cX12_told 33 = .ok (.bipush 100, 2) := by decide +kernel
theorem dX12_told_35 : decode cX12_told 35 = .ok (.iload_n 2, 1) := by decide +kernel
theorem dX12_told_36 : decode cX12_told 36 = .ok (.imul, 1) := by decide +kernel
theorem dX12_told_37 : decode cX12_told 37 = .ok (.invokevirtual 536, 3) := by decide +kernel
theorem dX12_told_40 : decode cX12_told 40 = .ok (.ifCond .eq 21, 3) := by decide +kernel
theorem dX12_told_43 : decode cX12_told 43 = .ok (.aload_n 0, 1) := by decide +kernel
theorem dX12_told_44 : decode cX12_told 44 = .ok (.aload_n 0, 1) := by decide +kernel
theorem dX12_told_45 : decode cX12_told 45 = .ok (.getfield 100, 3) := by decide +kernel
theorem dX12_told_48 : decode cX12_told 48 = .ok (.bipush 100, 2) := by decide +kernel
theorem dX12_told_50 : decode cX12_told 50 = .ok (.iload_n 2, 1) := by decide +kernel
theorem dX12_told_51 : decode cX12_told 51 = .ok (.imul, 1) := by decide +kernel
theorem dX12_told_52 : decode cX12_told 52 = .ok (.bipush 33, 2) := by decide +kernel
theorem dX12_told_54 : decode cX12_told 54 = .ok (.iadd, 1) := by decide +kernel
theorem dX12_told_55 : decode cX12_told 55 = .ok (.invokevirtual 536, 3) := by decide +kernel
theorem dX12_told_58 : decode cX12_told 58 = .ok (.ifCond .ne 6, 3) := by decide +kernel
theorem dX12_told_61 : decode cX12_told 61 = .ok (.bipush (-2), 2) := by decide +kernel
theorem dX12_told_63 : decode cX12_told 63 = .ok (.ireturn, 1) := by decide +kernel
theorem dX12_told_64 : decode cX12_told 64 = .ok (.iconst 0, 1) := by decide +kernel
theorem dX12_told_65 : decode cX12_told 65 = .ok (.istore_n 3, 1) := by decide +kernel
theorem dX12_told_66 : decode cX12_told 66 = .ok (.iload_n 3, 1) := by decide +kernel
theorem dX12_told_67 : decode cX12_told 67 = .ok (.bipush 66, 2) := by decide +kernel
theorem dX12_told_69 : decode cX12_told 69 = .ok (.if_icmp .ge 31, 3) := by decide +kernel
theorem dX12_told_72 : decode cX12_told 72 = .ok (.aload_n 0, 1) := by decide +kernel
theorem dX12_told_73 : decode cX12_told 73 = .ok (.getfield 137, 3) := by decide +kernel
theorem dX12_told_76 : decode cX12_told 76 = .ok (.bipush 66, 2) := by decide +kernel
theorem dX12_told_78 : decode cX12_told 78 = .ok (.iload_n 1, 1) := by decide +kernel
theorem dX12_told_79 : decode cX12_told 79 = .ok (.imul, 1) := by decide +kernel
theorem dX12_told_80 : decode cX12_told 80 = .ok (.iload_n 3, 1) := by decide +kernel
theorem dX12_told_81 : decode cX12_told 81 = .ok (.iadd, 1) := by decide +kernel
theorem dX12_told_82 : decode cX12_told 82 = .ok (.aload_n 0, 1) := by decide +kernel
theorem dX12_told_83 : decode cX12_told 83 = .ok (.getfield 100, 3) := by decide +kernel
theorem dX12_told_86 : decode cX12_told 86 = .ok (.bipush 100, 2) := by decide +kernel
theorem dX12_told_88 : decode cX12_told 88 = .ok (.iload_n 2, 1) := by decide +kernel
theorem dX12_told_89 : decode cX12_told 89 = .ok (.imul, 1) := by decide +kernel
theorem dX12_told_90 : decode cX12_told 90 = .ok (.iload_n 3, 1) := by decide +kernel
theorem dX12_told_91 : decode cX12_told 91 = .ok (.iadd, 1) := by decide +kernel
theorem dX12_told_92 : decode cX12_told 92 = .ok (.iaload, 1) := by decide +kernel
theorem dX12_told_93 : decode cX12_told 93 = .ok (.iastore, 1) := by decide +kernel
theorem dX12_told_94 : decode cX12_told 94 = .ok (.iinc 3 1, 3) := by decide +kernel
theorem dX12_told_97 : decode cX12_told 97 = .ok (.goto (-31), 3) := by decide +kernel
theorem dX12_told_100 : decode cX12_told 100 = .ok (.aload_n 0, 1) := by decide +kernel
theorem dX12_told_101 : decode cX12_told 101 = .ok (.getfield 134, 3) := by decide +kernel
theorem dX12_told_104 : decode cX12_told 104 = .ok (.iload_n 1, 1) := by decide +kernel
theorem dX12_told_105 : decode cX12_told 105 = .ok (.iconst 1, 1) := by decide +kernel
theorem dX12_told_106 : decode cX12_told 106 = .ok (.bastore, 1) := by decide +kernel
theorem dX12_told_107 : decode cX12_told 107 = .ok (.aload_n 0, 1) := by decide +kernel
theorem dX12_told_108 : decode cX12_told 108 = .ok (.iconst 0, 1) := by decide +kernel
theorem dX12_told_109 : decode cX12_told 109 = .ok (.putfield 529, 3) := by decide +kernel
theorem dX12_told_112 : decode cX12_told 112 = .ok (.iconst 1, 1) := by decide +kernel
theorem dX12_told_113 : decode cX12_told 113 = .ok (.ireturn, 1) := by decide +kernel
set_option maxRecDepth 20000 in
theorem ggX12_addTold_X12_noSum : GoodIn wsX12_addTold wsX12_noSum := goodIn_r _ [12, 13, 14, 15, 11, 16, 17, 121, 122, 123, 124, 125, 126, 127, 128, 129, 130, 131, 132, 133, 134, 135, 136, 137, 138, 139, 140, 141, 142, 143, 144, 145, 146, 147, 148, 149, 150, 151, 152, 153, 154, 155, 156, 157, 158, 159, 160, 161, 162, 163, 164, 165, 166, 167, 168, 169, 170, 171, 172, 173, 174, 175, 176, 177, 178, 179, 180, 181, 182, 183, 184, 185, 186, 187, 188, 189, 190, 191, 192, 193, 194, 195, 196, 197, 198, 199, 200, 201] rfl (by decide +kernel)
set_option maxRecDepth 20000 in
theorem gX12_addTold_X12_noSum : GoodIn wsX12_addTold (wsV RX12 514 RX12 yX12_noSum wsX12_noSum) := goodIn_app (goodIn_of _ (by decide +kernel)) ggX12_addTold_X12_noSum
set_option maxRecDepth 20000 in
theorem ggX12_addTold_X12_reads : GoodIn wsX12_addTold wsX12_reads := goodIn_r _ [21, 22, 23, 24, 11, 25, 26, 27, 28, 29, 30, 4, 31, 32, 6, 33, 34, 35, 36, 37, 38, 39, 40, 41, 42, 43, 44, 45, 17, 46, 47, 48, 49, 50, 51, 52, 53, 54, 55, 56, 57, 58, 59, 60, 61, 62, 63, 64, 65, 66, 14, 15, 16, 67, 68, 69, 70, 71, 72, 73, 74, 75, 76, 121, 122, 123, 124, 125, 126, 127, 128, 129, 130, 131, 132, 133, 134, 135, 136, 137, 138, 139, 140, 141, 142, 143, 144, 145, 146, 147, 148, 149, 150, 151, 152, 153, 154, 155, 156, 157, 158, 159, 160, 161, 162, 163, 164, 165, 166, 167, 168, 169, 170, 171, 172, 173, 174, 175, 176, 177, 178, 179, 180, 181, 182, 183, 184, 185, 186, 187, 188, 189, 190, 191, 192, 193, 194, 195, 196, 197, 198, 199, 200, 201] rfl (by decide +kernel)
set_option maxRecDepth 20000 in
theorem gX12_addTold_X12_reads : GoodIn wsX12_addTold (wsV RX12 536 RX12 yX12_reads wsX12_reads) := goodIn_app (goodIn_of _ (by decide +kernel)) ggX12_addTold_X12_reads
set_option maxRecDepth 20000 in
theorem ggX12_addTold_X12_set : GoodIn wsX12_addTold wsX12_set := goodIn_r _ [40] rfl (by decide +kernel)
set_option maxRecDepth 20000 in
theorem gX12_addTold_X12_set : GoodIn wsX12_addTold (va_wsS RX12 381 yX12_set wsX12_set) := goodIn_app (goodIn_of _ (by decide +kernel)) ggX12_addTold_X12_set
set_option maxRecDepth 20000 in
theorem ggX12_addTold_X12_small : GoodIn wsX12_addTold wsX12_small := goodIn_r _ [16, 17] rfl (by decide +kernel)
set_option maxRecDepth 20000 in
theorem gX12_addTold_X12_small : GoodIn wsX12_addTold (va_wsS RX12 389 yX12_small wsX12_small) := goodIn_app (goodIn_of _ (by decide +kernel)) ggX12_addTold_X12_small
set_option maxRecDepth 20000 in
theorem ggX12_addTold_X12_addToSum : GoodIn wsX12_addTold wsX12_addToSum := goodIn_r _ [80, 7, 3, 81, 5, 82, 13, 74, 75, 11, 76, 83, 84, 85, 86, 4, 6, 38, 39, 40, 87, 88, 89, 90, 31, 34, 91, 92, 93, 94, 14, 15, 16, 17, 41, 42, 43, 44, 45, 46, 47, 48, 49, 50, 51, 52, 53, 30, 35, 36, 37, 54, 55, 56, 95, 96, 97, 98, 99, 57, 58, 59, 60, 100, 101, 102, 103, 104, 105, 106, 107, 108, 61, 62, 63, 64, 65, 66, 121, 122, 123, 124, 125, 126, 127, 128, 129, 130, 131, 132, 133, 134, 135, 136, 137, 138, 139, 140, 141, 142, 143, 144, 145, 146, 147, 148, 149, 150, 151, 152, 153, 154, 155, 156, 157, 158, 159, 160, 161, 162, 163, 164, 165, 166, 167, 168, 169, 170, 171, 172, 173, 174, 175, 176, 177, 178, 179, 180, 181, 182, 183, 184, 185, 186, 187, 188, 189, 190, 191, 192, 193, 194, 195, 196, 197, 198, 199, 200, 201] rfl (by decide +kernel)
set_option maxRecDepth 20000 in
theorem gX12_addTold_X12_addToSum : GoodIn wsX12_addTold (wsV RX12 517 RX12 yX12_addToSum wsX12_addToSum) := goodIn_app (goodIn_of _ (by decide +kernel)) ggX12_addTold_X12_addToSum
set_option maxRecDepth 20000 in
theorem ggX12_addTold_X12_fromSum : GoodIn wsX12_addTold wsX12_fromSum := goodIn_r _ [112, 3, 81, 5, 82, 7, 13, 38, 39, 11, 40, 121, 122, 123, 124, 125, 126, 127, 128, 129, 130, 131, 132, 133, 134, 135, 136, 137, 138, 139, 140, 141, 142, 143, 144, 145, 146, 147, 148, 149, 150, 151, 152, 153, 154, 155, 156, 157, 158, 159, 160, 161, 162, 163, 164, 165, 166, 167, 168, 169, 170, 171, 172, 173, 174, 175, 176, 177, 178, 179, 180, 181, 182, 183, 184, 185, 186, 187, 188, 189, 190, 191, 192, 193, 194, 195, 196, 197, 198, 199, 200, 201] rfl (by decide +kernel)
set_option maxRecDepth 20000 in
theorem gX12_addTold_X12_fromSum : GoodIn wsX12_addTold (wsV RX12 568 RX12 yX12_fromSum wsX12_fromSum) := goodIn_app (goodIn_of _ (by decide +kernel)) ggX12_addTold_X12_fromSum
set_option maxRecDepth 20000 in
theorem ggX12_addTold_X12_tells : GoodIn wsX12_addTold wsX12_tells := goodIn_r _ [116, 7, 5, 3, 74, 75, 11, 76, 117, 118, 119, 120, 121, 122, 123, 124, 125, 126, 127, 128, 129, 130, 131, 132, 133, 134, 135, 136, 137, 138, 139, 140, 141, 142, 143, 144, 145, 146, 147, 148, 149, 150, 151, 152, 153, 154, 155, 156, 157, 158, 159, 160, 161, 162, 163, 164, 165, 166, 167, 168, 169, 170, 171, 172, 173, 174, 175, 176, 177, 178, 179, 180, 181, 182, 183, 184, 185, 186, 187, 188, 189, 190, 191, 192, 193, 194, 195, 196, 197, 198, 199, 200, 201] rfl (by decide +kernel)
set_option maxRecDepth 20000 in
theorem gX12_addTold_X12_tells : GoodIn wsX12_addTold (wsV RX12 494 RX12 yX12_tells wsX12_tells) := goodIn_app (goodIn_of _ (by decide +kernel)) ggX12_addTold_X12_tells
theorem dX12_addTold_0 : decode cX12_addTold 0 = .ok (.aload_n 0, 1) := by decide +kernel
theorem dX12_addTold_1 : decode cX12_addTold 1 = .ok (.invokevirtual 514, 3) := by decide +kernel
theorem dX12_addTold_4 : decode cX12_addTold 4 = .ok (.iconst 0, 1) := by decide +kernel
theorem dX12_addTold_5 : decode cX12_addTold 5 = .ok (.istore_n 3, 1) := by decide +kernel
theorem dX12_addTold_6 : decode cX12_addTold 6 = .ok (.iload_n 3, 1) := by decide +kernel
theorem dX12_addTold_7 : decode cX12_addTold 7 = .ok (.aload_n 0, 1) := by decide +kernel
theorem dX12_addTold_8 : decode cX12_addTold 8 = .ok (.getfield 533, 3) := by decide +kernel
theorem dX12_addTold_11 : decode cX12_addTold 11 = .ok (.if_icmp .ge 62, 3) := by decide +kernel
theorem dX12_addTold_14 : decode cX12_addTold 14 = .ok (.aload_n 0, 1) := by decide +kernel
theorem dX12_addTold_15 : decode cX12_addTold 15 = .ok (.aload_n 0, 1) := by decide +kernel
theorem dX12_addTold_16 : decode cX12_addTold 16 = .ok (.getfield 137, 3) := by decide +kernel
theorem dX12_addTold_19 : decode cX12_addTold 19 = .ok (.bipush 66, 2) := by decide +kernel
theorem dX12_addTold_21 : decode cX12_addTold 21 = .ok (.iload_n 3, 1) := by decide +kernel
theorem dX12_addTold_22 : decode cX12_addTold 22 = .ok (.imul, 1) := by decide +kernel
theorem dX12_addTold_23 : decode cX12_addTold 23 = .ok (.bipush 33, 2) := by decide +kernel
theorem dX12_addTold_25 : decode cX12_addTold 25 = .ok (.iload_n 1, 1) := by decide +kernel
theorem dX12_addTold_26 : decode cX12_addTold 26 = .ok (.imul, 1) := by decide +kernel
theorem dX12_addTold_27 : decode cX12_addTold 27 = .ok (.iadd, 1) := by decide +kernel
theorem dX12_addTold_28 : decode cX12_addTold 28 = .ok (.invokevirtual 536, 3) := by decide +kernel
theorem dX12_addTold_31 : decode cX12_addTold 31 = .ok (.istore 4, 2) := by decide +kernel
theorem dX12_addTold_33 : decode cX12_addTold 33 = .ok (.aload_n 0, 1) := by decide +kernel
theorem dX12_addTold_34 : decode cX12_addTold 34 = .ok (.getfield 167, 3) := by decide +kernel
theorem dX12_addTold_37 : decode cX12_addTold 37 = .ok (.aload_n 0, 1) := by decide +kernel
theorem dX12_addTold_38 : decode cX12_addTold 38 = .ok (.getfield 176, 3) := by decide +kernel
theorem dX12_addTold_41 : decode cX12_addTold 41 = .ok (.invokestatic 381, 3) := by decide +kernel
theorem dX12_addTold_44 : decode cX12_addTold 44 = .ok (.aload_n 0, 1) := by decide +kernel
theorem dX12_addTold_45 : decode cX12_addTold 45 = .ok (.getfield 170, 3) := by decide +kernel
theorem dX12_addTold_48 : decode cX12_addTold 48 = .ok (.aload_n 0, 1) := by decide +kernel
theorem dX12_addTold_49 : decode cX12_addTold 49 = .ok (.getfield 179, 3) := by decide +kernel
theorem dX12_addTold_52 : decode cX12_addTold 52 = .ok (.invokestatic 381, 3) := by decide +kernel
theorem dX12_addTold_55 : decode cX12_addTold 55 = .ok (.aload_n 0, 1) := by decide +kernel
theorem dX12_addTold_56 : decode cX12_addTold 56 = .ok (.getfield 173, 3) := by decide +kernel
theorem dX12_addTold_59 : decode cX12_addTold 59 = .ok (.lconst 1, 1) := by decide +kernel
theorem dX12_addTold_60 : decode cX12_addTold 60 = .ok (.invokestatic 389, 3) := by decide +kernel
theorem dX12_addTold_63 : decode cX12_addTold 63 = .ok (.aload_n 0, 1) := by decide +kernel
theorem dX12_addTold_64 : decode cX12_addTold 64 = .ok (.invokevirtual 517, 3) := by decide +kernel
theorem dX12_addTold_67 : decode cX12_addTold 67 = .ok (.iinc 3 1, 3) := by decide +kernel
theorem dX12_addTold_70 : decode cX12_addTold 70 = .ok (.goto (-64), 3) := by decide +kernel
theorem dX12_addTold_73 : decode cX12_addTold 73 = .ok (.aload_n 0, 1) := by decide +kernel
theorem dX12_addTold_74 : decode cX12_addTold 74 = .ok (.invokevirtual 568, 3) := by decide +kernel
theorem dX12_addTold_77 : decode cX12_addTold 77 = .ok (.aload_n 0, 1) := by decide +kernel
theorem dX12_addTold_78 : decode cX12_addTold 78 = .ok (.aload_n 2, 1) := by decide +kernel
theorem dX12_addTold_79 : decode cX12_addTold 79 = .ok (.bipush 33, 2) := by decide +kernel
theorem dX12_addTold_81 : decode cX12_addTold 81 = .ok (.iload_n 1, 1) := by decide +kernel
theorem dX12_addTold_82 : decode cX12_addTold 82 = .ok (.imul, 1) := by decide +kernel
theorem dX12_addTold_83 : decode cX12_addTold 83 = .ok (.invokevirtual 494, 3) := by decide +kernel
theorem dX12_addTold_86 : decode cX12_addTold 86 = .ok (.return_, 1) := by decide +kernel
set_option maxRecDepth 20000 in
theorem ggX12_session_X12_isRow : GoodIn wsX12_session wsX12_isRow := goodIn_r _ [29, 30, 31, 32, 28, 33] rfl (by decide +kernel)
set_option maxRecDepth 20000 in
theorem gX12_session_X12_isRow : GoodIn wsX12_session (va_wsS RX12 460 yX12_isRow wsX12_isRow) := goodIn_app (goodIn_of _ (by decide +kernel)) ggX12_session_X12_isRow
set_option maxRecDepth 20000 in
theorem ggX12_session_X12_isSpent : GoodIn wsX12_session wsX12_isSpent := goodIn_r _ [37, 4, 228, 229, 230, 231, 232, 233, 234, 235, 236, 237, 238, 239, 240, 241, 242, 243, 244, 245, 246, 247, 248, 249, 250, 251, 252, 253, 254, 255, 256, 257, 258, 259, 260, 261, 262, 263, 264, 265, 266, 267, 268, 269, 270, 271, 272, 273, 274, 275, 276, 277, 278, 279, 280, 281, 282, 283, 284, 285, 286, 287, 288, 289, 290, 291, 292, 293, 294, 295, 296, 297, 298, 299, 300, 301, 302, 303, 304, 305, 306, 307, 308] rfl (by decide +kernel)
set_option maxRecDepth 20000 in
theorem gX12_session_X12_isSpent : GoodIn wsX12_session (wsV RX12 484 RX12 yX12_isSpent wsX12_isSpent) := goodIn_app (goodIn_of _ (by decide +kernel)) ggX12_session_X12_isSpent
set_option maxRecDepth 20000 in
theorem ggX12_session_X12_join : GoodIn wsX12_session wsX12_join := goodIn_r _ [41, 4, 2, 42, 43, 6, 15, 17, 21, 9, 44, 45, 46, 28, 47, 48, 49, 50, 51, 52, 53, 54, 55, 56, 57, 58, 59, 60, 61, 62, 63, 64, 65, 66, 67, 68, 69, 70, 71, 72, 73, 74, 75, 76, 77, 78, 79, 80, 81, 82, 83, 84, 85, 86, 87, 88, 89, 90, 91, 92, 93, 94, 95, 96, 97, 98, 99, 100, 101, 102, 103, 104, 105, 106, 107, 108, 109, 110, 111, 112, 113, 114, 115, 116, 117, 118, 119, 120, 121, 122, 123, 124, 125, 126, 127, 128, 129, 12, 130, 131, 14, 132, 133, 134, 135, 136, 137, 138, 139, 140, 141, 142, 143, 144, 145, 146, 147, 148, 149, 150, 151, 152, 153, 154, 155, 156, 157, 158, 159, 160, 161, 162, 163, 164, 165, 166, 167, 168, 169, 170, 171, 172, 10, 173, 174, 175, 176, 11, 13, 177, 178, 179, 180, 181, 182, 183, 184, 185, 186, 187, 188, 189, 190, 191, 192, 193, 194, 195, 196, 197, 198, 199, 200, 201, 202, 228, 229, 230, 231, 232, 233, 234, 235, 236, 237, 238, 239, 240, 241, 242, 243, 244, 245, 246, 247, 248, 249, 250, 251, 252, 253, 254, 255, 256, 257, 258, 259, 260, 261, 262, 263, 264, 265, 266, 267, 268, 269, 270, 271, 272, 273, 274, 275, 276, 277, 278, 279, 280, 281, 282, 283, 284, 285, 286, 287, 288, 289, 290, 291, 292, 293, 294, 295, 296, 297, 298, 299, 300, 301, 302, 303, 304, 305, 306, 307, 308] rfl (by decide +kernel)
set_option maxRecDepth 20000 in
theorem gX12_session_X12_join : GoodIn wsX12_session (wsV RX12 555 RX12 yX12_join wsX12_join) := goodIn_app (goodIn_of _ (by decide +kernel)) ggX12_session_X12_join
set_option maxRecDepth 20000 in
theorem ggX12_session_X12_addTold : GoodIn wsX12_session wsX12_addTold := goodIn_r _ [206, 2, 207, 11, 12, 13, 14, 10, 44, 45, 46, 28, 47, 9, 48, 49, 50, 51, 120, 121, 122, 123, 124, 111, 112, 113, 125, 126, 127, 128, 129, 130, 131, 132, 133, 114, 115, 116, 134, 135, 136, 137, 138, 139, 140, 141, 142, 143, 144, 145, 146, 147, 148, 110, 117, 118, 119, 149, 150, 151, 152, 153, 154, 155, 156, 157, 158, 159, 160, 161, 162, 163, 164, 165, 166, 167, 168, 195, 196, 197, 198, 15, 17, 199, 200, 201, 202, 186, 187, 188, 189, 177, 178, 179, 180, 181, 182, 183, 184, 185, 173, 174, 175, 176, 190, 191, 192, 193, 194, 208, 209, 210, 211, 212, 213, 214, 215, 216, 217, 218, 219, 228, 229, 230, 231, 232, 233, 234, 235, 236, 237, 238, 239, 240, 241, 242, 243, 244, 245, 246, 247, 248, 249, 250, 251, 252, 253, 254, 255, 256, 257, 258, 259, 260, 261, 262, 263, 264, 265, 266, 267, 268, 269, 270, 271, 272, 273, 274, 275, 276, 277, 278, 279, 280, 281, 282, 283, 284, 285, 286, 287, 288, 289, 290, 291, 292, 293, 294, 295, 296, 297, 298, 299, 300, 301, 302, 303, 304, 305, 306, 307, 308] rfl (by decide +kernel)
set_option maxRecDepth 20000 in
theorem gX12_session_X12_addTold : GoodIn wsX12_session (wsV RX12 571 RX12 yX12_addTold wsX12_addTold) := goodIn_app (goodIn_of _ (by decide +kernel)) ggX12_session_X12_addTold
set_option maxRecDepth 20000 in
theorem ggX12_session_X12_begin : GoodIn wsX12_session wsX12_begin := goodIn_r _ [65, 66, 67, 68, 69, 57, 70, 71, 72, 73, 28, 74, 75, 76, 77, 78, 79, 80, 81, 82, 83, 84, 85, 86, 87, 88, 89, 90, 91, 92, 93, 228, 229, 230, 231, 232, 233, 234, 235, 236, 237, 238, 239, 240, 241, 242, 243, 244, 245, 246, 247, 248, 249, 250, 251, 252, 253, 254, 255, 256, 257, 258, 259, 260, 261, 262, 263, 264, 265, 266, 267, 268, 269, 270, 271, 272, 273, 274, 275, 276, 277, 278, 279, 280, 281, 282, 283, 284, 285, 286, 287, 288, 289, 290, 291, 292, 293, 294, 295, 296, 297, 298, 299, 300, 301, 302, 303, 304, 305, 306, 307, 308] rfl (by decide +kernel)
set_option maxRecDepth 20000 in
theorem gX12_session_X12_begin : GoodIn wsX12_session (wsV RX12 468 RX12 yX12_begin wsX12_begin) := goodIn_app (goodIn_of _ (by decide +kernel)) ggX12_session_X12_begin
set_option maxRecDepth 20000 in
theorem ggX12_session_X12_putAll : GoodIn wsX12_session wsX12_putAll := goodIn_r _ [97, 98, 99, 100, 28, 101, 69, 70, 228, 229, 230, 231, 232, 233, 234, 235, 236, 237, 238, 239, 240, 241, 242, 243, 244, 245, 246, 247, 248, 249, 250, 251, 252, 253, 254, 255, 256, 257, 258, 259, 260, 261, 262, 263, 264, 265, 266, 267, 268, 269, 270, 271, 272, 273, 274, 275, 276, 277, 278, 279, 280, 281, 282, 283, 284, 285, 286, 287, 288, 289, 290, 291, 292, 293, 294, 295, 296, 297, 298, 299, 300, 301, 302, 303, 304, 305, 306, 307, 308] rfl (by decide +kernel)
set_option maxRecDepth 20000 in
theorem gX12_session_X12_putAll : GoodIn wsX12_session (wsV RX12 471 RX12 yX12_putAll wsX12_putAll) := goodIn_app (goodIn_of _ (by decide +kernel)) ggX12_session_X12_putAll
set_option maxRecDepth 20000 in
theorem ggX12_session_X12_putNumber : GoodIn wsX12_session wsX12_putNumber := goodIn_r _ [223, 69, 70, 216, 217, 28, 218, 219, 228, 229, 230, 231, 232, 233, 234, 235, 236, 237, 238, 239, 240, 241, 242, 243, 244, 245, 246, 247, 248, 249, 250, 251, 252, 253, 254, 255, 256, 257, 258, 259, 260, 261, 262, 263, 264, 265, 266, 267, 268, 269, 270, 271, 272, 273, 274, 275, 276, 277, 278, 279, 280, 281, 282, 283, 284, 285, 286, 287, 288, 289, 290, 291, 292, 293, 294, 295, 296, 297, 298, 299, 300, 301, 302, 303, 304, 305, 306, 307, 308] rfl (by decide +kernel)
set_option maxRecDepth 20000 in
theorem gX12_session_X12_putNumber : GoodIn wsX12_session (wsV RX12 497 RX12 yX12_putNumber wsX12_putNumber) := goodIn_app (goodIn_of _ (by decide +kernel)) ggX12_session_X12_putNumber
set_option maxRecDepth 20000 in
theorem ggX12_session_X12_endNumber : GoodIn wsX12_session wsX12_endNumber := goodIn_r _ [109, 57, 110, 102, 103, 104, 28, 105, 69, 70, 71, 72, 73, 74, 75, 76, 77, 78, 79, 80, 81, 82, 83, 84, 85, 86, 87, 88, 89, 90, 91, 92, 93, 111, 112, 113, 114, 115, 116, 117, 118, 119, 51, 228, 229, 230, 231, 232, 233, 234, 235, 236, 237, 238, 239, 240, 241, 242, 243, 244, 245, 246, 247, 248, 249, 250, 251, 252, 253, 254, 255, 256, 257, 258, 259, 260, 261, 262, 263, 264, 265, 266, 267, 268, 269, 270, 271, 272, 273, 274, 275, 276, 277, 278, 279, 280, 281, 282, 283, 284, 285, 286, 287, 288, 289, 290, 291, 292, 293, 294, 295, 296, 297, 298, 299, 300, 301, 302, 303, 304, 305, 306, 307, 308] rfl (by decide +kernel)
set_option maxRecDepth 20000 in
theorem gX12_session_X12_endNumber : GoodIn wsX12_session (wsV RX12 500 RX12 yX12_endNumber wsX12_endNumber) := goodIn_app (goodIn_of _ (by decide +kernel)) ggX12_session_X12_endNumber
set_option maxRecDepth 20000 in
theorem ggX12_session_X12_isNull : GoodIn wsX12_session wsX12_isNull := goodIn_r _ [168] rfl (by decide +kernel)
set_option maxRecDepth 20000 in
theorem gX12_session_X12_isNull : GoodIn wsX12_session (va_wsS RX12 377 yX12_isNull wsX12_isNull) := goodIn_app (goodIn_of _ (by decide +kernel)) ggX12_session_X12_isNull
set_option maxRecDepth 20000 in
theorem ggX12_session_X12_fromSum : GoodIn wsX12_session wsX12_fromSum := goodIn_r _ [211, 11, 15, 13, 17, 10, 9, 134, 135, 28, 136, 228, 229, 230, 231, 232, 233, 234, 235, 236, 237, 238, 239, 240, 241, 242, 243, 244, 245, 246, 247, 248, 249, 250, 251, 252, 253, 254, 255, 256, 257, 258, 259, 260, 261, 262, 263, 264, 265, 266, 267, 268, 269, 270, 271, 272, 273, 274, 275, 276, 277, 278, 279, 280, 281, 282, 283, 284, 285, 286, 287, 288, 289, 290, 291, 292, 293, 294, 295, 296, 297, 298, 299, 300, 301, 302, 303, 304, 305, 306, 307, 308] rfl (by decide +kernel)
set_option maxRecDepth 20000 in
theorem gX12_session_X12_fromSum : GoodIn wsX12_session (wsV RX12 568 RX12 yX12_fromSum wsX12_fromSum) := goodIn_app (goodIn_of _ (by decide +kernel)) ggX12_session_X12_fromSum
set_option maxRecDepth 20000 in
theorem ggX12_session_X12_turnIn : GoodIn wsX12_session wsX12_turnIn := goodIn_r _ [202, 12, 11, 14, 13, 134, 135, 28, 136, 228, 229, 230, 231, 232, 233, 234, 235, 236, 237, 238, 239, 240, 241, 242, 243, 244, 245, 246, 247, 248, 249, 250, 251, 252, 253, 254, 255, 256, 257, 258, 259, 260, 261, 262, 263, 264, 265, 266, 267, 268, 269, 270, 271, 272, 273, 274, 275, 276, 277, 278, 279, 280, 281, 282, 283, 284, 285, 286, 287, 288, 289, 290, 291, 292, 293, 294, 295, 296, 297, 298, 299, 300, 301, 302, 303, 304, 305, 306, 307, 308] rfl (by decide +kernel)
set_option maxRecDepth 20000 in
theorem gX12_session_X12_turnIn : GoodIn wsX12_session (wsV RX12 511 RX12 yX12_turnIn wsX12_turnIn) := goodIn_app (goodIn_of _ (by decide +kernel)) ggX12_session_X12_turnIn
set_option maxRecDepth 20000 in
theorem ggX12_session_X12_multiply : GoodIn wsX12_session wsX12_multiply := goodIn_r _ [172, 10, 48, 49, 28, 50, 51, 173, 174, 175, 176, 130, 11, 133, 13, 177, 178, 179, 180, 166, 167, 168, 137, 138, 139, 140, 141, 142, 143, 144, 145, 146, 147, 148, 110, 129, 114, 115, 116, 117, 118, 119, 149, 150, 151, 152, 181, 182, 183, 184, 185, 134, 135, 136, 186, 187, 188, 189, 12, 14, 190, 191, 192, 193, 194, 153, 154, 155, 156, 157, 158, 228, 229, 230, 231, 232, 233, 234, 235, 236, 237, 238, 239, 240, 241, 242, 243, 244, 245, 246, 247, 248, 249, 250, 251, 252, 253, 254, 255, 256, 257, 258, 259, 260, 261, 262, 263, 264, 265, 266, 267, 268, 269, 270, 271, 272, 273, 274, 275, 276, 277, 278, 279, 280, 281, 282, 283, 284, 285, 286, 287, 288, 289, 290, 291, 292, 293, 294, 295, 296, 297, 298, 299, 300, 301, 302, 303, 304, 305, 306, 307, 308] rfl (by decide +kernel)
set_option maxRecDepth 20000 in
theorem gX12_session_X12_multiply : GoodIn wsX12_session (wsV RX12 490 RX12 yX12_multiply wsX12_multiply) := goodIn_app (goodIn_of _ (by decide +kernel)) ggX12_session_X12_multiply
set_option maxRecDepth 20000 in
theorem ggX12_session_X12_small : GoodIn wsX12_session wsX12_small := goodIn_r _ [50, 51] rfl (by decide +kernel)
set_option maxRecDepth 20000 in
theorem gX12_session_X12_small : GoodIn wsX12_session (va_wsS RX12 389 yX12_small wsX12_small) := goodIn_app (goodIn_of _ (by decide +kernel)) ggX12_session_X12_small
set_option maxRecDepth 20000 in
theorem ggX12_session_X12_noSum : GoodIn wsX12_session wsX12_noSum := goodIn_r _ [47, 9, 48, 49, 28, 50, 51, 228, 229, 230, 231, 232, 233, 234, 235, 236, 237, 238, 239, 240, 241, 242, 243, 244, 245, 246, 247, 248, 249, 250, 251, 252, 253, 254, 255, 256, 257, 258, 259, 260, 261, 262, 263, 264, 265, 266, 267, 268, 269, 270, 271, 272, 273, 274, 275, 276, 277, 278, 279, 280, 281, 282, 283, 284, 285, 286, 287, 288, 289, 290, 291, 292, 293, 294, 295, 296, 297, 298, 299, 300, 301, 302, 303, 304, 305, 306, 307, 308] rfl (by decide +kernel)
set_option maxRecDepth 20000 in
theorem gX12_session_X12_noSum : GoodIn wsX12_session (wsV RX12 514 RX12 yX12_noSum wsX12_noSum) := goodIn_app (goodIn_of _ (by decide +kernel)) ggX12_session_X12_noSum
set_option maxRecDepth 20000 in
theorem ggX12_session_X12_addToSum : GoodIn wsX12_session wsX12_addToSum := goodIn_r _ [198, 10, 11, 15, 13, 17, 9, 166, 167, 28, 168, 199, 200, 201, 202, 12, 14, 134, 135, 136, 186, 187, 188, 189, 130, 133, 177, 178, 179, 180, 48, 49, 50, 51, 137, 138, 139, 140, 141, 142, 143, 144, 145, 146, 147, 148, 110, 129, 114, 115, 116, 117, 118, 119, 181, 182, 183, 184, 185, 149, 150, 151, 152, 173, 174, 175, 176, 190, 191, 192, 193, 194, 153, 154, 155, 156, 157, 158, 228, 229, 230, 231, 232, 233, 234, 235, 236, 237, 238, 239, 240, 241, 242, 243, 244, 245, 246, 247, 248, 249, 250, 251, 252, 253, 254, 255, 256, 257, 258, 259, 260, 261, 262, 263, 264, 265, 266, 267, 268, 269, 270, 271, 272, 273, 274, 275, 276, 277, 278, 279, 280, 281, 282, 283, 284, 285, 286, 287, 288, 289, 290, 291, 292, 293, 294, 295, 296, 297, 298, 299, 300, 301, 302, 303, 304, 305, 306, 307, 308] rfl (by decide +kernel)
set_option maxRecDepth 20000 in
theorem gX12_session_X12_addToSum : GoodIn wsX12_session (wsV RX12 517 RX12 yX12_addToSum wsX12_addToSum) := goodIn_app (goodIn_of _ (by decide +kernel)) ggX12_session_X12_addToSum
set_option maxRecDepth 20000 in
theorem ggX12_session_X12_reads : GoodIn wsX12_session wsX12_reads := goodIn_r _ [123, 124, 111, 112, 28, 113, 125, 126, 127, 128, 129, 12, 130, 131, 14, 132, 133, 114, 115, 116, 134, 135, 136, 137, 138, 139, 140, 141, 51, 142, 143, 144, 145, 146, 147, 148, 110, 117, 118, 119, 149, 150, 151, 152, 153, 154, 155, 156, 157, 158, 48, 49, 50, 159, 160, 161, 162, 163, 164, 165, 166, 167, 168, 228, 229, 230, 231, 232, 233, 234, 235, 236, 237, 238, 239, 240, 241, 242, 243, 244, 245, 246, 247, 248, 249, 250, 251, 252, 253, 254, 255, 256, 257, 258, 259, 260, 261, 262, 263, 264, 265, 266, 267, 268, 269, 270, 271, 272, 273, 274, 275, 276, 277, 278, 279, 280, 281, 282, 283, 284, 285, 286, 287, 288, 289, 290, 291, 292, 293, 294, 295, 296, 297, 298, 299, 300, 301, 302, 303, 304, 305, 306, 307, 308] rfl (by decide +kernel)
set_option maxRecDepth 20000 in
theorem gX12_session_X12_reads : GoodIn wsX12_session (wsV RX12 536 RX12 yX12_reads wsX12_reads) := goodIn_app (goodIn_of _ (by decide +kernel)) ggX12_session_X12_reads
set_option maxRecDepth 20000 in
theorem ggX12_session_X12_set : GoodIn wsX12_session wsX12_set := goodIn_r _ [136] rfl (by decide +kernel)
set_option maxRecDepth 20000 in
theorem gX12_session_X12_set : GoodIn wsX12_session (va_wsS RX12 381 yX12_set wsX12_set) := goodIn_app (goodIn_of _ (by decide +kernel)) ggX12_session_X12_set
set_option maxRecDepth 20000 in
theorem ggX12_session_X12_challenge : GoodIn wsX12_session wsX12_challenge := goodIn_r _ [227, 62, 63, 64, 28, 65, 66, 67, 68, 69, 57, 70, 71, 72, 73, 74, 75, 76, 77, 78, 79, 80, 81, 82, 83, 84, 85, 86, 87, 88, 89, 90, 91, 92, 93, 220, 221, 222, 223, 216, 217, 218, 219, 94, 95, 96, 97, 98, 99, 100, 101, 106, 107, 108, 109, 110, 102, 103, 104, 105, 111, 112, 113, 114, 115, 116, 117, 118, 119, 51, 228, 229, 230, 231, 232, 233, 234, 235, 236, 237, 238, 239, 240, 241, 242, 243, 244, 245, 246, 247, 248, 249, 250, 251, 252, 253, 254, 255, 256, 257, 258, 259, 260, 261, 262, 263, 264, 265, 266, 267, 268, 269, 270, 271, 272, 273, 274, 275, 276, 277, 278, 279, 280, 281, 282, 283, 284, 285, 286, 287, 288, 289, 290, 291, 292, 293, 294, 295, 296, 297, 298, 299, 300, 301, 302, 303, 304, 305, 306, 307, 308] rfl (by decide +kernel)
set_option maxRecDepth 20000 in
theorem gX12_session_X12_challenge : GoodIn wsX12_session (wsV RX12 507 RX12 yX12_challenge wsX12_challenge) := goodIn_app (goodIn_of _ (by decide +kernel)) ggX12_session_X12_challenge
theorem dX12_session_0 : decode cX12_session 0 = .ok (.iload_n 1, 1) := by decide +kernel
theorem dX12_session_1 : decode cX12_session 1 = .ok (.invokestatic 460, 3) := by decide +kernel
theorem dX12_session_4 : decode cX12_session 4 = .ok (.ifCond .ne 5, 3) := by decide +kernel
theorem dX12_session_7 : decode cX12_session 7 = .ok (.iconst (-1), 1) := by decide +kernel
theorem dX12_session_8 : decode cX12_session 8 = .ok (.ireturn, 1) := by decide +kernel
theorem dX12_session_9 : decode cX12_session 9 = .ok (.aload_n 0, 1) := by decide +kernel
theorem dX12_session_10 : decode cX12_session 10 = .ok (.getfield 96, 3) := by decide +kernel
theorem dX12_session_13 : decode cX12_session 13 = .ok (.iload_n 1, 1) := by decide +kernel
theorem dX12_session_14 : decode cX12_session 14 = .ok (.iaload, 1) := by decide +kernel
theorem dX12_session_15 : decode cX12_session 15 = .ok (.bipush 40, 2) := by decide +kernel
theorem dX12_session_17 : decode cX12_session 17 = .ok (.if_icmp .gt 14, 3) := by decide +kernel
theorem dX12_session_20 : decode cX12_session 20 = .ok (.aload_n 0, 1) := by decide +kernel
theorem dX12_session_21 : decode cX12_session 21 = .ok (.getfield 533, 3) := by decide +kernel
theorem dX12_session_24 : decode cX12_session 24 = .ok (.ifCond .le 7, 3) := by decide +kernel
theorem dX12_session_27 : decode cX12_session 27 = .ok (.iconst 1, 1) := by decide +kernel
theorem dX12_session_28 : decode cX12_session 28 = .ok (.goto 4, 3) := by decide +kernel
theorem dX12_session_31 : decode cX12_session 31 = .ok (.iconst 0, 1) := by decide +kernel
theorem dX12_session_32 : decode cX12_session 32 = .ok (.istore_n 2, 1) := by decide +kernel
theorem dX12_session_33 : decode cX12_session 33 = .ok (.iconst 0, 1) := by decide +kernel
theorem dX12_session_34 : decode cX12_session 34 = .ok (.istore_n 3, 1) := by decide +kernel
theorem dX12_session_35 : decode cX12_session 35 = .ok (.iload_n 3, 1) := by decide +kernel
theorem dX12_session_36 : decode cX12_session 36 = .ok (.aload_n 0, 1) := by decide +kernel
theorem dX12_session_37 : decode cX12_session 37 = .ok (.getfield 533, 3) := by decide +kernel
theorem dX12_session_40 : decode cX12_session 40 = .ok (.if_icmp .ge 28, 3) := by decide +kernel
theorem dX12_session_43 : decode cX12_session 43 = .ok (.iload_n 2, 1) := by decide +kernel
theorem dX12_session_44 : decode cX12_session 44 = .ok (.ifCond .eq 16, 3) := by decide +kernel
theorem dX12_session_47 : decode cX12_session 47 = .ok (.aload_n 0, 1) := by decide +kernel
theorem dX12_session_48 : decode cX12_session 48 = .ok (.getfield 134, 3) := by decide +kernel
theorem dX12_session_51 : decode cX12_session 51 = .ok (.iload_n 3, 1) := by decide +kernel
theorem dX12_session_52 : decode cX12_session 52 = .ok (.baload, 1) := by decide +kernel
theorem dX12_session_53 : decode cX12_session 53 = .ok (.ifCond .eq 7, 3) := by decide +kernel
theorem dX12_session_56 : decode cX12_session 56 = .ok (.iconst 1, 1) := by decide +kernel
theorem dX12_session_57 : decode cX12_session 57 = .ok (.goto 4, 3) := by decide +kernel
theorem dX12_session_60 : decode cX12_session 60 = .ok (.iconst 0, 1) := by decide +kernel
theorem dX12_session_61 : decode cX12_session 61 = .ok (.istore_n 2, 1) := by decide +kernel
theorem dX12_session_62 : decode cX12_session 62 = .ok (.iinc 3 1, 3) := by decide +kernel
theorem dX12_session_65 : decode cX12_session 65 = .ok (.goto (-30), 3) := by decide +kernel
theorem dX12_session_68 : decode cX12_session 68 = .ok (.iload_n 2, 1) := by decide +kernel
theorem dX12_session_69 : decode cX12_session 69 = .ok (.ifCond .ne 6, 3) := by decide +kernel
theorem dX12_session_72 : decode cX12_session 72 = .ok (.bipush (-2), 2) := by decide +kernel
theorem dX12_session_74 : decode cX12_session 74 = .ok (.ireturn, 1) := by decide +kernel
theorem dX12_session_75 : decode cX12_session 75 = .ok (.aload_n 0, 1) := by decide +kernel
theorem dX12_session_76 : decode cX12_session 76 = .ok (.iconst 1, 1) := by decide +kernel
theorem dX12_session_77 : decode cX12_session 77 = .ok (.aload_n 0, 1) := by decide +kernel
theorem dX12_session_78 : decode cX12_session 78 = .ok (.getfield 533, 3) := by decide +kernel
theorem dX12_session_81 : decode cX12_session 81 = .ok (.iadd, 1) := by decide +kernel
theorem dX12_session_82 : decode cX12_session 82 = .ok (.invokevirtual 484, 3) := by decide +kernel
theorem dX12_session_85 : decode cX12_session 85 = .ok (.ifCond .eq 6, 3) := by decide +kernel
theorem dX12_session_88 : decode cX12_session 88 = .ok (.bipush (-5), 2) := by decide +kernel
theorem dX12_session_90 : decode cX12_session 90 = .ok (.ireturn, 1) := by decide +kernel
theorem dX12_session_91 : decode cX12_session 91 = .ok (.aload_n 0, 1) := by decide +kernel
theorem dX12_session_92 : decode cX12_session 92 = .ok (.invokevirtual 555, 3) := by decide +kernel
theorem dX12_session_95 : decode cX12_session 95 = .ok (.ifCond .ne 6, 3) := by decide +kernel
theorem dX12_session_98 : decode cX12_session 98 = .ok (.bipush (-2), 2) := by decide +kernel
theorem dX12_session_100 : decode cX12_session 100 = .ok (.ireturn, 1) := by decide +kernel
theorem dX12_session_101 : decode cX12_session 101 = .ok (.aload_n 0, 1) := by decide +kernel
theorem dX12_session_102 : decode cX12_session 102 = .ok (.dup, 1) := by decide +kernel
theorem dX12_session_103 : decode cX12_session 103 = .ok (.getfield 478, 3) := by decide +kernel
theorem dX12_session_106 : decode cX12_session 106 = .ok (.iconst 1, 1) := by decide +kernel
theorem dX12_session_107 : decode cX12_session 107 = .ok (.iadd, 1) := by decide +kernel
theorem dX12_session_108 : decode cX12_session 108 = .ok (.putfield 478, 3) := by decide +kernel
theorem dX12_session_111 : decode cX12_session 111 = .ok (.aload_n 0, 1) := by decide +kernel
theorem dX12_session_112 : decode cX12_session 112 = .ok (.iconst 0, 1) := by decide +kernel
theorem dX12_session_113 : decode cX12_session 113 = .ok (.aload_n 0, 1) := by decide +kernel
theorem dX12_session_114 : decode cX12_session 114 = .ok (.getfield 356, 3) := by decide +kernel
theorem dX12_session_117 : decode cX12_session 117 = .ok (.invokevirtual 571, 3) := by decide +kernel
theorem dX12_session_120 : decode cX12_session 120 = .ok (.aload_n 0, 1) := by decide +kernel
theorem dX12_session_121 : decode cX12_session 121 = .ok (.iconst 1, 1) := by decide +kernel
theorem dX12_session_122 : decode cX12_session 122 = .ok (.aload_n 0, 1) := by decide +kernel
theorem dX12_session_123 : decode cX12_session 123 = .ok (.getfield 356, 3) := by decide +kernel
theorem dX12_session_126 : decode cX12_session 126 = .ok (.invokevirtual 571, 3) := by decide +kernel
theorem dX12_session_129 : decode cX12_session 129 = .ok (.aload_n 0, 1) := by decide +kernel
theorem dX12_session_130 : decode cX12_session 130 = .ok (.bipush 7, 2) := by decide +kernel
theorem dX12_session_132 : decode cX12_session 132 = .ok (.invokevirtual 468, 3) := by decide +kernel
theorem dX12_session_135 : decode cX12_session 135 = .ok (.aload_n 0, 1) := by decide +kernel
theorem dX12_session_136 : decode cX12_session 136 = .ok (.aload_n 0, 1) := by decide +kernel
theorem dX12_session_137 : decode cX12_session 137 = .ok (.getfield 356, 3) := by decide +kernel
theorem dX12_session_140 : decode cX12_session 140 = .ok (.iconst 0, 1) := by decide +kernel
theorem dX12_session_141 : decode cX12_session 141 = .ok (.bipush 66, 2) := by decide +kernel
theorem dX12_session_143 : decode cX12_session 143 = .ok (.invokevirtual 471, 3) := by decide +kernel
theorem dX12_session_146 : decode cX12_session 146 = .ok (.aload_n 0, 1) := by decide +kernel
theorem dX12_session_147 : decode cX12_session 147 = .ok (.aload_n 0, 1) := by decide +kernel
theorem dX12_session_148 : decode cX12_session 148 = .ok (.getfield 350, 3) := by decide +kernel
theorem dX12_session_151 : decode cX12_session 151 = .ok (.invokevirtual 497, 3) := by decide +kernel
theorem dX12_session_154 : decode cX12_session 154 = .ok (.aload_n 0, 1) := by decide +kernel
theorem dX12_session_155 : decode cX12_session 155 = .ok (.aload_n 0, 1) := by decide +kernel
theorem dX12_session_156 : decode cX12_session 156 = .ok (.getfield 100, 3) := by decide +kernel
theorem dX12_session_159 : decode cX12_session 159 = .ok (.bipush 100, 2) := by decide +kernel
theorem dX12_session_161 : decode cX12_session 161 = .ok (.iload_n 1, 1) := by decide +kernel
theorem dX12_session_162 : decode cX12_session 162 = .ok (.imul, 1) := by decide +kernel
theorem dX12_session_163 : decode cX12_session 163 = .ok (.aload_n 0, 1) := by decide +kernel
theorem dX12_session_164 : decode cX12_session 164 = .ok (.getfield 96, 3) := by decide +kernel
theorem dX12_session_167 : decode cX12_session 167 = .ok (.iload_n 1, 1) := by decide +kernel
theorem dX12_session_168 : decode cX12_session 168 = .ok (.iaload, 1) := by decide +kernel
theorem dX12_session_169 : decode cX12_session 169 = .ok (.invokevirtual 471, 3) := by decide +kernel
theorem dX12_session_172 : decode cX12_session 172 = .ok (.aload_n 0, 1) := by decide +kernel
theorem dX12_session_173 : decode cX12_session 173 = .ok (.aload_n 0, 1) := by decide +kernel
theorem dX12_session_174 : decode cX12_session 174 = .ok (.getfield 143, 3) := by decide +kernel
theorem dX12_session_177 : decode cX12_session 177 = .ok (.invokevirtual 500, 3) := by decide +kernel
theorem dX12_session_180 : decode cX12_session 180 = .ok (.aload_n 0, 1) := by decide +kernel
theorem dX12_session_181 : decode cX12_session 181 = .ok (.getfield 329, 3) := by decide +kernel
theorem dX12_session_184 : decode cX12_session 184 = .ok (.invokestatic 377, 3) := by decide +kernel
theorem dX12_session_187 : decode cX12_session 187 = .ok (.ifCond .ne 22, 3) := by decide +kernel
theorem dX12_session_190 : decode cX12_session 190 = .ok (.aload_n 0, 1) := by decide +kernel
theorem dX12_session_191 : decode cX12_session 191 = .ok (.invokevirtual 568, 3) := by decide +kernel
theorem dX12_session_194 : decode cX12_session 194 = .ok (.aload_n 0, 1) := by decide +kernel
theorem dX12_session_195 : decode cX12_session 195 = .ok (.invokevirtual 511, 3) := by decide +kernel
theorem dX12_session_198 : decode cX12_session 198 = .ok (.aload_n 0, 1) := by decide +kernel
theorem dX12_session_199 : decode cX12_session 199 = .ok (.aload_n 0, 1) := by decide +kernel
theorem dX12_session_200 : decode cX12_session 200 = .ok (.getfield 143, 3) := by decide +kernel
theorem dX12_session_203 : decode cX12_session 203 = .ok (.invokevirtual 490, 3) := by decide +kernel
theorem dX12_session_206 : decode cX12_session 206 = .ok (.goto 11, 3) := by decide +kernel
theorem dX12_session_209 : decode cX12_session 209 = .ok (.aload_n 0, 1) := by decide +kernel
theorem dX12_session_210 : decode cX12_session 210 = .ok (.getfield 173, 3) := by decide +kernel
theorem dX12_session_213 : decode cX12_session 213 = .ok (.lconst 0, 1) := by decide +kernel
theorem dX12_session_214 : decode cX12_session 214 = .ok (.invokestatic 389, 3) := by decide +kernel
theorem dX12_session_217 : decode cX12_session 217 = .ok (.aload_n 0, 1) := by decide +kernel
theorem dX12_session_218 : decode cX12_session 218 = .ok (.invokevirtual 514, 3) := by decide +kernel
theorem dX12_session_221 : decode cX12_session 221 = .ok (.aload_n 0, 1) := by decide +kernel
theorem dX12_session_222 : decode cX12_session 222 = .ok (.invokevirtual 517, 3) := by decide +kernel
theorem dX12_session_225 : decode cX12_session 225 = .ok (.aload_n 0, 1) := by decide +kernel
theorem dX12_session_226 : decode cX12_session 226 = .ok (.getfield 356, 3) := by decide +kernel
theorem dX12_session_229 : decode cX12_session 229 = .ok (.iconst 0, 1) := by decide +kernel
theorem dX12_session_230 : decode cX12_session 230 = .ok (.iaload, 1) := by decide +kernel
theorem dX12_session_231 : decode cX12_session 231 = .ok (.ifCond .eq 47, 3) := by decide +kernel
theorem dX12_session_234 : decode cX12_session 234 = .ok (.aload_n 0, 1) := by decide +kernel
theorem dX12_session_235 : decode cX12_session 235 = .ok (.aload_n 0, 1) := by decide +kernel
theorem dX12_session_236 : decode cX12_session 236 = .ok (.getfield 356, 3) := by decide +kernel
theorem dX12_session_239 : decode cX12_session 239 = .ok (.iconst 0, 1) := by decide +kernel
theorem dX12_session_240 : decode cX12_session 240 = .ok (.invokevirtual 536, 3) := by decide +kernel
theorem dX12_session_243 : decode cX12_session 243 = .ok (.istore_n 3, 1) := by decide +kernel
theorem dX12_session_244 : decode cX12_session 244 = .ok (.aload_n 0, 1) := by decide +kernel
theorem dX12_session_245 : decode cX12_session 245 = .ok (.getfield 167, 3) := by decide +kernel
theorem dX12_session_248 : decode cX12_session 248 = .ok (.aload_n 0, 1) := by decide +kernel
theorem dX12_session_249 : decode cX12_session 249 = .ok (.getfield 176, 3) := by decide +kernel
theorem dX12_session_252 : decode cX12_session 252 = .ok (.invokestatic 381, 3) := by decide +kernel
theorem dX12_session_255 : decode cX12_session 255 = .ok (.aload_n 0, 1) := by decide +kernel
theorem dX12_session_256 : decode cX12_session 256 = .ok (.getfield 170, 3) := by decide +kernel
theorem dX12_session_259 : decode cX12_session 259 = .ok (.aload_n 0, 1) := by decide +kernel
theorem dX12_session_260 : decode cX12_session 260 = .ok (.getfield 179, 3) := by decide +kernel
theorem dX12_session_263 : decode cX12_session 263 = .ok (.invokestatic 381, 3) := by decide +kernel
theorem dX12_session_266 : decode cX12_session 266 = .ok (.aload_n 0, 1) := by decide +kernel
theorem dX12_session_267 : decode cX12_session 267 = .ok (.getfield 173, 3) := by decide +kernel
theorem dX12_session_270 : decode cX12_session 270 = .ok (.lconst 1, 1) := by decide +kernel
theorem dX12_session_271 : decode cX12_session 271 = .ok (.invokestatic 389, 3) := by decide +kernel
theorem dX12_session_274 : decode cX12_session 274 = .ok (.aload_n 0, 1) := by decide +kernel
theorem dX12_session_275 : decode cX12_session 275 = .ok (.invokevirtual 517, 3) := by decide +kernel
theorem dX12_session_278 : decode cX12_session 278 = .ok (.aload_n 0, 1) := by decide +kernel
theorem dX12_session_279 : decode cX12_session 279 = .ok (.getfield 329, 3) := by decide +kernel
theorem dX12_session_282 : decode cX12_session 282 = .ok (.invokestatic 377, 3) := by decide +kernel
theorem dX12_session_285 : decode cX12_session 285 = .ok (.ifCond .eq 25, 3) := by decide +kernel
theorem dX12_session_288 : decode cX12_session 288 = .ok (.aload_n 0, 1) := by decide +kernel
theorem dX12_session_289 : decode cX12_session 289 = .ok (.getfield 323, 3) := by decide +kernel
theorem dX12_session_292 : decode cX12_session 292 = .ok (.aload_n 0, 1) := by decide +kernel
theorem dX12_session_293 : decode cX12_session 293 = .ok (.getfield 74, 3) := by decide +kernel
theorem dX12_session_296 : decode cX12_session 296 = .ok (.invokestatic 381, 3) := by decide +kernel
theorem dX12_session_299 : decode cX12_session 299 = .ok (.aload_n 0, 1) := by decide +kernel
theorem dX12_session_300 : decode cX12_session 300 = .ok (.getfield 326, 3) := by decide +kernel
theorem dX12_session_303 : decode cX12_session 303 = .ok (.aload_n 0, 1) := by decide +kernel
theorem dX12_session_304 : decode cX12_session 304 = .ok (.getfield 93, 3) := by decide +kernel
theorem dX12_session_307 : decode cX12_session 307 = .ok (.invokestatic 381, 3) := by decide +kernel
theorem dX12_session_310 : decode cX12_session 310 = .ok (.aload_n 0, 1) := by decide +kernel
theorem dX12_session_311 : decode cX12_session 311 = .ok (.getfield 149, 3) := by decide +kernel
theorem dX12_session_314 : decode cX12_session 314 = .ok (.aload_n 0, 1) := by decide +kernel
theorem dX12_session_315 : decode cX12_session 315 = .ok (.getfield 323, 3) := by decide +kernel
theorem dX12_session_318 : decode cX12_session 318 = .ok (.invokestatic 381, 3) := by decide +kernel
theorem dX12_session_321 : decode cX12_session 321 = .ok (.aload_n 0, 1) := by decide +kernel
theorem dX12_session_322 : decode cX12_session 322 = .ok (.aload_n 0, 1) := by decide +kernel
theorem dX12_session_323 : decode cX12_session 323 = .ok (.getfield 326, 3) := by decide +kernel
theorem dX12_session_326 : decode cX12_session 326 = .ok (.iconst 0, 1) := by decide +kernel
theorem dX12_session_327 : decode cX12_session 327 = .ok (.laload, 1) := by decide +kernel
theorem dX12_session_328 : decode cX12_session 328 = .ok (.lconst 1, 1) := by decide +kernel
theorem dX12_session_329 : decode cX12_session 329 = .ok (.land, 1) := by decide +kernel
theorem dX12_session_330 : decode cX12_session 330 = .ok (.lconst 1, 1) := by decide +kernel
theorem dX12_session_331 : decode cX12_session 331 = .ok (.lcmp, 1) := by decide +kernel
theorem dX12_session_332 : decode cX12_session 332 = .ok (.ifCond .ne 7, 3) := by decide +kernel
theorem dX12_session_335 : decode cX12_session 335 = .ok (.iconst 1, 1) := by decide +kernel
theorem dX12_session_336 : decode cX12_session 336 = .ok (.goto 4, 3) := by decide +kernel
theorem dX12_session_339 : decode cX12_session 339 = .ok (.iconst 0, 1) := by decide +kernel
theorem dX12_session_340 : decode cX12_session 340 = .ok (.putfield 575, 3) := by decide +kernel
theorem dX12_session_343 : decode cX12_session 343 = .ok (.aload_n 0, 1) := by decide +kernel
theorem dX12_session_344 : decode cX12_session 344 = .ok (.aload_n 0, 1) := by decide +kernel
theorem dX12_session_345 : decode cX12_session 345 = .ok (.getfield 552, 3) := by decide +kernel
theorem dX12_session_348 : decode cX12_session 348 = .ok (.putfield 578, 3) := by decide +kernel
theorem dX12_session_351 : decode cX12_session 351 = .ok (.aload_n 0, 1) := by decide +kernel
theorem dX12_session_352 : decode cX12_session 352 = .ok (.aload_n 0, 1) := by decide +kernel
theorem dX12_session_353 : decode cX12_session 353 = .ok (.getfield 146, 3) := by decide +kernel
theorem dX12_session_356 : decode cX12_session 356 = .ok (.aload_n 0, 1) := by decide +kernel
theorem dX12_session_357 : decode cX12_session 357 = .ok (.getfield 149, 3) := by decide +kernel
theorem dX12_session_360 : decode cX12_session 360 = .ok (.aload_n 0, 1) := by decide +kernel
theorem dX12_session_361 : decode cX12_session 361 = .ok (.getfield 350, 3) := by decide +kernel
theorem dX12_session_364 : decode cX12_session 364 = .ok (.aload_n 0, 1) := by decide +kernel
theorem dX12_session_365 : decode cX12_session 365 = .ok (.getfield 100, 3) := by decide +kernel
theorem dX12_session_368 : decode cX12_session 368 = .ok (.bipush 100, 2) := by decide +kernel
theorem dX12_session_370 : decode cX12_session 370 = .ok (.iload_n 1, 1) := by decide +kernel
theorem dX12_session_371 : decode cX12_session 371 = .ok (.imul, 1) := by decide +kernel
theorem dX12_session_372 : decode cX12_session 372 = .ok (.aload_n 0, 1) := by decide +kernel
theorem dX12_session_373 : decode cX12_session 373 = .ok (.getfield 96, 3) := by decide +kernel
theorem dX12_session_376 : decode cX12_session 376 = .ok (.iload_n 1, 1) := by decide +kernel
theorem dX12_session_377 : decode cX12_session 377 = .ok (.iaload, 1) := by decide +kernel
theorem dX12_session_378 : decode cX12_session 378 = .ok (.invokevirtual 507, 3) := by decide +kernel
theorem dX12_session_381 : decode cX12_session 381 = .ok (.iconst 0, 1) := by decide +kernel
theorem dX12_session_382 : decode cX12_session 382 = .ok (.istore_n 3, 1) := by decide +kernel
theorem dX12_session_383 : decode cX12_session 383 = .ok (.iload_n 3, 1) := by decide +kernel
theorem dX12_session_384 : decode cX12_session 384 = .ok (.bipush 66, 2) := by decide +kernel
theorem dX12_session_386 : decode cX12_session 386 = .ok (.if_icmp .ge 21, 3) := by decide +kernel
theorem dX12_session_389 : decode cX12_session 389 = .ok (.aload_n 0, 1) := by decide +kernel
theorem dX12_session_390 : decode cX12_session 390 = .ok (.getfield 140, 3) := by decide +kernel
theorem dX12_session_393 : decode cX12_session 393 = .ok (.iload_n 3, 1) := by decide +kernel
theorem dX12_session_394 : decode cX12_session 394 = .ok (.aload_n 0, 1) := by decide +kernel
theorem dX12_session_395 : decode cX12_session 395 = .ok (.getfield 356, 3) := by decide +kernel
theorem dX12_session_398 : decode cX12_session 398 = .ok (.iload_n 3, 1) := by decide +kernel
theorem dX12_session_399 : decode cX12_session 399 = .ok (.iaload, 1) := by decide +kernel
theorem dX12_session_400 : decode cX12_session 400 = .ok (.iastore, 1) := by decide +kernel
theorem dX12_session_401 : decode cX12_session 401 = .ok (.iinc 3 1, 3) := by decide +kernel
theorem dX12_session_404 : decode cX12_session 404 = .ok (.goto (-21), 3) := by decide +kernel
theorem dX12_session_407 : decode cX12_session 407 = .ok (.aload_n 0, 1) := by decide +kernel
theorem dX12_session_408 : decode cX12_session 408 = .ok (.iconst 1, 1) := by decide +kernel
theorem dX12_session_409 : decode cX12_session 409 = .ok (.putfield 529, 3) := by decide +kernel
theorem dX12_session_412 : decode cX12_session 412 = .ok (.iconst 1, 1) := by decide +kernel
theorem dX12_session_413 : decode cX12_session 413 = .ok (.ireturn, 1) := by decide +kernel
set_option maxRecDepth 20000 in
theorem ggX12_about_X12_isRow : GoodIn wsX12_about wsX12_isRow := goodIn_r _ [11, 12, 13, 14, 10, 15] rfl (by decide +kernel)
set_option maxRecDepth 20000 in
theorem gX12_about_X12_isRow : GoodIn wsX12_about (va_wsS RX12 460 yX12_isRow wsX12_isRow) := goodIn_app (goodIn_of _ (by decide +kernel)) ggX12_about_X12_isRow
set_option maxRecDepth 20000 in
theorem ggX12_about_X12_in : GoodIn wsX12_about wsX12_in := goodIn_r _ [15] rfl (by decide +kernel)
set_option maxRecDepth 20000 in
theorem gX12_about_X12_in : GoodIn wsX12_about (va_wsS RX12 361 yX12_in wsX12_in) := goodIn_app (goodIn_of _ (by decide +kernel)) ggX12_about_X12_in
set_option maxRecDepth 20000 in
theorem ggX12_about_X12_gives : GoodIn wsX12_about wsX12_gives := goodIn_r _ [19, 20, 3, 21, 26, 27, 28, 29, 30, 31, 32, 33, 34, 35, 36, 37, 38, 39, 40, 41, 42, 43, 44, 45, 46, 47, 48, 49, 50, 51, 52, 53, 54, 55, 56, 57, 58, 59, 60, 61, 62, 63, 64, 65, 66, 67, 68, 69, 70, 71, 72, 73, 74, 75, 76, 77, 78, 79, 80, 81, 82, 83, 84, 85, 86, 87, 88, 89, 90, 91, 92, 93, 94, 95, 96, 97, 98, 99, 100, 101, 102, 103, 104, 105, 106] rfl (by decide +kernel)
set_option maxRecDepth 20000 in
theorem gX12_about_X12_gives : GoodIn wsX12_about (wsV RX12 475 RX12 yX12_gives wsX12_gives) := goodIn_app (goodIn_of _ (by decide +kernel)) ggX12_about_X12_gives
set_option maxRecDepth 20000 in
theorem ggX12_about_X12_bytesOf : GoodIn wsX12_about wsX12_bytesOf := goodIn_r _ [24, 25] rfl (by decide +kernel)
set_option maxRecDepth 20000 in
theorem gX12_about_X12_bytesOf : GoodIn wsX12_about (va_wsS RX12 426 yX12_bytesOf wsX12_bytesOf) := goodIn_app (goodIn_of _ (by decide +kernel)) ggX12_about_X12_bytesOf
theorem dX12_about_0 : decode cX12_about 0 = .ok (.iload_n 1, 1) := by decide +kernel
theorem dX12_about_1 : decode cX12_about 1 = .ok (.invokestatic 460, 3) := by decide +kernel
theorem dX12_about_4 : decode cX12_about 4 = .ok (.ifCond .eq 15, 3) := by decide +kernel
theorem dX12_about_7 : decode cX12_about 7 = .ok (.iload_n 2, 1) := by decide +kernel
theorem dX12_about_8 : decode cX12_about 8 = .ok (.i2l, 1) := by decide +kernel
theorem dX12_about_9 : decode cX12_about 9 = .ok (.lconst 0, 1) := by decide +kernel
theorem dX12_about_10 : decode cX12_about 10 = .ok (.ldc2_w 581, 3) := by decide +kernel
theorem dX12_about_13 : decode cX12_about 13 = .ok (.invokestatic 361, 3) := by decide +kernel
theorem dX12_about_16 : decode cX12_about 16 = .ok (.ifCond .ne 5, 3) := by decide +kernel
theorem dX12_about_19 : decode cX12_about 19 = .ok (.iconst (-1), 1) := by decide +kernel
theorem dX12_about_20 : decode cX12_about 20 = .ok (.ireturn, 1) := by decide +kernel
theorem dX12_about_21 : decode cX12_about 21 = .ok (.aload_n 0, 1) := by decide +kernel
theorem dX12_about_22 : decode cX12_about 22 = .ok (.getfield 529, 3) := by decide +kernel
theorem dX12_about_25 : decode cX12_about 25 = .ok (.ifCond .ne 6, 3) := by decide +kernel
theorem dX12_about_28 : decode cX12_about 28 = .ok (.bipush (-2), 2) := by decide +kernel
theorem dX12_about_30 : decode cX12_about 30 = .ok (.ireturn, 1) := by decide +kernel
theorem dX12_about_31 : decode cX12_about 31 = .ok (.iload_n 2, 1) := by decide +kernel
theorem dX12_about_32 : decode cX12_about 32 = .ok (.ifCond .ne 37, 3) := by decide +kernel
theorem dX12_about_35 : decode cX12_about 35 = .ok (.iconst 0, 1) := by decide +kernel
theorem dX12_about_36 : decode cX12_about 36 = .ok (.istore_n 3, 1) := by decide +kernel
theorem dX12_about_37 : decode cX12_about 37 = .ok (.iload_n 3, 1) := by decide +kernel
theorem dX12_about_38 : decode cX12_about 38 = .ok (.bipush 66, 2) := by decide +kernel
theorem dX12_about_40 : decode cX12_about 40 = .ok (.if_icmp .ge 21, 3) := by decide +kernel
theorem dX12_about_43 : decode cX12_about 43 = .ok (.aload_n 0, 1) := by decide +kernel
theorem dX12_about_44 : decode cX12_about 44 = .ok (.getfield 302, 3) := by decide +kernel
theorem dX12_about_47 : decode cX12_about 47 = .ok (.iload_n 3, 1) := by decide +kernel
theorem dX12_about_48 : decode cX12_about 48 = .ok (.aload_n 0, 1) := by decide +kernel
theorem dX12_about_49 : decode cX12_about 49 = .ok (.getfield 140, 3) := by decide +kernel
theorem dX12_about_52 : decode cX12_about 52 = .ok (.iload_n 3, 1) := by decide +kernel
theorem dX12_about_53 : decode cX12_about 53 = .ok (.iaload, 1) := by decide +kernel
theorem dX12_about_54 : decode cX12_about 54 = .ok (.iastore, 1) := by decide +kernel
theorem dX12_about_55 : decode cX12_about 55 = .ok (.iinc 3 1, 3) := by decide +kernel
theorem dX12_about_58 : decode cX12_about 58 = .ok (.goto (-21), 3) := by decide +kernel
theorem dX12_about_61 : decode cX12_about 61 = .ok (.aload_n 0, 1) := by decide +kernel
theorem dX12_about_62 : decode cX12_about 62 = .ok (.iload_n 1, 1) := by decide +kernel
theorem dX12_about_63 : decode cX12_about 63 = .ok (.bipush 66, 2) := by decide +kernel
theorem dX12_about_65 : decode cX12_about 65 = .ok (.invokevirtual 475, 3) := by decide +kernel
theorem dX12_about_68 : decode cX12_about 68 = .ok (.ireturn, 1) := by decide +kernel
theorem dX12_about_69 : decode cX12_about 69 = .ok (.aload_n 0, 1) := by decide +kernel
theorem dX12_about_70 : decode cX12_about 70 = .ok (.getfield 302, 3) := by decide +kernel
theorem dX12_about_73 : decode cX12_about 73 = .ok (.iconst 0, 1) := by decide +kernel
theorem dX12_about_74 : decode cX12_about 74 = .ok (.iload_n 2, 1) := by decide +kernel
theorem dX12_about_75 : decode cX12_about 75 = .ok (.iconst 1, 1) := by decide +kernel
theorem dX12_about_76 : decode cX12_about 76 = .ok (.if_icmp .ne 10, 3) := by decide +kernel
theorem dX12_about_79 : decode cX12_about 79 = .ok (.aload_n 0, 1) := by decide +kernel
theorem dX12_about_80 : decode cX12_about 80 = .ok (.getfield 149, 3) := by decide +kernel
theorem dX12_about_83 : decode cX12_about 83 = .ok (.goto 19, 3) := by decide +kernel
theorem dX12_about_86 : decode cX12_about 86 = .ok (.iload_n 2, 1) := by decide +kernel
theorem dX12_about_87 : decode cX12_about 87 = .ok (.iconst 2, 1) := by decide +kernel
theorem dX12_about_88 : decode cX12_about 88 = .ok (.if_icmp .ne 10, 3) := by decide +kernel
theorem dX12_about_91 : decode cX12_about 91 = .ok (.aload_n 0, 1) := by decide +kernel
theorem dX12_about_92 : decode cX12_about 92 = .ok (.getfield 146, 3) := by decide +kernel
theorem dX12_about_95 : decode cX12_about 95 = .ok (.goto 7, 3) := by decide +kernel
theorem dX12_about_98 : decode cX12_about 98 = .ok (.aload_n 0, 1) := by decide +kernel
theorem dX12_about_99 : decode cX12_about 99 = .ok (.getfield 143, 3) := by decide +kernel
theorem dX12_about_102 : decode cX12_about 102 = .ok (.invokestatic 426, 3) := by decide +kernel
theorem dX12_about_105 : decode cX12_about 105 = .ok (.aload_n 0, 1) := by decide +kernel
theorem dX12_about_106 : decode cX12_about 106 = .ok (.iload_n 1, 1) := by decide +kernel
theorem dX12_about_107 : decode cX12_about 107 = .ok (.bipush 32, 2) := by decide +kernel
theorem dX12_about_109 : decode cX12_about 109 = .ok (.invokevirtual 475, 3) := by decide +kernel
theorem dX12_about_112 : decode cX12_about 112 = .ok (.ireturn, 1) := by decide +kernel
theorem dX12_isNonceTold_0 : decode cX12_isNonceTold 0 = .ok (.aload_n 0, 1) := by decide +kernel
theorem dX12_isNonceTold_1 : decode cX12_isNonceTold 1 = .ok (.getfield 121, 3) := by decide +kernel
theorem dX12_isNonceTold_4 : decode cX12_isNonceTold 4 = .ok (.iload_n 1, 1) := by decide +kernel
theorem dX12_isNonceTold_5 : decode cX12_isNonceTold 5 = .ok (.baload, 1) := by decide +kernel
theorem dX12_isNonceTold_6 : decode cX12_isNonceTold 6 = .ok (.istore_n 2, 1) := by decide +kernel
theorem dX12_isNonceTold_7 : decode cX12_isNonceTold 7 = .ok (.iconst 0, 1) := by decide +kernel
theorem dX12_isNonceTold_8 : decode cX12_isNonceTold 8 = .ok (.istore_n 3, 1) := by decide +kernel
theorem dX12_isNonceTold_9 : decode cX12_isNonceTold 9 = .ok (.iload_n 3, 1) := by decide +kernel
theorem dX12_isNonceTold_10 : decode cX12_isNonceTold 10 = .ok (.bipush 66, 2) := by decide +kernel
theorem dX12_isNonceTold_12 : decode cX12_isNonceTold 12 = .ok (.if_icmp .ge 44, 3) := by decide +kernel
theorem dX12_isNonceTold_15 : decode cX12_isNonceTold 15 = .ok (.iload_n 2, 1) := by decide +kernel
theorem dX12_isNonceTold_16 : decode cX12_isNonceTold 16 = .ok (.ifCond .eq 32, 3) := by decide +kernel
theorem dX12_isNonceTold_19 : decode cX12_isNonceTold 19 = .ok (.aload_n 0, 1) := by decide +kernel
theorem dX12_isNonceTold_20 : decode cX12_isNonceTold 20 = .ok (.getfield 131, 3) := by decide +kernel
theorem dX12_isNonceTold_23 : decode cX12_isNonceTold 23 = .ok (.bipush 66, 2) := by decide +kernel
theorem dX12_isNonceTold_25 : decode cX12_isNonceTold 25 = .ok (.iload_n 1, 1) := by decide +kernel
theorem dX12_isNonceTold_26 : decode cX12_isNonceTold 26 = .ok (.imul, 1) := by decide +kernel
theorem dX12_isNonceTold_27 : decode cX12_isNonceTold 27 = .ok (.iload_n 3, 1) := by decide +kernel
theorem dX12_isNonceTold_28 : decode cX12_isNonceTold 28 = .ok (.iadd, 1) := by decide +kernel
theorem dX12_isNonceTold_29 : decode cX12_isNonceTold 29 = .ok (.iaload, 1) := by decide +kernel
theorem dX12_isNonceTold_30 : decode cX12_isNonceTold 30 = .ok (.aload_n 0, 1) := by decide +kernel
theorem dX12_isNonceTold_31 : decode cX12_isNonceTold 31 = .ok (.getfield 137, 3) := by decide +kernel
theorem dX12_isNonceTold_34 : decode cX12_isNonceTold 34 = .ok (.bipush 66, 2) := by decide +kernel
theorem dX12_isNonceTold_36 : decode cX12_isNonceTold 36 = .ok (.iload_n 1, 1) := by decide +kernel
theorem dX12_isNonceTold_37 : decode cX12_isNonceTold 37 = .ok (.imul, 1) := by decide +kernel
theorem dX12_isNonceTold_38 : decode cX12_isNonceTold 38 = .ok (.iload_n 3, 1) := by decide +kernel
theorem dX12_isNonceTold_39 : decode cX12_isNonceTold 39 = .ok (.iadd, 1) := by decide +kernel
theorem dX12_isNonceTold_40 : decode cX12_isNonceTold 40 = .ok (.iaload, 1) := by decide +kernel
theorem dX12_isNonceTold_41 : decode cX12_isNonceTold 41 = .ok (.if_icmp .ne 7, 3) := by decide +kernel
theorem dX12_isNonceTold_44 : decode cX12_isNonceTold 44 = .ok (.iconst 1, 1) := by decide +kernel
theorem dX12_isNonceTold_45 : decode cX12_isNonceTold 45 = .ok (.goto 4, 3) := by decide +kernel
theorem dX12_isNonceTold_48 : decode cX12_isNonceTold 48 = .ok (.iconst 0, 1) := by decide +kernel
theorem dX12_isNonceTold_49 : decode cX12_isNonceTold 49 = .ok (.istore_n 2, 1) := by decide +kernel
theorem dX12_isNonceTold_50 : decode cX12_isNonceTold 50 = .ok (.iinc 3 1, 3) := by decide +kernel
theorem dX12_isNonceTold_53 : decode cX12_isNonceTold 53 = .ok (.goto (-44), 3) := by decide +kernel
theorem dX12_isNonceTold_56 : decode cX12_isNonceTold 56 = .ok (.iload_n 2, 1) := by decide +kernel
theorem dX12_isNonceTold_57 : decode cX12_isNonceTold 57 = .ok (.ireturn, 1) := by decide +kernel
set_option maxRecDepth 20000 in
theorem ggX12_share_X12_weigh : GoodIn wsX12_share wsX12_weigh := goodIn_r _ [9, 10, 11, 12, 13, 14, 15, 16, 8, 17, 18, 19, 20, 21, 22, 23, 24, 25, 26, 27, 28, 29, 30, 31, 32, 33, 34, 35, 36, 37, 38, 39, 40, 41, 42, 43, 44, 45, 46, 47, 48, 49, 50, 51, 52, 53, 54, 55, 56, 57, 58, 59, 60, 61, 62, 63, 64, 65, 66, 67, 68, 69, 4, 70, 71, 72, 73, 74, 75, 76, 77, 78, 95, 96, 97, 98, 99, 100, 101, 102, 103, 104, 105, 106, 107, 108, 109, 110, 111, 112, 113, 114, 115, 116, 117, 118, 119, 120, 121, 122, 123, 124, 125, 126, 127, 128, 129, 130, 131, 132, 133, 134, 135, 136, 137, 138, 139, 140, 141, 142, 143, 144, 145, 146, 147, 148, 149, 150, 151, 152, 153, 154, 155, 156, 157, 158, 159, 160, 161, 162, 163, 164, 165, 166, 167, 168, 169, 170, 171, 172, 173, 174, 175] rfl (by decide +kernel)
set_option maxRecDepth 20000 in
theorem gX12_share_X12_weigh : GoodIn wsX12_share (wsV RX12 548 RX12 yX12_weigh wsX12_weigh) := goodIn_app (goodIn_of _ (by decide +kernel)) ggX12_share_X12_weigh
set_option maxRecDepth 20000 in
theorem ggX12_share_X12_times : GoodIn wsX12_share wsX12_times := goodIn_r _ [82, 83, 21, 84, 85, 86, 8, 87, 88, 89, 90, 4, 91, 73, 74, 75, 76, 77, 78, 95, 96, 97, 98, 99, 100, 101, 102, 103, 104, 105, 106, 107, 108, 109, 110, 111, 112, 113, 114, 115, 116, 117, 118, 119, 120, 121, 122, 123, 124, 125, 126, 127, 128, 129, 130, 131, 132, 133, 134, 135, 136, 137, 138, 139, 140, 141, 142, 143, 144, 145, 146, 147, 148, 149, 150, 151, 152, 153, 154, 155, 156, 157, 158, 159, 160, 161, 162, 163, 164, 165, 166, 167, 168, 169, 170, 171, 172, 173, 174, 175] rfl (by decide +kernel)
set_option maxRecDepth 20000 in
theorem gX12_share_X12_times : GoodIn wsX12_share (wsV RX12 393 RX12 yX12_times wsX12_times) := goodIn_app (goodIn_of _ (by decide +kernel)) ggX12_share_X12_times
set_option maxRecDepth 20000 in
theorem ggX12_share_X12_isNull : GoodIn wsX12_share wsX12_isNull := goodIn_r _ [94] rfl (by decide +kernel)
set_option maxRecDepth 20000 in
theorem gX12_share_X12_isNull : GoodIn wsX12_share (va_wsS RX12 377 yX12_isNull wsX12_isNull) := goodIn_app (goodIn_of _ (by decide +kernel)) ggX12_share_X12_isNull
set_option maxRecDepth 20000 in
theorem ggX12_share_X12_take : GoodIn wsX12_share wsX12_take := goodIn_r _ [78, 21] rfl (by decide +kernel)
set_option maxRecDepth 20000 in
theorem gX12_share_X12_take : GoodIn wsX12_share (va_wsS RX12 369 yX12_take wsX12_take) := goodIn_app (goodIn_of _ (by decide +kernel)) ggX12_share_X12_take
theorem dX12_share_0 : decode cX12_share 0 = .ok (.aload_n 0, 1) := by decide +kernel
theorem dX12_share_1 : decode cX12_share 1 = .ok (.aload_n 0, 1) := by decide +kernel
theorem dX12_share_2 : decode cX12_share 2 = .ok (.getfield 347, 3) := by decide +kernel
theorem dX12_share_5 : decode cX12_share 5 = .ok (.iload_n 2, 1) := by decide +kernel
theorem dX12_share_6 : decode cX12_share 6 = .ok (.invokevirtual 548, 3) := by decide +kernel
theorem dX12_share_9 : decode cX12_share 9 = .ok (.aload_n 0, 1) := by decide +kernel
theorem dX12_share_10 : decode cX12_share 10 = .ok (.aload_n 1, 1) := by decide +kernel
theorem dX12_share_11 : decode cX12_share 11 = .ok (.aload_n 0, 1) := by decide +kernel
theorem dX12_share_12 : decode cX12_share 12 = .ok (.getfield 146, 3) := by decide +kernel
theorem dX12_share_15 : decode cX12_share 15 = .ok (.aload_n 0, 1) := by decide +kernel
theorem dX12_share_16 : decode cX12_share 16 = .ok (.getfield 347, 3) := by decide +kernel
theorem dX12_share_19 : decode cX12_share 19 = .ok (.iconst 1, 1) := by decide +kernel
theorem dX12_share_20 : decode cX12_share 20 = .ok (.invokevirtual 393, 3) := by decide +kernel
theorem dX12_share_23 : decode cX12_share 23 = .ok (.aload_n 0, 1) := by decide +kernel
theorem dX12_share_24 : decode cX12_share 24 = .ok (.getfield 578, 3) := by decide +kernel
theorem dX12_share_27 : decode cX12_share 27 = .ok (.ifCond .eq 19, 3) := by decide +kernel
theorem dX12_share_30 : decode cX12_share 30 = .ok (.aload_n 1, 1) := by decide +kernel
theorem dX12_share_31 : decode cX12_share 31 = .ok (.invokestatic 377, 3) := by decide +kernel
theorem dX12_share_34 : decode cX12_share 34 = .ok (.ifCond .ne 12, 3) := by decide +kernel
theorem dX12_share_37 : decode cX12_share 37 = .ok (.aload_n 1, 1) := by decide +kernel
theorem dX12_share_38 : decode cX12_share 38 = .ok (.aload_n 0, 1) := by decide +kernel
theorem dX12_share_39 : decode cX12_share 39 = .ok (.getfield 27, 3) := by decide +kernel
theorem dX12_share_42 : decode cX12_share 42 = .ok (.aload_n 1, 1) := by decide +kernel
theorem dX12_share_43 : decode cX12_share 43 = .ok (.invokestatic 369, 3) := by decide +kernel
theorem dX12_share_46 : decode cX12_share 46 = .ok (.return_, 1) := by decide +kernel
set_option maxRecDepth 20000 in
theorem ggX12_part_X12_isRow : GoodIn wsX12_part wsX12_isRow := goodIn_r _ [16, 17, 18, 19, 15, 20] rfl (by decide +kernel)
set_option maxRecDepth 20000 in
theorem gX12_part_X12_isRow : GoodIn wsX12_part (va_wsS RX12 460 yX12_isRow wsX12_isRow) := goodIn_app (goodIn_of _ (by decide +kernel)) ggX12_part_X12_isRow
set_option maxRecDepth 20000 in
theorem ggX12_part_X12_isSigner : GoodIn wsX12_part wsX12_isSigner := goodIn_r _ [24, 25, 18, 19, 15, 20, 207, 208, 209, 210, 211, 212, 213, 214, 215, 216, 217, 218, 219, 220, 221, 222, 223, 224, 225, 226, 227, 228, 229, 230, 231, 232, 233, 234, 235, 236, 237, 238, 239, 240, 241, 242, 243, 244, 245, 246, 247, 248, 249, 250, 251, 252, 253, 254, 255, 256, 257, 258, 259, 260, 261, 262, 263, 264, 265, 266, 267, 268, 269, 270, 271, 272, 273, 274, 275, 276, 277, 278, 279, 280, 281, 282, 283, 284, 285, 286, 287] rfl (by decide +kernel)
set_option maxRecDepth 20000 in
theorem gX12_part_X12_isSigner : GoodIn wsX12_part (wsV RX12 558 RX12 yX12_isSigner wsX12_isSigner) := goodIn_app (goodIn_of _ (by decide +kernel)) ggX12_part_X12_isSigner
set_option maxRecDepth 20000 in
theorem ggX12_part_X12_isSecret : GoodIn wsX12_part wsX12_isSecret := goodIn_r _ [29, 30, 10, 31, 8, 32, 33, 15, 34, 35, 36, 37, 38, 39, 40, 207, 208, 209, 210, 211, 212, 213, 214, 215, 216, 217, 218, 219, 220, 221, 222, 223, 224, 225, 226, 227, 228, 229, 230, 231, 232, 233, 234, 235, 236, 237, 238, 239, 240, 241, 242, 243, 244, 245, 246, 247, 248, 249, 250, 251, 252, 253, 254, 255, 256, 257, 258, 259, 260, 261, 262, 263, 264, 265, 266, 267, 268, 269, 270, 271, 272, 273, 274, 275, 276, 277, 278, 279, 280, 281, 282, 283, 284, 285, 286, 287] rfl (by decide +kernel)
set_option maxRecDepth 20000 in
theorem gX12_part_X12_isSecret : GoodIn wsX12_part (wsV RX12 481 RX12 yX12_isSecret wsX12_isSecret) := goodIn_app (goodIn_of _ (by decide +kernel)) ggX12_part_X12_isSecret
set_option maxRecDepth 20000 in
theorem ggX12_part_X12_isNonceTold : GoodIn wsX12_part wsX12_isNonceTold := goodIn_r _ [44, 11, 45, 46, 207, 208, 209, 210, 211, 212, 213, 214, 215, 216, 217, 218, 219, 220, 221, 222, 223, 224, 225, 226, 227, 228, 229, 230, 231, 232, 233, 234, 235, 236, 237, 238, 239, 240, 241, 242, 243, 244, 245, 246, 247, 248, 249, 250, 251, 252, 253, 254, 255, 256, 257, 258, 259, 260, 261, 262, 263, 264, 265, 266, 267, 268, 269, 270, 271, 272, 273, 274, 275, 276, 277, 278, 279, 280, 281, 282, 283, 284, 285, 286, 287] rfl (by decide +kernel)
set_option maxRecDepth 20000 in
theorem gX12_part_X12_isNonceTold : GoodIn wsX12_part (wsV RX12 583 RX12 yX12_isNonceTold wsX12_isNonceTold) := goodIn_app (goodIn_of _ (by decide +kernel)) ggX12_part_X12_isNonceTold
set_option maxRecDepth 20000 in
theorem ggX12_part_X12_isSpent : GoodIn wsX12_part wsX12_isSpent := goodIn_r _ [50, 51, 207, 208, 209, 210, 211, 212, 213, 214, 215, 216, 217, 218, 219, 220, 221, 222, 223, 224, 225, 226, 227, 228, 229, 230, 231, 232, 233, 234, 235, 236, 237, 238, 239, 240, 241, 242, 243, 244, 245, 246, 247, 248, 249, 250, 251, 252, 253, 254, 255, 256, 257, 258, 259, 260, 261, 262, 263, 264, 265, 266, 267, 268, 269, 270, 271, 272, 273, 274, 275, 276, 277, 278, 279, 280, 281, 282, 283, 284, 285, 286, 287] rfl (by decide +kernel)
set_option maxRecDepth 20000 in
theorem gX12_part_X12_isSpent : GoodIn wsX12_part (wsV RX12 484 RX12 yX12_isSpent wsX12_isSpent) := goodIn_app (goodIn_of _ (by decide +kernel)) ggX12_part_X12_isSpent
set_option maxRecDepth 20000 in
theorem ggX12_part_X12_isOf : GoodIn wsX12_part wsX12_isOf := goodIn_r _ [55, 51, 10, 56, 57, 58, 59, 60, 15, 61, 62, 63, 64, 65, 66, 67, 68, 69, 70, 71, 72, 73, 74, 75, 76, 77, 78, 79, 80, 81, 82, 83, 84, 85, 86, 87, 88, 89, 35, 36, 37, 90, 91, 92, 93, 94, 95, 96, 97, 98, 99, 100, 101, 8, 102, 38, 39, 40, 103, 104, 105, 106, 107, 108, 109, 110, 111, 112, 113, 114, 115, 116, 117, 118, 119, 120, 121, 122, 123, 124, 125, 126, 127, 128, 129, 130, 131, 132, 133, 134, 135, 136, 137, 207, 208, 209, 210, 211, 212, 213, 214, 215, 216, 217, 218, 219, 220, 221, 222, 223, 224, 225, 226, 227, 228, 229, 230, 231, 232, 233, 234, 235, 236, 237, 238, 239, 240, 241, 242, 243, 244, 245, 246, 247, 248, 249, 250, 251, 252, 253, 254, 255, 256, 257, 258, 259, 260, 261, 262, 263, 264, 265, 266, 267, 268, 269, 270, 271, 272, 273, 274, 275, 276, 277, 278, 279, 280, 281, 282, 283, 284, 285, 286, 287] rfl (by decide +kernel)
set_option maxRecDepth 20000 in
theorem gX12_part_X12_isOf : GoodIn wsX12_part (wsV RX12 561 RX12 yX12_isOf wsX12_isOf) := goodIn_app (goodIn_of _ (by decide +kernel)) ggX12_part_X12_isOf
set_option maxRecDepth 20000 in
theorem ggX12_part_X12_times : GoodIn wsX12_part wsX12_times := goodIn_r _ [93, 94, 77, 95, 96, 97, 15, 98, 99, 100, 101, 8, 102, 38, 39, 40, 103, 104, 105, 207, 208, 209, 210, 211, 212, 213, 214, 215, 216, 217, 218, 219, 220, 221, 222, 223, 224, 225, 226, 227, 228, 229, 230, 231, 232, 233, 234, 235, 236, 237, 238, 239, 240, 241, 242, 243, 244, 245, 246, 247, 248, 249, 250, 251, 252, 253, 254, 255, 256, 257, 258, 259, 260, 261, 262, 263, 264, 265, 266, 267, 268, 269, 270, 271, 272, 273, 274, 275, 276, 277, 278, 279, 280, 281, 282, 283, 284, 285, 286, 287] rfl (by decide +kernel)
set_option maxRecDepth 20000 in
theorem gX12_part_X12_times : GoodIn wsX12_part (wsV RX12 393 RX12 yX12_times wsX12_times) := goodIn_app (goodIn_of _ (by decide +kernel)) ggX12_part_X12_times
set_option maxRecDepth 20000 in
theorem ggX12_part_X12_add : GoodIn wsX12_part wsX12_add := goodIn_r _ [109, 94, 77, 95, 96, 97, 15, 98, 99, 100, 101, 8, 102, 38, 39, 40, 103, 104, 105, 207, 208, 209, 210, 211, 212, 213, 214, 215, 216, 217, 218, 219, 220, 221, 222, 223, 224, 225, 226, 227, 228, 229, 230, 231, 232, 233, 234, 235, 236, 237, 238, 239, 240, 241, 242, 243, 244, 245, 246, 247, 248, 249, 250, 251, 252, 253, 254, 255, 256, 257, 258, 259, 260, 261, 262, 263, 264, 265, 266, 267, 268, 269, 270, 271, 272, 273, 274, 275, 276, 277, 278, 279, 280, 281, 282, 283, 284, 285, 286, 287] rfl (by decide +kernel)
set_option maxRecDepth 20000 in
theorem gX12_part_X12_add : GoodIn wsX12_part (wsV RX12 385 RX12 yX12_add wsX12_add) := goodIn_app (goodIn_of _ (by decide +kernel)) ggX12_part_X12_add
set_option maxRecDepth 20000 in
theorem ggX12_part_X12_isNull : GoodIn wsX12_part wsX12_isNull := goodIn_r _ [37] rfl (by decide +kernel)
set_option maxRecDepth 20000 in
theorem gX12_part_X12_isNull : GoodIn wsX12_part (va_wsS RX12 377 yX12_isNull wsX12_isNull) := goodIn_app (goodIn_of _ (by decide +kernel)) ggX12_part_X12_isNull
set_option maxRecDepth 20000 in
theorem ggX12_part_X12_take : GoodIn wsX12_part wsX12_take := goodIn_r _ [105, 77] rfl (by decide +kernel)
set_option maxRecDepth 20000 in
theorem gX12_part_X12_take : GoodIn wsX12_part (va_wsS RX12 369 yX12_take wsX12_take) := goodIn_app (goodIn_of _ (by decide +kernel)) ggX12_part_X12_take
set_option maxRecDepth 20000 in
theorem ggX12_part_X12_share : GoodIn wsX12_part wsX12_share := goodIn_r _ [141, 142, 143, 144, 8, 145, 146, 147, 15, 148, 25, 57, 149, 150, 151, 152, 153, 154, 74, 75, 76, 77, 155, 156, 157, 158, 159, 160, 161, 162, 163, 164, 165, 166, 167, 168, 169, 170, 171, 172, 173, 174, 175, 176, 177, 178, 179, 180, 181, 182, 183, 184, 185, 186, 187, 188, 189, 190, 191, 192, 193, 194, 195, 196, 197, 198, 199, 200, 201, 202, 32, 33, 34, 38, 39, 40, 103, 104, 105, 90, 91, 92, 93, 94, 95, 96, 97, 98, 99, 100, 101, 102, 35, 36, 37, 207, 208, 209, 210, 211, 212, 213, 214, 215, 216, 217, 218, 219, 220, 221, 222, 223, 224, 225, 226, 227, 228, 229, 230, 231, 232, 233, 234, 235, 236, 237, 238, 239, 240, 241, 242, 243, 244, 245, 246, 247, 248, 249, 250, 251, 252, 253, 254, 255, 256, 257, 258, 259, 260, 261, 262, 263, 264, 265, 266, 267, 268, 269, 270, 271, 272, 273, 274, 275, 276, 277, 278, 279, 280, 281, 282, 283, 284, 285, 286, 287] rfl (by decide +kernel)
set_option maxRecDepth 20000 in
theorem gX12_part_X12_share : GoodIn wsX12_part (wsV RX12 586 RX12 yX12_share wsX12_share) := goodIn_app (goodIn_of _ (by decide +kernel)) ggX12_part_X12_share
set_option maxRecDepth 20000 in
theorem ggX12_part_X12_bytesOf : GoodIn wsX12_part wsX12_bytesOf := goodIn_r _ [136, 137] rfl (by decide +kernel)
set_option maxRecDepth 20000 in
theorem gX12_part_X12_bytesOf : GoodIn wsX12_part (va_wsS RX12 426 yX12_bytesOf wsX12_bytesOf) := goodIn_app (goodIn_of _ (by decide +kernel)) ggX12_part_X12_bytesOf
set_option maxRecDepth 20000 in
theorem ggX12_part_X12_gives : GoodIn wsX12_part wsX12_gives := goodIn_r _ [206, 31, 12, 30, 207, 208, 209, 210, 211, 212, 213, 214, 215, 216, 217, 218, 219, 220, 221, 222, 223, 224, 225, 226, 227, 228, 229, 230, 231, 232, 233, 234, 235, 236, 237, 238, 239, 240, 241, 242, 243, 244, 245, 246, 247, 248, 249, 250, 251, 252, 253, 254, 255, 256, 257, 258, 259, 260, 261, 262, 263, 264, 265, 266, 267, 268, 269, 270, 271, 272, 273, 274, 275, 276, 277, 278, 279, 280, 281, 282, 283, 284, 285, 286, 287] rfl (by decide +kernel)
set_option maxRecDepth 20000 in
theorem gX12_part_X12_gives : GoodIn wsX12_part (wsV RX12 475 RX12 yX12_gives wsX12_gives) := goodIn_app (goodIn_of _ (by decide +kernel)) ggX12_part_X12_gives
theorem dX12_part_0 : decode cX12_part 0 = .ok (.iload_n 1, 1) := by decide +kernel
theorem dX12_part_1 : decode cX12_part 1 = .ok (.invokestatic 460, 3) := by decide +kernel
theorem dX12_part_4 : decode cX12_part 4 = .ok (.ifCond .eq 18, 3) := by decide +kernel
theorem dX12_part_7 : decode cX12_part 7 = .ok (.aload_n 0, 1) := by decide +kernel
theorem dX12_part_8 : decode cX12_part 8 = .ok (.iload_n 2, 1) := by decide +kernel
theorem dX12_part_9 : decode cX12_part 9 = .ok (.invokevirtual 558, 3) := by decide +kernel
theorem dX12_part_12 : decode cX12_part 12 = .ok (.ifCond .eq 10, 3) := by decide +kernel
theorem dX12_part_15 : decode cX12_part 15 = .ok (.iload_n 3, 1) := by decide +kernel
theorem dX12_part_16 : decode cX12_part 16 = .ok (.invokestatic 460, 3) := by decide +kernel
theorem dX12_part_19 : decode cX12_part 19 = .ok (.ifCond .ne 5, 3) := by decide +kernel
theorem dX12_part_22 : decode cX12_part 22 = .ok (.iconst (-1), 1) := by decide +kernel
theorem dX12_part_23 : decode cX12_part 23 = .ok (.ireturn, 1) := by decide +kernel
theorem dX12_part_24 : decode cX12_part 24 = .ok (.aload_n 0, 1) := by decide +kernel
theorem dX12_part_25 : decode cX12_part 25 = .ok (.getfield 529, 3) := by decide +kernel
theorem dX12_part_28 : decode cX12_part 28 = .ok (.ifCond .eq 19, 3) := by decide +kernel
theorem dX12_part_31 : decode cX12_part 31 = .ok (.aload_n 0, 1) := by decide +kernel
theorem dX12_part_32 : decode cX12_part 32 = .ok (.iload_n 3, 1) := by decide +kernel
theorem dX12_part_33 : decode cX12_part 33 = .ok (.invokevirtual 481, 3) := by decide +kernel
theorem dX12_part_36 : decode cX12_part 36 = .ok (.ifCond .eq 11, 3) := by decide +kernel
theorem dX12_part_39 : decode cX12_part 39 = .ok (.aload_n 0, 1) := by decide +kernel
theorem dX12_part_40 : decode cX12_part 40 = .ok (.iload_n 2, 1) := by decide +kernel
theorem dX12_part_41 : decode cX12_part 41 = .ok (.invokevirtual 583, 3) := by decide +kernel
theorem dX12_part_44 : decode cX12_part 44 = .ok (.ifCond .ne 6, 3) := by decide +kernel
theorem dX12_part_47 : decode cX12_part 47 = .ok (.bipush (-2), 2) := by decide +kernel
theorem dX12_part_49 : decode cX12_part 49 = .ok (.ireturn, 1) := by decide +kernel
theorem dX12_part_50 : decode cX12_part 50 = .ok (.aload_n 0, 1) := by decide +kernel
theorem dX12_part_51 : decode cX12_part 51 = .ok (.iconst 1, 1) := by decide +kernel
theorem dX12_part_52 : decode cX12_part 52 = .ok (.invokevirtual 484, 3) := by decide +kernel
theorem dX12_part_55 : decode cX12_part 55 = .ok (.ifCond .eq 6, 3) := by decide +kernel
theorem dX12_part_58 : decode cX12_part 58 = .ok (.bipush (-5), 2) := by decide +kernel
theorem dX12_part_60 : decode cX12_part 60 = .ok (.ireturn, 1) := by decide +kernel
theorem dX12_part_61 : decode cX12_part 61 = .ok (.aload_n 0, 1) := by decide +kernel
theorem dX12_part_62 : decode cX12_part 62 = .ok (.iload_n 2, 1) := by decide +kernel
theorem dX12_part_63 : decode cX12_part 63 = .ok (.invokevirtual 561, 3) := by decide +kernel
theorem dX12_part_66 : decode cX12_part 66 = .ok (.ifCond .ne 6, 3) := by decide +kernel
theorem dX12_part_69 : decode cX12_part 69 = .ok (.bipush (-2), 2) := by decide +kernel
theorem dX12_part_71 : decode cX12_part 71 = .ok (.ireturn, 1) := by decide +kernel
theorem dX12_part_72 : decode cX12_part 72 = .ok (.iconst 0, 1) := by decide +kernel
theorem dX12_part_73 : decode cX12_part 73 = .ok (.istore 4, 2) := by decide +kernel
theorem dX12_part_75 : decode cX12_part 75 = .ok (.iload 4, 2) := by decide +kernel
theorem dX12_part_77 : decode cX12_part 77 = .ok (.bipush 8, 2) := by decide +kernel
theorem dX12_part_79 : decode cX12_part 79 = .ok (.if_icmp .ge 47, 3) := by decide +kernel
theorem dX12_part_82 : decode cX12_part 82 = .ok (.aload_n 0, 1) := by decide +kernel
theorem dX12_part_83 : decode cX12_part 83 = .ok (.getfield 311, 3) := by decide +kernel
theorem dX12_part_86 : decode cX12_part 86 = .ok (.iload 4, 2) := by decide +kernel
theorem dX12_part_88 : decode cX12_part 88 = .ok (.aload_n 0, 1) := by decide +kernel
theorem dX12_part_89 : decode cX12_part 89 = .ok (.getfield 125, 3) := by decide +kernel
theorem dX12_part_92 : decode cX12_part 92 = .ok (.bipush 8, 2) := by decide +kernel
theorem dX12_part_94 : decode cX12_part 94 = .ok (.iload_n 2, 1) := by decide +kernel
theorem dX12_part_95 : decode cX12_part 95 = .ok (.imul, 1) := by decide +kernel
theorem dX12_part_96 : decode cX12_part 96 = .ok (.iload 4, 2) := by decide +kernel
theorem dX12_part_98 : decode cX12_part 98 = .ok (.iadd, 1) := by decide +kernel
theorem dX12_part_99 : decode cX12_part 99 = .ok (.laload, 1) := by decide +kernel
theorem dX12_part_100 : decode cX12_part 100 = .ok (.lastore, 1) := by decide +kernel
theorem dX12_part_101 : decode cX12_part 101 = .ok (.aload_n 0, 1) := by decide +kernel
theorem dX12_part_102 : decode cX12_part 102 = .ok (.getfield 314, 3) := by decide +kernel
theorem dX12_part_105 : decode cX12_part 105 = .ok (.iload 4, 2) := by decide +kernel
theorem dX12_part_107 : decode cX12_part 107 = .ok (.aload_n 0, 1) := by decide +kernel
theorem dX12_part_108 : decode cX12_part 108 = .ok (.getfield 128, 3) := by decide +kernel
theorem dX12_part_111 : decode cX12_part 111 = .ok (.bipush 8, 2) := by decide +kernel
theorem dX12_part_113 : decode cX12_part 113 = .ok (.iload_n 2, 1) := by decide +kernel
theorem dX12_part_114 : decode cX12_part 114 = .ok (.imul, 1) := by decide +kernel
theorem dX12_part_115 : decode cX12_part 115 = .ok (.iload 4, 2) := by decide +kernel
theorem dX12_part_117 : decode cX12_part 117 = .ok (.iadd, 1) := by decide +kernel
theorem dX12_part_118 : decode cX12_part 118 = .ok (.laload, 1) := by decide +kernel
theorem dX12_part_119 : decode cX12_part 119 = .ok (.lastore, 1) := by decide +kernel
theorem dX12_part_120 : decode cX12_part 120 = .ok (.iinc 4 1, 3) := by decide +kernel
theorem dX12_part_123 : decode cX12_part 123 = .ok (.goto (-48), 3) := by decide +kernel
theorem dX12_part_126 : decode cX12_part 126 = .ok (.aload_n 0, 1) := by decide +kernel
theorem dX12_part_127 : decode cX12_part 127 = .ok (.aload_n 0, 1) := by decide +kernel
theorem dX12_part_128 : decode cX12_part 128 = .ok (.getfield 314, 3) := by decide +kernel
theorem dX12_part_131 : decode cX12_part 131 = .ok (.aload_n 0, 1) := by decide +kernel
theorem dX12_part_132 : decode cX12_part 132 = .ok (.getfield 314, 3) := by decide +kernel
theorem dX12_part_135 : decode cX12_part 135 = .ok (.aload_n 0, 1) := by decide +kernel
theorem dX12_part_136 : decode cX12_part 136 = .ok (.getfield 143, 3) := by decide +kernel
theorem dX12_part_139 : decode cX12_part 139 = .ok (.iconst 1, 1) := by decide +kernel
theorem dX12_part_140 : decode cX12_part 140 = .ok (.invokevirtual 393, 3) := by decide +kernel
theorem dX12_part_143 : decode cX12_part 143 = .ok (.aload_n 0, 1) := by decide +kernel
theorem dX12_part_144 : decode cX12_part 144 = .ok (.aload_n 0, 1) := by decide +kernel
theorem dX12_part_145 : decode cX12_part 145 = .ok (.getfield 311, 3) := by decide +kernel
theorem dX12_part_148 : decode cX12_part 148 = .ok (.aload_n 0, 1) := by decide +kernel
theorem dX12_part_149 : decode cX12_part 149 = .ok (.getfield 311, 3) := by decide +kernel
theorem dX12_part_152 : decode cX12_part 152 = .ok (.aload_n 0, 1) := by decide +kernel
theorem dX12_part_153 : decode cX12_part 153 = .ok (.getfield 314, 3) := by decide +kernel
theorem dX12_part_156 : decode cX12_part 156 = .ok (.iconst 1, 1) := by decide +kernel
theorem dX12_part_157 : decode cX12_part 157 = .ok (.invokevirtual 385, 3) := by decide +kernel
theorem dX12_part_160 : decode cX12_part 160 = .ok (.aload_n 0, 1) := by decide +kernel
theorem dX12_part_161 : decode cX12_part 161 = .ok (.getfield 575, 3) := by decide +kernel
theorem dX12_part_164 : decode cX12_part 164 = .ok (.ifCond .eq 28, 3) := by decide +kernel
theorem dX12_part_167 : decode cX12_part 167 = .ok (.aload_n 0, 1) := by decide +kernel
theorem dX12_part_168 : decode cX12_part 168 = .ok (.getfield 311, 3) := by decide +kernel
theorem dX12_part_171 : decode cX12_part 171 = .ok (.invokestatic 377, 3) := by decide +kernel
theorem dX12_part_174 : decode cX12_part 174 = .ok (.ifCond .ne 18, 3) := by decide +kernel
theorem dX12_part_177 : decode cX12_part 177 = .ok (.aload_n 0, 1) := by decide +kernel
theorem dX12_part_178 : decode cX12_part 178 = .ok (.getfield 311, 3) := by decide +kernel
theorem dX12_part_181 : decode cX12_part 181 = .ok (.aload_n 0, 1) := by decide +kernel
theorem dX12_part_182 : decode cX12_part 182 = .ok (.getfield 27, 3) := by decide +kernel
theorem dX12_part_185 : decode cX12_part 185 = .ok (.aload_n 0, 1) := by decide +kernel
theorem dX12_part_186 : decode cX12_part 186 = .ok (.getfield 311, 3) := by decide +kernel
theorem dX12_part_189 : decode cX12_part 189 = .ok (.invokestatic 369, 3) := by decide +kernel
theorem dX12_part_192 : decode cX12_part 192 = .ok (.aload_n 0, 1) := by decide +kernel
theorem dX12_part_193 : decode cX12_part 193 = .ok (.aload_n 0, 1) := by decide +kernel
theorem dX12_part_194 : decode cX12_part 194 = .ok (.getfield 317, 3) := by decide +kernel
theorem dX12_part_197 : decode cX12_part 197 = .ok (.iload_n 2, 1) := by decide +kernel
theorem dX12_part_198 : decode cX12_part 198 = .ok (.invokevirtual 586, 3) := by decide +kernel
theorem dX12_part_201 : decode cX12_part 201 = .ok (.aload_n 0, 1) := by decide +kernel
theorem dX12_part_202 : decode cX12_part 202 = .ok (.aload_n 0, 1) := by decide +kernel
theorem dX12_part_203 : decode cX12_part 203 = .ok (.getfield 317, 3) := by decide +kernel
theorem dX12_part_206 : decode cX12_part 206 = .ok (.aload_n 0, 1) := by decide +kernel
theorem dX12_part_207 : decode cX12_part 207 = .ok (.getfield 317, 3) := by decide +kernel
theorem dX12_part_210 : decode cX12_part 210 = .ok (.aload_n 0, 1) := by decide +kernel
theorem dX12_part_211 : decode cX12_part 211 = .ok (.getfield 305, 3) := by decide +kernel
theorem dX12_part_214 : decode cX12_part 214 = .ok (.iconst 1, 1) := by decide +kernel
theorem dX12_part_215 : decode cX12_part 215 = .ok (.invokevirtual 393, 3) := by decide +kernel
theorem dX12_part_218 : decode cX12_part 218 = .ok (.aload_n 0, 1) := by decide +kernel
theorem dX12_part_219 : decode cX12_part 219 = .ok (.aload_n 0, 1) := by decide +kernel
theorem dX12_part_220 : decode cX12_part 220 = .ok (.getfield 311, 3) := by decide +kernel
theorem dX12_part_223 : decode cX12_part 223 = .ok (.aload_n 0, 1) := by decide +kernel
theorem dX12_part_224 : decode cX12_part 224 = .ok (.getfield 311, 3) := by decide +kernel
theorem dX12_part_227 : decode cX12_part 227 = .ok (.aload_n 0, 1) := by decide +kernel
theorem dX12_part_228 : decode cX12_part 228 = .ok (.getfield 317, 3) := by decide +kernel
theorem dX12_part_231 : decode cX12_part 231 = .ok (.iconst 1, 1) := by decide +kernel
theorem dX12_part_232 : decode cX12_part 232 = .ok (.invokevirtual 385, 3) := by decide +kernel
theorem dX12_part_235 : decode cX12_part 235 = .ok (.aload_n 0, 1) := by decide +kernel
theorem dX12_part_236 : decode cX12_part 236 = .ok (.getfield 121, 3) := by decide +kernel
theorem dX12_part_239 : decode cX12_part 239 = .ok (.iload_n 2, 1) := by decide +kernel
theorem dX12_part_240 : decode cX12_part 240 = .ok (.iconst 0, 1) := by decide +kernel
theorem dX12_part_241 : decode cX12_part 241 = .ok (.bastore, 1) := by decide +kernel
theorem dX12_part_242 : decode cX12_part 242 = .ok (.aload_n 0, 1) := by decide +kernel
theorem dX12_part_243 : decode cX12_part 243 = .ok (.getfield 302, 3) := by decide +kernel
theorem dX12_part_246 : decode cX12_part 246 = .ok (.iconst 0, 1) := by decide +kernel
theorem dX12_part_247 : decode cX12_part 247 = .ok (.aload_n 0, 1) := by decide +kernel
theorem dX12_part_248 : decode cX12_part 248 = .ok (.getfield 311, 3) := by decide +kernel
theorem dX12_part_251 : decode cX12_part 251 = .ok (.invokestatic 426, 3) := by decide +kernel
theorem dX12_part_254 : decode cX12_part 254 = .ok (.aload_n 0, 1) := by decide +kernel
theorem dX12_part_255 : decode cX12_part 255 = .ok (.iload_n 1, 1) := by decide +kernel
theorem dX12_part_256 : decode cX12_part 256 = .ok (.bipush 32, 2) := by decide +kernel
theorem dX12_part_258 : decode cX12_part 258 = .ok (.invokevirtual 475, 3) := by decide +kernel
theorem dX12_part_261 : decode cX12_part 261 = .ok (.ireturn, 1) := by decide +kernel
set_option maxRecDepth 20000 in
theorem ggX12_partHolds_X12_isSigner : GoodIn wsX12_partHolds wsX12_isSigner := goodIn_r _ [25, 26, 27, 28, 24, 29, 208, 209, 210, 211, 212, 213, 214, 215, 216, 217, 218, 219, 220, 221, 222, 223, 224, 225, 226, 227, 228, 229, 230, 231, 232, 233, 234, 235, 236, 237, 238, 239, 240, 241, 242, 243, 244, 245, 246, 247, 248, 249, 250, 251, 252, 253, 254, 255, 256, 257, 258, 259, 260, 261, 262, 263, 264, 265, 266, 267, 268, 269, 270, 271, 272, 273, 274, 275, 276, 277, 278, 279, 280, 281, 282, 283, 284, 285, 286, 287, 288] rfl (by decide +kernel)
set_option maxRecDepth 20000 in
theorem gX12_partHolds_X12_isSigner : GoodIn wsX12_partHolds (wsV RX12 558 RX12 yX12_isSigner wsX12_isSigner) := goodIn_app (goodIn_of _ (by decide +kernel)) ggX12_partHolds_X12_isSigner
set_option maxRecDepth 20000 in
theorem ggX12_partHolds_X12_isRow : GoodIn wsX12_partHolds wsX12_isRow := goodIn_r _ [32, 33, 27, 28, 24, 29] rfl (by decide +kernel)
set_option maxRecDepth 20000 in
theorem gX12_partHolds_X12_isRow : GoodIn wsX12_partHolds (va_wsS RX12 460 yX12_isRow wsX12_isRow) := goodIn_app (goodIn_of _ (by decide +kernel)) ggX12_partHolds_X12_isRow
set_option maxRecDepth 20000 in
theorem ggX12_partHolds_X12_numberOf : GoodIn wsX12_partHolds wsX12_numberOf := goodIn_r _ [36] rfl (by decide +kernel)
set_option maxRecDepth 20000 in
theorem gX12_partHolds_X12_numberOf : GoodIn wsX12_partHolds (va_wsS RX12 419 yX12_numberOf wsX12_numberOf) := goodIn_app (goodIn_of _ (by decide +kernel)) ggX12_partHolds_X12_numberOf
set_option maxRecDepth 20000 in
theorem ggX12_partHolds_X12_isBelow : GoodIn wsX12_partHolds wsX12_isBelow := goodIn_r _ [39] rfl (by decide +kernel)
set_option maxRecDepth 20000 in
theorem gX12_partHolds_X12_isBelow : GoodIn wsX12_partHolds (va_wsS RX12 365 yX12_isBelow wsX12_isBelow) := goodIn_app (goodIn_of _ (by decide +kernel)) ggX12_partHolds_X12_isBelow
set_option maxRecDepth 20000 in
theorem ggX12_partHolds_X12_isSpent : GoodIn wsX12_partHolds wsX12_isSpent := goodIn_r _ [43, 6, 208, 209, 210, 211, 212, 213, 214, 215, 216, 217, 218, 219, 220, 221, 222, 223, 224, 225, 226, 227, 228, 229, 230, 231, 232, 233, 234, 235, 236, 237, 238, 239, 240, 241, 242, 243, 244, 245, 246, 247, 248, 249, 250, 251, 252, 253, 254, 255, 256, 257, 258, 259, 260, 261, 262, 263, 264, 265, 266, 267, 268, 269, 270, 271, 272, 273, 274, 275, 276, 277, 278, 279, 280, 281, 282, 283, 284, 285, 286, 287, 288] rfl (by decide +kernel)
set_option maxRecDepth 20000 in
theorem gX12_partHolds_X12_isSpent : GoodIn wsX12_partHolds (wsV RX12 484 RX12 yX12_isSpent wsX12_isSpent) := goodIn_app (goodIn_of _ (by decide +kernel)) ggX12_partHolds_X12_isSpent
set_option maxRecDepth 20000 in
theorem ggX12_partHolds_X12_noSum : GoodIn wsX12_partHolds wsX12_noSum := goodIn_r _ [47, 15, 48, 49, 24, 50, 51, 208, 209, 210, 211, 212, 213, 214, 215, 216, 217, 218, 219, 220, 221, 222, 223, 224, 225, 226, 227, 228, 229, 230, 231, 232, 233, 234, 235, 236, 237, 238, 239, 240, 241, 242, 243, 244, 245, 246, 247, 248, 249, 250, 251, 252, 253, 254, 255, 256, 257, 258, 259, 260, 261, 262, 263, 264, 265, 266, 267, 268, 269, 270, 271, 272, 273, 274, 275, 276, 277, 278, 279, 280, 281, 282, 283, 284, 285, 286, 287, 288] rfl (by decide +kernel)
set_option maxRecDepth 20000 in
theorem gX12_partHolds_X12_noSum : GoodIn wsX12_partHolds (wsV RX12 514 RX12 yX12_noSum wsX12_noSum) := goodIn_app (goodIn_of _ (by decide +kernel)) ggX12_partHolds_X12_noSum
set_option maxRecDepth 20000 in
theorem ggX12_partHolds_X12_reads : GoodIn wsX12_partHolds wsX12_reads := goodIn_r _ [55, 56, 34, 35, 24, 36, 57, 58, 59, 60, 17, 10, 61, 62, 12, 63, 64, 37, 38, 39, 65, 66, 67, 68, 69, 70, 71, 72, 51, 73, 74, 75, 76, 77, 78, 79, 5, 80, 81, 82, 83, 84, 85, 86, 87, 88, 89, 90, 91, 92, 48, 49, 50, 93, 94, 95, 96, 97, 98, 99, 100, 101, 102, 208, 209, 210, 211, 212, 213, 214, 215, 216, 217, 218, 219, 220, 221, 222, 223, 224, 225, 226, 227, 228, 229, 230, 231, 232, 233, 234, 235, 236, 237, 238, 239, 240, 241, 242, 243, 244, 245, 246, 247, 248, 249, 250, 251, 252, 253, 254, 255, 256, 257, 258, 259, 260, 261, 262, 263, 264, 265, 266, 267, 268, 269, 270, 271, 272, 273, 274, 275, 276, 277, 278, 279, 280, 281, 282, 283, 284, 285, 286, 287, 288] rfl (by decide +kernel)
set_option maxRecDepth 20000 in
theorem gX12_partHolds_X12_reads : GoodIn wsX12_partHolds (wsV RX12 536 RX12 yX12_reads wsX12_reads) := goodIn_app (goodIn_of _ (by decide +kernel)) ggX12_partHolds_X12_reads
set_option maxRecDepth 20000 in
theorem ggX12_partHolds_X12_multiply : GoodIn wsX12_partHolds wsX12_multiply := goodIn_r _ [106, 13, 48, 49, 24, 50, 51, 107, 108, 109, 110, 61, 9, 64, 11, 111, 112, 113, 114, 100, 101, 102, 68, 69, 70, 71, 72, 73, 74, 75, 76, 77, 78, 79, 5, 17, 37, 38, 39, 80, 81, 82, 83, 84, 85, 86, 115, 116, 117, 118, 119, 65, 66, 67, 120, 121, 122, 123, 10, 12, 124, 125, 126, 127, 128, 87, 88, 89, 90, 91, 92, 208, 209, 210, 211, 212, 213, 214, 215, 216, 217, 218, 219, 220, 221, 222, 223, 224, 225, 226, 227, 228, 229, 230, 231, 232, 233, 234, 235, 236, 237, 238, 239, 240, 241, 242, 243, 244, 245, 246, 247, 248, 249, 250, 251, 252, 253, 254, 255, 256, 257, 258, 259, 260, 261, 262, 263, 264, 265, 266, 267, 268, 269, 270, 271, 272, 273, 274, 275, 276, 277, 278, 279, 280, 281, 282, 283, 284, 285, 286, 287, 288] rfl (by decide +kernel)
set_option maxRecDepth 20000 in
theorem gX12_partHolds_X12_multiply : GoodIn wsX12_partHolds (wsV RX12 490 RX12 yX12_multiply wsX12_multiply) := goodIn_app (goodIn_of _ (by decide +kernel)) ggX12_partHolds_X12_multiply
set_option maxRecDepth 20000 in
theorem ggX12_partHolds_X12_addToSum : GoodIn wsX12_partHolds wsX12_addToSum := goodIn_r _ [132, 13, 9, 20, 11, 16, 15, 100, 101, 24, 102, 133, 134, 135, 136, 10, 12, 65, 66, 67, 120, 121, 122, 123, 61, 64, 111, 112, 113, 114, 48, 49, 50, 51, 68, 69, 70, 71, 72, 73, 74, 75, 76, 77, 78, 79, 5, 17, 37, 38, 39, 80, 81, 82, 115, 116, 117, 118, 119, 83, 84, 85, 86, 107, 108, 109, 110, 124, 125, 126, 127, 128, 87, 88, 89, 90, 91, 92, 208, 209, 210, 211, 212, 213, 214, 215, 216, 217, 218, 219, 220, 221, 222, 223, 224, 225, 226, 227, 228, 229, 230, 231, 232, 233, 234, 235, 236, 237, 238, 239, 240, 241, 242, 243, 244, 245, 246, 247, 248, 249, 250, 251, 252, 253, 254, 255, 256, 257, 258, 259, 260, 261, 262, 263, 264, 265, 266, 267, 268, 269, 270, 271, 272, 273, 274, 275, 276, 277, 278, 279, 280, 281, 282, 283, 284, 285, 286, 287, 288] rfl (by decide +kernel)
set_option maxRecDepth 20000 in
theorem gX12_partHolds_X12_addToSum : GoodIn wsX12_partHolds (wsV RX12 517 RX12 yX12_addToSum wsX12_addToSum) := goodIn_app (goodIn_of _ (by decide +kernel)) ggX12_partHolds_X12_addToSum
set_option maxRecDepth 20000 in
theorem ggX12_partHolds_X12_set : GoodIn wsX12_partHolds wsX12_set := goodIn_r _ [67] rfl (by decide +kernel)
set_option maxRecDepth 20000 in
theorem gX12_partHolds_X12_set : GoodIn wsX12_partHolds (va_wsS RX12 381 yX12_set wsX12_set) := goodIn_app (goodIn_of _ (by decide +kernel)) ggX12_partHolds_X12_set
set_option maxRecDepth 20000 in
theorem ggX12_partHolds_X12_small : GoodIn wsX12_partHolds wsX12_small := goodIn_r _ [50, 51] rfl (by decide +kernel)
set_option maxRecDepth 20000 in
theorem gX12_partHolds_X12_small : GoodIn wsX12_partHolds (va_wsS RX12 389 yX12_small wsX12_small) := goodIn_app (goodIn_of _ (by decide +kernel)) ggX12_partHolds_X12_small
set_option maxRecDepth 20000 in
theorem ggX12_partHolds_X12_isNull : GoodIn wsX12_partHolds wsX12_isNull := goodIn_r _ [102] rfl (by decide +kernel)
set_option maxRecDepth 20000 in
theorem gX12_partHolds_X12_isNull : GoodIn wsX12_partHolds (va_wsS RX12 377 yX12_isNull wsX12_isNull) := goodIn_app (goodIn_of _ (by decide +kernel)) ggX12_partHolds_X12_isNull
set_option maxRecDepth 20000 in
theorem ggX12_partHolds_X12_take : GoodIn wsX12_partHolds wsX12_take := goodIn_r _ [82, 51] rfl (by decide +kernel)
set_option maxRecDepth 20000 in
theorem gX12_partHolds_X12_take : GoodIn wsX12_partHolds (va_wsS RX12 369 yX12_take wsX12_take) := goodIn_app (goodIn_of _ (by decide +kernel)) ggX12_partHolds_X12_take
set_option maxRecDepth 20000 in
theorem ggX12_partHolds_X12_share : GoodIn wsX12_partHolds wsX12_share := goodIn_r _ [140, 141, 142, 143, 5, 144, 145, 146, 24, 147, 26, 19, 148, 149, 150, 151, 152, 153, 48, 49, 50, 51, 154, 155, 156, 157, 158, 159, 160, 161, 162, 163, 164, 165, 166, 167, 168, 169, 170, 171, 172, 173, 174, 175, 176, 177, 178, 179, 180, 181, 182, 183, 184, 185, 186, 187, 188, 189, 190, 191, 192, 193, 194, 195, 196, 197, 198, 199, 200, 201, 34, 35, 36, 37, 38, 39, 80, 81, 82, 68, 69, 70, 71, 72, 73, 74, 75, 76, 77, 78, 79, 17, 100, 101, 102, 208, 209, 210, 211, 212, 213, 214, 215, 216, 217, 218, 219, 220, 221, 222, 223, 224, 225, 226, 227, 228, 229, 230, 231, 232, 233, 234, 235, 236, 237, 238, 239, 240, 241, 242, 243, 244, 245, 246, 247, 248, 249, 250, 251, 252, 253, 254, 255, 256, 257, 258, 259, 260, 261, 262, 263, 264, 265, 266, 267, 268, 269, 270, 271, 272, 273, 274, 275, 276, 277, 278, 279, 280, 281, 282, 283, 284, 285, 286, 287, 288] rfl (by decide +kernel)
set_option maxRecDepth 20000 in
theorem gX12_partHolds_X12_share : GoodIn wsX12_partHolds (wsV RX12 586 RX12 yX12_share wsX12_share) := goodIn_app (goodIn_of _ (by decide +kernel)) ggX12_partHolds_X12_share
set_option maxRecDepth 20000 in
theorem ggX12_partHolds_X12_generator : GoodIn wsX12_partHolds wsX12_generator := goodIn_r _ [205, 10, 206, 12, 207, 65, 66, 24, 67, 208, 209, 210, 211, 212, 213, 214, 215, 216, 217, 218, 219, 220, 221, 222, 223, 224, 225, 226, 227, 228, 229, 230, 231, 232, 233, 234, 235, 236, 237, 238, 239, 240, 241, 242, 243, 244, 245, 246, 247, 248, 249, 250, 251, 252, 253, 254, 255, 256, 257, 258, 259, 260, 261, 262, 263, 264, 265, 266, 267, 268, 269, 270, 271, 272, 273, 274, 275, 276, 277, 278, 279, 280, 281, 282, 283, 284, 285, 286, 287, 288] rfl (by decide +kernel)
set_option maxRecDepth 20000 in
theorem gX12_partHolds_X12_generator : GoodIn wsX12_partHolds (wsV RX12 487 RX12 yX12_generator wsX12_generator) := goodIn_app (goodIn_of _ (by decide +kernel)) ggX12_partHolds_X12_generator
set_option maxRecDepth 20000 in
theorem ggX12_partHolds_X12_isSame : GoodIn wsX12_partHolds wsX12_isSame := goodIn_r _ [95] rfl (by decide +kernel)
set_option maxRecDepth 20000 in
theorem gX12_partHolds_X12_isSame : GoodIn wsX12_partHolds (va_wsS RX12 411 yX12_isSame wsX12_isSame) := goodIn_app (goodIn_of _ (by decide +kernel)) ggX12_partHolds_X12_isSame
theorem dX12_partHolds_0 : decode cX12_partHolds 0 = .ok (.aload_n 0, 1) := by decide +kernel
theorem dX12_partHolds_1 : decode cX12_partHolds 1 = .ok (.iload_n 1, 1) := by decide +kernel
theorem dX12_partHolds_2 : decode cX12_partHolds 2 = .ok (.invokevirtual 558, 3) := by decide +kernel
theorem dX12_partHolds_5 : decode cX12_partHolds 5 = .ok (.ifCond .eq 10, 3) := by decide +kernel
theorem dX12_partHolds_8 : decode cX12_partHolds 8 = .ok (.iload_n 2, 1) := by decide +kernel
theorem dX12_partHolds_9 : decode cX12_partHolds 9 = .ok (.invokestatic 460, 3) := by decide +kernel
theorem dX12_partHolds_12 : decode cX12_partHolds 12 = .ok (.ifCond .ne 5, 3) := by decide +kernel
theorem dX12_partHolds_15 : decode cX12_partHolds 15 = .ok (.iconst (-1), 1) := by decide +kernel
theorem dX12_partHolds_16 : decode cX12_partHolds 16 = .ok (.ireturn, 1) := by decide +kernel
theorem dX12_partHolds_17 : decode cX12_partHolds 17 = .ok (.aload_n 0, 1) := by decide +kernel
theorem dX12_partHolds_18 : decode cX12_partHolds 18 = .ok (.getfield 529, 3) := by decide +kernel
theorem dX12_partHolds_21 : decode cX12_partHolds 21 = .ok (.ifCond .eq 14, 3) := by decide +kernel
theorem dX12_partHolds_24 : decode cX12_partHolds 24 = .ok (.aload_n 0, 1) := by decide +kernel
theorem dX12_partHolds_25 : decode cX12_partHolds 25 = .ok (.getfield 96, 3) := by decide +kernel
theorem dX12_partHolds_28 : decode cX12_partHolds 28 = .ok (.iload_n 2, 1) := by decide +kernel
theorem dX12_partHolds_29 : decode cX12_partHolds 29 = .ok (.iaload, 1) := by decide +kernel
theorem dX12_partHolds_30 : decode cX12_partHolds 30 = .ok (.bipush 32, 2) := by decide +kernel
theorem dX12_partHolds_32 : decode cX12_partHolds 32 = .ok (.if_icmp .eq 6, 3) := by decide +kernel
theorem dX12_partHolds_35 : decode cX12_partHolds 35 = .ok (.bipush (-2), 2) := by decide +kernel
theorem dX12_partHolds_37 : decode cX12_partHolds 37 = .ok (.ireturn, 1) := by decide +kernel
theorem dX12_partHolds_38 : decode cX12_partHolds 38 = .ok (.aload_n 0, 1) := by decide +kernel
theorem dX12_partHolds_39 : decode cX12_partHolds 39 = .ok (.getfield 335, 3) := by decide +kernel
theorem dX12_partHolds_42 : decode cX12_partHolds 42 = .ok (.aload_n 0, 1) := by decide +kernel
theorem dX12_partHolds_43 : decode cX12_partHolds 43 = .ok (.getfield 100, 3) := by decide +kernel
theorem dX12_partHolds_46 : decode cX12_partHolds 46 = .ok (.bipush 100, 2) := by decide +kernel
theorem dX12_partHolds_48 : decode cX12_partHolds 48 = .ok (.iload_n 2, 1) := by decide +kernel
theorem dX12_partHolds_49 : decode cX12_partHolds 49 = .ok (.imul, 1) := by decide +kernel
theorem dX12_partHolds_50 : decode cX12_partHolds 50 = .ok (.invokestatic 419, 3) := by decide +kernel
theorem dX12_partHolds_53 : decode cX12_partHolds 53 = .ok (.aload_n 0, 1) := by decide +kernel
theorem dX12_partHolds_54 : decode cX12_partHolds 54 = .ok (.getfield 335, 3) := by decide +kernel
theorem dX12_partHolds_57 : decode cX12_partHolds 57 = .ok (.aload_n 0, 1) := by decide +kernel
theorem dX12_partHolds_58 : decode cX12_partHolds 58 = .ok (.getfield 27, 3) := by decide +kernel
theorem dX12_partHolds_61 : decode cX12_partHolds 61 = .ok (.invokestatic 365, 3) := by decide +kernel
theorem dX12_partHolds_64 : decode cX12_partHolds 64 = .ok (.ifCond .ne 5, 3) := by decide +kernel
theorem dX12_partHolds_67 : decode cX12_partHolds 67 = .ok (.iconst 0, 1) := by decide +kernel
theorem dX12_partHolds_68 : decode cX12_partHolds 68 = .ok (.ireturn, 1) := by decide +kernel
theorem dX12_partHolds_69 : decode cX12_partHolds 69 = .ok (.aload_n 0, 1) := by decide +kernel
theorem dX12_partHolds_70 : decode cX12_partHolds 70 = .ok (.iconst 3, 1) := by decide +kernel
theorem dX12_partHolds_71 : decode cX12_partHolds 71 = .ok (.invokevirtual 484, 3) := by decide +kernel
theorem dX12_partHolds_74 : decode cX12_partHolds 74 = .ok (.ifCond .eq 6, 3) := by decide +kernel
theorem dX12_partHolds_77 : decode cX12_partHolds 77 = .ok (.bipush (-5), 2) := by decide +kernel
theorem dX12_partHolds_79 : decode cX12_partHolds 79 = .ok (.ireturn, 1) := by decide +kernel
theorem dX12_partHolds_80 : decode cX12_partHolds 80 = .ok (.aload_n 0, 1) := by decide +kernel
theorem dX12_partHolds_81 : decode cX12_partHolds 81 = .ok (.dup, 1) := by decide +kernel
theorem dX12_partHolds_82 : decode cX12_partHolds 82 = .ok (.getfield 478, 3) := by decide +kernel
theorem dX12_partHolds_85 : decode cX12_partHolds 85 = .ok (.iconst 3, 1) := by decide +kernel
theorem dX12_partHolds_86 : decode cX12_partHolds 86 = .ok (.iadd, 1) := by decide +kernel
theorem dX12_partHolds_87 : decode cX12_partHolds 87 = .ok (.putfield 478, 3) := by decide +kernel
theorem dX12_partHolds_90 : decode cX12_partHolds 90 = .ok (.aload_n 0, 1) := by decide +kernel
theorem dX12_partHolds_91 : decode cX12_partHolds 91 = .ok (.invokevirtual 514, 3) := by decide +kernel
theorem dX12_partHolds_94 : decode cX12_partHolds 94 = .ok (.aload_n 0, 1) := by decide +kernel
theorem dX12_partHolds_95 : decode cX12_partHolds 95 = .ok (.aload_n 0, 1) := by decide +kernel
theorem dX12_partHolds_96 : decode cX12_partHolds 96 = .ok (.getfield 137, 3) := by decide +kernel
theorem dX12_partHolds_99 : decode cX12_partHolds 99 = .ok (.bipush 66, 2) := by decide +kernel
theorem dX12_partHolds_101 : decode cX12_partHolds 101 = .ok (.iload_n 1, 1) := by decide +kernel
theorem dX12_partHolds_102 : decode cX12_partHolds 102 = .ok (.imul, 1) := by decide +kernel
theorem dX12_partHolds_103 : decode cX12_partHolds 103 = .ok (.bipush 33, 2) := by decide +kernel
theorem dX12_partHolds_105 : decode cX12_partHolds 105 = .ok (.iadd, 1) := by decide +kernel
theorem dX12_partHolds_106 : decode cX12_partHolds 106 = .ok (.invokevirtual 536, 3) := by decide +kernel
theorem dX12_partHolds_109 : decode cX12_partHolds 109 = .ok (.istore_n 3, 1) := by decide +kernel
theorem dX12_partHolds_110 : decode cX12_partHolds 110 = .ok (.aload_n 0, 1) := by decide +kernel
theorem dX12_partHolds_111 : decode cX12_partHolds 111 = .ok (.aload_n 0, 1) := by decide +kernel
theorem dX12_partHolds_112 : decode cX12_partHolds 112 = .ok (.getfield 143, 3) := by decide +kernel
theorem dX12_partHolds_115 : decode cX12_partHolds 115 = .ok (.invokevirtual 490, 3) := by decide +kernel
theorem dX12_partHolds_118 : decode cX12_partHolds 118 = .ok (.aload_n 0, 1) := by decide +kernel
theorem dX12_partHolds_119 : decode cX12_partHolds 119 = .ok (.invokevirtual 517, 3) := by decide +kernel
theorem dX12_partHolds_122 : decode cX12_partHolds 122 = .ok (.aload_n 0, 1) := by decide +kernel
theorem dX12_partHolds_123 : decode cX12_partHolds 123 = .ok (.aload_n 0, 1) := by decide +kernel
theorem dX12_partHolds_124 : decode cX12_partHolds 124 = .ok (.getfield 137, 3) := by decide +kernel
theorem dX12_partHolds_127 : decode cX12_partHolds 127 = .ok (.bipush 66, 2) := by decide +kernel
theorem dX12_partHolds_129 : decode cX12_partHolds 129 = .ok (.iload_n 1, 1) := by decide +kernel
theorem dX12_partHolds_130 : decode cX12_partHolds 130 = .ok (.imul, 1) := by decide +kernel
theorem dX12_partHolds_131 : decode cX12_partHolds 131 = .ok (.invokevirtual 536, 3) := by decide +kernel
theorem dX12_partHolds_134 : decode cX12_partHolds 134 = .ok (.istore_n 3, 1) := by decide +kernel
theorem dX12_partHolds_135 : decode cX12_partHolds 135 = .ok (.aload_n 0, 1) := by decide +kernel
theorem dX12_partHolds_136 : decode cX12_partHolds 136 = .ok (.getfield 167, 3) := by decide +kernel
theorem dX12_partHolds_139 : decode cX12_partHolds 139 = .ok (.aload_n 0, 1) := by decide +kernel
theorem dX12_partHolds_140 : decode cX12_partHolds 140 = .ok (.getfield 176, 3) := by decide +kernel
theorem dX12_partHolds_143 : decode cX12_partHolds 143 = .ok (.invokestatic 381, 3) := by decide +kernel
theorem dX12_partHolds_146 : decode cX12_partHolds 146 = .ok (.aload_n 0, 1) := by decide +kernel
theorem dX12_partHolds_147 : decode cX12_partHolds 147 = .ok (.getfield 170, 3) := by decide +kernel
theorem dX12_partHolds_150 : decode cX12_partHolds 150 = .ok (.aload_n 0, 1) := by decide +kernel
theorem dX12_partHolds_151 : decode cX12_partHolds 151 = .ok (.getfield 179, 3) := by decide +kernel
theorem dX12_partHolds_154 : decode cX12_partHolds 154 = .ok (.invokestatic 381, 3) := by decide +kernel
theorem dX12_partHolds_157 : decode cX12_partHolds 157 = .ok (.aload_n 0, 1) := by decide +kernel
theorem dX12_partHolds_158 : decode cX12_partHolds 158 = .ok (.getfield 173, 3) := by decide +kernel
theorem dX12_partHolds_161 : decode cX12_partHolds 161 = .ok (.lconst 1, 1) := by decide +kernel
theorem dX12_partHolds_162 : decode cX12_partHolds 162 = .ok (.invokestatic 389, 3) := by decide +kernel
theorem dX12_partHolds_165 : decode cX12_partHolds 165 = .ok (.aload_n 0, 1) := by decide +kernel
theorem dX12_partHolds_166 : decode cX12_partHolds 166 = .ok (.invokevirtual 517, 3) := by decide +kernel
theorem dX12_partHolds_169 : decode cX12_partHolds 169 = .ok (.aload_n 0, 1) := by decide +kernel
theorem dX12_partHolds_170 : decode cX12_partHolds 170 = .ok (.getfield 575, 3) := by decide +kernel
theorem dX12_partHolds_173 : decode cX12_partHolds 173 = .ok (.ifCond .eq 38, 3) := by decide +kernel
theorem dX12_partHolds_176 : decode cX12_partHolds 176 = .ok (.aload_n 0, 1) := by decide +kernel
theorem dX12_partHolds_177 : decode cX12_partHolds 177 = .ok (.getfield 329, 3) := by decide +kernel
theorem dX12_partHolds_180 : decode cX12_partHolds 180 = .ok (.invokestatic 377, 3) := by decide +kernel
theorem dX12_partHolds_183 : decode cX12_partHolds 183 = .ok (.ifCond .ne 28, 3) := by decide +kernel
theorem dX12_partHolds_186 : decode cX12_partHolds 186 = .ok (.aload_n 0, 1) := by decide +kernel
theorem dX12_partHolds_187 : decode cX12_partHolds 187 = .ok (.getfield 326, 3) := by decide +kernel
theorem dX12_partHolds_190 : decode cX12_partHolds 190 = .ok (.invokestatic 377, 3) := by decide +kernel
theorem dX12_partHolds_193 : decode cX12_partHolds 193 = .ok (.ifCond .ne 18, 3) := by decide +kernel
theorem dX12_partHolds_196 : decode cX12_partHolds 196 = .ok (.aload_n 0, 1) := by decide +kernel
theorem dX12_partHolds_197 : decode cX12_partHolds 197 = .ok (.getfield 326, 3) := by decide +kernel
theorem dX12_partHolds_200 : decode cX12_partHolds 200 = .ok (.aload_n 0, 1) := by decide +kernel
theorem dX12_partHolds_201 : decode cX12_partHolds 201 = .ok (.getfield 15, 3) := by decide +kernel
theorem dX12_partHolds_204 : decode cX12_partHolds 204 = .ok (.aload_n 0, 1) := by decide +kernel
theorem dX12_partHolds_205 : decode cX12_partHolds 205 = .ok (.getfield 326, 3) := by decide +kernel
theorem dX12_partHolds_208 : decode cX12_partHolds 208 = .ok (.invokestatic 369, 3) := by decide +kernel
theorem dX12_partHolds_211 : decode cX12_partHolds 211 = .ok (.aload_n 0, 1) := by decide +kernel
theorem dX12_partHolds_212 : decode cX12_partHolds 212 = .ok (.aload_n 0, 1) := by decide +kernel
theorem dX12_partHolds_213 : decode cX12_partHolds 213 = .ok (.getfield 317, 3) := by decide +kernel
theorem dX12_partHolds_216 : decode cX12_partHolds 216 = .ok (.iload_n 1, 1) := by decide +kernel
theorem dX12_partHolds_217 : decode cX12_partHolds 217 = .ok (.invokevirtual 586, 3) := by decide +kernel
theorem dX12_partHolds_220 : decode cX12_partHolds 220 = .ok (.aload_n 0, 1) := by decide +kernel
theorem dX12_partHolds_221 : decode cX12_partHolds 221 = .ok (.aload_n 0, 1) := by decide +kernel
theorem dX12_partHolds_222 : decode cX12_partHolds 222 = .ok (.getfield 118, 3) := by decide +kernel
theorem dX12_partHolds_225 : decode cX12_partHolds 225 = .ok (.bipush 33, 2) := by decide +kernel
theorem dX12_partHolds_227 : decode cX12_partHolds 227 = .ok (.iload_n 1, 1) := by decide +kernel
theorem dX12_partHolds_228 : decode cX12_partHolds 228 = .ok (.imul, 1) := by decide +kernel
theorem dX12_partHolds_229 : decode cX12_partHolds 229 = .ok (.invokevirtual 536, 3) := by decide +kernel
theorem dX12_partHolds_232 : decode cX12_partHolds 232 = .ok (.istore_n 3, 1) := by decide +kernel
theorem dX12_partHolds_233 : decode cX12_partHolds 233 = .ok (.aload_n 0, 1) := by decide +kernel
theorem dX12_partHolds_234 : decode cX12_partHolds 234 = .ok (.aload_n 0, 1) := by decide +kernel
theorem dX12_partHolds_235 : decode cX12_partHolds 235 = .ok (.getfield 317, 3) := by decide +kernel
theorem dX12_partHolds_238 : decode cX12_partHolds 238 = .ok (.invokevirtual 490, 3) := by decide +kernel
theorem dX12_partHolds_241 : decode cX12_partHolds 241 = .ok (.aload_n 0, 1) := by decide +kernel
theorem dX12_partHolds_242 : decode cX12_partHolds 242 = .ok (.invokevirtual 517, 3) := by decide +kernel
theorem dX12_partHolds_245 : decode cX12_partHolds 245 = .ok (.aload_n 0, 1) := by decide +kernel
theorem dX12_partHolds_246 : decode cX12_partHolds 246 = .ok (.invokevirtual 487, 3) := by decide +kernel
theorem dX12_partHolds_249 : decode cX12_partHolds 249 = .ok (.aload_n 0, 1) := by decide +kernel
theorem dX12_partHolds_250 : decode cX12_partHolds 250 = .ok (.aload_n 0, 1) := by decide +kernel
theorem dX12_partHolds_251 : decode cX12_partHolds 251 = .ok (.getfield 335, 3) := by decide +kernel
theorem dX12_partHolds_254 : decode cX12_partHolds 254 = .ok (.invokevirtual 490, 3) := by decide +kernel
theorem dX12_partHolds_257 : decode cX12_partHolds 257 = .ok (.aload_n 0, 1) := by decide +kernel
theorem dX12_partHolds_258 : decode cX12_partHolds 258 = .ok (.getfield 173, 3) := by decide +kernel
theorem dX12_partHolds_261 : decode cX12_partHolds 261 = .ok (.invokestatic 377, 3) := by decide +kernel
theorem dX12_partHolds_264 : decode cX12_partHolds 264 = .ok (.ifCond .eq 17, 3) := by decide +kernel
theorem dX12_partHolds_267 : decode cX12_partHolds 267 = .ok (.aload_n 0, 1) := by decide +kernel
theorem dX12_partHolds_268 : decode cX12_partHolds 268 = .ok (.getfield 329, 3) := by decide +kernel
theorem dX12_partHolds_271 : decode cX12_partHolds 271 = .ok (.invokestatic 377, 3) := by decide +kernel
theorem dX12_partHolds_274 : decode cX12_partHolds 274 = .ok (.ifCond .eq 7, 3) := by decide +kernel
theorem dX12_partHolds_277 : decode cX12_partHolds 277 = .ok (.iconst 1, 1) := by decide +kernel
theorem dX12_partHolds_278 : decode cX12_partHolds 278 = .ok (.goto 4, 3) := by decide +kernel
theorem dX12_partHolds_281 : decode cX12_partHolds 281 = .ok (.iconst 0, 1) := by decide +kernel
theorem dX12_partHolds_282 : decode cX12_partHolds 282 = .ok (.istore 4, 2) := by decide +kernel
theorem dX12_partHolds_284 : decode cX12_partHolds 284 = .ok (.iload 4, 2) := by decide +kernel
theorem dX12_partHolds_286 : decode cX12_partHolds 286 = .ok (.ifCond .ne 51, 3) := by decide +kernel
theorem dX12_partHolds_289 : decode cX12_partHolds 289 = .ok (.aload_n 0, 1) := by decide +kernel
theorem dX12_partHolds_290 : decode cX12_partHolds 290 = .ok (.getfield 173, 3) := by decide +kernel
theorem dX12_partHolds_293 : decode cX12_partHolds 293 = .ok (.invokestatic 377, 3) := by decide +kernel
theorem dX12_partHolds_296 : decode cX12_partHolds 296 = .ok (.ifCond .ne 45, 3) := by decide +kernel
theorem dX12_partHolds_299 : decode cX12_partHolds 299 = .ok (.aload_n 0, 1) := by decide +kernel
theorem dX12_partHolds_300 : decode cX12_partHolds 300 = .ok (.getfield 329, 3) := by decide +kernel
theorem dX12_partHolds_303 : decode cX12_partHolds 303 = .ok (.invokestatic 377, 3) := by decide +kernel
theorem dX12_partHolds_306 : decode cX12_partHolds 306 = .ok (.ifCond .ne 35, 3) := by decide +kernel
theorem dX12_partHolds_309 : decode cX12_partHolds 309 = .ok (.aload_n 0, 1) := by decide +kernel
theorem dX12_partHolds_310 : decode cX12_partHolds 310 = .ok (.getfield 167, 3) := by decide +kernel
theorem dX12_partHolds_313 : decode cX12_partHolds 313 = .ok (.aload_n 0, 1) := by decide +kernel
theorem dX12_partHolds_314 : decode cX12_partHolds 314 = .ok (.getfield 323, 3) := by decide +kernel
theorem dX12_partHolds_317 : decode cX12_partHolds 317 = .ok (.invokestatic 411, 3) := by decide +kernel
theorem dX12_partHolds_320 : decode cX12_partHolds 320 = .ok (.ifCond .eq 21, 3) := by decide +kernel
theorem dX12_partHolds_323 : decode cX12_partHolds 323 = .ok (.aload_n 0, 1) := by decide +kernel
theorem dX12_partHolds_324 : decode cX12_partHolds 324 = .ok (.getfield 170, 3) := by decide +kernel
theorem dX12_partHolds_327 : decode cX12_partHolds 327 = .ok (.aload_n 0, 1) := by decide +kernel
theorem dX12_partHolds_328 : decode cX12_partHolds 328 = .ok (.getfield 326, 3) := by decide +kernel
theorem dX12_partHolds_331 : decode cX12_partHolds 331 = .ok (.invokestatic 411, 3) := by decide +kernel
theorem dX12_partHolds_334 : decode cX12_partHolds 334 = .ok (.ifCond .eq 7, 3) := by decide +kernel
theorem dX12_partHolds_337 : decode cX12_partHolds 337 = .ok (.iconst 1, 1) := by decide +kernel
theorem dX12_partHolds_338 : decode cX12_partHolds 338 = .ok (.goto 4, 3) := by decide +kernel
theorem dX12_partHolds_341 : decode cX12_partHolds 341 = .ok (.iconst 0, 1) := by decide +kernel
theorem dX12_partHolds_342 : decode cX12_partHolds 342 = .ok (.ireturn, 1) := by decide +kernel
set_option maxRecDepth 20000 in
theorem ggX12_together_X12_isRow : GoodIn wsX12_together wsX12_isRow := goodIn_r _ [13, 14, 15, 16, 12, 17] rfl (by decide +kernel)
set_option maxRecDepth 20000 in
theorem gX12_together_X12_isRow : GoodIn wsX12_together (va_wsS RX12 460 yX12_isRow wsX12_isRow) := goodIn_app (goodIn_of _ (by decide +kernel)) ggX12_together_X12_isRow
set_option maxRecDepth 20000 in
theorem ggX12_together_X12_small : GoodIn wsX12_together wsX12_small := goodIn_r _ [20, 21] rfl (by decide +kernel)
set_option maxRecDepth 20000 in
theorem gX12_together_X12_small : GoodIn wsX12_together (va_wsS RX12 389 yX12_small wsX12_small) := goodIn_app (goodIn_of _ (by decide +kernel)) ggX12_together_X12_small
set_option maxRecDepth 20000 in
theorem ggX12_together_X12_numberOf : GoodIn wsX12_together wsX12_numberOf := goodIn_r _ [24] rfl (by decide +kernel)
set_option maxRecDepth 20000 in
theorem gX12_together_X12_numberOf : GoodIn wsX12_together (va_wsS RX12 419 yX12_numberOf wsX12_numberOf) := goodIn_app (goodIn_of _ (by decide +kernel)) ggX12_together_X12_numberOf
set_option maxRecDepth 20000 in
theorem ggX12_together_X12_isBelow : GoodIn wsX12_together wsX12_isBelow := goodIn_r _ [27] rfl (by decide +kernel)
set_option maxRecDepth 20000 in
theorem gX12_together_X12_isBelow : GoodIn wsX12_together (va_wsS RX12 365 yX12_isBelow wsX12_isBelow) := goodIn_app (goodIn_of _ (by decide +kernel)) ggX12_together_X12_isBelow
set_option maxRecDepth 20000 in
theorem ggX12_together_X12_add : GoodIn wsX12_together wsX12_add := goodIn_r _ [31, 32, 21, 33, 34, 35, 12, 36, 37, 38, 39, 7, 40, 25, 26, 27, 41, 42, 43, 52, 53, 54, 55, 56, 57, 58, 59, 60, 61, 62, 63, 64, 65, 66, 67, 68, 69, 70, 71, 72, 73, 74, 75, 76, 77, 78, 79, 80, 81, 82, 83, 84, 85, 86, 87, 88, 89, 90, 91, 92, 93, 94, 95, 96, 97, 98, 99, 100, 101, 102, 103, 104, 105, 106, 107, 108, 109, 110, 111, 112, 113, 114, 115, 116, 117, 118, 119, 120, 121, 122, 123, 124, 125, 126, 127, 128, 129, 130, 131, 132] rfl (by decide +kernel)
set_option maxRecDepth 20000 in
theorem gX12_together_X12_add : GoodIn wsX12_together (wsV RX12 385 RX12 yX12_add wsX12_add) := goodIn_app (goodIn_of _ (by decide +kernel)) ggX12_together_X12_add
set_option maxRecDepth 20000 in
theorem ggX12_together_X12_bytesOf : GoodIn wsX12_together wsX12_bytesOf := goodIn_r _ [46, 47] rfl (by decide +kernel)
set_option maxRecDepth 20000 in
theorem gX12_together_X12_bytesOf : GoodIn wsX12_together (va_wsS RX12 426 yX12_bytesOf wsX12_bytesOf) := goodIn_app (goodIn_of _ (by decide +kernel)) ggX12_together_X12_bytesOf
set_option maxRecDepth 20000 in
theorem ggX12_together_X12_gives : GoodIn wsX12_together wsX12_gives := goodIn_r _ [51, 6, 8, 4, 52, 53, 54, 55, 56, 57, 58, 59, 60, 61, 62, 63, 64, 65, 66, 67, 68, 69, 70, 71, 72, 73, 74, 75, 76, 77, 78, 79, 80, 81, 82, 83, 84, 85, 86, 87, 88, 89, 90, 91, 92, 93, 94, 95, 96, 97, 98, 99, 100, 101, 102, 103, 104, 105, 106, 107, 108, 109, 110, 111, 112, 113, 114, 115, 116, 117, 118, 119, 120, 121, 122, 123, 124, 125, 126, 127, 128, 129, 130, 131, 132] rfl (by decide +kernel)
set_option maxRecDepth 20000 in
theorem gX12_together_X12_gives : GoodIn wsX12_together (wsV RX12 475 RX12 yX12_gives wsX12_gives) := goodIn_app (goodIn_of _ (by decide +kernel)) ggX12_together_X12_gives
theorem dX12_together_0 : decode cX12_together 0 = .ok (.iload_n 1, 1) := by decide +kernel
theorem dX12_together_1 : decode cX12_together 1 = .ok (.invokestatic 460, 3) := by decide +kernel
theorem dX12_together_4 : decode cX12_together 4 = .ok (.ifCond .eq 21, 3) := by decide +kernel
theorem dX12_together_7 : decode cX12_together 7 = .ok (.iload_n 2, 1) := by decide +kernel
theorem dX12_together_8 : decode cX12_together 8 = .ok (.invokestatic 460, 3) := by decide +kernel
theorem dX12_together_11 : decode cX12_together 11 = .ok (.ifCond .eq 14, 3) := by decide +kernel
theorem dX12_together_14 : decode cX12_together 14 = .ok (.iload_n 2, 1) := by decide +kernel
theorem dX12_together_15 : decode cX12_together 15 = .ok (.aload_n 0, 1) := by decide +kernel
theorem dX12_together_16 : decode cX12_together 16 = .ok (.getfield 533, 3) := by decide +kernel
theorem dX12_together_19 : decode cX12_together 19 = .ok (.iadd, 1) := by decide +kernel
theorem dX12_together_20 : decode cX12_together 20 = .ok (.bipush 16, 2) := by decide +kernel
theorem dX12_together_22 : decode cX12_together 22 = .ok (.if_icmp .le 5, 3) := by decide +kernel
theorem dX12_together_25 : decode cX12_together 25 = .ok (.iconst (-1), 1) := by decide +kernel
theorem dX12_together_26 : decode cX12_together 26 = .ok (.ireturn, 1) := by decide +kernel
theorem dX12_together_27 : decode cX12_together 27 = .ok (.aload_n 0, 1) := by decide +kernel
theorem dX12_together_28 : decode cX12_together 28 = .ok (.getfield 529, 3) := by decide +kernel
theorem dX12_together_31 : decode cX12_together 31 = .ok (.ifCond .ne 6, 3) := by decide +kernel
theorem dX12_together_34 : decode cX12_together 34 = .ok (.bipush (-2), 2) := by decide +kernel
theorem dX12_together_36 : decode cX12_together 36 = .ok (.ireturn, 1) := by decide +kernel
theorem dX12_together_37 : decode cX12_together 37 = .ok (.aload_n 0, 1) := by decide +kernel
theorem dX12_together_38 : decode cX12_together 38 = .ok (.getfield 338, 3) := by decide +kernel
theorem dX12_together_41 : decode cX12_together 41 = .ok (.lconst 0, 1) := by decide +kernel
theorem dX12_together_42 : decode cX12_together 42 = .ok (.invokestatic 389, 3) := by decide +kernel
theorem dX12_together_45 : decode cX12_together 45 = .ok (.iconst 0, 1) := by decide +kernel
theorem dX12_together_46 : decode cX12_together 46 = .ok (.istore_n 3, 1) := by decide +kernel
theorem dX12_together_47 : decode cX12_together 47 = .ok (.iload_n 3, 1) := by decide +kernel
theorem dX12_together_48 : decode cX12_together 48 = .ok (.aload_n 0, 1) := by decide +kernel
theorem dX12_together_49 : decode cX12_together 49 = .ok (.getfield 533, 3) := by decide +kernel
theorem dX12_together_52 : decode cX12_together 52 = .ok (.if_icmp .ge 76, 3) := by decide +kernel
theorem dX12_together_55 : decode cX12_together 55 = .ok (.aload_n 0, 1) := by decide +kernel
theorem dX12_together_56 : decode cX12_together 56 = .ok (.getfield 96, 3) := by decide +kernel
theorem dX12_together_59 : decode cX12_together 59 = .ok (.iload_n 2, 1) := by decide +kernel
theorem dX12_together_60 : decode cX12_together 60 = .ok (.iload_n 3, 1) := by decide +kernel
theorem dX12_together_61 : decode cX12_together 61 = .ok (.iadd, 1) := by decide +kernel
theorem dX12_together_62 : decode cX12_together 62 = .ok (.iaload, 1) := by decide +kernel
theorem dX12_together_63 : decode cX12_together 63 = .ok (.bipush 32, 2) := by decide +kernel
theorem dX12_together_65 : decode cX12_together 65 = .ok (.if_icmp .eq 6, 3) := by decide +kernel
theorem dX12_together_68 : decode cX12_together 68 = .ok (.bipush (-2), 2) := by decide +kernel
theorem dX12_together_70 : decode cX12_together 70 = .ok (.ireturn, 1) := by decide +kernel
theorem dX12_together_71 : decode cX12_together 71 = .ok (.aload_n 0, 1) := by decide +kernel
theorem dX12_together_72 : decode cX12_together 72 = .ok (.getfield 335, 3) := by decide +kernel
theorem dX12_together_75 : decode cX12_together 75 = .ok (.aload_n 0, 1) := by decide +kernel
theorem dX12_together_76 : decode cX12_together 76 = .ok (.getfield 100, 3) := by decide +kernel
theorem dX12_together_79 : decode cX12_together 79 = .ok (.bipush 100, 2) := by decide +kernel
theorem dX12_together_81 : decode cX12_together 81 = .ok (.iload_n 2, 1) := by decide +kernel
theorem dX12_together_82 : decode cX12_together 82 = .ok (.iload_n 3, 1) := by decide +kernel
theorem dX12_together_83 : decode cX12_together 83 = .ok (.iadd, 1) := by decide +kernel
theorem dX12_together_84 : decode cX12_together 84 = .ok (.imul, 1) := by decide +kernel
theorem dX12_together_85 : decode cX12_together 85 = .ok (.invokestatic 419, 3) := by decide +kernel
theorem dX12_together_88 : decode cX12_together 88 = .ok (.aload_n 0, 1) := by decide +kernel
theorem dX12_together_89 : decode cX12_together 89 = .ok (.getfield 335, 3) := by decide +kernel
theorem dX12_together_92 : decode cX12_together 92 = .ok (.aload_n 0, 1) := by decide +kernel
theorem dX12_together_93 : decode cX12_together 93 = .ok (.getfield 27, 3) := by decide +kernel
theorem dX12_together_96 : decode cX12_together 96 = .ok (.invokestatic 365, 3) := by decide +kernel
theorem dX12_together_99 : decode cX12_together 99 = .ok (.ifCond .ne 6, 3) := by decide +kernel
theorem dX12_together_102 : decode cX12_together 102 = .ok (.bipush (-2), 2) := by decide +kernel
theorem dX12_together_104 : decode cX12_together 104 = .ok (.ireturn, 1) := by decide +kernel
theorem dX12_together_105 : decode cX12_together 105 = .ok (.aload_n 0, 1) := by decide +kernel
theorem dX12_together_106 : decode cX12_together 106 = .ok (.aload_n 0, 1) := by decide +kernel
theorem dX12_together_107 : decode cX12_together 107 = .ok (.getfield 338, 3) := by decide +kernel
theorem dX12_together_110 : decode cX12_together 110 = .ok (.aload_n 0, 1) := by decide +kernel
theorem dX12_together_111 : decode cX12_together 111 = .ok (.getfield 338, 3) := by decide +kernel
theorem dX12_together_114 : decode cX12_together 114 = .ok (.aload_n 0, 1) := by decide +kernel
theorem dX12_together_115 : decode cX12_together 115 = .ok (.getfield 335, 3) := by decide +kernel
theorem dX12_together_118 : decode cX12_together 118 = .ok (.iconst 1, 1) := by decide +kernel
theorem dX12_together_119 : decode cX12_together 119 = .ok (.invokevirtual 385, 3) := by decide +kernel
theorem dX12_together_122 : decode cX12_together 122 = .ok (.iinc 3 1, 3) := by decide +kernel
theorem dX12_together_125 : decode cX12_together 125 = .ok (.goto (-78), 3) := by decide +kernel
theorem dX12_together_128 : decode cX12_together 128 = .ok (.aload_n 0, 1) := by decide +kernel
theorem dX12_together_129 : decode cX12_together 129 = .ok (.getfield 302, 3) := by decide +kernel
theorem dX12_together_132 : decode cX12_together 132 = .ok (.iconst 0, 1) := by decide +kernel
theorem dX12_together_133 : decode cX12_together 133 = .ok (.aload_n 0, 1) := by decide +kernel
theorem dX12_together_134 : decode cX12_together 134 = .ok (.getfield 149, 3) := by decide +kernel
theorem dX12_together_137 : decode cX12_together 137 = .ok (.invokestatic 426, 3) := by decide +kernel
theorem dX12_together_140 : decode cX12_together 140 = .ok (.aload_n 0, 1) := by decide +kernel
theorem dX12_together_141 : decode cX12_together 141 = .ok (.getfield 302, 3) := by decide +kernel
theorem dX12_together_144 : decode cX12_together 144 = .ok (.bipush 32, 2) := by decide +kernel
theorem dX12_together_146 : decode cX12_together 146 = .ok (.aload_n 0, 1) := by decide +kernel
theorem dX12_together_147 : decode cX12_together 147 = .ok (.getfield 338, 3) := by decide +kernel
theorem dX12_together_150 : decode cX12_together 150 = .ok (.invokestatic 426, 3) := by decide +kernel
theorem dX12_together_153 : decode cX12_together 153 = .ok (.aload_n 0, 1) := by decide +kernel
theorem dX12_together_154 : decode cX12_together 154 = .ok (.iload_n 1, 1) := by decide +kernel
theorem dX12_together_155 : decode cX12_together 155 = .ok (.bipush 64, 2) := by decide +kernel
theorem dX12_together_157 : decode cX12_together 157 = .ok (.invokevirtual 475, 3) := by decide +kernel
theorem dX12_together_160 : decode cX12_together 160 = .ok (.ireturn, 1) := by decide +kernel
theorem dX12_count_0 : decode cX12_count 0 = .ok (.iconst 0, 1) := by decide +kernel
theorem dX12_count_1 : decode cX12_count 1 = .ok (.istore_n 2, 1) := by decide +kernel
theorem dX12_count_2 : decode cX12_count 2 = .ok (.iload_n 1, 1) := by decide +kernel
theorem dX12_count_3 : decode cX12_count 3 = .ok (.tableswitch 117 0 5 #[37, 42, 42, 94, 107, 112], 37) := by decide +kernel
theorem dX12_count_40 : decode cX12_count 40 = .ok (.aload_n 0, 1) := by decide +kernel
theorem dX12_count_41 : decode cX12_count 41 = .ok (.getfield 533, 3) := by decide +kernel
theorem dX12_count_44 : decode cX12_count 44 = .ok (.ireturn, 1) := by decide +kernel
theorem dX12_count_45 : decode cX12_count 45 = .ok (.iconst 0, 1) := by decide +kernel
theorem dX12_count_46 : decode cX12_count 46 = .ok (.istore_n 3, 1) := by decide +kernel
theorem dX12_count_47 : decode cX12_count 47 = .ok (.iload_n 3, 1) := by decide +kernel
theorem dX12_count_48 : decode cX12_count 48 = .ok (.aload_n 0, 1) := by decide +kernel
theorem dX12_count_49 : decode cX12_count 49 = .ok (.getfield 533, 3) := by decide +kernel
theorem dX12_count_52 : decode cX12_count 52 = .ok (.if_icmp .ge 43, 3) := by decide +kernel
theorem dX12_count_55 : decode cX12_count 55 = .ok (.iload_n 2, 1) := by decide +kernel
theorem dX12_count_56 : decode cX12_count 56 = .ok (.iload_n 1, 1) := by decide +kernel
theorem dX12_count_57 : decode cX12_count 57 = .ok (.iconst 1, 1) := by decide +kernel
theorem dX12_count_58 : decode cX12_count 58 = .ok (.if_icmp .ne 15, 3) := by decide +kernel
theorem dX12_count_61 : decode cX12_count 61 = .ok (.aload_n 0, 1) := by decide +kernel
theorem dX12_count_62 : decode cX12_count 62 = .ok (.getfield 121, 3) := by decide +kernel
theorem dX12_count_65 : decode cX12_count 65 = .ok (.iload_n 3, 1) := by decide +kernel
theorem dX12_count_66 : decode cX12_count 66 = .ok (.baload, 1) := by decide +kernel
theorem dX12_count_67 : decode cX12_count 67 = .ok (.ifCond .eq 19, 3) := by decide +kernel
theorem dX12_count_70 : decode cX12_count 70 = .ok (.goto 12, 3) := by decide +kernel
theorem dX12_count_73 : decode cX12_count 73 = .ok (.aload_n 0, 1) := by decide +kernel
theorem dX12_count_74 : decode cX12_count 74 = .ok (.getfield 134, 3) := by decide +kernel
theorem dX12_count_77 : decode cX12_count 77 = .ok (.iload_n 3, 1) := by decide +kernel
theorem dX12_count_78 : decode cX12_count 78 = .ok (.baload, 1) := by decide +kernel
theorem dX12_count_79 : decode cX12_count 79 = .ok (.ifCond .eq 7, 3) := by decide +kernel
theorem dX12_count_82 : decode cX12_count 82 = .ok (.iconst 1, 1) := by decide +kernel
theorem dX12_count_83 : decode cX12_count 83 = .ok (.goto 4, 3) := by decide +kernel
theorem dX12_count_86 : decode cX12_count 86 = .ok (.iconst 0, 1) := by decide +kernel
theorem dX12_count_87 : decode cX12_count 87 = .ok (.iadd, 1) := by decide +kernel
theorem dX12_count_88 : decode cX12_count 88 = .ok (.istore_n 2, 1) := by decide +kernel
theorem dX12_count_89 : decode cX12_count 89 = .ok (.iinc 3 1, 3) := by decide +kernel
theorem dX12_count_92 : decode cX12_count 92 = .ok (.goto (-45), 3) := by decide +kernel
theorem dX12_count_95 : decode cX12_count 95 = .ok (.iload_n 2, 1) := by decide +kernel
theorem dX12_count_96 : decode cX12_count 96 = .ok (.ireturn, 1) := by decide +kernel
theorem dX12_count_97 : decode cX12_count 97 = .ok (.aload_n 0, 1) := by decide +kernel
theorem dX12_count_98 : decode cX12_count 98 = .ok (.getfield 529, 3) := by decide +kernel
theorem dX12_count_101 : decode cX12_count 101 = .ok (.ifCond .eq 7, 3) := by decide +kernel
theorem dX12_count_104 : decode cX12_count 104 = .ok (.iconst 1, 1) := by decide +kernel
theorem dX12_count_105 : decode cX12_count 105 = .ok (.goto 4, 3) := by decide +kernel
theorem dX12_count_108 : decode cX12_count 108 = .ok (.iconst 0, 1) := by decide +kernel
theorem dX12_count_109 : decode cX12_count 109 = .ok (.ireturn, 1) := by decide +kernel
theorem dX12_count_110 : decode cX12_count 110 = .ok (.aload_n 0, 1) := by decide +kernel
theorem dX12_count_111 : decode cX12_count 111 = .ok (.getfield 520, 3) := by decide +kernel
theorem dX12_count_114 : decode cX12_count 114 = .ok (.ireturn, 1) := by decide +kernel
theorem dX12_count_115 : decode cX12_count 115 = .ok (.aload_n 0, 1) := by decide +kernel
theorem dX12_count_116 : decode cX12_count 116 = .ok (.getfield 478, 3) := by decide +kernel
theorem dX12_count_119 : decode cX12_count 119 = .ok (.ireturn, 1) := by decide +kernel
theorem dX12_count_120 : decode cX12_count 120 = .ok (.iconst (-1), 1) := by decide +kernel
theorem dX12_count_121 : decode cX12_count 121 = .ok (.ireturn, 1) := by decide +kernel
