set_option maxRecDepth 20000 in
theorem ggX12_reads_X12_numberOf : GoodIn wsX12_reads wsX12_numberOf := goodIn_r _ [5] rfl (by decide +kernel)
set_option maxRecDepth 20000 in
theorem gX12_reads_X12_numberOf : GoodIn wsX12_reads (va_wsS RX12 419 yX12_numberOf wsX12_numberOf) := goodIn_app (goodIn_of _ (by decide +kernel)) ggX12_reads_X12_numberOf
set_option maxRecDepth 20000 in
theorem ggX12_reads_X12_lift : GoodIn wsX12_reads wsX12_lift := goodIn_r _ [9, 10, 11, 12, 13, 14, 15, 16, 17, 18, 4, 19, 20, 21, 22, 23, 24, 25, 26, 27, 28, 29, 30, 31, 32, 33, 34, 35, 36, 37, 38, 39, 40, 41, 42, 43, 44, 45, 46, 47, 48, 49, 50, 51, 52, 53, 54, 55, 56, 57, 58, 59, 60, 61, 62, 63, 64, 65, 66, 67, 68, 69, 70, 71, 72, 73, 74, 75, 76, 77, 78, 79, 80, 81, 82, 83, 84, 85, 86, 87, 88, 89, 90, 91, 92, 93, 94, 95, 96, 97, 98, 99, 100, 101, 102, 103, 104, 105, 106, 107, 108, 109, 110, 111, 112, 113, 114, 115, 116, 117, 118, 119, 120, 121, 122, 123, 124, 125, 126, 127, 128, 129, 130, 131, 132, 133, 134, 135, 136, 137, 138, 139, 140, 141, 142, 143] rfl (by decide +kernel)
set_option maxRecDepth 20000 in
theorem gX12_reads_X12_lift : GoodIn wsX12_reads (wsV RX12 423 RX12 yX12_lift wsX12_lift) := goodIn_app (goodIn_of _ (by decide +kernel)) ggX12_reads_X12_lift
set_option maxRecDepth 20000 in
theorem ggX12_reads_X12_negateQ : GoodIn wsX12_reads wsX12_negateQ := goodIn_r _ [59, 14, 10, 60, 61, 4, 62, 37, 38, 39, 28, 63, 64, 65, 66, 67, 68, 69, 70, 71, 72, 73, 74, 75, 76, 77, 78, 79, 80, 81, 82, 83, 84, 85, 86, 87, 88, 89, 90, 91, 92, 93, 94, 95, 96, 97, 98, 99, 100, 101, 102, 103, 104, 105, 106, 107, 108, 109, 110, 111, 112, 113, 114, 115, 116, 117, 118, 119, 120, 121, 122, 123, 124, 125, 126, 127, 128, 129, 130, 131, 132, 133, 134, 135, 136, 137, 138, 139, 140, 141, 142, 143] rfl (by decide +kernel)
set_option maxRecDepth 20000 in
theorem gX12_reads_X12_negateQ : GoodIn wsX12_reads (wsV RX12 414 RX12 yX12_negateQ wsX12_negateQ) := goodIn_app (goodIn_of _ (by decide +kernel)) ggX12_reads_X12_negateQ
theorem dX12_reads_0 : decode cX12_reads 0 = .ok (.aload_n 1, 1) := by decide +kernel
theorem dX12_reads_1 : decode cX12_reads 1 = .ok (.iload_n 2, 1) := by decide +kernel
theorem dX12_reads_2 : decode cX12_reads 2 = .ok (.iaload, 1) := by decide +kernel
theorem dX12_reads_3 : decode cX12_reads 3 = .ok (.iconst 2, 1) := by decide +kernel
theorem dX12_reads_4 : decode cX12_reads 4 = .ok (.if_icmp .eq 12, 3) := by decide +kernel
theorem dX12_reads_7 : decode cX12_reads 7 = .ok (.aload_n 1, 1) := by decide +kernel
theorem dX12_reads_8 : decode cX12_reads 8 = .ok (.iload_n 2, 1) := by decide +kernel
theorem dX12_reads_9 : decode cX12_reads 9 = .ok (.iaload, 1) := by decide +kernel
theorem dX12_reads_10 : decode cX12_reads 10 = .ok (.iconst 3, 1) := by decide +kernel
theorem dX12_reads_11 : decode cX12_reads 11 = .ok (.if_icmp .eq 5, 3) := by decide +kernel
theorem dX12_reads_14 : decode cX12_reads 14 = .ok (.iconst 0, 1) := by decide +kernel
theorem dX12_reads_15 : decode cX12_reads 15 = .ok (.ireturn, 1) := by decide +kernel
theorem dX12_reads_16 : decode cX12_reads 16 = .ok (.aload_n 0, 1) := by decide +kernel
theorem dX12_reads_17 : decode cX12_reads 17 = .ok (.getfield 205, 3) := by decide +kernel
theorem dX12_reads_20 : decode cX12_reads 20 = .ok (.aload_n 1, 1) := by decide +kernel
theorem dX12_reads_21 : decode cX12_reads 21 = .ok (.iload_n 2, 1) := by decide +kernel
theorem dX12_reads_22 : decode cX12_reads 22 = .ok (.iconst 1, 1) := by decide +kernel
theorem dX12_reads_23 : decode cX12_reads 23 = .ok (.iadd, 1) := by decide +kernel
theorem dX12_reads_24 : decode cX12_reads 24 = .ok (.invokestatic 419, 3) := by decide +kernel
theorem dX12_reads_27 : decode cX12_reads 27 = .ok (.aload_n 0, 1) := by decide +kernel
theorem dX12_reads_28 : decode cX12_reads 28 = .ok (.aload_n 0, 1) := by decide +kernel
theorem dX12_reads_29 : decode cX12_reads 29 = .ok (.getfield 205, 3) := by decide +kernel
theorem dX12_reads_32 : decode cX12_reads 32 = .ok (.invokevirtual 423, 3) := by decide +kernel
theorem dX12_reads_35 : decode cX12_reads 35 = .ok (.ifCond .ne 5, 3) := by decide +kernel
theorem dX12_reads_38 : decode cX12_reads 38 = .ok (.iconst 0, 1) := by decide +kernel
theorem dX12_reads_39 : decode cX12_reads 39 = .ok (.ireturn, 1) := by decide +kernel
theorem dX12_reads_40 : decode cX12_reads 40 = .ok (.aload_n 1, 1) := by decide +kernel
theorem dX12_reads_41 : decode cX12_reads 41 = .ok (.iload_n 2, 1) := by decide +kernel
theorem dX12_reads_42 : decode cX12_reads 42 = .ok (.iaload, 1) := by decide +kernel
theorem dX12_reads_43 : decode cX12_reads 43 = .ok (.iconst 3, 1) := by decide +kernel
theorem dX12_reads_44 : decode cX12_reads 44 = .ok (.if_icmp .ne 7, 3) := by decide +kernel
theorem dX12_reads_47 : decode cX12_reads 47 = .ok (.aload_n 0, 1) := by decide +kernel
theorem dX12_reads_48 : decode cX12_reads 48 = .ok (.invokevirtual 414, 3) := by decide +kernel
theorem dX12_reads_51 : decode cX12_reads 51 = .ok (.iconst 1, 1) := by decide +kernel
theorem dX12_reads_52 : decode cX12_reads 52 = .ok (.ireturn, 1) := by decide +kernel
set_option maxRecDepth 20000 in
theorem ggX12_tells_X12_isNull : GoodIn wsX12_tells wsX12_isNull := goodIn_r _ [7] rfl (by decide +kernel)
set_option maxRecDepth 20000 in
theorem gX12_tells_X12_isNull : GoodIn wsX12_tells (va_wsS RX12 377 yX12_isNull wsX12_isNull) := goodIn_app (goodIn_of _ (by decide +kernel)) ggX12_tells_X12_isNull
set_option maxRecDepth 20000 in
theorem ggX12_tells_X12_bytesOf : GoodIn wsX12_tells wsX12_bytesOf := goodIn_r _ [10, 11] rfl (by decide +kernel)
set_option maxRecDepth 20000 in
theorem gX12_tells_X12_bytesOf : GoodIn wsX12_tells (va_wsS RX12 426 yX12_bytesOf wsX12_bytesOf) := goodIn_app (goodIn_of _ (by decide +kernel)) ggX12_tells_X12_bytesOf
theorem dX12_tells_0 : decode cX12_tells 0 = .ok (.aload_n 0, 1) := by decide +kernel
theorem dX12_tells_1 : decode cX12_tells 1 = .ok (.getfield 173, 3) := by decide +kernel
theorem dX12_tells_4 : decode cX12_tells 4 = .ok (.invokestatic 377, 3) := by decide +kernel
theorem dX12_tells_7 : decode cX12_tells 7 = .ok (.istore_n 3, 1) := by decide +kernel
theorem dX12_tells_8 : decode cX12_tells 8 = .ok (.iconst 0, 1) := by decide +kernel
theorem dX12_tells_9 : decode cX12_tells 9 = .ok (.istore 4, 2) := by decide +kernel
theorem dX12_tells_11 : decode cX12_tells 11 = .ok (.iload 4, 2) := by decide +kernel
theorem dX12_tells_13 : decode cX12_tells 13 = .ok (.bipush 33, 2) := by decide +kernel
theorem dX12_tells_15 : decode cX12_tells 15 = .ok (.if_icmp .ge 20, 3) := by decide +kernel
theorem dX12_tells_18 : decode cX12_tells 18 = .ok (.iload_n 3, 1) := by decide +kernel
theorem dX12_tells_19 : decode cX12_tells 19 = .ok (.ifCond .eq 16, 3) := by decide +kernel
theorem dX12_tells_22 : decode cX12_tells 22 = .ok (.aload_n 1, 1) := by decide +kernel
theorem dX12_tells_23 : decode cX12_tells 23 = .ok (.iload_n 2, 1) := by decide +kernel
theorem dX12_tells_24 : decode cX12_tells 24 = .ok (.iload 4, 2) := by decide +kernel
theorem dX12_tells_26 : decode cX12_tells 26 = .ok (.iadd, 1) := by decide +kernel
theorem dX12_tells_27 : decode cX12_tells 27 = .ok (.iconst 0, 1) := by decide +kernel
theorem dX12_tells_28 : decode cX12_tells 28 = .ok (.iastore, 1) := by decide +kernel
theorem dX12_tells_29 : decode cX12_tells 29 = .ok (.iinc 4 1, 3) := by decide +kernel
theorem dX12_tells_32 : decode cX12_tells 32 = .ok (.goto (-21), 3) := by decide +kernel
theorem dX12_tells_35 : decode cX12_tells 35 = .ok (.iload_n 3, 1) := by decide +kernel
theorem dX12_tells_36 : decode cX12_tells 36 = .ok (.ifCond .ne 28, 3) := by decide +kernel
theorem dX12_tells_39 : decode cX12_tells 39 = .ok (.aload_n 1, 1) := by decide +kernel
theorem dX12_tells_40 : decode cX12_tells 40 = .ok (.iload_n 2, 1) := by decide +kernel
theorem dX12_tells_41 : decode cX12_tells 41 = .ok (.iconst 2, 1) := by decide +kernel
theorem dX12_tells_42 : decode cX12_tells 42 = .ok (.aload_n 0, 1) := by decide +kernel
theorem dX12_tells_43 : decode cX12_tells 43 = .ok (.getfield 170, 3) := by decide +kernel
theorem dX12_tells_46 : decode cX12_tells 46 = .ok (.iconst 0, 1) := by decide +kernel
theorem dX12_tells_47 : decode cX12_tells 47 = .ok (.laload, 1) := by decide +kernel
theorem dX12_tells_48 : decode cX12_tells 48 = .ok (.lconst 1, 1) := by decide +kernel
theorem dX12_tells_49 : decode cX12_tells 49 = .ok (.land, 1) := by decide +kernel
theorem dX12_tells_50 : decode cX12_tells 50 = .ok (.l2i, 1) := by decide +kernel
theorem dX12_tells_51 : decode cX12_tells 51 = .ok (.iadd, 1) := by decide +kernel
theorem dX12_tells_52 : decode cX12_tells 52 = .ok (.iastore, 1) := by decide +kernel
theorem dX12_tells_53 : decode cX12_tells 53 = .ok (.aload_n 1, 1) := by decide +kernel
theorem dX12_tells_54 : decode cX12_tells 54 = .ok (.iload_n 2, 1) := by decide +kernel
theorem dX12_tells_55 : decode cX12_tells 55 = .ok (.iconst 1, 1) := by decide +kernel
theorem dX12_tells_56 : decode cX12_tells 56 = .ok (.iadd, 1) := by decide +kernel
theorem dX12_tells_57 : decode cX12_tells 57 = .ok (.aload_n 0, 1) := by decide +kernel
theorem dX12_tells_58 : decode cX12_tells 58 = .ok (.getfield 167, 3) := by decide +kernel
theorem dX12_tells_61 : decode cX12_tells 61 = .ok (.invokestatic 426, 3) := by decide +kernel
theorem dX12_tells_64 : decode cX12_tells 64 = .ok (.return_, 1) := by decide +kernel
set_option maxRecDepth 20000 in
theorem ggX12_block_X12_turn : GoodIn wsX12_block wsX12_turn := goodIn_r _ [8] rfl (by decide +kernel)
set_option maxRecDepth 20000 in
theorem gX12_block_X12_turn : GoodIn wsX12_block (va_wsS RX12 430 yX12_turn wsX12_turn) := goodIn_app (goodIn_of _ (by decide +kernel)) ggX12_block_X12_turn
theorem dX12_block_0 : decode cX12_block 0 = .ok (.iconst 0, 1) := by decide +kernel
theorem dX12_block_1 : decode cX12_block 1 = .ok (.istore_n 2, 1) := by decide +kernel
theorem dX12_block_2 : decode cX12_block 2 = .ok (.iload_n 2, 1) := by decide +kernel
theorem dX12_block_3 : decode cX12_block 3 = .ok (.bipush 64, 2) := by decide +kernel
theorem dX12_block_5 : decode cX12_block 5 = .ok (.if_icmp .ge 157, 3) := by decide +kernel
theorem dX12_block_8 : decode cX12_block 8 = .ok (.iload_n 2, 1) := by decide +kernel
theorem dX12_block_9 : decode cX12_block 9 = .ok (.bipush 16, 2) := by decide +kernel
theorem dX12_block_11 : decode cX12_block 11 = .ok (.if_icmp .ge 60, 3) := by decide +kernel
theorem dX12_block_14 : decode cX12_block 14 = .ok (.iload_n 1, 1) := by decide +kernel
theorem dX12_block_15 : decode cX12_block 15 = .ok (.iconst 4, 1) := by decide +kernel
theorem dX12_block_16 : decode cX12_block 16 = .ok (.iload_n 2, 1) := by decide +kernel
theorem dX12_block_17 : decode cX12_block 17 = .ok (.imul, 1) := by decide +kernel
theorem dX12_block_18 : decode cX12_block 18 = .ok (.iadd, 1) := by decide +kernel
theorem dX12_block_19 : decode cX12_block 19 = .ok (.istore_n 3, 1) := by decide +kernel
theorem dX12_block_20 : decode cX12_block 20 = .ok (.aload_n 0, 1) := by decide +kernel
theorem dX12_block_21 : decode cX12_block 21 = .ok (.getfield 284, 3) := by decide +kernel
theorem dX12_block_24 : decode cX12_block 24 = .ok (.iload_n 2, 1) := by decide +kernel
theorem dX12_block_25 : decode cX12_block 25 = .ok (.aload_n 0, 1) := by decide +kernel
theorem dX12_block_26 : decode cX12_block 26 = .ok (.getfield 287, 3) := by decide +kernel
theorem dX12_block_29 : decode cX12_block 29 = .ok (.iload_n 3, 1) := by decide +kernel
theorem dX12_block_30 : decode cX12_block 30 = .ok (.iaload, 1) := by decide +kernel
theorem dX12_block_31 : decode cX12_block 31 = .ok (.bipush 24, 2) := by decide +kernel
theorem dX12_block_33 : decode cX12_block 33 = .ok (.ishl, 1) := by decide +kernel
theorem dX12_block_34 : decode cX12_block 34 = .ok (.aload_n 0, 1) := by decide +kernel
theorem dX12_block_35 : decode cX12_block 35 = .ok (.getfield 287, 3) := by decide +kernel
theorem dX12_block_38 : decode cX12_block 38 = .ok (.iload_n 3, 1) := by decide +kernel
theorem dX12_block_39 : decode cX12_block 39 = .ok (.iconst 1, 1) := by decide +kernel
theorem dX12_block_40 : decode cX12_block 40 = .ok (.iadd, 1) := by decide +kernel
theorem dX12_block_41 : decode cX12_block 41 = .ok (.iaload, 1) := by decide +kernel
theorem dX12_block_42 : decode cX12_block 42 = .ok (.bipush 16, 2) := by decide +kernel
theorem dX12_block_44 : decode cX12_block 44 = .ok (.ishl, 1) := by decide +kernel
theorem dX12_block_45 : decode cX12_block 45 = .ok (.ior, 1) := by decide +kernel
theorem dX12_block_46 : decode cX12_block 46 = .ok (.aload_n 0, 1) := by decide +kernel
theorem dX12_block_47 : decode cX12_block 47 = .ok (.getfield 287, 3) := by decide +kernel
theorem dX12_block_50 : decode cX12_block 50 = .ok (.iload_n 3, 1) := by decide +kernel
theorem dX12_block_51 : decode cX12_block 51 = .ok (.iconst 2, 1) := by decide +kernel
theorem dX12_block_52 : decode cX12_block 52 = .ok (.iadd, 1) := by decide +kernel
theorem dX12_block_53 : decode cX12_block 53 = .ok (.iaload, 1) := by decide +kernel
theorem dX12_block_54 : decode cX12_block 54 = .ok (.bipush 8, 2) := by decide +kernel
theorem dX12_block_56 : decode cX12_block 56 = .ok (.ishl, 1) := by decide +kernel
theorem dX12_block_57 : decode cX12_block 57 = .ok (.ior, 1) := by decide +kernel
theorem dX12_block_58 : decode cX12_block 58 = .ok (.aload_n 0, 1) := by decide +kernel
theorem dX12_block_59 : decode cX12_block 59 = .ok (.getfield 287, 3) := by decide +kernel
theorem dX12_block_62 : decode cX12_block 62 = .ok (.iload_n 3, 1) := by decide +kernel
theorem dX12_block_63 : decode cX12_block 63 = .ok (.iconst 3, 1) := by decide +kernel
theorem dX12_block_64 : decode cX12_block 64 = .ok (.iadd, 1) := by decide +kernel
theorem dX12_block_65 : decode cX12_block 65 = .ok (.iaload, 1) := by decide +kernel
theorem dX12_block_66 : decode cX12_block 66 = .ok (.ior, 1) := by decide +kernel
theorem dX12_block_67 : decode cX12_block 67 = .ok (.iastore, 1) := by decide +kernel
theorem dX12_block_68 : decode cX12_block 68 = .ok (.goto 88, 3) := by decide +kernel
theorem dX12_block_71 : decode cX12_block 71 = .ok (.aload_n 0, 1) := by decide +kernel
theorem dX12_block_72 : decode cX12_block 72 = .ok (.getfield 284, 3) := by decide +kernel
theorem dX12_block_75 : decode cX12_block 75 = .ok (.iload_n 2, 1) := by decide +kernel
theorem dX12_block_76 : decode cX12_block 76 = .ok (.bipush 15, 2) := by decide +kernel
theorem dX12_block_78 : decode cX12_block 78 = .ok (.isub, 1) := by decide +kernel
theorem dX12_block_79 : decode cX12_block 79 = .ok (.iaload, 1) := by decide +kernel
theorem dX12_block_80 : decode cX12_block 80 = .ok (.istore_n 3, 1) := by decide +kernel
theorem dX12_block_81 : decode cX12_block 81 = .ok (.aload_n 0, 1) := by decide +kernel
theorem dX12_block_82 : decode cX12_block 82 = .ok (.getfield 284, 3) := by decide +kernel
theorem dX12_block_85 : decode cX12_block 85 = .ok (.iload_n 2, 1) := by decide +kernel
theorem dX12_block_86 : decode cX12_block 86 = .ok (.iconst 2, 1) := by decide +kernel
theorem dX12_block_87 : decode cX12_block 87 = .ok (.isub, 1) := by decide +kernel
theorem dX12_block_88 : decode cX12_block 88 = .ok (.iaload, 1) := by decide +kernel
theorem dX12_block_89 : decode cX12_block 89 = .ok (.istore 4, 2) := by decide +kernel
theorem dX12_block_91 : decode cX12_block 91 = .ok (.aload_n 0, 1) := by decide +kernel
theorem dX12_block_92 : decode cX12_block 92 = .ok (.getfield 284, 3) := by decide +kernel
theorem dX12_block_95 : decode cX12_block 95 = .ok (.iload_n 2, 1) := by decide +kernel
theorem dX12_block_96 : decode cX12_block 96 = .ok (.aload_n 0, 1) := by decide +kernel
theorem dX12_block_97 : decode cX12_block 97 = .ok (.getfield 284, 3) := by decide +kernel
theorem dX12_block_100 : decode cX12_block 100 = .ok (.iload_n 2, 1) := by decide +kernel
theorem dX12_block_101 : decode cX12_block 101 = .ok (.bipush 16, 2) := by decide +kernel
theorem dX12_block_103 : decode cX12_block 103 = .ok (.isub, 1) := by decide +kernel
theorem dX12_block_104 : decode cX12_block 104 = .ok (.iaload, 1) := by decide +kernel
theorem dX12_block_105 : decode cX12_block 105 = .ok (.iload_n 3, 1) := by decide +kernel
theorem dX12_block_106 : decode cX12_block 106 = .ok (.bipush 7, 2) := by decide +kernel
theorem dX12_block_108 : decode cX12_block 108 = .ok (.invokestatic 430, 3) := by decide +kernel
theorem dX12_block_111 : decode cX12_block 111 = .ok (.iload_n 3, 1) := by decide +kernel
theorem dX12_block_112 : decode cX12_block 112 = .ok (.bipush 18, 2) := by decide +kernel
theorem dX12_block_114 : decode cX12_block 114 = .ok (.invokestatic 430, 3) := by decide +kernel
theorem dX12_block_117 : decode cX12_block 117 = .ok (.ixor, 1) := by decide +kernel
theorem dX12_block_118 : decode cX12_block 118 = .ok (.iload_n 3, 1) := by decide +kernel
theorem dX12_block_119 : decode cX12_block 119 = .ok (.iconst 3, 1) := by decide +kernel
theorem dX12_block_120 : decode cX12_block 120 = .ok (.iushr, 1) := by decide +kernel
theorem dX12_block_121 : decode cX12_block 121 = .ok (.ixor, 1) := by decide +kernel
theorem dX12_block_122 : decode cX12_block 122 = .ok (.iadd, 1) := by decide +kernel
theorem dX12_block_123 : decode cX12_block 123 = .ok (.aload_n 0, 1) := by decide +kernel
theorem dX12_block_124 : decode cX12_block 124 = .ok (.getfield 284, 3) := by decide +kernel
theorem dX12_block_127 : decode cX12_block 127 = .ok (.iload_n 2, 1) := by decide +kernel
theorem dX12_block_128 : decode cX12_block 128 = .ok (.bipush 7, 2) := by decide +kernel
theorem dX12_block_130 : decode cX12_block 130 = .ok (.isub, 1) := by decide +kernel
theorem dX12_block_131 : decode cX12_block 131 = .ok (.iaload, 1) := by decide +kernel
theorem dX12_block_132 : decode cX12_block 132 = .ok (.iadd, 1) := by decide +kernel
theorem dX12_block_133 : decode cX12_block 133 = .ok (.iload 4, 2) := by decide +kernel
theorem dX12_block_135 : decode cX12_block 135 = .ok (.bipush 17, 2) := by decide +kernel
theorem dX12_block_137 : decode cX12_block 137 = .ok (.invokestatic 430, 3) := by decide +kernel
theorem dX12_block_140 : decode cX12_block 140 = .ok (.iload 4, 2) := by decide +kernel
theorem dX12_block_142 : decode cX12_block 142 = .ok (.bipush 19, 2) := by decide +kernel
theorem dX12_block_144 : decode cX12_block 144 = .ok (.invokestatic 430, 3) := by decide +kernel
theorem dX12_block_147 : decode cX12_block 147 = .ok (.ixor, 1) := by decide +kernel
theorem dX12_block_148 : decode cX12_block 148 = .ok (.iload 4, 2) := by decide +kernel
theorem dX12_block_150 : decode cX12_block 150 = .ok (.bipush 10, 2) := by decide +kernel
theorem dX12_block_152 : decode cX12_block 152 = .ok (.iushr, 1) := by decide +kernel
theorem dX12_block_153 : decode cX12_block 153 = .ok (.ixor, 1) := by decide +kernel
theorem dX12_block_154 : decode cX12_block 154 = .ok (.iadd, 1) := by decide +kernel
theorem dX12_block_155 : decode cX12_block 155 = .ok (.iastore, 1) := by decide +kernel
theorem dX12_block_156 : decode cX12_block 156 = .ok (.iinc 2 1, 3) := by decide +kernel
theorem dX12_block_159 : decode cX12_block 159 = .ok (.goto (-157), 3) := by decide +kernel
theorem dX12_block_162 : decode cX12_block 162 = .ok (.aload_n 0, 1) := by decide +kernel
theorem dX12_block_163 : decode cX12_block 163 = .ok (.getfield 281, 3) := by decide +kernel
theorem dX12_block_166 : decode cX12_block 166 = .ok (.iconst 0, 1) := by decide +kernel
theorem dX12_block_167 : decode cX12_block 167 = .ok (.iaload, 1) := by decide +kernel
theorem dX12_block_168 : decode cX12_block 168 = .ok (.istore_n 2, 1) := by decide +kernel
theorem dX12_block_169 : decode cX12_block 169 = .ok (.aload_n 0, 1) := by decide +kernel
theorem dX12_block_170 : decode cX12_block 170 = .ok (.getfield 281, 3) := by decide +kernel
theorem dX12_block_173 : decode cX12_block 173 = .ok (.iconst 1, 1) := by decide +kernel
theorem dX12_block_174 : decode cX12_block 174 = .ok (.iaload, 1) := by decide +kernel
theorem dX12_block_175 : decode cX12_block 175 = .ok (.istore_n 3, 1) := by decide +kernel
theorem dX12_block_176 : decode cX12_block 176 = .ok (.aload_n 0, 1) := by decide +kernel
theorem dX12_block_177 : decode cX12_block 177 = .ok (.getfield 281, 3) := by decide +kernel
theorem dX12_block_180 : decode cX12_block 180 = .ok (.iconst 2, 1) := by decide +kernel
theorem dX12_block_181 : decode cX12_block 181 = .ok (.iaload, 1) := by decide +kernel
theorem dX12_block_182 : decode cX12_block 182 = .ok (.istore 4, 2) := by decide +kernel
theorem dX12_block_184 : decode cX12_block 184 = .ok (.aload_n 0, 1) := by decide +kernel
theorem dX12_block_185 : decode cX12_block 185 = .ok (.getfield 281, 3) := by decide +kernel
theorem dX12_block_188 : decode cX12_block 188 = .ok (.iconst 3, 1) := by decide +kernel
theorem dX12_block_189 : decode cX12_block 189 = .ok (.iaload, 1) := by decide +kernel
theorem dX12_block_190 : decode cX12_block 190 = .ok (.istore 5, 2) := by decide +kernel
theorem dX12_block_192 : decode cX12_block 192 = .ok (.aload_n 0, 1) := by decide +kernel
theorem dX12_block_193 : decode cX12_block 193 = .ok (.getfield 281, 3) := by decide +kernel
theorem dX12_block_196 : decode cX12_block 196 = .ok (.iconst 4, 1) := by decide +kernel
theorem dX12_block_197 : decode cX12_block 197 = .ok (.iaload, 1) := by decide +kernel
theorem dX12_block_198 : decode cX12_block 198 = .ok (.istore 6, 2) := by decide +kernel
theorem dX12_block_200 : decode cX12_block 200 = .ok (.aload_n 0, 1) := by decide +kernel
theorem dX12_block_201 : decode cX12_block 201 = .ok (.getfield 281, 3) := by decide +kernel
theorem dX12_block_204 : decode cX12_block 204 = .ok (.iconst 5, 1) := by decide +kernel
theorem dX12_block_205 : decode cX12_block 205 = .ok (.iaload, 1) := by decide +kernel
theorem dX12_block_206 : decode cX12_block 206 = .ok (.istore 7, 2) := by decide +kernel
theorem dX12_block_208 : decode cX12_block 208 = .ok (.aload_n 0, 1) := by decide +kernel
theorem dX12_block_209 : decode cX12_block 209 = .ok (.getfield 281, 3) := by decide +kernel
theorem dX12_block_212 : decode cX12_block 212 = .ok (.bipush 6, 2) := by decide +kernel
theorem dX12_block_214 : decode cX12_block 214 = .ok (.iaload, 1) := by decide +kernel
theorem dX12_block_215 : decode cX12_block 215 = .ok (.istore 8, 2) := by decide +kernel
theorem dX12_block_217 : decode cX12_block 217 = .ok (.aload_n 0, 1) := by decide +kernel
theorem dX12_block_218 : decode cX12_block 218 = .ok (.getfield 281, 3) := by decide +kernel
theorem dX12_block_221 : decode cX12_block 221 = .ok (.bipush 7, 2) := by decide +kernel
theorem dX12_block_223 : decode cX12_block 223 = .ok (.iaload, 1) := by decide +kernel
theorem dX12_block_224 : decode cX12_block 224 = .ok (.istore 9, 2) := by decide +kernel
theorem dX12_block_226 : decode cX12_block 226 = .ok (.iconst 0, 1) := by decide +kernel
theorem dX12_block_227 : decode cX12_block 227 = .ok (.istore 10, 2) := by decide +kernel
theorem dX12_block_229 : decode cX12_block 229 = .ok (.iload 10, 2) := by decide +kernel
theorem dX12_block_231 : decode cX12_block 231 = .ok (.bipush 64, 2) := by decide +kernel
theorem dX12_block_233 : decode cX12_block 233 = .ok (.if_icmp .ge 136, 3) := by decide +kernel
theorem dX12_block_236 : decode cX12_block 236 = .ok (.iload 9, 2) := by decide +kernel
theorem dX12_block_238 : decode cX12_block 238 = .ok (.iload 6, 2) := by decide +kernel
theorem dX12_block_240 : decode cX12_block 240 = .ok (.bipush 6, 2) := by decide +kernel
theorem dX12_block_242 : decode cX12_block 242 = .ok (.invokestatic 430, 3) := by decide +kernel
theorem dX12_block_245 : decode cX12_block 245 = .ok (.iload 6, 2) := by decide +kernel
theorem dX12_block_247 : decode cX12_block 247 = .ok (.bipush 11, 2) := by decide +kernel
theorem dX12_block_249 : decode cX12_block 249 = .ok (.invokestatic 430, 3) := by decide +kernel
theorem dX12_block_252 : decode cX12_block 252 = .ok (.ixor, 1) := by decide +kernel
theorem dX12_block_253 : decode cX12_block 253 = .ok (.iload 6, 2) := by decide +kernel
theorem dX12_block_255 : decode cX12_block 255 = .ok (.bipush 25, 2) := by decide +kernel
theorem dX12_block_257 : decode cX12_block 257 = .ok (.invokestatic 430, 3) := by decide +kernel
theorem dX12_block_260 : decode cX12_block 260 = .ok (.ixor, 1) := by decide +kernel
theorem dX12_block_261 : decode cX12_block 261 = .ok (.iadd, 1) := by decide +kernel
theorem dX12_block_262 : decode cX12_block 262 = .ok (.iload 6, 2) := by decide +kernel
theorem dX12_block_264 : decode cX12_block 264 = .ok (.iload 7, 2) := by decide +kernel
theorem dX12_block_266 : decode cX12_block 266 = .ok (.iand, 1) := by decide +kernel
theorem dX12_block_267 : decode cX12_block 267 = .ok (.iload 6, 2) := by decide +kernel
theorem dX12_block_269 : decode cX12_block 269 = .ok (.iconst (-1), 1) := by decide +kernel
theorem dX12_block_270 : decode cX12_block 270 = .ok (.ixor, 1) := by decide +kernel
theorem dX12_block_271 : decode cX12_block 271 = .ok (.iload 8, 2) := by decide +kernel
theorem dX12_block_273 : decode cX12_block 273 = .ok (.iand, 1) := by decide +kernel
theorem dX12_block_274 : decode cX12_block 274 = .ok (.ixor, 1) := by decide +kernel
theorem dX12_block_275 : decode cX12_block 275 = .ok (.iadd, 1) := by decide +kernel
theorem dX12_block_276 : decode cX12_block 276 = .ok (.aload_n 0, 1) := by decide +kernel
theorem dX12_block_277 : decode cX12_block 277 = .ok (.getfield 278, 3) := by decide +kernel
theorem dX12_block_280 : decode cX12_block 280 = .ok (.iload 10, 2) := by decide +kernel
theorem dX12_block_282 : decode cX12_block 282 = .ok (.iaload, 1) := by decide +kernel
theorem dX12_block_283 : decode cX12_block 283 = .ok (.iadd, 1) := by decide +kernel
theorem dX12_block_284 : decode cX12_block 284 = .ok (.aload_n 0, 1) := by decide +kernel
theorem dX12_block_285 : decode cX12_block 285 = .ok (.getfield 284, 3) := by decide +kernel
theorem dX12_block_288 : decode cX12_block 288 = .ok (.iload 10, 2) := by decide +kernel
theorem dX12_block_290 : decode cX12_block 290 = .ok (.iaload, 1) := by decide +kernel
theorem dX12_block_291 : decode cX12_block 291 = .ok (.iadd, 1) := by decide +kernel
theorem dX12_block_292 : decode cX12_block 292 = .ok (.istore 11, 2) := by decide +kernel
theorem dX12_block_294 : decode cX12_block 294 = .ok (.iload_n 2, 1) := by decide +kernel
theorem dX12_block_295 : decode cX12_block 295 = .ok (.iconst 2, 1) := by decide +kernel
theorem dX12_block_296 : decode cX12_block 296 = .ok (.invokestatic 430, 3) := by decide +kernel
theorem dX12_block_299 : decode cX12_block 299 = .ok (.iload_n 2, 1) := by decide +kernel
theorem dX12_block_300 : decode cX12_block 300 = .ok (.bipush 13, 2) := by decide +kernel
theorem dX12_block_302 : decode cX12_block 302 = .ok (.invokestatic 430, 3) := by decide +kernel
theorem dX12_block_305 : decode cX12_block 305 = .ok (.ixor, 1) := by decide +kernel
theorem dX12_block_306 : decode cX12_block 306 = .ok (.iload_n 2, 1) := by decide +kernel
theorem dX12_block_307 : decode cX12_block 307 = .ok (.bipush 22, 2) := by decide +kernel
theorem dX12_block_309 : decode cX12_block 309 = .ok (.invokestatic 430, 3) := by decide +kernel
theorem dX12_block_312 : decode cX12_block 312 = .ok (.ixor, 1) := by decide +kernel
theorem dX12_block_313 : decode cX12_block 313 = .ok (.iload_n 2, 1) := by decide +kernel
theorem dX12_block_314 : decode cX12_block 314 = .ok (.iload_n 3, 1) := by decide +kernel
theorem dX12_block_315 : decode cX12_block 315 = .ok (.iand, 1) := by decide +kernel
theorem dX12_block_316 : decode cX12_block 316 = .ok (.iload_n 2, 1) := by decide +kernel
theorem dX12_block_317 : decode cX12_block 317 = .ok (.iload 4, 2) := by decide +kernel
theorem dX12_block_319 : decode cX12_block 319 = .ok (.iand, 1) := by decide +kernel
theorem dX12_block_320 : decode cX12_block 320 = .ok (.ixor, 1) := by decide +kernel
theorem dX12_block_321 : decode cX12_block 321 = .ok (.iload_n 3, 1) := by decide +kernel
theorem dX12_block_322 : decode cX12_block 322 = .ok (.iload 4, 2) := by decide +kernel
theorem dX12_block_324 : decode cX12_block 324 = .ok (.iand, 1) := by decide +kernel
theorem dX12_block_325 : decode cX12_block 325 = .ok (.ixor, 1) := by decide +kernel
theorem dX12_block_326 : decode cX12_block 326 = .ok (.iadd, 1) := by decide +kernel
theorem dX12_block_327 : decode cX12_block 327 = .ok (.istore 12, 2) := by decide +kernel
theorem dX12_block_329 : decode cX12_block 329 = .ok (.iload 8, 2) := by decide +kernel
theorem dX12_block_331 : decode cX12_block 331 = .ok (.istore 9, 2) := by decide +kernel
theorem dX12_block_333 : decode cX12_block 333 = .ok (.iload 7, 2) := by decide +kernel
theorem dX12_block_335 : decode cX12_block 335 = .ok (.istore 8, 2) := by decide +kernel
theorem dX12_block_337 : decode cX12_block 337 = .ok (.iload 6, 2) := by decide +kernel
theorem dX12_block_339 : decode cX12_block 339 = .ok (.istore 7, 2) := by decide +kernel
theorem dX12_block_341 : decode cX12_block 341 = .ok (.iload 5, 2) := by decide +kernel
theorem dX12_block_343 : decode cX12_block 343 = .ok (.iload 11, 2) := by decide +kernel
theorem dX12_block_345 : decode cX12_block 345 = .ok (.iadd, 1) := by decide +kernel
theorem dX12_block_346 : decode cX12_block 346 = .ok (.istore 6, 2) := by decide +kernel
theorem dX12_block_348 : decode cX12_block 348 = .ok (.iload 4, 2) := by decide +kernel
theorem dX12_block_350 : decode cX12_block 350 = .ok (.istore 5, 2) := by decide +kernel
theorem dX12_block_352 : decode cX12_block 352 = .ok (.iload_n 3, 1) := by decide +kernel
theorem dX12_block_353 : decode cX12_block 353 = .ok (.istore 4, 2) := by decide +kernel
theorem dX12_block_355 : decode cX12_block 355 = .ok (.iload_n 2, 1) := by decide +kernel
theorem dX12_block_356 : decode cX12_block 356 = .ok (.istore_n 3, 1) := by decide +kernel
theorem dX12_block_357 : decode cX12_block 357 = .ok (.iload 11, 2) := by decide +kernel
theorem dX12_block_359 : decode cX12_block 359 = .ok (.iload 12, 2) := by decide +kernel
theorem dX12_block_361 : decode cX12_block 361 = .ok (.iadd, 1) := by decide +kernel
theorem dX12_block_362 : decode cX12_block 362 = .ok (.istore_n 2, 1) := by decide +kernel
theorem dX12_block_363 : decode cX12_block 363 = .ok (.iinc 10 1, 3) := by decide +kernel
theorem dX12_block_366 : decode cX12_block 366 = .ok (.goto (-137), 3) := by decide +kernel
theorem dX12_block_369 : decode cX12_block 369 = .ok (.aload_n 0, 1) := by decide +kernel
theorem dX12_block_370 : decode cX12_block 370 = .ok (.getfield 281, 3) := by decide +kernel
theorem dX12_block_373 : decode cX12_block 373 = .ok (.iconst 0, 1) := by decide +kernel
theorem dX12_block_374 : decode cX12_block 374 = .ok (.dup2, 1) := by decide +kernel
theorem dX12_block_375 : decode cX12_block 375 = .ok (.iaload, 1) := by decide +kernel
theorem dX12_block_376 : decode cX12_block 376 = .ok (.iload_n 2, 1) := by decide +kernel
theorem dX12_block_377 : decode cX12_block 377 = .ok (.iadd, 1) := by decide +kernel
theorem dX12_block_378 : decode cX12_block 378 = .ok (.iastore, 1) := by decide +kernel
theorem dX12_block_379 : decode cX12_block 379 = .ok (.aload_n 0, 1) := by decide +kernel
theorem dX12_block_380 : decode cX12_block 380 = .ok (.getfield 281, 3) := by decide +kernel
theorem dX12_block_383 : decode cX12_block 383 = .ok (.iconst 1, 1) := by decide +kernel
theorem dX12_block_384 : decode cX12_block 384 = .ok (.dup2, 1) := by decide +kernel
theorem dX12_block_385 : decode cX12_block 385 = .ok (.iaload, 1) := by decide +kernel
theorem dX12_block_386 : decode cX12_block 386 = .ok (.iload_n 3, 1) := by decide +kernel
theorem dX12_block_387 : decode cX12_block 387 = .ok (.iadd, 1) := by decide +kernel
theorem dX12_block_388 : decode cX12_block 388 = .ok (.iastore, 1) := by decide +kernel
theorem dX12_block_389 : decode cX12_block 389 = .ok (.aload_n 0, 1) := by decide +kernel
theorem dX12_block_390 : decode cX12_block 390 = .ok (.getfield 281, 3) := by decide +kernel
theorem dX12_block_393 : decode cX12_block 393 = .ok (.iconst 2, 1) := by decide +kernel
theorem dX12_block_394 : decode cX12_block 394 = .ok (.dup2, 1) := by decide +kernel
theorem dX12_block_395 : decode cX12_block 395 = .ok (.iaload, 1) := by decide +kernel
theorem dX12_block_396 : decode cX12_block 396 = .ok (.iload 4, 2) := by decide +kernel
theorem dX12_block_398 : decode cX12_block 398 = .ok (.iadd, 1) := by decide +kernel
theorem dX12_block_399 : decode cX12_block 399 = .ok (.iastore, 1) := by decide +kernel
theorem dX12_block_400 : decode cX12_block 400 = .ok (.aload_n 0, 1) := by decide +kernel
theorem dX12_block_401 : decode cX12_block 401 = .ok (.getfield 281, 3) := by decide +kernel
theorem dX12_block_404 : decode cX12_block 404 = .ok (.iconst 3, 1) := by decide +kernel
theorem dX12_block_405 : decode cX12_block 405 = .ok (.dup2, 1) := by decide +kernel
theorem dX12_block_406 : decode cX12_block 406 = .ok (.iaload, 1) := by decide +kernel
theorem dX12_block_407 : decode cX12_block 407 = .ok (.iload 5, 2) := by decide +kernel
theorem dX12_block_409 : decode cX12_block 409 = .ok (.iadd, 1) := by decide +kernel
theorem dX12_block_410 : decode cX12_block 410 = .ok (.iastore, 1) := by decide +kernel
theorem dX12_block_411 : decode cX12_block 411 = .ok (.aload_n 0, 1) := by decide +kernel
theorem dX12_block_412 : decode cX12_block 412 = .ok (.getfield 281, 3) := by decide +kernel
theorem dX12_block_415 : decode cX12_block 415 = .ok (.iconst 4, 1) := by decide +kernel
theorem dX12_block_416 : decode cX12_block 416 = .ok (.dup2, 1) := by decide +kernel
theorem dX12_block_417 : decode cX12_block 417 = .ok (.iaload, 1) := by decide +kernel
theorem dX12_block_418 : decode cX12_block 418 = .ok (.iload 6, 2) := by decide +kernel
theorem dX12_block_420 : decode cX12_block 420 = .ok (.iadd, 1) := by decide +kernel
theorem dX12_block_421 : decode cX12_block 421 = .ok (.iastore, 1) := by decide +kernel
theorem dX12_block_422 : decode cX12_block 422 = .ok (.aload_n 0, 1) := by decide +kernel
theorem dX12_block_423 : decode cX12_block 423 = .ok (.getfield 281, 3) := by decide +kernel
theorem dX12_block_426 : decode cX12_block 426 = .ok (.iconst 5, 1) := by decide +kernel
theorem dX12_block_427 : decode cX12_block 427 = .ok (.dup2, 1) := by decide +kernel
theorem dX12_block_428 : decode cX12_block 428 = .ok (.iaload, 1) := by decide +kernel
theorem dX12_block_429 : decode cX12_block 429 = .ok (.iload 7, 2) := by decide +kernel
theorem dX12_block_431 : decode cX12_block 431 = .ok (.iadd, 1) := by decide +kernel
theorem dX12_block_432 : decode cX12_block 432 = .ok (.iastore, 1) := by decide +kernel
theorem dX12_block_433 : decode cX12_block 433 = .ok (.aload_n 0, 1) := by decide +kernel
theorem dX12_block_434 : decode cX12_block 434 = .ok (.getfield 281, 3) := by decide +kernel
theorem dX12_block_437 : decode cX12_block 437 = .ok (.bipush 6, 2) := by decide +kernel
theorem dX12_block_439 : decode cX12_block 439 = .ok (.dup2, 1) := by decide +kernel
theorem dX12_block_440 : decode cX12_block 440 = .ok (.iaload, 1) := by decide +kernel
theorem dX12_block_441 : decode cX12_block 441 = .ok (.iload 8, 2) := by decide +kernel
theorem dX12_block_443 : decode cX12_block 443 = .ok (.iadd, 1) := by decide +kernel
theorem dX12_block_444 : decode cX12_block 444 = .ok (.iastore, 1) := by decide +kernel
theorem dX12_block_445 : decode cX12_block 445 = .ok (.aload_n 0, 1) := by decide +kernel
theorem dX12_block_446 : decode cX12_block 446 = .ok (.getfield 281, 3) := by decide +kernel
theorem dX12_block_449 : decode cX12_block 449 = .ok (.bipush 7, 2) := by decide +kernel
theorem dX12_block_451 : decode cX12_block 451 = .ok (.dup2, 1) := by decide +kernel
theorem dX12_block_452 : decode cX12_block 452 = .ok (.iaload, 1) := by decide +kernel
theorem dX12_block_453 : decode cX12_block 453 = .ok (.iload 9, 2) := by decide +kernel
theorem dX12_block_455 : decode cX12_block 455 = .ok (.iadd, 1) := by decide +kernel
theorem dX12_block_456 : decode cX12_block 456 = .ok (.iastore, 1) := by decide +kernel
theorem dX12_block_457 : decode cX12_block 457 = .ok (.return_, 1) := by decide +kernel
set_option maxRecDepth 20000 in
theorem ggX12_hashOf_X12_block : GoodIn wsX12_hashOf wsX12_block := goodIn_r _ [16, 17, 10, 1, 18, 19, 20, 15, 21, 22, 23, 24, 25, 26, 27, 28, 29, 30, 31, 32, 33, 34, 35, 36, 37, 38, 39, 40, 41, 42, 43, 44, 45, 46, 47, 48, 49, 50, 51, 52, 53, 54, 55, 56, 57, 58, 59, 60, 61, 62, 63, 64, 65, 66, 67, 68, 69, 70, 71, 72, 73, 74, 75, 76, 77, 78, 79, 80, 81, 82, 83, 84, 85, 86, 87, 88, 89, 90, 91, 92, 93, 94, 95, 96, 97, 98, 99, 100, 101, 102] rfl (by decide +kernel)
set_option maxRecDepth 20000 in
theorem gX12_hashOf_X12_block : GoodIn wsX12_hashOf (wsV RX12 442 RX12 yX12_block wsX12_block) := goodIn_app (goodIn_of _ (by decide +kernel)) ggX12_hashOf_X12_block
theorem dX12_hashOf_0 : decode cX12_hashOf 0 = .ok (.aload_n 0, 1) := by decide +kernel
theorem dX12_hashOf_1 : decode cX12_hashOf 1 = .ok (.getfield 281, 3) := by decide +kernel
theorem dX12_hashOf_4 : decode cX12_hashOf 4 = .ok (.iconst 0, 1) := by decide +kernel
theorem dX12_hashOf_5 : decode cX12_hashOf 5 = .ok (.ldc_w 434, 3) := by decide +kernel
theorem dX12_hashOf_8 : decode cX12_hashOf 8 = .ok (.iastore, 1) := by decide +kernel
theorem dX12_hashOf_9 : decode cX12_hashOf 9 = .ok (.aload_n 0, 1) := by decide +kernel
theorem dX12_hashOf_10 : decode cX12_hashOf 10 = .ok (.getfield 281, 3) := by decide +kernel
theorem dX12_hashOf_13 : decode cX12_hashOf 13 = .ok (.iconst 1, 1) := by decide +kernel
theorem dX12_hashOf_14 : decode cX12_hashOf 14 = .ok (.ldc_w 435, 3) := by decide +kernel
theorem dX12_hashOf_17 : decode cX12_hashOf 17 = .ok (.iastore, 1) := by decide +kernel
theorem dX12_hashOf_18 : decode cX12_hashOf 18 = .ok (.aload_n 0, 1) := by decide +kernel
theorem dX12_hashOf_19 : decode cX12_hashOf 19 = .ok (.getfield 281, 3) := by decide +kernel
theorem dX12_hashOf_22 : decode cX12_hashOf 22 = .ok (.iconst 2, 1) := by decide +kernel
theorem dX12_hashOf_23 : decode cX12_hashOf 23 = .ok (.ldc_w 436, 3) := by decide +kernel
theorem dX12_hashOf_26 : decode cX12_hashOf 26 = .ok (.iastore, 1) := by decide +kernel
theorem dX12_hashOf_27 : decode cX12_hashOf 27 = .ok (.aload_n 0, 1) := by decide +kernel
theorem dX12_hashOf_28 : decode cX12_hashOf 28 = .ok (.getfield 281, 3) := by decide +kernel
theorem dX12_hashOf_31 : decode cX12_hashOf 31 = .ok (.iconst 3, 1) := by decide +kernel
theorem dX12_hashOf_32 : decode cX12_hashOf 32 = .ok (.ldc_w 437, 3) := by decide +kernel
theorem dX12_hashOf_35 : decode cX12_hashOf 35 = .ok (.iastore, 1) := by decide +kernel
theorem dX12_hashOf_36 : decode cX12_hashOf 36 = .ok (.aload_n 0, 1) := by decide +kernel
theorem dX12_hashOf_37 : decode cX12_hashOf 37 = .ok (.getfield 281, 3) := by decide +kernel
theorem dX12_hashOf_40 : decode cX12_hashOf 40 = .ok (.iconst 4, 1) := by decide +kernel
theorem dX12_hashOf_41 : decode cX12_hashOf 41 = .ok (.ldc_w 438, 3) := by decide +kernel
theorem dX12_hashOf_44 : decode cX12_hashOf 44 = .ok (.iastore, 1) := by decide +kernel
theorem dX12_hashOf_45 : decode cX12_hashOf 45 = .ok (.aload_n 0, 1) := by decide +kernel
theorem dX12_hashOf_46 : decode cX12_hashOf 46 = .ok (.getfield 281, 3) := by decide +kernel
theorem dX12_hashOf_49 : decode cX12_hashOf 49 = .ok (.iconst 5, 1) := by decide +kernel
theorem dX12_hashOf_50 : decode cX12_hashOf 50 = .ok (.ldc_w 439, 3) := by decide +kernel
theorem dX12_hashOf_53 : decode cX12_hashOf 53 = .ok (.iastore, 1) := by decide +kernel
theorem dX12_hashOf_54 : decode cX12_hashOf 54 = .ok (.aload_n 0, 1) := by decide +kernel
theorem dX12_hashOf_55 : decode cX12_hashOf 55 = .ok (.getfield 281, 3) := by decide +kernel
theorem dX12_hashOf_58 : decode cX12_hashOf 58 = .ok (.bipush 6, 2) := by decide +kernel
theorem dX12_hashOf_60 : decode cX12_hashOf 60 = .ok (.ldc_w 440, 3) := by decide +kernel
theorem dX12_hashOf_63 : decode cX12_hashOf 63 = .ok (.iastore, 1) := by decide +kernel
theorem dX12_hashOf_64 : decode cX12_hashOf 64 = .ok (.aload_n 0, 1) := by decide +kernel
theorem dX12_hashOf_65 : decode cX12_hashOf 65 = .ok (.getfield 281, 3) := by decide +kernel
theorem dX12_hashOf_68 : decode cX12_hashOf 68 = .ok (.bipush 7, 2) := by decide +kernel
theorem dX12_hashOf_70 : decode cX12_hashOf 70 = .ok (.ldc_w 441, 3) := by decide +kernel
theorem dX12_hashOf_73 : decode cX12_hashOf 73 = .ok (.iastore, 1) := by decide +kernel
theorem dX12_hashOf_74 : decode cX12_hashOf 74 = .ok (.iload_n 2, 1) := by decide +kernel
theorem dX12_hashOf_75 : decode cX12_hashOf 75 = .ok (.bipush 72, 2) := by decide +kernel
theorem dX12_hashOf_77 : decode cX12_hashOf 77 = .ok (.iadd, 1) := by decide +kernel
theorem dX12_hashOf_78 : decode cX12_hashOf 78 = .ok (.bipush 64, 2) := by decide +kernel
theorem dX12_hashOf_80 : decode cX12_hashOf 80 = .ok (.idiv, 1) := by decide +kernel
theorem dX12_hashOf_81 : decode cX12_hashOf 81 = .ok (.bipush 64, 2) := by decide +kernel
theorem dX12_hashOf_83 : decode cX12_hashOf 83 = .ok (.imul, 1) := by decide +kernel
theorem dX12_hashOf_84 : decode cX12_hashOf 84 = .ok (.istore_n 3, 1) := by decide +kernel
theorem dX12_hashOf_85 : decode cX12_hashOf 85 = .ok (.iconst 0, 1) := by decide +kernel
theorem dX12_hashOf_86 : decode cX12_hashOf 86 = .ok (.istore 4, 2) := by decide +kernel
theorem dX12_hashOf_88 : decode cX12_hashOf 88 = .ok (.iload 4, 2) := by decide +kernel
theorem dX12_hashOf_90 : decode cX12_hashOf 90 = .ok (.iload_n 3, 1) := by decide +kernel
theorem dX12_hashOf_91 : decode cX12_hashOf 91 = .ok (.if_icmp .ge 42, 3) := by decide +kernel
theorem dX12_hashOf_94 : decode cX12_hashOf 94 = .ok (.aload_n 0, 1) := by decide +kernel
theorem dX12_hashOf_95 : decode cX12_hashOf 95 = .ok (.getfield 287, 3) := by decide +kernel
theorem dX12_hashOf_98 : decode cX12_hashOf 98 = .ok (.iload 4, 2) := by decide +kernel
theorem dX12_hashOf_100 : decode cX12_hashOf 100 = .ok (.iload 4, 2) := by decide +kernel
theorem dX12_hashOf_102 : decode cX12_hashOf 102 = .ok (.iload_n 2, 1) := by decide +kernel
theorem dX12_hashOf_103 : decode cX12_hashOf 103 = .ok (.if_icmp .ge 10, 3) := by decide +kernel
theorem dX12_hashOf_106 : decode cX12_hashOf 106 = .ok (.aload_n 1, 1) := by decide +kernel
theorem dX12_hashOf_107 : decode cX12_hashOf 107 = .ok (.iload 4, 2) := by decide +kernel
theorem dX12_hashOf_109 : decode cX12_hashOf 109 = .ok (.iaload, 1) := by decide +kernel
theorem dX12_hashOf_110 : decode cX12_hashOf 110 = .ok (.goto 16, 3) := by decide +kernel
theorem dX12_hashOf_113 : decode cX12_hashOf 113 = .ok (.iload 4, 2) := by decide +kernel
theorem dX12_hashOf_115 : decode cX12_hashOf 115 = .ok (.iload_n 2, 1) := by decide +kernel
theorem dX12_hashOf_116 : decode cX12_hashOf 116 = .ok (.if_icmp .ne 9, 3) := by decide +kernel
theorem dX12_hashOf_119 : decode cX12_hashOf 119 = .ok (.sipush 128, 3) := by decide +kernel
theorem dX12_hashOf_122 : decode cX12_hashOf 122 = .ok (.goto 4, 3) := by decide +kernel
theorem dX12_hashOf_125 : decode cX12_hashOf 125 = .ok (.iconst 0, 1) := by decide +kernel
theorem dX12_hashOf_126 : decode cX12_hashOf 126 = .ok (.iastore, 1) := by decide +kernel
theorem dX12_hashOf_127 : decode cX12_hashOf 127 = .ok (.iinc 4 1, 3) := by decide +kernel
theorem dX12_hashOf_130 : decode cX12_hashOf 130 = .ok (.goto (-42), 3) := by decide +kernel
theorem dX12_hashOf_133 : decode cX12_hashOf 133 = .ok (.iconst 0, 1) := by decide +kernel
theorem dX12_hashOf_134 : decode cX12_hashOf 134 = .ok (.istore 4, 2) := by decide +kernel
theorem dX12_hashOf_136 : decode cX12_hashOf 136 = .ok (.iload 4, 2) := by decide +kernel
theorem dX12_hashOf_138 : decode cX12_hashOf 138 = .ok (.iconst 4, 1) := by decide +kernel
theorem dX12_hashOf_139 : decode cX12_hashOf 139 = .ok (.if_icmp .ge 34, 3) := by decide +kernel
theorem dX12_hashOf_142 : decode cX12_hashOf 142 = .ok (.aload_n 0, 1) := by decide +kernel
theorem dX12_hashOf_143 : decode cX12_hashOf 143 = .ok (.getfield 287, 3) := by decide +kernel
theorem dX12_hashOf_146 : decode cX12_hashOf 146 = .ok (.iload_n 3, 1) := by decide +kernel
theorem dX12_hashOf_147 : decode cX12_hashOf 147 = .ok (.iconst 1, 1) := by decide +kernel
theorem dX12_hashOf_148 : decode cX12_hashOf 148 = .ok (.isub, 1) := by decide +kernel
theorem dX12_hashOf_149 : decode cX12_hashOf 149 = .ok (.iload 4, 2) := by decide +kernel
theorem dX12_hashOf_151 : decode cX12_hashOf 151 = .ok (.isub, 1) := by decide +kernel
theorem dX12_hashOf_152 : decode cX12_hashOf 152 = .ok (.bipush 8, 2) := by decide +kernel
theorem dX12_hashOf_154 : decode cX12_hashOf 154 = .ok (.iload_n 2, 1) := by decide +kernel
theorem dX12_hashOf_155 : decode cX12_hashOf 155 = .ok (.imul, 1) := by decide +kernel
theorem dX12_hashOf_156 : decode cX12_hashOf 156 = .ok (.bipush 8, 2) := by decide +kernel
theorem dX12_hashOf_158 : decode cX12_hashOf 158 = .ok (.iload 4, 2) := by decide +kernel
theorem dX12_hashOf_160 : decode cX12_hashOf 160 = .ok (.imul, 1) := by decide +kernel
theorem dX12_hashOf_161 : decode cX12_hashOf 161 = .ok (.iushr, 1) := by decide +kernel
theorem dX12_hashOf_162 : decode cX12_hashOf 162 = .ok (.sipush 255, 3) := by decide +kernel
theorem dX12_hashOf_165 : decode cX12_hashOf 165 = .ok (.iand, 1) := by decide +kernel
theorem dX12_hashOf_166 : decode cX12_hashOf 166 = .ok (.iastore, 1) := by decide +kernel
theorem dX12_hashOf_167 : decode cX12_hashOf 167 = .ok (.iinc 4 1, 3) := by decide +kernel
theorem dX12_hashOf_170 : decode cX12_hashOf 170 = .ok (.goto (-34), 3) := by decide +kernel
theorem dX12_hashOf_173 : decode cX12_hashOf 173 = .ok (.iconst 0, 1) := by decide +kernel
theorem dX12_hashOf_174 : decode cX12_hashOf 174 = .ok (.istore 4, 2) := by decide +kernel
theorem dX12_hashOf_176 : decode cX12_hashOf 176 = .ok (.iload 4, 2) := by decide +kernel
theorem dX12_hashOf_178 : decode cX12_hashOf 178 = .ok (.iload_n 3, 1) := by decide +kernel
theorem dX12_hashOf_179 : decode cX12_hashOf 179 = .ok (.if_icmp .ge 15, 3) := by decide +kernel
theorem dX12_hashOf_182 : decode cX12_hashOf 182 = .ok (.aload_n 0, 1) := by decide +kernel
theorem dX12_hashOf_183 : decode cX12_hashOf 183 = .ok (.iload 4, 2) := by decide +kernel
theorem dX12_hashOf_185 : decode cX12_hashOf 185 = .ok (.invokevirtual 442, 3) := by decide +kernel
theorem dX12_hashOf_188 : decode cX12_hashOf 188 = .ok (.iinc 4 64, 3) := by decide +kernel
theorem dX12_hashOf_191 : decode cX12_hashOf 191 = .ok (.goto (-15), 3) := by decide +kernel
theorem dX12_hashOf_194 : decode cX12_hashOf 194 = .ok (.iconst 0, 1) := by decide +kernel
theorem dX12_hashOf_195 : decode cX12_hashOf 195 = .ok (.istore 4, 2) := by decide +kernel
theorem dX12_hashOf_197 : decode cX12_hashOf 197 = .ok (.iload 4, 2) := by decide +kernel
theorem dX12_hashOf_199 : decode cX12_hashOf 199 = .ok (.bipush 32, 2) := by decide +kernel
theorem dX12_hashOf_201 : decode cX12_hashOf 201 = .ok (.if_icmp .ge 40, 3) := by decide +kernel
theorem dX12_hashOf_204 : decode cX12_hashOf 204 = .ok (.aload_n 0, 1) := by decide +kernel
theorem dX12_hashOf_205 : decode cX12_hashOf 205 = .ok (.getfield 293, 3) := by decide +kernel
theorem dX12_hashOf_208 : decode cX12_hashOf 208 = .ok (.iload 4, 2) := by decide +kernel
theorem dX12_hashOf_210 : decode cX12_hashOf 210 = .ok (.aload_n 0, 1) := by decide +kernel
theorem dX12_hashOf_211 : decode cX12_hashOf 211 = .ok (.getfield 281, 3) := by decide +kernel
theorem dX12_hashOf_214 : decode cX12_hashOf 214 = .ok (.iload 4, 2) := by decide +kernel
theorem dX12_hashOf_216 : decode cX12_hashOf 216 = .ok (.iconst 4, 1) := by decide +kernel
theorem dX12_hashOf_217 : decode cX12_hashOf 217 = .ok (.idiv, 1) := by decide +kernel
theorem dX12_hashOf_218 : decode cX12_hashOf 218 = .ok (.iaload, 1) := by decide +kernel
theorem dX12_hashOf_219 : decode cX12_hashOf 219 = .ok (.bipush 24, 2) := by decide +kernel
theorem dX12_hashOf_221 : decode cX12_hashOf 221 = .ok (.bipush 8, 2) := by decide +kernel
theorem dX12_hashOf_223 : decode cX12_hashOf 223 = .ok (.iload 4, 2) := by decide +kernel
theorem dX12_hashOf_225 : decode cX12_hashOf 225 = .ok (.iconst 4, 1) := by decide +kernel
theorem dX12_hashOf_226 : decode cX12_hashOf 226 = .ok (.irem, 1) := by decide +kernel
theorem dX12_hashOf_227 : decode cX12_hashOf 227 = .ok (.imul, 1) := by decide +kernel
theorem dX12_hashOf_228 : decode cX12_hashOf 228 = .ok (.isub, 1) := by decide +kernel
theorem dX12_hashOf_229 : decode cX12_hashOf 229 = .ok (.iushr, 1) := by decide +kernel
theorem dX12_hashOf_230 : decode cX12_hashOf 230 = .ok (.sipush 255, 3) := by decide +kernel
theorem dX12_hashOf_233 : decode cX12_hashOf 233 = .ok (.iand, 1) := by decide +kernel
theorem dX12_hashOf_234 : decode cX12_hashOf 234 = .ok (.iastore, 1) := by decide +kernel
theorem dX12_hashOf_235 : decode cX12_hashOf 235 = .ok (.iinc 4 1, 3) := by decide +kernel
theorem dX12_hashOf_238 : decode cX12_hashOf 238 = .ok (.goto (-41), 3) := by decide +kernel
theorem dX12_hashOf_241 : decode cX12_hashOf 241 = .ok (.return_, 1) := by decide +kernel
set_option maxRecDepth 20000 in
theorem ggX12_begin_X12_hashOf : GoodIn wsX12_begin wsX12_hashOf := goodIn_r _ [11, 12, 13, 14, 15, 16, 17, 18, 19, 20, 21, 5, 22, 23, 24, 10, 25, 26, 27, 28, 29, 30, 31, 32, 33, 34, 35, 36, 37, 38, 39, 40, 41, 42, 43, 44, 45, 46, 47, 48, 49, 50, 51, 52, 53, 54, 55, 56, 57, 58, 59, 60, 61, 62, 63, 64, 65, 66, 67, 68, 69, 70, 71, 72, 73, 74, 75, 76, 77, 78, 79, 80, 81, 82, 83, 84, 85, 86, 87, 88, 89, 90, 91, 92, 93, 94, 95, 96, 97, 98, 99, 100, 101, 102, 103, 104, 105, 106, 107, 108, 109, 110, 111] rfl (by decide +kernel)
set_option maxRecDepth 20000 in
theorem gX12_begin_X12_hashOf : GoodIn wsX12_begin (wsV RX12 446 RX12 yX12_hashOf wsX12_hashOf) := goodIn_app (goodIn_of _ (by decide +kernel)) ggX12_begin_X12_hashOf
theorem dX12_begin_0 : decode cX12_begin 0 = .ok (.aload_n 0, 1) := by decide +kernel
theorem dX12_begin_1 : decode cX12_begin 1 = .ok (.getfield 208, 3) := by decide +kernel
theorem dX12_begin_4 : decode cX12_begin 4 = .ok (.iload_n 1, 1) := by decide +kernel
theorem dX12_begin_5 : decode cX12_begin 5 = .ok (.iconst 1, 1) := by decide +kernel
theorem dX12_begin_6 : decode cX12_begin 6 = .ok (.iadd, 1) := by decide +kernel
theorem dX12_begin_7 : decode cX12_begin 7 = .ok (.iaload, 1) := by decide +kernel
theorem dX12_begin_8 : decode cX12_begin 8 = .ok (.aload_n 0, 1) := by decide +kernel
theorem dX12_begin_9 : decode cX12_begin 9 = .ok (.getfield 208, 3) := by decide +kernel
theorem dX12_begin_12 : decode cX12_begin 12 = .ok (.iload_n 1, 1) := by decide +kernel
theorem dX12_begin_13 : decode cX12_begin 13 = .ok (.iaload, 1) := by decide +kernel
theorem dX12_begin_14 : decode cX12_begin 14 = .ok (.isub, 1) := by decide +kernel
theorem dX12_begin_15 : decode cX12_begin 15 = .ok (.istore_n 2, 1) := by decide +kernel
theorem dX12_begin_16 : decode cX12_begin 16 = .ok (.iconst 0, 1) := by decide +kernel
theorem dX12_begin_17 : decode cX12_begin 17 = .ok (.istore_n 3, 1) := by decide +kernel
theorem dX12_begin_18 : decode cX12_begin 18 = .ok (.iload_n 3, 1) := by decide +kernel
theorem dX12_begin_19 : decode cX12_begin 19 = .ok (.iload_n 2, 1) := by decide +kernel
theorem dX12_begin_20 : decode cX12_begin 20 = .ok (.if_icmp .ge 28, 3) := by decide +kernel
theorem dX12_begin_23 : decode cX12_begin 23 = .ok (.aload_n 0, 1) := by decide +kernel
theorem dX12_begin_24 : decode cX12_begin 24 = .ok (.getfield 296, 3) := by decide +kernel
theorem dX12_begin_27 : decode cX12_begin 27 = .ok (.iload_n 3, 1) := by decide +kernel
theorem dX12_begin_28 : decode cX12_begin 28 = .ok (.aload_n 0, 1) := by decide +kernel
theorem dX12_begin_29 : decode cX12_begin 29 = .ok (.getfield 211, 3) := by decide +kernel
theorem dX12_begin_32 : decode cX12_begin 32 = .ok (.aload_n 0, 1) := by decide +kernel
theorem dX12_begin_33 : decode cX12_begin 33 = .ok (.getfield 208, 3) := by decide +kernel
theorem dX12_begin_36 : decode cX12_begin 36 = .ok (.iload_n 1, 1) := by decide +kernel
theorem dX12_begin_37 : decode cX12_begin 37 = .ok (.iaload, 1) := by decide +kernel
theorem dX12_begin_38 : decode cX12_begin 38 = .ok (.iload_n 3, 1) := by decide +kernel
theorem dX12_begin_39 : decode cX12_begin 39 = .ok (.iadd, 1) := by decide +kernel
theorem dX12_begin_40 : decode cX12_begin 40 = .ok (.iaload, 1) := by decide +kernel
theorem dX12_begin_41 : decode cX12_begin 41 = .ok (.iastore, 1) := by decide +kernel
theorem dX12_begin_42 : decode cX12_begin 42 = .ok (.iinc 3 1, 3) := by decide +kernel
theorem dX12_begin_45 : decode cX12_begin 45 = .ok (.goto (-27), 3) := by decide +kernel
theorem dX12_begin_48 : decode cX12_begin 48 = .ok (.aload_n 0, 1) := by decide +kernel
theorem dX12_begin_49 : decode cX12_begin 49 = .ok (.aload_n 0, 1) := by decide +kernel
theorem dX12_begin_50 : decode cX12_begin 50 = .ok (.getfield 296, 3) := by decide +kernel
theorem dX12_begin_53 : decode cX12_begin 53 = .ok (.iload_n 2, 1) := by decide +kernel
theorem dX12_begin_54 : decode cX12_begin 54 = .ok (.invokevirtual 446, 3) := by decide +kernel
theorem dX12_begin_57 : decode cX12_begin 57 = .ok (.iconst 0, 1) := by decide +kernel
theorem dX12_begin_58 : decode cX12_begin 58 = .ok (.istore_n 3, 1) := by decide +kernel
theorem dX12_begin_59 : decode cX12_begin 59 = .ok (.iload_n 3, 1) := by decide +kernel
theorem dX12_begin_60 : decode cX12_begin 60 = .ok (.bipush 64, 2) := by decide +kernel
theorem dX12_begin_62 : decode cX12_begin 62 = .ok (.if_icmp .ge 24, 3) := by decide +kernel
theorem dX12_begin_65 : decode cX12_begin 65 = .ok (.aload_n 0, 1) := by decide +kernel
theorem dX12_begin_66 : decode cX12_begin 66 = .ok (.getfield 290, 3) := by decide +kernel
theorem dX12_begin_69 : decode cX12_begin 69 = .ok (.iload_n 3, 1) := by decide +kernel
theorem dX12_begin_70 : decode cX12_begin 70 = .ok (.aload_n 0, 1) := by decide +kernel
theorem dX12_begin_71 : decode cX12_begin 71 = .ok (.getfield 293, 3) := by decide +kernel
theorem dX12_begin_74 : decode cX12_begin 74 = .ok (.iload_n 3, 1) := by decide +kernel
theorem dX12_begin_75 : decode cX12_begin 75 = .ok (.bipush 32, 2) := by decide +kernel
theorem dX12_begin_77 : decode cX12_begin 77 = .ok (.irem, 1) := by decide +kernel
theorem dX12_begin_78 : decode cX12_begin 78 = .ok (.iaload, 1) := by decide +kernel
theorem dX12_begin_79 : decode cX12_begin 79 = .ok (.iastore, 1) := by decide +kernel
theorem dX12_begin_80 : decode cX12_begin 80 = .ok (.iinc 3 1, 3) := by decide +kernel
theorem dX12_begin_83 : decode cX12_begin 83 = .ok (.goto (-24), 3) := by decide +kernel
theorem dX12_begin_86 : decode cX12_begin 86 = .ok (.aload_n 0, 1) := by decide +kernel
theorem dX12_begin_87 : decode cX12_begin 87 = .ok (.bipush 64, 2) := by decide +kernel
theorem dX12_begin_89 : decode cX12_begin 89 = .ok (.putfield 450, 3) := by decide +kernel
theorem dX12_begin_92 : decode cX12_begin 92 = .ok (.return_, 1) := by decide +kernel
theorem dX12_byteTo_0 : decode cX12_byteTo 0 = .ok (.aload_n 0, 1) := by decide +kernel
theorem dX12_byteTo_1 : decode cX12_byteTo 1 = .ok (.getfield 290, 3) := by decide +kernel
theorem dX12_byteTo_4 : decode cX12_byteTo 4 = .ok (.aload_n 0, 1) := by decide +kernel
theorem dX12_byteTo_5 : decode cX12_byteTo 5 = .ok (.getfield 450, 3) := by decide +kernel
theorem dX12_byteTo_8 : decode cX12_byteTo 8 = .ok (.iload_n 1, 1) := by decide +kernel
theorem dX12_byteTo_9 : decode cX12_byteTo 9 = .ok (.iastore, 1) := by decide +kernel
theorem dX12_byteTo_10 : decode cX12_byteTo 10 = .ok (.aload_n 0, 1) := by decide +kernel
theorem dX12_byteTo_11 : decode cX12_byteTo 11 = .ok (.dup, 1) := by decide +kernel
theorem dX12_byteTo_12 : decode cX12_byteTo 12 = .ok (.getfield 450, 3) := by decide +kernel
theorem dX12_byteTo_15 : decode cX12_byteTo 15 = .ok (.iconst 1, 1) := by decide +kernel
theorem dX12_byteTo_16 : decode cX12_byteTo 16 = .ok (.iadd, 1) := by decide +kernel
theorem dX12_byteTo_17 : decode cX12_byteTo 17 = .ok (.putfield 450, 3) := by decide +kernel
theorem dX12_byteTo_20 : decode cX12_byteTo 20 = .ok (.return_, 1) := by decide +kernel
set_option maxRecDepth 20000 in
theorem ggX12_putAll_X12_byteTo : GoodIn wsX12_putAll wsX12_byteTo := goodIn_r _ [5, 6, 7, 8, 9, 10, 11, 12, 13, 14, 15, 16, 17, 18, 19, 20, 21, 22, 23, 24, 25, 26, 27, 28, 29, 30, 31, 32, 33, 34, 35, 36, 37, 38, 39, 40, 41, 42, 43, 44, 45, 46, 47, 48, 49, 50, 51, 52, 53, 54, 55, 56, 57, 58, 59, 60, 61, 62, 63, 64, 65, 66, 67, 68, 69, 70, 71, 72, 73, 74, 75, 76, 77, 78, 79, 80, 81, 82, 83, 84, 85, 86, 87, 88] rfl (by decide +kernel)
set_option maxRecDepth 20000 in
theorem gX12_putAll_X12_byteTo : GoodIn wsX12_putAll (wsV RX12 454 RX12 yX12_byteTo wsX12_byteTo) := goodIn_app (goodIn_of _ (by decide +kernel)) ggX12_putAll_X12_byteTo
theorem dX12_putAll_0 : decode cX12_putAll 0 = .ok (.iconst 0, 1) := by decide +kernel
theorem dX12_putAll_1 : decode cX12_putAll 1 = .ok (.istore 4, 2) := by decide +kernel
theorem dX12_putAll_3 : decode cX12_putAll 3 = .ok (.iload 4, 2) := by decide +kernel
theorem dX12_putAll_5 : decode cX12_putAll 5 = .ok (.iload_n 3, 1) := by decide +kernel
theorem dX12_putAll_6 : decode cX12_putAll 6 = .ok (.if_icmp .ge 19, 3) := by decide +kernel
theorem dX12_putAll_9 : decode cX12_putAll 9 = .ok (.aload_n 0, 1) := by decide +kernel
theorem dX12_putAll_10 : decode cX12_putAll 10 = .ok (.aload_n 1, 1) := by decide +kernel
theorem dX12_putAll_11 : decode cX12_putAll 11 = .ok (.iload_n 2, 1) := by decide +kernel
theorem dX12_putAll_12 : decode cX12_putAll 12 = .ok (.iload 4, 2) := by decide +kernel
theorem dX12_putAll_14 : decode cX12_putAll 14 = .ok (.iadd, 1) := by decide +kernel
theorem dX12_putAll_15 : decode cX12_putAll 15 = .ok (.iaload, 1) := by decide +kernel
theorem dX12_putAll_16 : decode cX12_putAll 16 = .ok (.invokevirtual 454, 3) := by decide +kernel
theorem dX12_putAll_19 : decode cX12_putAll 19 = .ok (.iinc 4 1, 3) := by decide +kernel
theorem dX12_putAll_22 : decode cX12_putAll 22 = .ok (.goto (-19), 3) := by decide +kernel
theorem dX12_putAll_25 : decode cX12_putAll 25 = .ok (.return_, 1) := by decide +kernel
set_option maxRecDepth 20000 in
theorem ggX12_putNumber_X12_bytesOf : GoodIn wsX12_putNumber wsX12_bytesOf := goodIn_r _ [6, 7] rfl (by decide +kernel)
set_option maxRecDepth 20000 in
theorem gX12_putNumber_X12_bytesOf : GoodIn wsX12_putNumber (va_wsS RX12 426 yX12_bytesOf wsX12_bytesOf) := goodIn_app (goodIn_of _ (by decide +kernel)) ggX12_putNumber_X12_bytesOf
theorem dX12_putNumber_0 : decode cX12_putNumber 0 = .ok (.aload_n 0, 1) := by decide +kernel
theorem dX12_putNumber_1 : decode cX12_putNumber 1 = .ok (.getfield 290, 3) := by decide +kernel
theorem dX12_putNumber_4 : decode cX12_putNumber 4 = .ok (.aload_n 0, 1) := by decide +kernel
theorem dX12_putNumber_5 : decode cX12_putNumber 5 = .ok (.getfield 450, 3) := by decide +kernel
theorem dX12_putNumber_8 : decode cX12_putNumber 8 = .ok (.aload_n 1, 1) := by decide +kernel
theorem dX12_putNumber_9 : decode cX12_putNumber 9 = .ok (.invokestatic 426, 3) := by decide +kernel
theorem dX12_putNumber_12 : decode cX12_putNumber 12 = .ok (.aload_n 0, 1) := by decide +kernel
theorem dX12_putNumber_13 : decode cX12_putNumber 13 = .ok (.dup, 1) := by decide +kernel
theorem dX12_putNumber_14 : decode cX12_putNumber 14 = .ok (.getfield 450, 3) := by decide +kernel
theorem dX12_putNumber_17 : decode cX12_putNumber 17 = .ok (.bipush 32, 2) := by decide +kernel
theorem dX12_putNumber_19 : decode cX12_putNumber 19 = .ok (.iadd, 1) := by decide +kernel
theorem dX12_putNumber_20 : decode cX12_putNumber 20 = .ok (.putfield 450, 3) := by decide +kernel
theorem dX12_putNumber_23 : decode cX12_putNumber 23 = .ok (.return_, 1) := by decide +kernel
set_option maxRecDepth 20000 in
theorem ggX12_end_X12_hashOf : GoodIn wsX12_end wsX12_hashOf := goodIn_r _ [7, 8, 9, 10, 11, 12, 13, 14, 15, 16, 17, 18, 19, 20, 21, 6, 22, 23, 24, 25, 26, 27, 28, 29, 30, 31, 32, 33, 34, 35, 36, 37, 38, 39, 40, 41, 42, 43, 44, 45, 46, 47, 48, 49, 50, 51, 52, 53, 54, 55, 56, 57, 58, 59, 60, 61, 62, 63, 64, 65, 66, 67, 68, 69, 70, 71, 72, 73, 74, 75, 76, 77, 78, 79, 80, 81, 82, 83, 84, 85, 86, 87, 88, 89, 90, 91, 92, 93, 94, 95, 96, 97, 98, 99, 100, 101, 102, 103, 104, 105, 106, 107, 108] rfl (by decide +kernel)
set_option maxRecDepth 20000 in
theorem gX12_end_X12_hashOf : GoodIn wsX12_end (wsV RX12 446 RX12 yX12_hashOf wsX12_hashOf) := goodIn_app (goodIn_of _ (by decide +kernel)) ggX12_end_X12_hashOf
theorem dX12_end_0 : decode cX12_end 0 = .ok (.aload_n 0, 1) := by decide +kernel
theorem dX12_end_1 : decode cX12_end 1 = .ok (.aload_n 0, 1) := by decide +kernel
theorem dX12_end_2 : decode cX12_end 2 = .ok (.getfield 290, 3) := by decide +kernel
theorem dX12_end_5 : decode cX12_end 5 = .ok (.aload_n 0, 1) := by decide +kernel
theorem dX12_end_6 : decode cX12_end 6 = .ok (.getfield 450, 3) := by decide +kernel
theorem dX12_end_9 : decode cX12_end 9 = .ok (.invokevirtual 446, 3) := by decide +kernel
theorem dX12_end_12 : decode cX12_end 12 = .ok (.return_, 1) := by decide +kernel
set_option maxRecDepth 20000 in
theorem ggX12_endNumber_X12_end : GoodIn wsX12_endNumber wsX12_end := goodIn_r _ [7, 8, 9, 10, 11, 12, 6, 13, 14, 15, 16, 17, 18, 19, 20, 21, 22, 23, 1, 24, 25, 26, 27, 28, 29, 30, 31, 32, 43, 44, 45, 46, 47, 48, 49, 50, 51, 52, 53, 54, 55, 56, 57, 58, 59, 60, 61, 62, 63, 64, 65, 66, 67, 68, 69, 70, 71, 72, 73, 74, 75, 76, 77, 78, 79, 80, 81, 82, 83, 84, 85, 86, 87, 88, 89, 90, 91, 92, 93, 94, 95, 96, 97, 98, 99, 100, 101, 102, 103, 104, 105, 106, 107, 108, 109, 110, 111, 112, 113, 114, 115, 116, 117, 118, 119, 120, 121, 122, 123] rfl (by decide +kernel)
set_option maxRecDepth 20000 in
theorem gX12_endNumber_X12_end : GoodIn wsX12_endNumber (wsV RX12 457 RX12 yX12_end wsX12_end) := goodIn_app (goodIn_of _ (by decide +kernel)) ggX12_endNumber_X12_end
set_option maxRecDepth 20000 in
theorem ggX12_endNumber_X12_numberOf : GoodIn wsX12_endNumber wsX12_numberOf := goodIn_r _ [35] rfl (by decide +kernel)
set_option maxRecDepth 20000 in
theorem gX12_endNumber_X12_numberOf : GoodIn wsX12_endNumber (va_wsS RX12 419 yX12_numberOf wsX12_numberOf) := goodIn_app (goodIn_of _ (by decide +kernel)) ggX12_endNumber_X12_numberOf
set_option maxRecDepth 20000 in
theorem ggX12_endNumber_X12_isBelow : GoodIn wsX12_endNumber wsX12_isBelow := goodIn_r _ [38] rfl (by decide +kernel)
set_option maxRecDepth 20000 in
theorem gX12_endNumber_X12_isBelow : GoodIn wsX12_endNumber (va_wsS RX12 365 yX12_isBelow wsX12_isBelow) := goodIn_app (goodIn_of _ (by decide +kernel)) ggX12_endNumber_X12_isBelow
set_option maxRecDepth 20000 in
theorem ggX12_endNumber_X12_take : GoodIn wsX12_endNumber wsX12_take := goodIn_r _ [41, 42] rfl (by decide +kernel)
set_option maxRecDepth 20000 in
theorem gX12_endNumber_X12_take : GoodIn wsX12_endNumber (va_wsS RX12 369 yX12_take wsX12_take) := goodIn_app (goodIn_of _ (by decide +kernel)) ggX12_endNumber_X12_take
theorem dX12_endNumber_0 : decode cX12_endNumber 0 = .ok (.aload_n 0, 1) := by decide +kernel
theorem dX12_endNumber_1 : decode cX12_endNumber 1 = .ok (.invokevirtual 457, 3) := by decide +kernel
theorem dX12_endNumber_4 : decode cX12_endNumber 4 = .ok (.aload_n 1, 1) := by decide +kernel
theorem dX12_endNumber_5 : decode cX12_endNumber 5 = .ok (.aload_n 0, 1) := by decide +kernel
theorem dX12_endNumber_6 : decode cX12_endNumber 6 = .ok (.getfield 293, 3) := by decide +kernel
theorem dX12_endNumber_9 : decode cX12_endNumber 9 = .ok (.iconst 0, 1) := by decide +kernel
theorem dX12_endNumber_10 : decode cX12_endNumber 10 = .ok (.invokestatic 419, 3) := by decide +kernel
theorem dX12_endNumber_13 : decode cX12_endNumber 13 = .ok (.aload_n 1, 1) := by decide +kernel
theorem dX12_endNumber_14 : decode cX12_endNumber 14 = .ok (.aload_n 0, 1) := by decide +kernel
theorem dX12_endNumber_15 : decode cX12_endNumber 15 = .ok (.getfield 27, 3) := by decide +kernel
theorem dX12_endNumber_18 : decode cX12_endNumber 18 = .ok (.invokestatic 365, 3) := by decide +kernel
theorem dX12_endNumber_21 : decode cX12_endNumber 21 = .ok (.ifCond .ne 12, 3) := by decide +kernel
theorem dX12_endNumber_24 : decode cX12_endNumber 24 = .ok (.aload_n 1, 1) := by decide +kernel
theorem dX12_endNumber_25 : decode cX12_endNumber 25 = .ok (.aload_n 1, 1) := by decide +kernel
theorem dX12_endNumber_26 : decode cX12_endNumber 26 = .ok (.aload_n 0, 1) := by decide +kernel
theorem dX12_endNumber_27 : decode cX12_endNumber 27 = .ok (.getfield 27, 3) := by decide +kernel
theorem dX12_endNumber_30 : decode cX12_endNumber 30 = .ok (.invokestatic 369, 3) := by decide +kernel
theorem dX12_endNumber_33 : decode cX12_endNumber 33 = .ok (.return_, 1) := by decide +kernel
set_option maxRecDepth 20000 in
theorem ggX12_put_X12_isRow : GoodIn wsX12_put wsX12_isRow := goodIn_r _ [8, 9, 10, 11, 7, 12] rfl (by decide +kernel)
set_option maxRecDepth 20000 in
theorem gX12_put_X12_isRow : GoodIn wsX12_put (va_wsS RX12 460 yX12_isRow wsX12_isRow) := goodIn_app (goodIn_of _ (by decide +kernel)) ggX12_put_X12_isRow
set_option maxRecDepth 20000 in
theorem ggX12_put_X12_in : GoodIn wsX12_put wsX12_in := goodIn_r _ [12] rfl (by decide +kernel)
set_option maxRecDepth 20000 in
theorem gX12_put_X12_in : GoodIn wsX12_put (va_wsS RX12 361 yX12_in wsX12_in) := goodIn_app (goodIn_of _ (by decide +kernel)) ggX12_put_X12_in
theorem dX12_put_0 : decode cX12_put 0 = .ok (.iload_n 1, 1) := by decide +kernel
theorem dX12_put_1 : decode cX12_put 1 = .ok (.invokestatic 460, 3) := by decide +kernel
theorem dX12_put_4 : decode cX12_put 4 = .ok (.ifCond .eq 15, 3) := by decide +kernel
theorem dX12_put_7 : decode cX12_put 7 = .ok (.iload_n 2, 1) := by decide +kernel
theorem dX12_put_8 : decode cX12_put 8 = .ok (.i2l, 1) := by decide +kernel
theorem dX12_put_9 : decode cX12_put 9 = .ok (.lconst 1, 1) := by decide +kernel
theorem dX12_put_10 : decode cX12_put 10 = .ok (.ldc2_w 464, 3) := by decide +kernel
theorem dX12_put_13 : decode cX12_put 13 = .ok (.invokestatic 361, 3) := by decide +kernel
theorem dX12_put_16 : decode cX12_put 16 = .ok (.ifCond .ne 5, 3) := by decide +kernel
theorem dX12_put_19 : decode cX12_put 19 = .ok (.iconst (-1), 1) := by decide +kernel
theorem dX12_put_20 : decode cX12_put 20 = .ok (.ireturn, 1) := by decide +kernel
theorem dX12_put_21 : decode cX12_put 21 = .ok (.aload_n 0, 1) := by decide +kernel
theorem dX12_put_22 : decode cX12_put 22 = .ok (.getfield 96, 3) := by decide +kernel
theorem dX12_put_25 : decode cX12_put 25 = .ok (.iload_n 1, 1) := by decide +kernel
theorem dX12_put_26 : decode cX12_put 26 = .ok (.iaload, 1) := by decide +kernel
theorem dX12_put_27 : decode cX12_put 27 = .ok (.iload_n 2, 1) := by decide +kernel
theorem dX12_put_28 : decode cX12_put 28 = .ok (.iadd, 1) := by decide +kernel
theorem dX12_put_29 : decode cX12_put 29 = .ok (.bipush 100, 2) := by decide +kernel
theorem dX12_put_31 : decode cX12_put 31 = .ok (.if_icmp .le 6, 3) := by decide +kernel
theorem dX12_put_34 : decode cX12_put 34 = .ok (.bipush (-3), 2) := by decide +kernel
theorem dX12_put_36 : decode cX12_put 36 = .ok (.ireturn, 1) := by decide +kernel
theorem dX12_put_37 : decode cX12_put 37 = .ok (.iload_n 2, 1) := by decide +kernel
theorem dX12_put_38 : decode cX12_put 38 = .ok (.iconst 1, 1) := by decide +kernel
theorem dX12_put_39 : decode cX12_put 39 = .ok (.isub, 1) := by decide +kernel
theorem dX12_put_40 : decode cX12_put 40 = .ok (.istore 5, 2) := by decide +kernel
theorem dX12_put_42 : decode cX12_put 42 = .ok (.iload 5, 2) := by decide +kernel
theorem dX12_put_44 : decode cX12_put 44 = .ok (.ifCond .lt 47, 3) := by decide +kernel
theorem dX12_put_47 : decode cX12_put 47 = .ok (.aload_n 0, 1) := by decide +kernel
theorem dX12_put_48 : decode cX12_put 48 = .ok (.getfield 100, 3) := by decide +kernel
theorem dX12_put_51 : decode cX12_put 51 = .ok (.bipush 100, 2) := by decide +kernel
theorem dX12_put_53 : decode cX12_put 53 = .ok (.iload_n 1, 1) := by decide +kernel
theorem dX12_put_54 : decode cX12_put 54 = .ok (.imul, 1) := by decide +kernel
theorem dX12_put_55 : decode cX12_put 55 = .ok (.aload_n 0, 1) := by decide +kernel
theorem dX12_put_56 : decode cX12_put 56 = .ok (.getfield 96, 3) := by decide +kernel
theorem dX12_put_59 : decode cX12_put 59 = .ok (.iload_n 1, 1) := by decide +kernel
theorem dX12_put_60 : decode cX12_put 60 = .ok (.iaload, 1) := by decide +kernel
theorem dX12_put_61 : decode cX12_put 61 = .ok (.iadd, 1) := by decide +kernel
theorem dX12_put_62 : decode cX12_put 62 = .ok (.lload_n 3, 1) := by decide +kernel
theorem dX12_put_63 : decode cX12_put 63 = .ok (.bipush 8, 2) := by decide +kernel
theorem dX12_put_65 : decode cX12_put 65 = .ok (.iload 5, 2) := by decide +kernel
theorem dX12_put_67 : decode cX12_put 67 = .ok (.imul, 1) := by decide +kernel
theorem dX12_put_68 : decode cX12_put 68 = .ok (.lshr, 1) := by decide +kernel
theorem dX12_put_69 : decode cX12_put 69 = .ok (.ldc2_w 417, 3) := by decide +kernel
theorem dX12_put_72 : decode cX12_put 72 = .ok (.land, 1) := by decide +kernel
theorem dX12_put_73 : decode cX12_put 73 = .ok (.l2i, 1) := by decide +kernel
theorem dX12_put_74 : decode cX12_put 74 = .ok (.iastore, 1) := by decide +kernel
theorem dX12_put_75 : decode cX12_put 75 = .ok (.aload_n 0, 1) := by decide +kernel
theorem dX12_put_76 : decode cX12_put 76 = .ok (.getfield 96, 3) := by decide +kernel
theorem dX12_put_79 : decode cX12_put 79 = .ok (.iload_n 1, 1) := by decide +kernel
theorem dX12_put_80 : decode cX12_put 80 = .ok (.dup2, 1) := by decide +kernel
theorem dX12_put_81 : decode cX12_put 81 = .ok (.iaload, 1) := by decide +kernel
theorem dX12_put_82 : decode cX12_put 82 = .ok (.iconst 1, 1) := by decide +kernel
theorem dX12_put_83 : decode cX12_put 83 = .ok (.iadd, 1) := by decide +kernel
theorem dX12_put_84 : decode cX12_put 84 = .ok (.iastore, 1) := by decide +kernel
theorem dX12_put_85 : decode cX12_put 85 = .ok (.iinc 5 (-1), 3) := by decide +kernel
theorem dX12_put_88 : decode cX12_put 88 = .ok (.goto (-46), 3) := by decide +kernel
theorem dX12_put_91 : decode cX12_put 91 = .ok (.aload_n 0, 1) := by decide +kernel
theorem dX12_put_92 : decode cX12_put 92 = .ok (.getfield 96, 3) := by decide +kernel
theorem dX12_put_95 : decode cX12_put 95 = .ok (.iload_n 1, 1) := by decide +kernel
theorem dX12_put_96 : decode cX12_put 96 = .ok (.iaload, 1) := by decide +kernel
theorem dX12_put_97 : decode cX12_put 97 = .ok (.ireturn, 1) := by decide +kernel
set_option maxRecDepth 20000 in
theorem ggX12_clear_X12_isRow : GoodIn wsX12_clear wsX12_isRow := goodIn_r _ [5, 6, 7, 8, 4, 9] rfl (by decide +kernel)
set_option maxRecDepth 20000 in
theorem gX12_clear_X12_isRow : GoodIn wsX12_clear (va_wsS RX12 460 yX12_isRow wsX12_isRow) := goodIn_app (goodIn_of _ (by decide +kernel)) ggX12_clear_X12_isRow
theorem dX12_clear_0 : decode cX12_clear 0 = .ok (.iload_n 1, 1) := by decide +kernel
theorem dX12_clear_1 : decode cX12_clear 1 = .ok (.invokestatic 460, 3) := by decide +kernel
theorem dX12_clear_4 : decode cX12_clear 4 = .ok (.ifCond .ne 5, 3) := by decide +kernel
theorem dX12_clear_7 : decode cX12_clear 7 = .ok (.iconst (-1), 1) := by decide +kernel
theorem dX12_clear_8 : decode cX12_clear 8 = .ok (.ireturn, 1) := by decide +kernel
theorem dX12_clear_9 : decode cX12_clear 9 = .ok (.aload_n 0, 1) := by decide +kernel
theorem dX12_clear_10 : decode cX12_clear 10 = .ok (.getfield 96, 3) := by decide +kernel
theorem dX12_clear_13 : decode cX12_clear 13 = .ok (.iload_n 1, 1) := by decide +kernel
theorem dX12_clear_14 : decode cX12_clear 14 = .ok (.iaload, 1) := by decide +kernel
theorem dX12_clear_15 : decode cX12_clear 15 = .ok (.istore_n 2, 1) := by decide +kernel
theorem dX12_clear_16 : decode cX12_clear 16 = .ok (.aload_n 0, 1) := by decide +kernel
theorem dX12_clear_17 : decode cX12_clear 17 = .ok (.getfield 96, 3) := by decide +kernel
theorem dX12_clear_20 : decode cX12_clear 20 = .ok (.iload_n 1, 1) := by decide +kernel
theorem dX12_clear_21 : decode cX12_clear 21 = .ok (.iconst 0, 1) := by decide +kernel
theorem dX12_clear_22 : decode cX12_clear 22 = .ok (.iastore, 1) := by decide +kernel
theorem dX12_clear_23 : decode cX12_clear 23 = .ok (.iload_n 2, 1) := by decide +kernel
theorem dX12_clear_24 : decode cX12_clear 24 = .ok (.ireturn, 1) := by decide +kernel
set_option maxRecDepth 20000 in
theorem ggX12_at_X12_isRow : GoodIn wsX12_at wsX12_isRow := goodIn_r _ [6, 7, 8, 9, 5, 10] rfl (by decide +kernel)
set_option maxRecDepth 20000 in
theorem gX12_at_X12_isRow : GoodIn wsX12_at (va_wsS RX12 460 yX12_isRow wsX12_isRow) := goodIn_app (goodIn_of _ (by decide +kernel)) ggX12_at_X12_isRow
theorem dX12_at_0 : decode cX12_at 0 = .ok (.iload_n 1, 1) := by decide +kernel
theorem dX12_at_1 : decode cX12_at 1 = .ok (.invokestatic 460, 3) := by decide +kernel
theorem dX12_at_4 : decode cX12_at 4 = .ok (.ifCond .eq 8, 3) := by decide +kernel
theorem dX12_at_7 : decode cX12_at 7 = .ok (.iload_n 2, 1) := by decide +kernel
theorem dX12_at_8 : decode cX12_at 8 = .ok (.iconst (-1), 1) := by decide +kernel
theorem dX12_at_9 : decode cX12_at 9 = .ok (.if_icmp .ge 7, 3) := by decide +kernel
theorem dX12_at_12 : decode cX12_at 12 = .ok (.iconst (-1), 1) := by decide +kernel
theorem dX12_at_13 : decode cX12_at 13 = .ok (.goto 42, 3) := by decide +kernel
theorem dX12_at_16 : decode cX12_at 16 = .ok (.iload_n 2, 1) := by decide +kernel
theorem dX12_at_17 : decode cX12_at 17 = .ok (.ifCond .ge 12, 3) := by decide +kernel
theorem dX12_at_20 : decode cX12_at 20 = .ok (.aload_n 0, 1) := by decide +kernel
theorem dX12_at_21 : decode cX12_at 21 = .ok (.getfield 96, 3) := by decide +kernel
theorem dX12_at_24 : decode cX12_at 24 = .ok (.iload_n 1, 1) := by decide +kernel
theorem dX12_at_25 : decode cX12_at 25 = .ok (.iaload, 1) := by decide +kernel
theorem dX12_at_26 : decode cX12_at 26 = .ok (.goto 29, 3) := by decide +kernel
theorem dX12_at_29 : decode cX12_at 29 = .ok (.iload_n 2, 1) := by decide +kernel
theorem dX12_at_30 : decode cX12_at 30 = .ok (.aload_n 0, 1) := by decide +kernel
theorem dX12_at_31 : decode cX12_at 31 = .ok (.getfield 96, 3) := by decide +kernel
theorem dX12_at_34 : decode cX12_at 34 = .ok (.iload_n 1, 1) := by decide +kernel
theorem dX12_at_35 : decode cX12_at 35 = .ok (.iaload, 1) := by decide +kernel
theorem dX12_at_36 : decode cX12_at 36 = .ok (.if_icmp .ge 17, 3) := by decide +kernel
theorem dX12_at_39 : decode cX12_at 39 = .ok (.aload_n 0, 1) := by decide +kernel
theorem dX12_at_40 : decode cX12_at 40 = .ok (.getfield 100, 3) := by decide +kernel
theorem dX12_at_43 : decode cX12_at 43 = .ok (.bipush 100, 2) := by decide +kernel
theorem dX12_at_45 : decode cX12_at 45 = .ok (.iload_n 1, 1) := by decide +kernel
theorem dX12_at_46 : decode cX12_at 46 = .ok (.imul, 1) := by decide +kernel
theorem dX12_at_47 : decode cX12_at 47 = .ok (.iload_n 2, 1) := by decide +kernel
theorem dX12_at_48 : decode cX12_at 48 = .ok (.iadd, 1) := by decide +kernel
theorem dX12_at_49 : decode cX12_at 49 = .ok (.iaload, 1) := by decide +kernel
theorem dX12_at_50 : decode cX12_at 50 = .ok (.goto 5, 3) := by decide +kernel
theorem dX12_at_53 : decode cX12_at 53 = .ok (.bipush (-4), 2) := by decide +kernel
theorem dX12_at_55 : decode cX12_at 55 = .ok (.ireturn, 1) := by decide +kernel
set_option maxRecDepth 20000 in
theorem ggX12_bend_X12_isRow : GoodIn wsX12_bend wsX12_isRow := goodIn_r _ [7, 8, 9, 10, 6, 11] rfl (by decide +kernel)
set_option maxRecDepth 20000 in
theorem gX12_bend_X12_isRow : GoodIn wsX12_bend (va_wsS RX12 460 yX12_isRow wsX12_isRow) := goodIn_app (goodIn_of _ (by decide +kernel)) ggX12_bend_X12_isRow
set_option maxRecDepth 20000 in
theorem ggX12_bend_X12_in : GoodIn wsX12_bend wsX12_in := goodIn_r _ [11] rfl (by decide +kernel)
set_option maxRecDepth 20000 in
theorem gX12_bend_X12_in : GoodIn wsX12_bend (va_wsS RX12 361 yX12_in wsX12_in) := goodIn_app (goodIn_of _ (by decide +kernel)) ggX12_bend_X12_in
theorem dX12_bend_0 : decode cX12_bend 0 = .ok (.iload_n 1, 1) := by decide +kernel
theorem dX12_bend_1 : decode cX12_bend 1 = .ok (.invokestatic 460, 3) := by decide +kernel
theorem dX12_bend_4 : decode cX12_bend 4 = .ok (.ifCond .eq 33, 3) := by decide +kernel
theorem dX12_bend_7 : decode cX12_bend 7 = .ok (.iload_n 2, 1) := by decide +kernel
theorem dX12_bend_8 : decode cX12_bend 8 = .ok (.i2l, 1) := by decide +kernel
theorem dX12_bend_9 : decode cX12_bend 9 = .ok (.lconst 0, 1) := by decide +kernel
theorem dX12_bend_10 : decode cX12_bend 10 = .ok (.aload_n 0, 1) := by decide +kernel
theorem dX12_bend_11 : decode cX12_bend 11 = .ok (.getfield 96, 3) := by decide +kernel
theorem dX12_bend_14 : decode cX12_bend 14 = .ok (.iload_n 1, 1) := by decide +kernel
theorem dX12_bend_15 : decode cX12_bend 15 = .ok (.iaload, 1) := by decide +kernel
theorem dX12_bend_16 : decode cX12_bend 16 = .ok (.iconst 1, 1) := by decide +kernel
theorem dX12_bend_17 : decode cX12_bend 17 = .ok (.isub, 1) := by decide +kernel
theorem dX12_bend_18 : decode cX12_bend 18 = .ok (.i2l, 1) := by decide +kernel
theorem dX12_bend_19 : decode cX12_bend 19 = .ok (.invokestatic 361, 3) := by decide +kernel
theorem dX12_bend_22 : decode cX12_bend 22 = .ok (.ifCond .eq 15, 3) := by decide +kernel
theorem dX12_bend_25 : decode cX12_bend 25 = .ok (.iload_n 3, 1) := by decide +kernel
theorem dX12_bend_26 : decode cX12_bend 26 = .ok (.i2l, 1) := by decide +kernel
theorem dX12_bend_27 : decode cX12_bend 27 = .ok (.lconst 1, 1) := by decide +kernel
theorem dX12_bend_28 : decode cX12_bend 28 = .ok (.ldc2_w 417, 3) := by decide +kernel
theorem dX12_bend_31 : decode cX12_bend 31 = .ok (.invokestatic 361, 3) := by decide +kernel
theorem dX12_bend_34 : decode cX12_bend 34 = .ok (.ifCond .ne 5, 3) := by decide +kernel
theorem dX12_bend_37 : decode cX12_bend 37 = .ok (.iconst (-1), 1) := by decide +kernel
theorem dX12_bend_38 : decode cX12_bend 38 = .ok (.ireturn, 1) := by decide +kernel
theorem dX12_bend_39 : decode cX12_bend 39 = .ok (.aload_n 0, 1) := by decide +kernel
theorem dX12_bend_40 : decode cX12_bend 40 = .ok (.getfield 100, 3) := by decide +kernel
theorem dX12_bend_43 : decode cX12_bend 43 = .ok (.bipush 100, 2) := by decide +kernel
theorem dX12_bend_45 : decode cX12_bend 45 = .ok (.iload_n 1, 1) := by decide +kernel
theorem dX12_bend_46 : decode cX12_bend 46 = .ok (.imul, 1) := by decide +kernel
theorem dX12_bend_47 : decode cX12_bend 47 = .ok (.iload_n 2, 1) := by decide +kernel
theorem dX12_bend_48 : decode cX12_bend 48 = .ok (.iadd, 1) := by decide +kernel
theorem dX12_bend_49 : decode cX12_bend 49 = .ok (.dup2, 1) := by decide +kernel
theorem dX12_bend_50 : decode cX12_bend 50 = .ok (.iaload, 1) := by decide +kernel
theorem dX12_bend_51 : decode cX12_bend 51 = .ok (.iload_n 3, 1) := by decide +kernel
theorem dX12_bend_52 : decode cX12_bend 52 = .ok (.ixor, 1) := by decide +kernel
theorem dX12_bend_53 : decode cX12_bend 53 = .ok (.iastore, 1) := by decide +kernel
theorem dX12_bend_54 : decode cX12_bend 54 = .ok (.aload_n 0, 1) := by decide +kernel
theorem dX12_bend_55 : decode cX12_bend 55 = .ok (.getfield 100, 3) := by decide +kernel
theorem dX12_bend_58 : decode cX12_bend 58 = .ok (.bipush 100, 2) := by decide +kernel
theorem dX12_bend_60 : decode cX12_bend 60 = .ok (.iload_n 1, 1) := by decide +kernel
theorem dX12_bend_61 : decode cX12_bend 61 = .ok (.imul, 1) := by decide +kernel
theorem dX12_bend_62 : decode cX12_bend 62 = .ok (.iload_n 2, 1) := by decide +kernel
theorem dX12_bend_63 : decode cX12_bend 63 = .ok (.iadd, 1) := by decide +kernel
theorem dX12_bend_64 : decode cX12_bend 64 = .ok (.iaload, 1) := by decide +kernel
theorem dX12_bend_65 : decode cX12_bend 65 = .ok (.ireturn, 1) := by decide +kernel
set_option maxRecDepth 20000 in
theorem ggX12_copy_X12_isRow : GoodIn wsX12_copy wsX12_isRow := goodIn_r _ [9, 2, 10, 11, 8, 12] rfl (by decide +kernel)
set_option maxRecDepth 20000 in
theorem gX12_copy_X12_isRow : GoodIn wsX12_copy (va_wsS RX12 460 yX12_isRow wsX12_isRow) := goodIn_app (goodIn_of _ (by decide +kernel)) ggX12_copy_X12_isRow
set_option maxRecDepth 20000 in
theorem ggX12_copy_X12_in : GoodIn wsX12_copy wsX12_in := goodIn_r _ [12] rfl (by decide +kernel)
set_option maxRecDepth 20000 in
theorem gX12_copy_X12_in : GoodIn wsX12_copy (va_wsS RX12 361 yX12_in wsX12_in) := goodIn_app (goodIn_of _ (by decide +kernel)) ggX12_copy_X12_in
theorem dX12_copy_0 : decode cX12_copy 0 = .ok (.iload_n 1, 1) := by decide +kernel
theorem dX12_copy_1 : decode cX12_copy 1 = .ok (.invokestatic 460, 3) := by decide +kernel
theorem dX12_copy_4 : decode cX12_copy 4 = .ok (.ifCond .eq 24, 3) := by decide +kernel
theorem dX12_copy_7 : decode cX12_copy 7 = .ok (.iload_n 2, 1) := by decide +kernel
theorem dX12_copy_8 : decode cX12_copy 8 = .ok (.invokestatic 460, 3) := by decide +kernel
theorem dX12_copy_11 : decode cX12_copy 11 = .ok (.ifCond .eq 17, 3) := by decide +kernel
theorem dX12_copy_14 : decode cX12_copy 14 = .ok (.iload_n 3, 1) := by decide +kernel
theorem dX12_copy_15 : decode cX12_copy 15 = .ok (.i2l, 1) := by decide +kernel
theorem dX12_copy_16 : decode cX12_copy 16 = .ok (.ldc2_w 466, 3) := by decide +kernel
theorem dX12_copy_19 : decode cX12_copy 19 = .ok (.ldc2_w 359, 3) := by decide +kernel
theorem dX12_copy_22 : decode cX12_copy 22 = .ok (.invokestatic 361, 3) := by decide +kernel
theorem dX12_copy_25 : decode cX12_copy 25 = .ok (.ifCond .ne 5, 3) := by decide +kernel
theorem dX12_copy_28 : decode cX12_copy 28 = .ok (.iconst (-1), 1) := by decide +kernel
theorem dX12_copy_29 : decode cX12_copy 29 = .ok (.ireturn, 1) := by decide +kernel
theorem dX12_copy_30 : decode cX12_copy 30 = .ok (.aload_n 0, 1) := by decide +kernel
theorem dX12_copy_31 : decode cX12_copy 31 = .ok (.getfield 96, 3) := by decide +kernel
theorem dX12_copy_34 : decode cX12_copy 34 = .ok (.iload_n 2, 1) := by decide +kernel
theorem dX12_copy_35 : decode cX12_copy 35 = .ok (.iaload, 1) := by decide +kernel
theorem dX12_copy_36 : decode cX12_copy 36 = .ok (.istore 4, 2) := by decide +kernel
theorem dX12_copy_38 : decode cX12_copy 38 = .ok (.iload 4, 2) := by decide +kernel
theorem dX12_copy_40 : decode cX12_copy 40 = .ok (.iload_n 3, 1) := by decide +kernel
theorem dX12_copy_41 : decode cX12_copy 41 = .ok (.ifCond .ge 7, 3) := by decide +kernel
theorem dX12_copy_44 : decode cX12_copy 44 = .ok (.iconst 0, 1) := by decide +kernel
theorem dX12_copy_45 : decode cX12_copy 45 = .ok (.goto 9, 3) := by decide +kernel
theorem dX12_copy_48 : decode cX12_copy 48 = .ok (.aload_n 0, 1) := by decide +kernel
theorem dX12_copy_49 : decode cX12_copy 49 = .ok (.getfield 96, 3) := by decide +kernel
theorem dX12_copy_52 : decode cX12_copy 52 = .ok (.iload_n 3, 1) := by decide +kernel
theorem dX12_copy_53 : decode cX12_copy 53 = .ok (.iaload, 1) := by decide +kernel
theorem dX12_copy_54 : decode cX12_copy 54 = .ok (.iadd, 1) := by decide +kernel
theorem dX12_copy_55 : decode cX12_copy 55 = .ok (.istore 5, 2) := by decide +kernel
theorem dX12_copy_57 : decode cX12_copy 57 = .ok (.iload 5, 2) := by decide +kernel
theorem dX12_copy_59 : decode cX12_copy 59 = .ok (.bipush 100, 2) := by decide +kernel
theorem dX12_copy_61 : decode cX12_copy 61 = .ok (.if_icmp .le 6, 3) := by decide +kernel
theorem dX12_copy_64 : decode cX12_copy 64 = .ok (.bipush (-3), 2) := by decide +kernel
theorem dX12_copy_66 : decode cX12_copy 66 = .ok (.ireturn, 1) := by decide +kernel
theorem dX12_copy_67 : decode cX12_copy 67 = .ok (.iconst 0, 1) := by decide +kernel
theorem dX12_copy_68 : decode cX12_copy 68 = .ok (.istore 6, 2) := by decide +kernel
theorem dX12_copy_70 : decode cX12_copy 70 = .ok (.iload 6, 2) := by decide +kernel
theorem dX12_copy_72 : decode cX12_copy 72 = .ok (.iload 5, 2) := by decide +kernel
theorem dX12_copy_74 : decode cX12_copy 74 = .ok (.if_icmp .ge 53, 3) := by decide +kernel
theorem dX12_copy_77 : decode cX12_copy 77 = .ok (.aload_n 0, 1) := by decide +kernel
theorem dX12_copy_78 : decode cX12_copy 78 = .ok (.getfield 299, 3) := by decide +kernel
theorem dX12_copy_81 : decode cX12_copy 81 = .ok (.iload 6, 2) := by decide +kernel
theorem dX12_copy_83 : decode cX12_copy 83 = .ok (.iload 6, 2) := by decide +kernel
theorem dX12_copy_85 : decode cX12_copy 85 = .ok (.iload 4, 2) := by decide +kernel
theorem dX12_copy_87 : decode cX12_copy 87 = .ok (.if_icmp .ge 18, 3) := by decide +kernel
theorem dX12_copy_90 : decode cX12_copy 90 = .ok (.aload_n 0, 1) := by decide +kernel
theorem dX12_copy_91 : decode cX12_copy 91 = .ok (.getfield 100, 3) := by decide +kernel
theorem dX12_copy_94 : decode cX12_copy 94 = .ok (.bipush 100, 2) := by decide +kernel
theorem dX12_copy_96 : decode cX12_copy 96 = .ok (.iload_n 2, 1) := by decide +kernel
theorem dX12_copy_97 : decode cX12_copy 97 = .ok (.imul, 1) := by decide +kernel
theorem dX12_copy_98 : decode cX12_copy 98 = .ok (.iload 6, 2) := by decide +kernel
theorem dX12_copy_100 : decode cX12_copy 100 = .ok (.iadd, 1) := by decide +kernel
theorem dX12_copy_101 : decode cX12_copy 101 = .ok (.iaload, 1) := by decide +kernel
theorem dX12_copy_102 : decode cX12_copy 102 = .ok (.goto 18, 3) := by decide +kernel
theorem dX12_copy_105 : decode cX12_copy 105 = .ok (.aload_n 0, 1) := by decide +kernel
theorem dX12_copy_106 : decode cX12_copy 106 = .ok (.getfield 100, 3) := by decide +kernel
theorem dX12_copy_109 : decode cX12_copy 109 = .ok (.bipush 100, 2) := by decide +kernel
theorem dX12_copy_111 : decode cX12_copy 111 = .ok (.iload_n 3, 1) := by decide +kernel
theorem dX12_copy_112 : decode cX12_copy 112 = .ok (.imul, 1) := by decide +kernel
theorem dX12_copy_113 : decode cX12_copy 113 = .ok (.iload 6, 2) := by decide +kernel
theorem dX12_copy_115 : decode cX12_copy 115 = .ok (.iadd, 1) := by decide +kernel
theorem dX12_copy_116 : decode cX12_copy 116 = .ok (.iload 4, 2) := by decide +kernel
theorem dX12_copy_118 : decode cX12_copy 118 = .ok (.isub, 1) := by decide +kernel
theorem dX12_copy_119 : decode cX12_copy 119 = .ok (.iaload, 1) := by decide +kernel
theorem dX12_copy_120 : decode cX12_copy 120 = .ok (.iastore, 1) := by decide +kernel
theorem dX12_copy_121 : decode cX12_copy 121 = .ok (.iinc 6 1, 3) := by decide +kernel
theorem dX12_copy_124 : decode cX12_copy 124 = .ok (.goto (-54), 3) := by decide +kernel
theorem dX12_copy_127 : decode cX12_copy 127 = .ok (.iconst 0, 1) := by decide +kernel
theorem dX12_copy_128 : decode cX12_copy 128 = .ok (.istore 6, 2) := by decide +kernel
theorem dX12_copy_130 : decode cX12_copy 130 = .ok (.iload 6, 2) := by decide +kernel
theorem dX12_copy_132 : decode cX12_copy 132 = .ok (.iload 5, 2) := by decide +kernel
theorem dX12_copy_134 : decode cX12_copy 134 = .ok (.if_icmp .ge 28, 3) := by decide +kernel
theorem dX12_copy_137 : decode cX12_copy 137 = .ok (.aload_n 0, 1) := by decide +kernel
theorem dX12_copy_138 : decode cX12_copy 138 = .ok (.getfield 100, 3) := by decide +kernel
theorem dX12_copy_141 : decode cX12_copy 141 = .ok (.bipush 100, 2) := by decide +kernel
theorem dX12_copy_143 : decode cX12_copy 143 = .ok (.iload_n 1, 1) := by decide +kernel
theorem dX12_copy_144 : decode cX12_copy 144 = .ok (.imul, 1) := by decide +kernel
theorem dX12_copy_145 : decode cX12_copy 145 = .ok (.iload 6, 2) := by decide +kernel
theorem dX12_copy_147 : decode cX12_copy 147 = .ok (.iadd, 1) := by decide +kernel
theorem dX12_copy_148 : decode cX12_copy 148 = .ok (.aload_n 0, 1) := by decide +kernel
theorem dX12_copy_149 : decode cX12_copy 149 = .ok (.getfield 299, 3) := by decide +kernel
theorem dX12_copy_152 : decode cX12_copy 152 = .ok (.iload 6, 2) := by decide +kernel
theorem dX12_copy_154 : decode cX12_copy 154 = .ok (.iaload, 1) := by decide +kernel
theorem dX12_copy_155 : decode cX12_copy 155 = .ok (.iastore, 1) := by decide +kernel
theorem dX12_copy_156 : decode cX12_copy 156 = .ok (.iinc 6 1, 3) := by decide +kernel
theorem dX12_copy_159 : decode cX12_copy 159 = .ok (.goto (-29), 3) := by decide +kernel
theorem dX12_copy_162 : decode cX12_copy 162 = .ok (.aload_n 0, 1) := by decide +kernel
theorem dX12_copy_163 : decode cX12_copy 163 = .ok (.getfield 96, 3) := by decide +kernel
theorem dX12_copy_166 : decode cX12_copy 166 = .ok (.iload_n 1, 1) := by decide +kernel
theorem dX12_copy_167 : decode cX12_copy 167 = .ok (.iload 5, 2) := by decide +kernel
theorem dX12_copy_169 : decode cX12_copy 169 = .ok (.iastore, 1) := by decide +kernel
theorem dX12_copy_170 : decode cX12_copy 170 = .ok (.iload 5, 2) := by decide +kernel
theorem dX12_copy_172 : decode cX12_copy 172 = .ok (.ireturn, 1) := by decide +kernel
set_option maxRecDepth 20000 in
theorem ggX12_same_X12_isRow : GoodIn wsX12_same wsX12_isRow := goodIn_r _ [6, 7, 8, 9, 5, 10] rfl (by decide +kernel)
set_option maxRecDepth 20000 in
theorem gX12_same_X12_isRow : GoodIn wsX12_same (va_wsS RX12 460 yX12_isRow wsX12_isRow) := goodIn_app (goodIn_of _ (by decide +kernel)) ggX12_same_X12_isRow
theorem dX12_same_0 : decode cX12_same 0 = .ok (.iload_n 1, 1) := by decide +kernel
theorem dX12_same_1 : decode cX12_same 1 = .ok (.invokestatic 460, 3) := by decide +kernel
theorem dX12_same_4 : decode cX12_same 4 = .ok (.ifCond .eq 10, 3) := by decide +kernel
theorem dX12_same_7 : decode cX12_same 7 = .ok (.iload_n 2, 1) := by decide +kernel
theorem dX12_same_8 : decode cX12_same 8 = .ok (.invokestatic 460, 3) := by decide +kernel
theorem dX12_same_11 : decode cX12_same 11 = .ok (.ifCond .ne 5, 3) := by decide +kernel
theorem dX12_same_14 : decode cX12_same 14 = .ok (.iconst (-1), 1) := by decide +kernel
theorem dX12_same_15 : decode cX12_same 15 = .ok (.ireturn, 1) := by decide +kernel
theorem dX12_same_16 : decode cX12_same 16 = .ok (.aload_n 0, 1) := by decide +kernel
theorem dX12_same_17 : decode cX12_same 17 = .ok (.getfield 96, 3) := by decide +kernel
theorem dX12_same_20 : decode cX12_same 20 = .ok (.iload_n 1, 1) := by decide +kernel
theorem dX12_same_21 : decode cX12_same 21 = .ok (.iaload, 1) := by decide +kernel
theorem dX12_same_22 : decode cX12_same 22 = .ok (.aload_n 0, 1) := by decide +kernel
theorem dX12_same_23 : decode cX12_same 23 = .ok (.getfield 96, 3) := by decide +kernel
theorem dX12_same_26 : decode cX12_same 26 = .ok (.iload_n 2, 1) := by decide +kernel
theorem dX12_same_27 : decode cX12_same 27 = .ok (.iaload, 1) := by decide +kernel
theorem dX12_same_28 : decode cX12_same 28 = .ok (.if_icmp .ne 7, 3) := by decide +kernel
theorem dX12_same_31 : decode cX12_same 31 = .ok (.iconst 1, 1) := by decide +kernel
theorem dX12_same_32 : decode cX12_same 32 = .ok (.goto 4, 3) := by decide +kernel
theorem dX12_same_35 : decode cX12_same 35 = .ok (.iconst 0, 1) := by decide +kernel
theorem dX12_same_36 : decode cX12_same 36 = .ok (.istore_n 3, 1) := by decide +kernel
theorem dX12_same_37 : decode cX12_same 37 = .ok (.iconst 0, 1) := by decide +kernel
theorem dX12_same_38 : decode cX12_same 38 = .ok (.istore 4, 2) := by decide +kernel
theorem dX12_same_40 : decode cX12_same 40 = .ok (.iload 4, 2) := by decide +kernel
theorem dX12_same_42 : decode cX12_same 42 = .ok (.aload_n 0, 1) := by decide +kernel
theorem dX12_same_43 : decode cX12_same 43 = .ok (.getfield 96, 3) := by decide +kernel
theorem dX12_same_46 : decode cX12_same 46 = .ok (.iload_n 1, 1) := by decide +kernel
theorem dX12_same_47 : decode cX12_same 47 = .ok (.iaload, 1) := by decide +kernel
theorem dX12_same_48 : decode cX12_same 48 = .ok (.if_icmp .ge 46, 3) := by decide +kernel
theorem dX12_same_51 : decode cX12_same 51 = .ok (.iload_n 3, 1) := by decide +kernel
theorem dX12_same_52 : decode cX12_same 52 = .ok (.ifCond .eq 42, 3) := by decide +kernel
theorem dX12_same_55 : decode cX12_same 55 = .ok (.aload_n 0, 1) := by decide +kernel
theorem dX12_same_56 : decode cX12_same 56 = .ok (.getfield 100, 3) := by decide +kernel
theorem dX12_same_59 : decode cX12_same 59 = .ok (.bipush 100, 2) := by decide +kernel
theorem dX12_same_61 : decode cX12_same 61 = .ok (.iload_n 1, 1) := by decide +kernel
theorem dX12_same_62 : decode cX12_same 62 = .ok (.imul, 1) := by decide +kernel
theorem dX12_same_63 : decode cX12_same 63 = .ok (.iload 4, 2) := by decide +kernel
theorem dX12_same_65 : decode cX12_same 65 = .ok (.iadd, 1) := by decide +kernel
theorem dX12_same_66 : decode cX12_same 66 = .ok (.iaload, 1) := by decide +kernel
theorem dX12_same_67 : decode cX12_same 67 = .ok (.aload_n 0, 1) := by decide +kernel
theorem dX12_same_68 : decode cX12_same 68 = .ok (.getfield 100, 3) := by decide +kernel
theorem dX12_same_71 : decode cX12_same 71 = .ok (.bipush 100, 2) := by decide +kernel
theorem dX12_same_73 : decode cX12_same 73 = .ok (.iload_n 2, 1) := by decide +kernel
theorem dX12_same_74 : decode cX12_same 74 = .ok (.imul, 1) := by decide +kernel
theorem dX12_same_75 : decode cX12_same 75 = .ok (.iload 4, 2) := by decide +kernel
theorem dX12_same_77 : decode cX12_same 77 = .ok (.iadd, 1) := by decide +kernel
theorem dX12_same_78 : decode cX12_same 78 = .ok (.iaload, 1) := by decide +kernel
theorem dX12_same_79 : decode cX12_same 79 = .ok (.if_icmp .ne 7, 3) := by decide +kernel
theorem dX12_same_82 : decode cX12_same 82 = .ok (.iconst 1, 1) := by decide +kernel
theorem dX12_same_83 : decode cX12_same 83 = .ok (.goto 4, 3) := by decide +kernel
theorem dX12_same_86 : decode cX12_same 86 = .ok (.iconst 0, 1) := by decide +kernel
theorem dX12_same_87 : decode cX12_same 87 = .ok (.istore_n 3, 1) := by decide +kernel
theorem dX12_same_88 : decode cX12_same 88 = .ok (.iinc 4 1, 3) := by decide +kernel
theorem dX12_same_91 : decode cX12_same 91 = .ok (.goto (-51), 3) := by decide +kernel
theorem dX12_same_94 : decode cX12_same 94 = .ok (.iload_n 3, 1) := by decide +kernel
theorem dX12_same_95 : decode cX12_same 95 = .ok (.ifCond .eq 7, 3) := by decide +kernel
theorem dX12_same_98 : decode cX12_same 98 = .ok (.iconst 1, 1) := by decide +kernel
theorem dX12_same_99 : decode cX12_same 99 = .ok (.goto 4, 3) := by decide +kernel
theorem dX12_same_102 : decode cX12_same 102 = .ok (.iconst 0, 1) := by decide +kernel
theorem dX12_same_103 : decode cX12_same 103 = .ok (.ireturn, 1) := by decide +kernel
theorem dX12_gives_0 : decode cX12_gives 0 = .ok (.iconst 0, 1) := by decide +kernel
theorem dX12_gives_1 : decode cX12_gives 1 = .ok (.istore_n 3, 1) := by decide +kernel
theorem dX12_gives_2 : decode cX12_gives 2 = .ok (.iload_n 3, 1) := by decide +kernel
theorem dX12_gives_3 : decode cX12_gives 3 = .ok (.iload_n 2, 1) := by decide +kernel
theorem dX12_gives_4 : decode cX12_gives 4 = .ok (.if_icmp .ge 26, 3) := by decide +kernel
theorem dX12_gives_7 : decode cX12_gives 7 = .ok (.aload_n 0, 1) := by decide +kernel
theorem dX12_gives_8 : decode cX12_gives 8 = .ok (.getfield 100, 3) := by decide +kernel
theorem dX12_gives_11 : decode cX12_gives 11 = .ok (.bipush 100, 2) := by decide +kernel
theorem dX12_gives_13 : decode cX12_gives 13 = .ok (.iload_n 1, 1) := by decide +kernel
theorem dX12_gives_14 : decode cX12_gives 14 = .ok (.imul, 1) := by decide +kernel
theorem dX12_gives_15 : decode cX12_gives 15 = .ok (.iload_n 3, 1) := by decide +kernel
theorem dX12_gives_16 : decode cX12_gives 16 = .ok (.iadd, 1) := by decide +kernel
theorem dX12_gives_17 : decode cX12_gives 17 = .ok (.aload_n 0, 1) := by decide +kernel
theorem dX12_gives_18 : decode cX12_gives 18 = .ok (.getfield 302, 3) := by decide +kernel
theorem dX12_gives_21 : decode cX12_gives 21 = .ok (.iload_n 3, 1) := by decide +kernel
theorem dX12_gives_22 : decode cX12_gives 22 = .ok (.iaload, 1) := by decide +kernel
theorem dX12_gives_23 : decode cX12_gives 23 = .ok (.iastore, 1) := by decide +kernel
theorem dX12_gives_24 : decode cX12_gives 24 = .ok (.iinc 3 1, 3) := by decide +kernel
theorem dX12_gives_27 : decode cX12_gives 27 = .ok (.goto (-25), 3) := by decide +kernel
theorem dX12_gives_30 : decode cX12_gives 30 = .ok (.aload_n 0, 1) := by decide +kernel
theorem dX12_gives_31 : decode cX12_gives 31 = .ok (.getfield 96, 3) := by decide +kernel
theorem dX12_gives_34 : decode cX12_gives 34 = .ok (.iload_n 1, 1) := by decide +kernel
theorem dX12_gives_35 : decode cX12_gives 35 = .ok (.iload_n 2, 1) := by decide +kernel
theorem dX12_gives_36 : decode cX12_gives 36 = .ok (.iastore, 1) := by decide +kernel
theorem dX12_gives_37 : decode cX12_gives 37 = .ok (.iload_n 2, 1) := by decide +kernel
theorem dX12_gives_38 : decode cX12_gives 38 = .ok (.ireturn, 1) := by decide +kernel
set_option maxRecDepth 20000 in
theorem ggX12_hash_X12_isRow : GoodIn wsX12_hash wsX12_isRow := goodIn_r _ [11, 12, 13, 14, 10, 15] rfl (by decide +kernel)
set_option maxRecDepth 20000 in
theorem gX12_hash_X12_isRow : GoodIn wsX12_hash (va_wsS RX12 460 yX12_isRow wsX12_isRow) := goodIn_app (goodIn_of _ (by decide +kernel)) ggX12_hash_X12_isRow
set_option maxRecDepth 20000 in
theorem ggX12_hash_X12_in : GoodIn wsX12_hash wsX12_in := goodIn_r _ [15] rfl (by decide +kernel)
set_option maxRecDepth 20000 in
theorem gX12_hash_X12_in : GoodIn wsX12_hash (va_wsS RX12 361 yX12_in wsX12_in) := goodIn_app (goodIn_of _ (by decide +kernel)) ggX12_hash_X12_in
set_option maxRecDepth 20000 in
theorem ggX12_hash_X12_begin : GoodIn wsX12_hash wsX12_begin := goodIn_r _ [19, 20, 21, 22, 23, 7, 3, 24, 25, 26, 10, 27, 28, 29, 30, 31, 32, 33, 34, 35, 36, 37, 38, 39, 40, 41, 42, 43, 44, 45, 46, 63, 64, 65, 66, 67, 68, 69, 70, 71, 72, 73, 74, 75, 76, 77, 78, 79, 80, 81, 82, 83, 84, 85, 86, 87, 88, 89, 90, 91, 92, 93, 94, 95, 96, 97, 98, 99, 100, 101, 102, 103, 104, 105, 106, 107, 108, 109, 110, 111, 112, 113, 114, 115, 116, 117, 118, 119, 120, 121, 122, 123, 124, 125, 126, 127, 128, 129, 130, 131, 132, 133, 134, 135, 136, 137, 138, 139, 140, 141, 142, 143] rfl (by decide +kernel)
set_option maxRecDepth 20000 in
theorem gX12_hash_X12_begin : GoodIn wsX12_hash (wsV RX12 468 RX12 yX12_begin wsX12_begin) := goodIn_app (goodIn_of _ (by decide +kernel)) ggX12_hash_X12_begin
set_option maxRecDepth 20000 in
theorem ggX12_hash_X12_putAll : GoodIn wsX12_hash wsX12_putAll := goodIn_r _ [50, 51, 52, 53, 10, 54, 23, 3, 63, 64, 65, 66, 67, 68, 69, 70, 71, 72, 73, 74, 75, 76, 77, 78, 79, 80, 81, 82, 83, 84, 85, 86, 87, 88, 89, 90, 91, 92, 93, 94, 95, 96, 97, 98, 99, 100, 101, 102, 103, 104, 105, 106, 107, 108, 109, 110, 111, 112, 113, 114, 115, 116, 117, 118, 119, 120, 121, 122, 123, 124, 125, 126, 127, 128, 129, 130, 131, 132, 133, 134, 135, 136, 137, 138, 139, 140, 141, 142, 143] rfl (by decide +kernel)
set_option maxRecDepth 20000 in
theorem gX12_hash_X12_putAll : GoodIn wsX12_hash (wsV RX12 471 RX12 yX12_putAll wsX12_putAll) := goodIn_app (goodIn_of _ (by decide +kernel)) ggX12_hash_X12_putAll
set_option maxRecDepth 20000 in
theorem ggX12_hash_X12_end : GoodIn wsX12_hash wsX12_end := goodIn_r _ [58, 23, 3, 24, 25, 26, 10, 27, 28, 29, 30, 31, 32, 33, 34, 35, 36, 37, 7, 38, 39, 40, 41, 42, 43, 44, 45, 46, 63, 64, 65, 66, 67, 68, 69, 70, 71, 72, 73, 74, 75, 76, 77, 78, 79, 80, 81, 82, 83, 84, 85, 86, 87, 88, 89, 90, 91, 92, 93, 94, 95, 96, 97, 98, 99, 100, 101, 102, 103, 104, 105, 106, 107, 108, 109, 110, 111, 112, 113, 114, 115, 116, 117, 118, 119, 120, 121, 122, 123, 124, 125, 126, 127, 128, 129, 130, 131, 132, 133, 134, 135, 136, 137, 138, 139, 140, 141, 142, 143] rfl (by decide +kernel)
set_option maxRecDepth 20000 in
theorem gX12_hash_X12_end : GoodIn wsX12_hash (wsV RX12 457 RX12 yX12_end wsX12_end) := goodIn_app (goodIn_of _ (by decide +kernel)) ggX12_hash_X12_end
set_option maxRecDepth 20000 in
theorem ggX12_hash_X12_gives : GoodIn wsX12_hash wsX12_gives := goodIn_r _ [62, 4, 6, 5, 63, 64, 65, 66, 67, 68, 69, 70, 71, 72, 73, 74, 75, 76, 77, 78, 79, 80, 81, 82, 83, 84, 85, 86, 87, 88, 89, 90, 91, 92, 93, 94, 95, 96, 97, 98, 99, 100, 101, 102, 103, 104, 105, 106, 107, 108, 109, 110, 111, 112, 113, 114, 115, 116, 117, 118, 119, 120, 121, 122, 123, 124, 125, 126, 127, 128, 129, 130, 131, 132, 133, 134, 135, 136, 137, 138, 139, 140, 141, 142, 143] rfl (by decide +kernel)
set_option maxRecDepth 20000 in
theorem gX12_hash_X12_gives : GoodIn wsX12_hash (wsV RX12 475 RX12 yX12_gives wsX12_gives) := goodIn_app (goodIn_of _ (by decide +kernel)) ggX12_hash_X12_gives
theorem dX12_hash_0 : decode cX12_hash 0 = .ok (.iload_n 1, 1) := by decide +kernel
theorem dX12_hash_1 : decode cX12_hash 1 = .ok (.invokestatic 460, 3) := by decide +kernel
theorem dX12_hash_4 : decode cX12_hash 4 = .ok (.ifCond .eq 24, 3) := by decide +kernel
theorem dX12_hash_7 : decode cX12_hash 7 = .ok (.iload_n 2, 1) := by decide +kernel
theorem dX12_hash_8 : decode cX12_hash 8 = .ok (.i2l, 1) := by decide +kernel
theorem dX12_hash_9 : decode cX12_hash 9 = .ok (.ldc2_w 466, 3) := by decide +kernel
theorem dX12_hash_12 : decode cX12_hash 12 = .ok (.ldc2_w 200, 3) := by decide +kernel
theorem dX12_hash_15 : decode cX12_hash 15 = .ok (.invokestatic 361, 3) := by decide +kernel
theorem dX12_hash_18 : decode cX12_hash 18 = .ok (.ifCond .eq 10, 3) := by decide +kernel
theorem dX12_hash_21 : decode cX12_hash 21 = .ok (.iload_n 3, 1) := by decide +kernel
theorem dX12_hash_22 : decode cX12_hash 22 = .ok (.invokestatic 460, 3) := by decide +kernel
theorem dX12_hash_25 : decode cX12_hash 25 = .ok (.ifCond .ne 5, 3) := by decide +kernel
theorem dX12_hash_28 : decode cX12_hash 28 = .ok (.iconst (-1), 1) := by decide +kernel
theorem dX12_hash_29 : decode cX12_hash 29 = .ok (.ireturn, 1) := by decide +kernel
theorem dX12_hash_30 : decode cX12_hash 30 = .ok (.iload_n 2, 1) := by decide +kernel
theorem dX12_hash_31 : decode cX12_hash 31 = .ok (.ifCond .ge 11, 3) := by decide +kernel
theorem dX12_hash_34 : decode cX12_hash 34 = .ok (.aload_n 0, 1) := by decide +kernel
theorem dX12_hash_35 : decode cX12_hash 35 = .ok (.iconst 0, 1) := by decide +kernel
theorem dX12_hash_36 : decode cX12_hash 36 = .ok (.putfield 450, 3) := by decide +kernel
theorem dX12_hash_39 : decode cX12_hash 39 = .ok (.goto 8, 3) := by decide +kernel
theorem dX12_hash_42 : decode cX12_hash 42 = .ok (.aload_n 0, 1) := by decide +kernel
theorem dX12_hash_43 : decode cX12_hash 43 = .ok (.iload_n 2, 1) := by decide +kernel
theorem dX12_hash_44 : decode cX12_hash 44 = .ok (.invokevirtual 468, 3) := by decide +kernel
theorem dX12_hash_47 : decode cX12_hash 47 = .ok (.aload_n 0, 1) := by decide +kernel
theorem dX12_hash_48 : decode cX12_hash 48 = .ok (.aload_n 0, 1) := by decide +kernel
theorem dX12_hash_49 : decode cX12_hash 49 = .ok (.getfield 100, 3) := by decide +kernel
theorem dX12_hash_52 : decode cX12_hash 52 = .ok (.bipush 100, 2) := by decide +kernel
theorem dX12_hash_54 : decode cX12_hash 54 = .ok (.iload_n 3, 1) := by decide +kernel
theorem dX12_hash_55 : decode cX12_hash 55 = .ok (.imul, 1) := by decide +kernel
theorem dX12_hash_56 : decode cX12_hash 56 = .ok (.aload_n 0, 1) := by decide +kernel
theorem dX12_hash_57 : decode cX12_hash 57 = .ok (.getfield 96, 3) := by decide +kernel
theorem dX12_hash_60 : decode cX12_hash 60 = .ok (.iload_n 3, 1) := by decide +kernel
theorem dX12_hash_61 : decode cX12_hash 61 = .ok (.iaload, 1) := by decide +kernel
theorem dX12_hash_62 : decode cX12_hash 62 = .ok (.invokevirtual 471, 3) := by decide +kernel
theorem dX12_hash_65 : decode cX12_hash 65 = .ok (.aload_n 0, 1) := by decide +kernel
theorem dX12_hash_66 : decode cX12_hash 66 = .ok (.invokevirtual 457, 3) := by decide +kernel
theorem dX12_hash_69 : decode cX12_hash 69 = .ok (.iconst 0, 1) := by decide +kernel
theorem dX12_hash_70 : decode cX12_hash 70 = .ok (.istore 4, 2) := by decide +kernel
theorem dX12_hash_72 : decode cX12_hash 72 = .ok (.iload 4, 2) := by decide +kernel
theorem dX12_hash_74 : decode cX12_hash 74 = .ok (.bipush 32, 2) := by decide +kernel
theorem dX12_hash_76 : decode cX12_hash 76 = .ok (.if_icmp .ge 23, 3) := by decide +kernel
theorem dX12_hash_79 : decode cX12_hash 79 = .ok (.aload_n 0, 1) := by decide +kernel
theorem dX12_hash_80 : decode cX12_hash 80 = .ok (.getfield 302, 3) := by decide +kernel
theorem dX12_hash_83 : decode cX12_hash 83 = .ok (.iload 4, 2) := by decide +kernel
theorem dX12_hash_85 : decode cX12_hash 85 = .ok (.aload_n 0, 1) := by decide +kernel
theorem dX12_hash_86 : decode cX12_hash 86 = .ok (.getfield 293, 3) := by decide +kernel
theorem dX12_hash_89 : decode cX12_hash 89 = .ok (.iload 4, 2) := by decide +kernel
theorem dX12_hash_91 : decode cX12_hash 91 = .ok (.iaload, 1) := by decide +kernel
theorem dX12_hash_92 : decode cX12_hash 92 = .ok (.iastore, 1) := by decide +kernel
theorem dX12_hash_93 : decode cX12_hash 93 = .ok (.iinc 4 1, 3) := by decide +kernel
theorem dX12_hash_96 : decode cX12_hash 96 = .ok (.goto (-24), 3) := by decide +kernel
theorem dX12_hash_99 : decode cX12_hash 99 = .ok (.aload_n 0, 1) := by decide +kernel
theorem dX12_hash_100 : decode cX12_hash 100 = .ok (.iload_n 1, 1) := by decide +kernel
theorem dX12_hash_101 : decode cX12_hash 101 = .ok (.bipush 32, 2) := by decide +kernel
theorem dX12_hash_103 : decode cX12_hash 103 = .ok (.invokevirtual 475, 3) := by decide +kernel
theorem dX12_hash_106 : decode cX12_hash 106 = .ok (.ireturn, 1) := by decide +kernel
set_option maxRecDepth 20000 in
theorem ggX12_isSecret_X12_numberOf : GoodIn wsX12_isSecret wsX12_numberOf := goodIn_r _ [8] rfl (by decide +kernel)
set_option maxRecDepth 20000 in
theorem gX12_isSecret_X12_numberOf : GoodIn wsX12_isSecret (va_wsS RX12 419 yX12_numberOf wsX12_numberOf) := goodIn_app (goodIn_of _ (by decide +kernel)) ggX12_isSecret_X12_numberOf
set_option maxRecDepth 20000 in
theorem ggX12_isSecret_X12_isNull : GoodIn wsX12_isSecret wsX12_isNull := goodIn_r _ [11] rfl (by decide +kernel)
set_option maxRecDepth 20000 in
theorem gX12_isSecret_X12_isNull : GoodIn wsX12_isSecret (va_wsS RX12 377 yX12_isNull wsX12_isNull) := goodIn_app (goodIn_of _ (by decide +kernel)) ggX12_isSecret_X12_isNull
set_option maxRecDepth 20000 in
theorem ggX12_isSecret_X12_isBelow : GoodIn wsX12_isSecret wsX12_isBelow := goodIn_r _ [14] rfl (by decide +kernel)
set_option maxRecDepth 20000 in
theorem gX12_isSecret_X12_isBelow : GoodIn wsX12_isSecret (va_wsS RX12 365 yX12_isBelow wsX12_isBelow) := goodIn_app (goodIn_of _ (by decide +kernel)) ggX12_isSecret_X12_isBelow
theorem dX12_isSecret_0 : decode cX12_isSecret 0 = .ok (.aload_n 0, 1) := by decide +kernel
theorem dX12_isSecret_1 : decode cX12_isSecret 1 = .ok (.getfield 96, 3) := by decide +kernel
theorem dX12_isSecret_4 : decode cX12_isSecret 4 = .ok (.iload_n 1, 1) := by decide +kernel
theorem dX12_isSecret_5 : decode cX12_isSecret 5 = .ok (.iaload, 1) := by decide +kernel
theorem dX12_isSecret_6 : decode cX12_isSecret 6 = .ok (.bipush 32, 2) := by decide +kernel
theorem dX12_isSecret_8 : decode cX12_isSecret 8 = .ok (.if_icmp .eq 5, 3) := by decide +kernel
theorem dX12_isSecret_11 : decode cX12_isSecret 11 = .ok (.iconst 0, 1) := by decide +kernel
theorem dX12_isSecret_12 : decode cX12_isSecret 12 = .ok (.ireturn, 1) := by decide +kernel
theorem dX12_isSecret_13 : decode cX12_isSecret 13 = .ok (.aload_n 0, 1) := by decide +kernel
theorem dX12_isSecret_14 : decode cX12_isSecret 14 = .ok (.getfield 305, 3) := by decide +kernel
theorem dX12_isSecret_17 : decode cX12_isSecret 17 = .ok (.aload_n 0, 1) := by decide +kernel
theorem dX12_isSecret_18 : decode cX12_isSecret 18 = .ok (.getfield 100, 3) := by decide +kernel
theorem dX12_isSecret_21 : decode cX12_isSecret 21 = .ok (.bipush 100, 2) := by decide +kernel
theorem dX12_isSecret_23 : decode cX12_isSecret 23 = .ok (.iload_n 1, 1) := by decide +kernel
theorem dX12_isSecret_24 : decode cX12_isSecret 24 = .ok (.imul, 1) := by decide +kernel
theorem dX12_isSecret_25 : decode cX12_isSecret 25 = .ok (.invokestatic 419, 3) := by decide +kernel
theorem dX12_isSecret_28 : decode cX12_isSecret 28 = .ok (.aload_n 0, 1) := by decide +kernel
theorem dX12_isSecret_29 : decode cX12_isSecret 29 = .ok (.getfield 305, 3) := by decide +kernel
theorem dX12_isSecret_32 : decode cX12_isSecret 32 = .ok (.invokestatic 377, 3) := by decide +kernel
theorem dX12_isSecret_35 : decode cX12_isSecret 35 = .ok (.ifCond .ne 21, 3) := by decide +kernel
theorem dX12_isSecret_38 : decode cX12_isSecret 38 = .ok (.aload_n 0, 1) := by decide +kernel
theorem dX12_isSecret_39 : decode cX12_isSecret 39 = .ok (.getfield 305, 3) := by decide +kernel
theorem dX12_isSecret_42 : decode cX12_isSecret 42 = .ok (.aload_n 0, 1) := by decide +kernel
theorem dX12_isSecret_43 : decode cX12_isSecret 43 = .ok (.getfield 27, 3) := by decide +kernel
theorem dX12_isSecret_46 : decode cX12_isSecret 46 = .ok (.invokestatic 365, 3) := by decide +kernel
theorem dX12_isSecret_49 : decode cX12_isSecret 49 = .ok (.ifCond .eq 7, 3) := by decide +kernel
theorem dX12_isSecret_52 : decode cX12_isSecret 52 = .ok (.iconst 1, 1) := by decide +kernel
theorem dX12_isSecret_53 : decode cX12_isSecret 53 = .ok (.goto 4, 3) := by decide +kernel
theorem dX12_isSecret_56 : decode cX12_isSecret 56 = .ok (.iconst 0, 1) := by decide +kernel
theorem dX12_isSecret_57 : decode cX12_isSecret 57 = .ok (.ireturn, 1) := by decide +kernel
theorem dX12_isSpent_0 : decode cX12_isSpent 0 = .ok (.aload_n 0, 1) := by decide +kernel
theorem dX12_isSpent_1 : decode cX12_isSpent 1 = .ok (.getfield 478, 3) := by decide +kernel
theorem dX12_isSpent_4 : decode cX12_isSpent 4 = .ok (.iload_n 1, 1) := by decide +kernel
theorem dX12_isSpent_5 : decode cX12_isSpent 5 = .ok (.iadd, 1) := by decide +kernel
theorem dX12_isSpent_6 : decode cX12_isSpent 6 = .ok (.bipush 48, 2) := by decide +kernel
theorem dX12_isSpent_8 : decode cX12_isSpent 8 = .ok (.if_icmp .le 7, 3) := by decide +kernel
theorem dX12_isSpent_11 : decode cX12_isSpent 11 = .ok (.iconst 1, 1) := by decide +kernel
theorem dX12_isSpent_12 : decode cX12_isSpent 12 = .ok (.goto 4, 3) := by decide +kernel
theorem dX12_isSpent_15 : decode cX12_isSpent 15 = .ok (.iconst 0, 1) := by decide +kernel
theorem dX12_isSpent_16 : decode cX12_isSpent 16 = .ok (.ireturn, 1) := by decide +kernel
set_option maxRecDepth 20000 in
theorem ggX12_noSum_X12_small : GoodIn wsX12_noSum wsX12_small := goodIn_r _ [5, 6] rfl (by decide +kernel)
set_option maxRecDepth 20000 in
theorem gX12_noSum_X12_small : GoodIn wsX12_noSum (va_wsS RX12 389 yX12_small wsX12_small) := goodIn_app (goodIn_of _ (by decide +kernel)) ggX12_noSum_X12_small
theorem dX12_noSum_0 : decode cX12_noSum 0 = .ok (.aload_n 0, 1) := by decide +kernel
theorem dX12_noSum_1 : decode cX12_noSum 1 = .ok (.getfield 329, 3) := by decide +kernel
theorem dX12_noSum_4 : decode cX12_noSum 4 = .ok (.lconst 0, 1) := by decide +kernel
theorem dX12_noSum_5 : decode cX12_noSum 5 = .ok (.invokestatic 389, 3) := by decide +kernel
theorem dX12_noSum_8 : decode cX12_noSum 8 = .ok (.return_, 1) := by decide +kernel
set_option maxRecDepth 20000 in
theorem ggX12_addToSum_X12_isNull : GoodIn wsX12_addToSum wsX12_isNull := goodIn_r _ [10] rfl (by decide +kernel)
set_option maxRecDepth 20000 in
theorem gX12_addToSum_X12_isNull : GoodIn wsX12_addToSum (va_wsS RX12 377 yX12_isNull wsX12_isNull) := goodIn_app (goodIn_of _ (by decide +kernel)) ggX12_addToSum_X12_isNull
set_option maxRecDepth 20000 in
theorem ggX12_addToSum_X12_turnIn : GoodIn wsX12_addToSum wsX12_turnIn := goodIn_r _ [14, 15, 2, 16, 4, 17, 18, 9, 19, 78, 79, 80, 81, 82, 83, 84, 85, 86, 87, 88, 89, 90, 91, 92, 93, 94, 95, 96, 97, 98, 99, 100, 101, 102, 103, 104, 105, 106, 107, 108, 109, 110, 111, 112, 113, 114, 115, 116, 117, 118, 119, 120, 121, 122, 123, 124, 125, 126, 127, 128, 129, 130, 131, 132, 133, 134, 135, 136, 137, 138, 139, 140, 141, 142, 143, 144, 145, 146, 147, 148, 149, 150, 151, 152, 153, 154, 155, 156, 157, 158] rfl (by decide +kernel)
set_option maxRecDepth 20000 in
theorem gX12_addToSum_X12_turnIn : GoodIn wsX12_addToSum (wsV RX12 511 RX12 yX12_turnIn wsX12_turnIn) := goodIn_app (goodIn_of _ (by decide +kernel)) ggX12_addToSum_X12_turnIn
set_option maxRecDepth 20000 in
theorem ggX12_addToSum_X12_set : GoodIn wsX12_addToSum wsX12_set := goodIn_r _ [19] rfl (by decide +kernel)
set_option maxRecDepth 20000 in
theorem gX12_addToSum_X12_set : GoodIn wsX12_addToSum (va_wsS RX12 381 yX12_set wsX12_set) := goodIn_app (goodIn_of _ (by decide +kernel)) ggX12_addToSum_X12_set
set_option maxRecDepth 20000 in
theorem ggX12_addToSum_X12_plus : GoodIn wsX12_addToSum wsX12_plus := goodIn_r _ [23, 1, 2, 15, 4, 16, 24, 25, 26, 27, 28, 29, 7, 8, 9, 10, 17, 18, 19, 30, 31, 32, 33, 34, 35, 36, 37, 38, 39, 40, 41, 42, 43, 44, 45, 46, 47, 48, 49, 50, 51, 52, 53, 54, 55, 56, 57, 58, 59, 60, 61, 62, 63, 64, 65, 66, 78, 79, 80, 81, 82, 83, 84, 85, 86, 87, 88, 89, 90, 91, 92, 93, 94, 95, 96, 97, 98, 99, 100, 101, 102, 103, 104, 105, 106, 107, 108, 109, 110, 111, 112, 113, 114, 115, 116, 117, 118, 119, 120, 121, 122, 123, 124, 125, 126, 127, 128, 129, 130, 131, 132, 133, 134, 135, 136, 137, 138, 139, 140, 141, 142, 143, 144, 145, 146, 147, 148, 149, 150, 151, 152, 153, 154, 155, 156, 157, 158] rfl (by decide +kernel)
set_option maxRecDepth 20000 in
theorem gX12_addToSum_X12_plus : GoodIn wsX12_addToSum (wsV RX12 405 RX12 yX12_plus wsX12_plus) := goodIn_app (goodIn_of _ (by decide +kernel)) ggX12_addToSum_X12_plus
set_option maxRecDepth 20000 in
theorem ggX12_addToSum_X12_plain : GoodIn wsX12_addToSum wsX12_plain := goodIn_r _ [70, 1, 24, 71, 25, 2, 4, 7, 8, 9, 10, 72, 73, 74, 75, 76, 77, 17, 18, 19, 30, 31, 32, 33, 34, 35, 36, 37, 38, 39, 40, 41, 42, 43, 44, 45, 46, 47, 48, 49, 50, 51, 52, 53, 78, 79, 80, 81, 82, 83, 84, 85, 86, 87, 88, 89, 90, 91, 92, 93, 94, 95, 96, 97, 98, 99, 100, 101, 102, 103, 104, 105, 106, 107, 108, 109, 110, 111, 112, 113, 114, 115, 116, 117, 118, 119, 120, 121, 122, 123, 124, 125, 126, 127, 128, 129, 130, 131, 132, 133, 134, 135, 136, 137, 138, 139, 140, 141, 142, 143, 144, 145, 146, 147, 148, 149, 150, 151, 152, 153, 154, 155, 156, 157, 158] rfl (by decide +kernel)
set_option maxRecDepth 20000 in
theorem gX12_addToSum_X12_plain : GoodIn wsX12_addToSum (wsV RX12 408 RX12 yX12_plain wsX12_plain) := goodIn_app (goodIn_of _ (by decide +kernel)) ggX12_addToSum_X12_plain
theorem dX12_addToSum_0 : decode cX12_addToSum 0 = .ok (.aload_n 0, 1) := by decide +kernel
theorem dX12_addToSum_1 : decode cX12_addToSum 1 = .ok (.getfield 173, 3) := by decide +kernel
theorem dX12_addToSum_4 : decode cX12_addToSum 4 = .ok (.invokestatic 377, 3) := by decide +kernel
theorem dX12_addToSum_7 : decode cX12_addToSum 7 = .ok (.ifCond .eq 4, 3) := by decide +kernel
theorem dX12_addToSum_10 : decode cX12_addToSum 10 = .ok (.return_, 1) := by decide +kernel
theorem dX12_addToSum_11 : decode cX12_addToSum 11 = .ok (.aload_n 0, 1) := by decide +kernel
theorem dX12_addToSum_12 : decode cX12_addToSum 12 = .ok (.invokevirtual 511, 3) := by decide +kernel
theorem dX12_addToSum_15 : decode cX12_addToSum 15 = .ok (.aload_n 0, 1) := by decide +kernel
theorem dX12_addToSum_16 : decode cX12_addToSum 16 = .ok (.getfield 167, 3) := by decide +kernel
theorem dX12_addToSum_19 : decode cX12_addToSum 19 = .ok (.aload_n 0, 1) := by decide +kernel
theorem dX12_addToSum_20 : decode cX12_addToSum 20 = .ok (.getfield 323, 3) := by decide +kernel
theorem dX12_addToSum_23 : decode cX12_addToSum 23 = .ok (.invokestatic 381, 3) := by decide +kernel
theorem dX12_addToSum_26 : decode cX12_addToSum 26 = .ok (.aload_n 0, 1) := by decide +kernel
theorem dX12_addToSum_27 : decode cX12_addToSum 27 = .ok (.getfield 170, 3) := by decide +kernel
theorem dX12_addToSum_30 : decode cX12_addToSum 30 = .ok (.aload_n 0, 1) := by decide +kernel
theorem dX12_addToSum_31 : decode cX12_addToSum 31 = .ok (.getfield 326, 3) := by decide +kernel
theorem dX12_addToSum_34 : decode cX12_addToSum 34 = .ok (.invokestatic 381, 3) := by decide +kernel
theorem dX12_addToSum_37 : decode cX12_addToSum 37 = .ok (.aload_n 0, 1) := by decide +kernel
theorem dX12_addToSum_38 : decode cX12_addToSum 38 = .ok (.getfield 173, 3) := by decide +kernel
theorem dX12_addToSum_41 : decode cX12_addToSum 41 = .ok (.aload_n 0, 1) := by decide +kernel
theorem dX12_addToSum_42 : decode cX12_addToSum 42 = .ok (.getfield 329, 3) := by decide +kernel
theorem dX12_addToSum_45 : decode cX12_addToSum 45 = .ok (.invokestatic 381, 3) := by decide +kernel
theorem dX12_addToSum_48 : decode cX12_addToSum 48 = .ok (.aload_n 0, 1) := by decide +kernel
theorem dX12_addToSum_49 : decode cX12_addToSum 49 = .ok (.invokevirtual 405, 3) := by decide +kernel
theorem dX12_addToSum_52 : decode cX12_addToSum 52 = .ok (.aload_n 0, 1) := by decide +kernel
theorem dX12_addToSum_53 : decode cX12_addToSum 53 = .ok (.invokevirtual 408, 3) := by decide +kernel
theorem dX12_addToSum_56 : decode cX12_addToSum 56 = .ok (.aload_n 0, 1) := by decide +kernel
theorem dX12_addToSum_57 : decode cX12_addToSum 57 = .ok (.getfield 323, 3) := by decide +kernel
theorem dX12_addToSum_60 : decode cX12_addToSum 60 = .ok (.aload_n 0, 1) := by decide +kernel
theorem dX12_addToSum_61 : decode cX12_addToSum 61 = .ok (.getfield 167, 3) := by decide +kernel
theorem dX12_addToSum_64 : decode cX12_addToSum 64 = .ok (.invokestatic 381, 3) := by decide +kernel
theorem dX12_addToSum_67 : decode cX12_addToSum 67 = .ok (.aload_n 0, 1) := by decide +kernel
theorem dX12_addToSum_68 : decode cX12_addToSum 68 = .ok (.getfield 326, 3) := by decide +kernel
theorem dX12_addToSum_71 : decode cX12_addToSum 71 = .ok (.aload_n 0, 1) := by decide +kernel
theorem dX12_addToSum_72 : decode cX12_addToSum 72 = .ok (.getfield 170, 3) := by decide +kernel
theorem dX12_addToSum_75 : decode cX12_addToSum 75 = .ok (.invokestatic 381, 3) := by decide +kernel
theorem dX12_addToSum_78 : decode cX12_addToSum 78 = .ok (.aload_n 0, 1) := by decide +kernel
theorem dX12_addToSum_79 : decode cX12_addToSum 79 = .ok (.getfield 329, 3) := by decide +kernel
theorem dX12_addToSum_82 : decode cX12_addToSum 82 = .ok (.aload_n 0, 1) := by decide +kernel
theorem dX12_addToSum_83 : decode cX12_addToSum 83 = .ok (.getfield 173, 3) := by decide +kernel
theorem dX12_addToSum_86 : decode cX12_addToSum 86 = .ok (.invokestatic 381, 3) := by decide +kernel
theorem dX12_addToSum_89 : decode cX12_addToSum 89 = .ok (.return_, 1) := by decide +kernel
set_option maxRecDepth 20000 in
theorem ggX12_fromSum_X12_set : GoodIn wsX12_fromSum wsX12_set := goodIn_r _ [10] rfl (by decide +kernel)
set_option maxRecDepth 20000 in
theorem gX12_fromSum_X12_set : GoodIn wsX12_fromSum (va_wsS RX12 381 yX12_set wsX12_set) := goodIn_app (goodIn_of _ (by decide +kernel)) ggX12_fromSum_X12_set
theorem dX12_fromSum_0 : decode cX12_fromSum 0 = .ok (.aload_n 0, 1) := by decide +kernel
theorem dX12_fromSum_1 : decode cX12_fromSum 1 = .ok (.getfield 167, 3) := by decide +kernel
theorem dX12_fromSum_4 : decode cX12_fromSum 4 = .ok (.aload_n 0, 1) := by decide +kernel
theorem dX12_fromSum_5 : decode cX12_fromSum 5 = .ok (.getfield 323, 3) := by decide +kernel
theorem dX12_fromSum_8 : decode cX12_fromSum 8 = .ok (.invokestatic 381, 3) := by decide +kernel
theorem dX12_fromSum_11 : decode cX12_fromSum 11 = .ok (.aload_n 0, 1) := by decide +kernel
theorem dX12_fromSum_12 : decode cX12_fromSum 12 = .ok (.getfield 170, 3) := by decide +kernel
theorem dX12_fromSum_15 : decode cX12_fromSum 15 = .ok (.aload_n 0, 1) := by decide +kernel
theorem dX12_fromSum_16 : decode cX12_fromSum 16 = .ok (.getfield 326, 3) := by decide +kernel
theorem dX12_fromSum_19 : decode cX12_fromSum 19 = .ok (.invokestatic 381, 3) := by decide +kernel
theorem dX12_fromSum_22 : decode cX12_fromSum 22 = .ok (.aload_n 0, 1) := by decide +kernel
theorem dX12_fromSum_23 : decode cX12_fromSum 23 = .ok (.getfield 173, 3) := by decide +kernel
theorem dX12_fromSum_26 : decode cX12_fromSum 26 = .ok (.aload_n 0, 1) := by decide +kernel
theorem dX12_fromSum_27 : decode cX12_fromSum 27 = .ok (.getfield 329, 3) := by decide +kernel
theorem dX12_fromSum_30 : decode cX12_fromSum 30 = .ok (.invokestatic 381, 3) := by decide +kernel
theorem dX12_fromSum_33 : decode cX12_fromSum 33 = .ok (.return_, 1) := by decide +kernel
theorem dX12_forget_0 : decode cX12_forget 0 = .ok (.iconst 0, 1) := by decide +kernel
theorem dX12_forget_1 : decode cX12_forget 1 = .ok (.istore_n 2, 1) := by decide +kernel
theorem dX12_forget_2 : decode cX12_forget 2 = .ok (.iload_n 2, 1) := by decide +kernel
theorem dX12_forget_3 : decode cX12_forget 3 = .ok (.iconst 4, 1) := by decide +kernel
theorem dX12_forget_4 : decode cX12_forget 4 = .ok (.if_icmp .ge 23, 3) := by decide +kernel
theorem dX12_forget_7 : decode cX12_forget 7 = .ok (.aload_n 0, 1) := by decide +kernel
theorem dX12_forget_8 : decode cX12_forget 8 = .ok (.getfield 121, 3) := by decide +kernel
theorem dX12_forget_11 : decode cX12_forget 11 = .ok (.iload_n 2, 1) := by decide +kernel
theorem dX12_forget_12 : decode cX12_forget 12 = .ok (.iconst 0, 1) := by decide +kernel
theorem dX12_forget_13 : decode cX12_forget 13 = .ok (.bastore, 1) := by decide +kernel
theorem dX12_forget_14 : decode cX12_forget 14 = .ok (.aload_n 0, 1) := by decide +kernel
theorem dX12_forget_15 : decode cX12_forget 15 = .ok (.getfield 134, 3) := by decide +kernel
theorem dX12_forget_18 : decode cX12_forget 18 = .ok (.iload_n 2, 1) := by decide +kernel
theorem dX12_forget_19 : decode cX12_forget 19 = .ok (.iconst 0, 1) := by decide +kernel
theorem dX12_forget_20 : decode cX12_forget 20 = .ok (.bastore, 1) := by decide +kernel
theorem dX12_forget_21 : decode cX12_forget 21 = .ok (.iinc 2 1, 3) := by decide +kernel
theorem dX12_forget_24 : decode cX12_forget 24 = .ok (.goto (-22), 3) := by decide +kernel
theorem dX12_forget_27 : decode cX12_forget 27 = .ok (.aload_n 0, 1) := by decide +kernel
theorem dX12_forget_28 : decode cX12_forget 28 = .ok (.iconst 0, 1) := by decide +kernel
theorem dX12_forget_29 : decode cX12_forget 29 = .ok (.putfield 529, 3) := by decide +kernel
theorem dX12_forget_32 : decode cX12_forget 32 = .ok (.aload_n 0, 1) := by decide +kernel
theorem dX12_forget_33 : decode cX12_forget 33 = .ok (.iload_n 1, 1) := by decide +kernel
theorem dX12_forget_34 : decode cX12_forget 34 = .ok (.ifCond .eq 7, 3) := by decide +kernel
theorem dX12_forget_37 : decode cX12_forget 37 = .ok (.iconst 0, 1) := by decide +kernel
theorem dX12_forget_38 : decode cX12_forget 38 = .ok (.goto 7, 3) := by decide +kernel
theorem dX12_forget_41 : decode cX12_forget 41 = .ok (.aload_n 0, 1) := by decide +kernel
theorem dX12_forget_42 : decode cX12_forget 42 = .ok (.getfield 533, 3) := by decide +kernel
theorem dX12_forget_45 : decode cX12_forget 45 = .ok (.putfield 533, 3) := by decide +kernel
theorem dX12_forget_48 : decode cX12_forget 48 = .ok (.return_, 1) := by decide +kernel
theorem dX12_areLike_0 : decode cX12_areLike 0 = .ok (.iconst 1, 1) := by decide +kernel
theorem dX12_areLike_1 : decode cX12_areLike 1 = .ok (.istore_n 3, 1) := by decide +kernel
theorem dX12_areLike_2 : decode cX12_areLike 2 = .ok (.iconst 0, 1) := by decide +kernel
theorem dX12_areLike_3 : decode cX12_areLike 3 = .ok (.istore 4, 2) := by decide +kernel
theorem dX12_areLike_5 : decode cX12_areLike 5 = .ok (.iload 4, 2) := by decide +kernel
theorem dX12_areLike_7 : decode cX12_areLike 7 = .ok (.bipush 33, 2) := by decide +kernel
theorem dX12_areLike_9 : decode cX12_areLike 9 = .ok (.if_icmp .ge 46, 3) := by decide +kernel
theorem dX12_areLike_12 : decode cX12_areLike 12 = .ok (.iload_n 3, 1) := by decide +kernel
theorem dX12_areLike_13 : decode cX12_areLike 13 = .ok (.ifCond .eq 34, 3) := by decide +kernel
theorem dX12_areLike_16 : decode cX12_areLike 16 = .ok (.aload_n 0, 1) := by decide +kernel
theorem dX12_areLike_17 : decode cX12_areLike 17 = .ok (.getfield 118, 3) := by decide +kernel
theorem dX12_areLike_20 : decode cX12_areLike 20 = .ok (.bipush 33, 2) := by decide +kernel
theorem dX12_areLike_22 : decode cX12_areLike 22 = .ok (.iload_n 1, 1) := by decide +kernel
theorem dX12_areLike_23 : decode cX12_areLike 23 = .ok (.imul, 1) := by decide +kernel
theorem dX12_areLike_24 : decode cX12_areLike 24 = .ok (.iload 4, 2) := by decide +kernel
theorem dX12_areLike_26 : decode cX12_areLike 26 = .ok (.iadd, 1) := by decide +kernel
theorem dX12_areLike_27 : decode cX12_areLike 27 = .ok (.iaload, 1) := by decide +kernel
theorem dX12_areLike_28 : decode cX12_areLike 28 = .ok (.aload_n 0, 1) := by decide +kernel
theorem dX12_areLike_29 : decode cX12_areLike 29 = .ok (.getfield 118, 3) := by decide +kernel
theorem dX12_areLike_32 : decode cX12_areLike 32 = .ok (.bipush 33, 2) := by decide +kernel
theorem dX12_areLike_34 : decode cX12_areLike 34 = .ok (.iload_n 2, 1) := by decide +kernel
theorem dX12_areLike_35 : decode cX12_areLike 35 = .ok (.imul, 1) := by decide +kernel
theorem dX12_areLike_36 : decode cX12_areLike 36 = .ok (.iload 4, 2) := by decide +kernel
theorem dX12_areLike_38 : decode cX12_areLike 38 = .ok (.iadd, 1) := by decide +kernel
theorem dX12_areLike_39 : decode cX12_areLike 39 = .ok (.iaload, 1) := by decide +kernel
theorem dX12_areLike_40 : decode cX12_areLike 40 = .ok (.if_icmp .ne 7, 3) := by decide +kernel
theorem dX12_areLike_43 : decode cX12_areLike 43 = .ok (.iconst 1, 1) := by decide +kernel
theorem dX12_areLike_44 : decode cX12_areLike 44 = .ok (.goto 4, 3) := by decide +kernel
theorem dX12_areLike_47 : decode cX12_areLike 47 = .ok (.iconst 0, 1) := by decide +kernel
theorem dX12_areLike_48 : decode cX12_areLike 48 = .ok (.istore_n 3, 1) := by decide +kernel
theorem dX12_areLike_49 : decode cX12_areLike 49 = .ok (.iinc 4 1, 3) := by decide +kernel
theorem dX12_areLike_52 : decode cX12_areLike 52 = .ok (.goto (-47), 3) := by decide +kernel
theorem dX12_areLike_55 : decode cX12_areLike 55 = .ok (.iload_n 3, 1) := by decide +kernel
theorem dX12_areLike_56 : decode cX12_areLike 56 = .ok (.ireturn, 1) := by decide +kernel
set_option maxRecDepth 20000 in
theorem ggX12_isSigner_X12_in : GoodIn wsX12_isSigner wsX12_in := goodIn_r _ [5] rfl (by decide +kernel)
set_option maxRecDepth 20000 in
theorem gX12_isSigner_X12_in : GoodIn wsX12_isSigner (va_wsS RX12 361 yX12_in wsX12_in) := goodIn_app (goodIn_of _ (by decide +kernel)) ggX12_isSigner_X12_in
theorem dX12_isSigner_0 : decode cX12_isSigner 0 = .ok (.iload_n 1, 1) := by decide +kernel
theorem dX12_isSigner_1 : decode cX12_isSigner 1 = .ok (.i2l, 1) := by decide +kernel
theorem dX12_isSigner_2 : decode cX12_isSigner 2 = .ok (.lconst 0, 1) := by decide +kernel
theorem dX12_isSigner_3 : decode cX12_isSigner 3 = .ok (.aload_n 0, 1) := by decide +kernel
theorem dX12_isSigner_4 : decode cX12_isSigner 4 = .ok (.getfield 533, 3) := by decide +kernel
theorem dX12_isSigner_7 : decode cX12_isSigner 7 = .ok (.iconst 1, 1) := by decide +kernel
theorem dX12_isSigner_8 : decode cX12_isSigner 8 = .ok (.isub, 1) := by decide +kernel
theorem dX12_isSigner_9 : decode cX12_isSigner 9 = .ok (.i2l, 1) := by decide +kernel
theorem dX12_isSigner_10 : decode cX12_isSigner 10 = .ok (.invokestatic 361, 3) := by decide +kernel
theorem dX12_isSigner_13 : decode cX12_isSigner 13 = .ok (.ireturn, 1) := by decide +kernel
