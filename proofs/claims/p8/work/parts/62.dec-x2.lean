set_option maxRecDepth 20000 in
theorem ggX2_init_X6_init : GoodIn wsX2_init wsX6_init := goodIn_r _ [35, 36, 2, 3, 37, 14, 15, 38, 39, 40, 41, 42, 43, 44, 92, 93, 94, 95, 96, 97, 98, 99, 100, 73, 74, 75, 76] rfl (by decide +kernel)
set_option maxRecDepth 20000 in
theorem gX2_init_X6_init_n9 : GoodIn wsX2_init (wsX6_init) := ggX2_init_X6_init
set_option maxRecDepth 20000 in
theorem ggX2_init_X7_init : GoodIn wsX2_init wsX7_init := goodIn_r _ [46, 47, 2, 3, 48, 14, 15, 49, 50, 51, 52, 53, 54, 42, 43, 44, 92, 93, 94, 95, 96, 97, 98, 99, 100, 86, 87, 88, 89, 90, 91] rfl (by decide +kernel)
set_option maxRecDepth 20000 in
theorem gX2_init_X7_init_n22 : GoodIn wsX2_init (wsX7_init) := ggX2_init_X7_init
set_option maxRecDepth 20000 in
theorem ggX2_init_X1_init : GoodIn wsX2_init wsX1_init := goodIn_r _ [43, 44, 2, 3] rfl (by decide +kernel)
set_option maxRecDepth 20000 in
theorem gX2_init_X1_init_n29 : GoodIn wsX2_init (wsX1_init) := ggX2_init_X1_init
set_option maxRecDepth 20000 in
theorem ggX2_init_X1_becomeWords : GoodIn wsX2_init wsX1_becomeWords := goodIn_r _ [58, 59, 60, 61, 62, 63, 64, 65, 66, 67, 68, 92, 93, 94, 95, 96, 97, 98, 99, 100] rfl (by decide +kernel)
set_option maxRecDepth 20000 in
theorem gX2_init_X1_becomeWords : GoodIn wsX2_init (wsV RX2 49 RX1 yX1_becomeWords wsX1_becomeWords) := goodIn_app (goodIn_of _ (by decide +kernel)) ggX2_init_X1_becomeWords
set_option maxRecDepth 20000 in
theorem ggX2_init_X1_become : GoodIn wsX2_init wsX1_become := goodIn_r _ [72, 60, 61, 62, 63, 64, 65, 66, 67, 68, 92, 93, 94, 95, 96, 97, 98, 99, 100] rfl (by decide +kernel)
set_option maxRecDepth 20000 in
theorem gX2_init_X1_become : GoodIn wsX2_init (wsV RX2 78 RX1 yX1_become wsX1_become) := goodIn_app (goodIn_of _ (by decide +kernel)) ggX2_init_X1_become
theorem dX2_init_0 : decode cX2_init 0 = .ok (.aload_n 0, 1) := by decide +kernel
theorem dX2_init_1 : decode cX2_init 1 = .ok (.invokespecial 1, 3) := by decide +kernel
theorem dX2_init_4 : decode cX2_init 4 = .ok (.aload_n 0, 1) := by decide +kernel
theorem dX2_init_5 : decode cX2_init 5 = .ok (.new 7, 3) := by decide +kernel
theorem dX2_init_8 : decode cX2_init 8 = .ok (.dup, 1) := by decide +kernel
theorem dX2_init_9 : decode cX2_init 9 = .ok (.invokespecial 9, 3) := by decide +kernel
theorem dX2_init_12 : decode cX2_init 12 = .ok (.putfield 10, 3) := by decide +kernel
theorem dX2_init_15 : decode cX2_init 15 = .ok (.aload_n 0, 1) := by decide +kernel
theorem dX2_init_16 : decode cX2_init 16 = .ok (.bipush 16, 2) := by decide +kernel
theorem dX2_init_18 : decode cX2_init 18 = .ok (.anewarray 7, 3) := by decide +kernel
theorem dX2_init_21 : decode cX2_init 21 = .ok (.putfield 16, 3) := by decide +kernel
theorem dX2_init_24 : decode cX2_init 24 = .ok (.aload_n 0, 1) := by decide +kernel
theorem dX2_init_25 : decode cX2_init 25 = .ok (.new 20, 3) := by decide +kernel
theorem dX2_init_28 : decode cX2_init 28 = .ok (.dup, 1) := by decide +kernel
theorem dX2_init_29 : decode cX2_init 29 = .ok (.invokespecial 22, 3) := by decide +kernel
theorem dX2_init_32 : decode cX2_init 32 = .ok (.putfield 23, 3) := by decide +kernel
theorem dX2_init_35 : decode cX2_init 35 = .ok (.aload_n 0, 1) := by decide +kernel
theorem dX2_init_36 : decode cX2_init 36 = .ok (.new 27, 3) := by decide +kernel
theorem dX2_init_39 : decode cX2_init 39 = .ok (.dup, 1) := by decide +kernel
theorem dX2_init_40 : decode cX2_init 40 = .ok (.invokespecial 29, 3) := by decide +kernel
theorem dX2_init_43 : decode cX2_init 43 = .ok (.putfield 30, 3) := by decide +kernel
theorem dX2_init_46 : decode cX2_init 46 = .ok (.aload_n 0, 1) := by decide +kernel
theorem dX2_init_47 : decode cX2_init 47 = .ok (.new 27, 3) := by decide +kernel
theorem dX2_init_50 : decode cX2_init 50 = .ok (.dup, 1) := by decide +kernel
theorem dX2_init_51 : decode cX2_init 51 = .ok (.invokespecial 29, 3) := by decide +kernel
theorem dX2_init_54 : decode cX2_init 54 = .ok (.putfield 34, 3) := by decide +kernel
theorem dX2_init_57 : decode cX2_init 57 = .ok (.aload_n 0, 1) := by decide +kernel
theorem dX2_init_58 : decode cX2_init 58 = .ok (.new 27, 3) := by decide +kernel
theorem dX2_init_61 : decode cX2_init 61 = .ok (.dup, 1) := by decide +kernel
theorem dX2_init_62 : decode cX2_init 62 = .ok (.invokespecial 29, 3) := by decide +kernel
theorem dX2_init_65 : decode cX2_init 65 = .ok (.putfield 37, 3) := by decide +kernel
theorem dX2_init_68 : decode cX2_init 68 = .ok (.aload_n 0, 1) := by decide +kernel
theorem dX2_init_69 : decode cX2_init 69 = .ok (.new 27, 3) := by decide +kernel
theorem dX2_init_72 : decode cX2_init 72 = .ok (.dup, 1) := by decide +kernel
theorem dX2_init_73 : decode cX2_init 73 = .ok (.invokespecial 29, 3) := by decide +kernel
theorem dX2_init_76 : decode cX2_init 76 = .ok (.putfield 40, 3) := by decide +kernel
theorem dX2_init_79 : decode cX2_init 79 = .ok (.aload_n 0, 1) := by decide +kernel
theorem dX2_init_80 : decode cX2_init 80 = .ok (.new 27, 3) := by decide +kernel
theorem dX2_init_83 : decode cX2_init 83 = .ok (.dup, 1) := by decide +kernel
theorem dX2_init_84 : decode cX2_init 84 = .ok (.invokespecial 29, 3) := by decide +kernel
theorem dX2_init_87 : decode cX2_init 87 = .ok (.putfield 43, 3) := by decide +kernel
theorem dX2_init_90 : decode cX2_init 90 = .ok (.aload_n 0, 1) := by decide +kernel
theorem dX2_init_91 : decode cX2_init 91 = .ok (.new 27, 3) := by decide +kernel
theorem dX2_init_94 : decode cX2_init 94 = .ok (.dup, 1) := by decide +kernel
theorem dX2_init_95 : decode cX2_init 95 = .ok (.invokespecial 29, 3) := by decide +kernel
theorem dX2_init_98 : decode cX2_init 98 = .ok (.putfield 46, 3) := by decide +kernel
theorem dX2_init_101 : decode cX2_init 101 = .ok (.aload_n 0, 1) := by decide +kernel
theorem dX2_init_102 : decode cX2_init 102 = .ok (.getfield 30, 3) := by decide +kernel
theorem dX2_init_105 : decode cX2_init 105 = .ok (.lconst 0, 1) := by decide +kernel
theorem dX2_init_106 : decode cX2_init 106 = .ok (.lconst 0, 1) := by decide +kernel
theorem dX2_init_107 : decode cX2_init 107 = .ok (.lconst 0, 1) := by decide +kernel
theorem dX2_init_108 : decode cX2_init 108 = .ok (.lconst 1, 1) := by decide +kernel
theorem dX2_init_109 : decode cX2_init 109 = .ok (.invokevirtual 49, 3) := by decide +kernel
theorem dX2_init_112 : decode cX2_init 112 = .ok (.iconst 0, 1) := by decide +kernel
theorem dX2_init_113 : decode cX2_init 113 = .ok (.istore_n 1, 1) := by decide +kernel
theorem dX2_init_114 : decode cX2_init 114 = .ok (.iload_n 1, 1) := by decide +kernel
theorem dX2_init_115 : decode cX2_init 115 = .ok (.bipush 16, 2) := by decide +kernel
theorem dX2_init_117 : decode cX2_init 117 = .ok (.if_icmp .ge 22, 3) := by decide +kernel
theorem dX2_init_120 : decode cX2_init 120 = .ok (.aload_n 0, 1) := by decide +kernel
theorem dX2_init_121 : decode cX2_init 121 = .ok (.getfield 16, 3) := by decide +kernel
theorem dX2_init_124 : decode cX2_init 124 = .ok (.iload_n 1, 1) := by decide +kernel
theorem dX2_init_125 : decode cX2_init 125 = .ok (.new 7, 3) := by decide +kernel
theorem dX2_init_128 : decode cX2_init 128 = .ok (.dup, 1) := by decide +kernel
theorem dX2_init_129 : decode cX2_init 129 = .ok (.invokespecial 9, 3) := by decide +kernel
theorem dX2_init_132 : decode cX2_init 132 = .ok (.aastore, 1) := by decide +kernel
theorem dX2_init_133 : decode cX2_init 133 = .ok (.iinc 1 1, 3) := by decide +kernel
theorem dX2_init_136 : decode cX2_init 136 = .ok (.goto (-22), 3) := by decide +kernel
theorem dX2_init_139 : decode cX2_init 139 = .ok (.aload_n 0, 1) := by decide +kernel
theorem dX2_init_140 : decode cX2_init 140 = .ok (.getfield 10, 3) := by decide +kernel
theorem dX2_init_143 : decode cX2_init 143 = .ok (.getfield 53, 3) := by decide +kernel
theorem dX2_init_146 : decode cX2_init 146 = .ok (.ldc2_w 56, 3) := by decide +kernel
theorem dX2_init_149 : decode cX2_init 149 = .ok (.ldc2_w 58, 3) := by decide +kernel
theorem dX2_init_152 : decode cX2_init 152 = .ok (.ldc2_w 60, 3) := by decide +kernel
theorem dX2_init_155 : decode cX2_init 155 = .ok (.ldc2_w 62, 3) := by decide +kernel
theorem dX2_init_158 : decode cX2_init 158 = .ok (.invokevirtual 49, 3) := by decide +kernel
theorem dX2_init_161 : decode cX2_init 161 = .ok (.aload_n 0, 1) := by decide +kernel
theorem dX2_init_162 : decode cX2_init 162 = .ok (.getfield 10, 3) := by decide +kernel
theorem dX2_init_165 : decode cX2_init 165 = .ok (.getfield 64, 3) := by decide +kernel
theorem dX2_init_168 : decode cX2_init 168 = .ok (.ldc2_w 67, 3) := by decide +kernel
theorem dX2_init_171 : decode cX2_init 171 = .ok (.ldc2_w 69, 3) := by decide +kernel
theorem dX2_init_174 : decode cX2_init 174 = .ok (.ldc2_w 71, 3) := by decide +kernel
theorem dX2_init_177 : decode cX2_init 177 = .ok (.ldc2_w 73, 3) := by decide +kernel
theorem dX2_init_180 : decode cX2_init 180 = .ok (.invokevirtual 49, 3) := by decide +kernel
theorem dX2_init_183 : decode cX2_init 183 = .ok (.aload_n 0, 1) := by decide +kernel
theorem dX2_init_184 : decode cX2_init 184 = .ok (.getfield 10, 3) := by decide +kernel
theorem dX2_init_187 : decode cX2_init 187 = .ok (.getfield 75, 3) := by decide +kernel
theorem dX2_init_190 : decode cX2_init 190 = .ok (.aload_n 0, 1) := by decide +kernel
theorem dX2_init_191 : decode cX2_init 191 = .ok (.getfield 30, 3) := by decide +kernel
theorem dX2_init_194 : decode cX2_init 194 = .ok (.invokevirtual 78, 3) := by decide +kernel
theorem dX2_init_197 : decode cX2_init 197 = .ok (.aload_n 0, 1) := by decide +kernel
theorem dX2_init_198 : decode cX2_init 198 = .ok (.getfield 10, 3) := by decide +kernel
theorem dX2_init_201 : decode cX2_init 201 = .ok (.iconst 0, 1) := by decide +kernel
theorem dX2_init_202 : decode cX2_init 202 = .ok (.putfield 82, 3) := by decide +kernel
theorem dX2_init_205 : decode cX2_init 205 = .ok (.return_, 1) := by decide +kernel
set_option maxRecDepth 20000 in
theorem ggX2_twice_X1_product : GoodIn wsX2_twice wsX1_product := goodIn_r _ [12, 13, 14, 15, 16, 17, 18, 19, 20, 21, 22, 23, 24, 25, 51, 52, 53, 54, 55, 56, 57, 58, 59] rfl (by decide +kernel)
set_option maxRecDepth 20000 in
theorem gX2_twice_X1_product : GoodIn wsX2_twice (wsV RX2 86 RX1 yX1_product wsX1_product) := goodIn_app (goodIn_of _ (by decide +kernel)) ggX2_twice_X1_product
set_option maxRecDepth 20000 in
theorem ggX2_twice_X1_multiple : GoodIn wsX2_twice wsX1_multiple := goodIn_r _ [29, 13, 14, 15, 16, 17, 18, 19, 20, 21, 30, 31, 32, 11, 33, 25, 22, 24, 51, 52, 53, 54, 55, 56, 57, 58, 59] rfl (by decide +kernel)
set_option maxRecDepth 20000 in
theorem gX2_twice_X1_multiple : GoodIn wsX2_twice (wsV RX2 90 RX1 yX1_multiple wsX1_multiple) := goodIn_app (goodIn_of _ (by decide +kernel)) ggX2_twice_X1_multiple
set_option maxRecDepth 20000 in
theorem ggX2_twice_X1_difference : GoodIn wsX2_twice wsX1_difference := goodIn_r _ [37, 13, 14, 15, 16, 17, 18, 19, 20, 21, 30, 31, 32, 11, 33, 25, 22, 24, 51, 52, 53, 54, 55, 56, 57, 58, 59] rfl (by decide +kernel)
set_option maxRecDepth 20000 in
theorem gX2_twice_X1_difference : GoodIn wsX2_twice (wsV RX2 94 RX1 yX1_difference wsX1_difference) := goodIn_app (goodIn_of _ (by decide +kernel)) ggX2_twice_X1_difference
theorem dX2_twice_0 : decode cX2_twice 0 = .ok (.aload_n 1, 1) := by decide +kernel
theorem dX2_twice_1 : decode cX2_twice 1 = .ok (.getfield 82, 3) := by decide +kernel
theorem dX2_twice_4 : decode cX2_twice 4 = .ok (.ifCond .eq 4, 3) := by decide +kernel
theorem dX2_twice_7 : decode cX2_twice 7 = .ok (.return_, 1) := by decide +kernel
theorem dX2_twice_8 : decode cX2_twice 8 = .ok (.aload_n 0, 1) := by decide +kernel
theorem dX2_twice_9 : decode cX2_twice 9 = .ok (.getfield 37, 3) := by decide +kernel
theorem dX2_twice_12 : decode cX2_twice 12 = .ok (.aload_n 1, 1) := by decide +kernel
theorem dX2_twice_13 : decode cX2_twice 13 = .ok (.getfield 64, 3) := by decide +kernel
theorem dX2_twice_16 : decode cX2_twice 16 = .ok (.aload_n 1, 1) := by decide +kernel
theorem dX2_twice_17 : decode cX2_twice 17 = .ok (.getfield 64, 3) := by decide +kernel
theorem dX2_twice_20 : decode cX2_twice 20 = .ok (.invokevirtual 86, 3) := by decide +kernel
theorem dX2_twice_23 : decode cX2_twice 23 = .ok (.aload_n 0, 1) := by decide +kernel
theorem dX2_twice_24 : decode cX2_twice 24 = .ok (.getfield 34, 3) := by decide +kernel
theorem dX2_twice_27 : decode cX2_twice 27 = .ok (.aload_n 1, 1) := by decide +kernel
theorem dX2_twice_28 : decode cX2_twice 28 = .ok (.getfield 53, 3) := by decide +kernel
theorem dX2_twice_31 : decode cX2_twice 31 = .ok (.aload_n 0, 1) := by decide +kernel
theorem dX2_twice_32 : decode cX2_twice 32 = .ok (.getfield 37, 3) := by decide +kernel
theorem dX2_twice_35 : decode cX2_twice 35 = .ok (.invokevirtual 86, 3) := by decide +kernel
theorem dX2_twice_38 : decode cX2_twice 38 = .ok (.aload_n 0, 1) := by decide +kernel
theorem dX2_twice_39 : decode cX2_twice 39 = .ok (.getfield 34, 3) := by decide +kernel
theorem dX2_twice_42 : decode cX2_twice 42 = .ok (.aload_n 0, 1) := by decide +kernel
theorem dX2_twice_43 : decode cX2_twice 43 = .ok (.getfield 34, 3) := by decide +kernel
theorem dX2_twice_46 : decode cX2_twice 46 = .ok (.iconst 4, 1) := by decide +kernel
theorem dX2_twice_47 : decode cX2_twice 47 = .ok (.invokevirtual 90, 3) := by decide +kernel
theorem dX2_twice_50 : decode cX2_twice 50 = .ok (.aload_n 0, 1) := by decide +kernel
theorem dX2_twice_51 : decode cX2_twice 51 = .ok (.getfield 37, 3) := by decide +kernel
theorem dX2_twice_54 : decode cX2_twice 54 = .ok (.aload_n 0, 1) := by decide +kernel
theorem dX2_twice_55 : decode cX2_twice 55 = .ok (.getfield 37, 3) := by decide +kernel
theorem dX2_twice_58 : decode cX2_twice 58 = .ok (.aload_n 0, 1) := by decide +kernel
theorem dX2_twice_59 : decode cX2_twice 59 = .ok (.getfield 37, 3) := by decide +kernel
theorem dX2_twice_62 : decode cX2_twice 62 = .ok (.invokevirtual 86, 3) := by decide +kernel
theorem dX2_twice_65 : decode cX2_twice 65 = .ok (.aload_n 0, 1) := by decide +kernel
theorem dX2_twice_66 : decode cX2_twice 66 = .ok (.getfield 37, 3) := by decide +kernel
theorem dX2_twice_69 : decode cX2_twice 69 = .ok (.aload_n 0, 1) := by decide +kernel
theorem dX2_twice_70 : decode cX2_twice 70 = .ok (.getfield 37, 3) := by decide +kernel
theorem dX2_twice_73 : decode cX2_twice 73 = .ok (.bipush 8, 2) := by decide +kernel
theorem dX2_twice_75 : decode cX2_twice 75 = .ok (.invokevirtual 90, 3) := by decide +kernel
theorem dX2_twice_78 : decode cX2_twice 78 = .ok (.aload_n 0, 1) := by decide +kernel
theorem dX2_twice_79 : decode cX2_twice 79 = .ok (.getfield 43, 3) := by decide +kernel
theorem dX2_twice_82 : decode cX2_twice 82 = .ok (.aload_n 1, 1) := by decide +kernel
theorem dX2_twice_83 : decode cX2_twice 83 = .ok (.getfield 53, 3) := by decide +kernel
theorem dX2_twice_86 : decode cX2_twice 86 = .ok (.aload_n 1, 1) := by decide +kernel
theorem dX2_twice_87 : decode cX2_twice 87 = .ok (.getfield 53, 3) := by decide +kernel
theorem dX2_twice_90 : decode cX2_twice 90 = .ok (.invokevirtual 86, 3) := by decide +kernel
theorem dX2_twice_93 : decode cX2_twice 93 = .ok (.aload_n 0, 1) := by decide +kernel
theorem dX2_twice_94 : decode cX2_twice 94 = .ok (.getfield 43, 3) := by decide +kernel
theorem dX2_twice_97 : decode cX2_twice 97 = .ok (.aload_n 0, 1) := by decide +kernel
theorem dX2_twice_98 : decode cX2_twice 98 = .ok (.getfield 43, 3) := by decide +kernel
theorem dX2_twice_101 : decode cX2_twice 101 = .ok (.iconst 3, 1) := by decide +kernel
theorem dX2_twice_102 : decode cX2_twice 102 = .ok (.invokevirtual 90, 3) := by decide +kernel
theorem dX2_twice_105 : decode cX2_twice 105 = .ok (.aload_n 1, 1) := by decide +kernel
theorem dX2_twice_106 : decode cX2_twice 106 = .ok (.getfield 75, 3) := by decide +kernel
theorem dX2_twice_109 : decode cX2_twice 109 = .ok (.aload_n 1, 1) := by decide +kernel
theorem dX2_twice_110 : decode cX2_twice 110 = .ok (.getfield 75, 3) := by decide +kernel
theorem dX2_twice_113 : decode cX2_twice 113 = .ok (.aload_n 1, 1) := by decide +kernel
theorem dX2_twice_114 : decode cX2_twice 114 = .ok (.getfield 64, 3) := by decide +kernel
theorem dX2_twice_117 : decode cX2_twice 117 = .ok (.invokevirtual 86, 3) := by decide +kernel
theorem dX2_twice_120 : decode cX2_twice 120 = .ok (.aload_n 1, 1) := by decide +kernel
theorem dX2_twice_121 : decode cX2_twice 121 = .ok (.getfield 75, 3) := by decide +kernel
theorem dX2_twice_124 : decode cX2_twice 124 = .ok (.aload_n 1, 1) := by decide +kernel
theorem dX2_twice_125 : decode cX2_twice 125 = .ok (.getfield 75, 3) := by decide +kernel
theorem dX2_twice_128 : decode cX2_twice 128 = .ok (.iconst 2, 1) := by decide +kernel
theorem dX2_twice_129 : decode cX2_twice 129 = .ok (.invokevirtual 90, 3) := by decide +kernel
theorem dX2_twice_132 : decode cX2_twice 132 = .ok (.aload_n 1, 1) := by decide +kernel
theorem dX2_twice_133 : decode cX2_twice 133 = .ok (.getfield 53, 3) := by decide +kernel
theorem dX2_twice_136 : decode cX2_twice 136 = .ok (.aload_n 0, 1) := by decide +kernel
theorem dX2_twice_137 : decode cX2_twice 137 = .ok (.getfield 43, 3) := by decide +kernel
theorem dX2_twice_140 : decode cX2_twice 140 = .ok (.aload_n 0, 1) := by decide +kernel
theorem dX2_twice_141 : decode cX2_twice 141 = .ok (.getfield 43, 3) := by decide +kernel
theorem dX2_twice_144 : decode cX2_twice 144 = .ok (.invokevirtual 86, 3) := by decide +kernel
theorem dX2_twice_147 : decode cX2_twice 147 = .ok (.aload_n 1, 1) := by decide +kernel
theorem dX2_twice_148 : decode cX2_twice 148 = .ok (.getfield 53, 3) := by decide +kernel
theorem dX2_twice_151 : decode cX2_twice 151 = .ok (.aload_n 1, 1) := by decide +kernel
theorem dX2_twice_152 : decode cX2_twice 152 = .ok (.getfield 53, 3) := by decide +kernel
theorem dX2_twice_155 : decode cX2_twice 155 = .ok (.aload_n 0, 1) := by decide +kernel
theorem dX2_twice_156 : decode cX2_twice 156 = .ok (.getfield 34, 3) := by decide +kernel
theorem dX2_twice_159 : decode cX2_twice 159 = .ok (.invokevirtual 94, 3) := by decide +kernel
theorem dX2_twice_162 : decode cX2_twice 162 = .ok (.aload_n 1, 1) := by decide +kernel
theorem dX2_twice_163 : decode cX2_twice 163 = .ok (.getfield 53, 3) := by decide +kernel
theorem dX2_twice_166 : decode cX2_twice 166 = .ok (.aload_n 1, 1) := by decide +kernel
theorem dX2_twice_167 : decode cX2_twice 167 = .ok (.getfield 53, 3) := by decide +kernel
theorem dX2_twice_170 : decode cX2_twice 170 = .ok (.aload_n 0, 1) := by decide +kernel
theorem dX2_twice_171 : decode cX2_twice 171 = .ok (.getfield 34, 3) := by decide +kernel
theorem dX2_twice_174 : decode cX2_twice 174 = .ok (.invokevirtual 94, 3) := by decide +kernel
theorem dX2_twice_177 : decode cX2_twice 177 = .ok (.aload_n 0, 1) := by decide +kernel
theorem dX2_twice_178 : decode cX2_twice 178 = .ok (.getfield 34, 3) := by decide +kernel
theorem dX2_twice_181 : decode cX2_twice 181 = .ok (.aload_n 0, 1) := by decide +kernel
theorem dX2_twice_182 : decode cX2_twice 182 = .ok (.getfield 34, 3) := by decide +kernel
theorem dX2_twice_185 : decode cX2_twice 185 = .ok (.aload_n 1, 1) := by decide +kernel
theorem dX2_twice_186 : decode cX2_twice 186 = .ok (.getfield 53, 3) := by decide +kernel
theorem dX2_twice_189 : decode cX2_twice 189 = .ok (.invokevirtual 94, 3) := by decide +kernel
theorem dX2_twice_192 : decode cX2_twice 192 = .ok (.aload_n 0, 1) := by decide +kernel
theorem dX2_twice_193 : decode cX2_twice 193 = .ok (.getfield 34, 3) := by decide +kernel
theorem dX2_twice_196 : decode cX2_twice 196 = .ok (.aload_n 0, 1) := by decide +kernel
theorem dX2_twice_197 : decode cX2_twice 197 = .ok (.getfield 34, 3) := by decide +kernel
theorem dX2_twice_200 : decode cX2_twice 200 = .ok (.aload_n 0, 1) := by decide +kernel
theorem dX2_twice_201 : decode cX2_twice 201 = .ok (.getfield 43, 3) := by decide +kernel
theorem dX2_twice_204 : decode cX2_twice 204 = .ok (.invokevirtual 86, 3) := by decide +kernel
theorem dX2_twice_207 : decode cX2_twice 207 = .ok (.aload_n 1, 1) := by decide +kernel
theorem dX2_twice_208 : decode cX2_twice 208 = .ok (.getfield 64, 3) := by decide +kernel
theorem dX2_twice_211 : decode cX2_twice 211 = .ok (.aload_n 0, 1) := by decide +kernel
theorem dX2_twice_212 : decode cX2_twice 212 = .ok (.getfield 34, 3) := by decide +kernel
theorem dX2_twice_215 : decode cX2_twice 215 = .ok (.aload_n 0, 1) := by decide +kernel
theorem dX2_twice_216 : decode cX2_twice 216 = .ok (.getfield 37, 3) := by decide +kernel
theorem dX2_twice_219 : decode cX2_twice 219 = .ok (.invokevirtual 94, 3) := by decide +kernel
theorem dX2_twice_222 : decode cX2_twice 222 = .ok (.return_, 1) := by decide +kernel
set_option maxRecDepth 20000 in
theorem ggX2_plus_X6_become : GoodIn wsX2_plus wsX6_become := goodIn_r _ [14, 15, 16, 17, 18, 19, 20, 21, 22, 23, 24, 25, 26, 27, 28, 29, 30, 31, 32, 75, 76, 77, 78, 88, 89, 90, 91, 92, 93, 94, 95, 96] rfl (by decide +kernel)
set_option maxRecDepth 20000 in
theorem gX2_plus_X6_become : GoodIn wsX2_plus (wsV RX2 97 RX6 yX6_become wsX6_become) := goodIn_app (goodIn_of _ (by decide +kernel)) ggX2_plus_X6_become
set_option maxRecDepth 20000 in
theorem ggX2_plus_X1_product : GoodIn wsX2_plus wsX1_product := goodIn_r _ [36, 24, 25, 26, 27, 28, 29, 30, 31, 32, 37, 38, 39, 40, 88, 89, 90, 91, 92, 93, 94, 95, 96] rfl (by decide +kernel)
set_option maxRecDepth 20000 in
theorem gX2_plus_X1_product : GoodIn wsX2_plus (wsV RX2 86 RX1 yX1_product wsX1_product) := goodIn_app (goodIn_of _ (by decide +kernel)) ggX2_plus_X1_product
set_option maxRecDepth 20000 in
theorem ggX2_plus_X1_difference : GoodIn wsX2_plus wsX1_difference := goodIn_r _ [44, 24, 25, 26, 27, 28, 29, 30, 31, 32, 45, 46, 47, 22, 48, 40, 37, 39, 88, 89, 90, 91, 92, 93, 94, 95, 96] rfl (by decide +kernel)
set_option maxRecDepth 20000 in
theorem gX2_plus_X1_difference : GoodIn wsX2_plus (wsV RX2 94 RX1 yX1_difference wsX1_difference) := goodIn_app (goodIn_of _ (by decide +kernel)) ggX2_plus_X1_difference
set_option maxRecDepth 20000 in
theorem ggX2_plus_X1_isZero : GoodIn wsX2_plus wsX1_isZero := goodIn_r _ [52, 24, 25, 26, 27, 28, 29, 30, 31, 32, 53, 54, 55, 22, 56, 57, 45, 46, 47, 48, 40, 37, 39, 58, 59, 60, 61, 62, 63, 64, 65, 88, 89, 90, 91, 92, 93, 94, 95, 96] rfl (by decide +kernel)
set_option maxRecDepth 20000 in
theorem gX2_plus_X1_isZero : GoodIn wsX2_plus (wsV RX2 100 RX1 yX1_isZero wsX1_isZero) := goodIn_app (goodIn_of _ (by decide +kernel)) ggX2_plus_X1_isZero
set_option maxRecDepth 20000 in
theorem ggX2_plus_X2_twice : GoodIn wsX2_plus wsX2_twice := goodIn_r _ [70, 1, 6, 7, 4, 5, 9, 3, 33, 34, 35, 22, 36, 24, 25, 26, 27, 28, 29, 30, 31, 32, 37, 38, 39, 40, 71, 72, 73, 74, 45, 46, 47, 48, 41, 42, 43, 44, 75, 76, 77, 78, 79, 80, 81, 82, 83, 84, 85, 86, 87, 88, 89, 90, 91, 92, 93, 94, 95, 96] rfl (by decide +kernel)
set_option maxRecDepth 20000 in
theorem gX2_plus_X2_twice : GoodIn wsX2_plus (wsV RX2 104 RX2 yX2_twice wsX2_twice) := goodIn_app (goodIn_of _ (by decide +kernel)) ggX2_plus_X2_twice
theorem dX2_plus_0 : decode cX2_plus 0 = .ok (.aload_n 2, 1) := by decide +kernel
theorem dX2_plus_1 : decode cX2_plus 1 = .ok (.getfield 82, 3) := by decide +kernel
theorem dX2_plus_4 : decode cX2_plus 4 = .ok (.ifCond .eq 4, 3) := by decide +kernel
theorem dX2_plus_7 : decode cX2_plus 7 = .ok (.return_, 1) := by decide +kernel
theorem dX2_plus_8 : decode cX2_plus 8 = .ok (.aload_n 1, 1) := by decide +kernel
theorem dX2_plus_9 : decode cX2_plus 9 = .ok (.getfield 82, 3) := by decide +kernel
theorem dX2_plus_12 : decode cX2_plus 12 = .ok (.ifCond .eq 9, 3) := by decide +kernel
theorem dX2_plus_15 : decode cX2_plus 15 = .ok (.aload_n 1, 1) := by decide +kernel
theorem dX2_plus_16 : decode cX2_plus 16 = .ok (.aload_n 2, 1) := by decide +kernel
theorem dX2_plus_17 : decode cX2_plus 17 = .ok (.invokevirtual 97, 3) := by decide +kernel
theorem dX2_plus_20 : decode cX2_plus 20 = .ok (.return_, 1) := by decide +kernel
theorem dX2_plus_21 : decode cX2_plus 21 = .ok (.aload_n 0, 1) := by decide +kernel
theorem dX2_plus_22 : decode cX2_plus 22 = .ok (.getfield 46, 3) := by decide +kernel
theorem dX2_plus_25 : decode cX2_plus 25 = .ok (.aload_n 2, 1) := by decide +kernel
theorem dX2_plus_26 : decode cX2_plus 26 = .ok (.getfield 75, 3) := by decide +kernel
theorem dX2_plus_29 : decode cX2_plus 29 = .ok (.aload_n 2, 1) := by decide +kernel
theorem dX2_plus_30 : decode cX2_plus 30 = .ok (.getfield 75, 3) := by decide +kernel
theorem dX2_plus_33 : decode cX2_plus 33 = .ok (.invokevirtual 86, 3) := by decide +kernel
theorem dX2_plus_36 : decode cX2_plus 36 = .ok (.aload_n 0, 1) := by decide +kernel
theorem dX2_plus_37 : decode cX2_plus 37 = .ok (.getfield 34, 3) := by decide +kernel
theorem dX2_plus_40 : decode cX2_plus 40 = .ok (.aload_n 1, 1) := by decide +kernel
theorem dX2_plus_41 : decode cX2_plus 41 = .ok (.getfield 53, 3) := by decide +kernel
theorem dX2_plus_44 : decode cX2_plus 44 = .ok (.aload_n 0, 1) := by decide +kernel
theorem dX2_plus_45 : decode cX2_plus 45 = .ok (.getfield 46, 3) := by decide +kernel
theorem dX2_plus_48 : decode cX2_plus 48 = .ok (.invokevirtual 86, 3) := by decide +kernel
theorem dX2_plus_51 : decode cX2_plus 51 = .ok (.aload_n 0, 1) := by decide +kernel
theorem dX2_plus_52 : decode cX2_plus 52 = .ok (.getfield 37, 3) := by decide +kernel
theorem dX2_plus_55 : decode cX2_plus 55 = .ok (.aload_n 1, 1) := by decide +kernel
theorem dX2_plus_56 : decode cX2_plus 56 = .ok (.getfield 64, 3) := by decide +kernel
theorem dX2_plus_59 : decode cX2_plus 59 = .ok (.aload_n 0, 1) := by decide +kernel
theorem dX2_plus_60 : decode cX2_plus 60 = .ok (.getfield 46, 3) := by decide +kernel
theorem dX2_plus_63 : decode cX2_plus 63 = .ok (.invokevirtual 86, 3) := by decide +kernel
theorem dX2_plus_66 : decode cX2_plus 66 = .ok (.aload_n 0, 1) := by decide +kernel
theorem dX2_plus_67 : decode cX2_plus 67 = .ok (.getfield 37, 3) := by decide +kernel
theorem dX2_plus_70 : decode cX2_plus 70 = .ok (.aload_n 0, 1) := by decide +kernel
theorem dX2_plus_71 : decode cX2_plus 71 = .ok (.getfield 37, 3) := by decide +kernel
theorem dX2_plus_74 : decode cX2_plus 74 = .ok (.aload_n 2, 1) := by decide +kernel
theorem dX2_plus_75 : decode cX2_plus 75 = .ok (.getfield 75, 3) := by decide +kernel
theorem dX2_plus_78 : decode cX2_plus 78 = .ok (.invokevirtual 86, 3) := by decide +kernel
theorem dX2_plus_81 : decode cX2_plus 81 = .ok (.aload_n 0, 1) := by decide +kernel
theorem dX2_plus_82 : decode cX2_plus 82 = .ok (.getfield 46, 3) := by decide +kernel
theorem dX2_plus_85 : decode cX2_plus 85 = .ok (.aload_n 1, 1) := by decide +kernel
theorem dX2_plus_86 : decode cX2_plus 86 = .ok (.getfield 75, 3) := by decide +kernel
theorem dX2_plus_89 : decode cX2_plus 89 = .ok (.aload_n 1, 1) := by decide +kernel
theorem dX2_plus_90 : decode cX2_plus 90 = .ok (.getfield 75, 3) := by decide +kernel
theorem dX2_plus_93 : decode cX2_plus 93 = .ok (.invokevirtual 86, 3) := by decide +kernel
theorem dX2_plus_96 : decode cX2_plus 96 = .ok (.aload_n 0, 1) := by decide +kernel
theorem dX2_plus_97 : decode cX2_plus 97 = .ok (.getfield 40, 3) := by decide +kernel
theorem dX2_plus_100 : decode cX2_plus 100 = .ok (.aload_n 2, 1) := by decide +kernel
theorem dX2_plus_101 : decode cX2_plus 101 = .ok (.getfield 53, 3) := by decide +kernel
theorem dX2_plus_104 : decode cX2_plus 104 = .ok (.aload_n 0, 1) := by decide +kernel
theorem dX2_plus_105 : decode cX2_plus 105 = .ok (.getfield 46, 3) := by decide +kernel
theorem dX2_plus_108 : decode cX2_plus 108 = .ok (.invokevirtual 86, 3) := by decide +kernel
theorem dX2_plus_111 : decode cX2_plus 111 = .ok (.aload_n 0, 1) := by decide +kernel
theorem dX2_plus_112 : decode cX2_plus 112 = .ok (.getfield 40, 3) := by decide +kernel
theorem dX2_plus_115 : decode cX2_plus 115 = .ok (.aload_n 0, 1) := by decide +kernel
theorem dX2_plus_116 : decode cX2_plus 116 = .ok (.getfield 40, 3) := by decide +kernel
theorem dX2_plus_119 : decode cX2_plus 119 = .ok (.aload_n 0, 1) := by decide +kernel
theorem dX2_plus_120 : decode cX2_plus 120 = .ok (.getfield 34, 3) := by decide +kernel
theorem dX2_plus_123 : decode cX2_plus 123 = .ok (.invokevirtual 94, 3) := by decide +kernel
theorem dX2_plus_126 : decode cX2_plus 126 = .ok (.aload_n 0, 1) := by decide +kernel
theorem dX2_plus_127 : decode cX2_plus 127 = .ok (.getfield 43, 3) := by decide +kernel
theorem dX2_plus_130 : decode cX2_plus 130 = .ok (.aload_n 2, 1) := by decide +kernel
theorem dX2_plus_131 : decode cX2_plus 131 = .ok (.getfield 64, 3) := by decide +kernel
theorem dX2_plus_134 : decode cX2_plus 134 = .ok (.aload_n 0, 1) := by decide +kernel
theorem dX2_plus_135 : decode cX2_plus 135 = .ok (.getfield 46, 3) := by decide +kernel
theorem dX2_plus_138 : decode cX2_plus 138 = .ok (.invokevirtual 86, 3) := by decide +kernel
theorem dX2_plus_141 : decode cX2_plus 141 = .ok (.aload_n 0, 1) := by decide +kernel
theorem dX2_plus_142 : decode cX2_plus 142 = .ok (.getfield 43, 3) := by decide +kernel
theorem dX2_plus_145 : decode cX2_plus 145 = .ok (.aload_n 0, 1) := by decide +kernel
theorem dX2_plus_146 : decode cX2_plus 146 = .ok (.getfield 43, 3) := by decide +kernel
theorem dX2_plus_149 : decode cX2_plus 149 = .ok (.aload_n 1, 1) := by decide +kernel
theorem dX2_plus_150 : decode cX2_plus 150 = .ok (.getfield 75, 3) := by decide +kernel
theorem dX2_plus_153 : decode cX2_plus 153 = .ok (.invokevirtual 86, 3) := by decide +kernel
theorem dX2_plus_156 : decode cX2_plus 156 = .ok (.aload_n 0, 1) := by decide +kernel
theorem dX2_plus_157 : decode cX2_plus 157 = .ok (.getfield 43, 3) := by decide +kernel
theorem dX2_plus_160 : decode cX2_plus 160 = .ok (.aload_n 0, 1) := by decide +kernel
theorem dX2_plus_161 : decode cX2_plus 161 = .ok (.getfield 43, 3) := by decide +kernel
theorem dX2_plus_164 : decode cX2_plus 164 = .ok (.aload_n 0, 1) := by decide +kernel
theorem dX2_plus_165 : decode cX2_plus 165 = .ok (.getfield 37, 3) := by decide +kernel
theorem dX2_plus_168 : decode cX2_plus 168 = .ok (.invokevirtual 94, 3) := by decide +kernel
theorem dX2_plus_171 : decode cX2_plus 171 = .ok (.aload_n 0, 1) := by decide +kernel
theorem dX2_plus_172 : decode cX2_plus 172 = .ok (.getfield 40, 3) := by decide +kernel
theorem dX2_plus_175 : decode cX2_plus 175 = .ok (.invokevirtual 100, 3) := by decide +kernel
theorem dX2_plus_178 : decode cX2_plus 178 = .ok (.ifCond .eq 19, 3) := by decide +kernel
theorem dX2_plus_181 : decode cX2_plus 181 = .ok (.aload_n 0, 1) := by decide +kernel
theorem dX2_plus_182 : decode cX2_plus 182 = .ok (.getfield 43, 3) := by decide +kernel
theorem dX2_plus_185 : decode cX2_plus 185 = .ok (.invokevirtual 100, 3) := by decide +kernel
theorem dX2_plus_188 : decode cX2_plus 188 = .ok (.ifCond .eq 9, 3) := by decide +kernel
theorem dX2_plus_191 : decode cX2_plus 191 = .ok (.aload_n 0, 1) := by decide +kernel
theorem dX2_plus_192 : decode cX2_plus 192 = .ok (.aload_n 1, 1) := by decide +kernel
theorem dX2_plus_193 : decode cX2_plus 193 = .ok (.invokevirtual 104, 3) := by decide +kernel
theorem dX2_plus_196 : decode cX2_plus 196 = .ok (.return_, 1) := by decide +kernel
theorem dX2_plus_197 : decode cX2_plus 197 = .ok (.aload_n 0, 1) := by decide +kernel
theorem dX2_plus_198 : decode cX2_plus 198 = .ok (.getfield 40, 3) := by decide +kernel
theorem dX2_plus_201 : decode cX2_plus 201 = .ok (.invokevirtual 100, 3) := by decide +kernel
theorem dX2_plus_204 : decode cX2_plus 204 = .ok (.ifCond .eq 9, 3) := by decide +kernel
theorem dX2_plus_207 : decode cX2_plus 207 = .ok (.aload_n 1, 1) := by decide +kernel
theorem dX2_plus_208 : decode cX2_plus 208 = .ok (.iconst 1, 1) := by decide +kernel
theorem dX2_plus_209 : decode cX2_plus 209 = .ok (.putfield 82, 3) := by decide +kernel
theorem dX2_plus_212 : decode cX2_plus 212 = .ok (.return_, 1) := by decide +kernel
theorem dX2_plus_213 : decode cX2_plus 213 = .ok (.aload_n 1, 1) := by decide +kernel
theorem dX2_plus_214 : decode cX2_plus 214 = .ok (.getfield 75, 3) := by decide +kernel
theorem dX2_plus_217 : decode cX2_plus 217 = .ok (.aload_n 1, 1) := by decide +kernel
theorem dX2_plus_218 : decode cX2_plus 218 = .ok (.getfield 75, 3) := by decide +kernel
theorem dX2_plus_221 : decode cX2_plus 221 = .ok (.aload_n 2, 1) := by decide +kernel
theorem dX2_plus_222 : decode cX2_plus 222 = .ok (.getfield 75, 3) := by decide +kernel
theorem dX2_plus_225 : decode cX2_plus 225 = .ok (.invokevirtual 86, 3) := by decide +kernel
theorem dX2_plus_228 : decode cX2_plus 228 = .ok (.aload_n 1, 1) := by decide +kernel
theorem dX2_plus_229 : decode cX2_plus 229 = .ok (.getfield 75, 3) := by decide +kernel
theorem dX2_plus_232 : decode cX2_plus 232 = .ok (.aload_n 1, 1) := by decide +kernel
theorem dX2_plus_233 : decode cX2_plus 233 = .ok (.getfield 75, 3) := by decide +kernel
theorem dX2_plus_236 : decode cX2_plus 236 = .ok (.aload_n 0, 1) := by decide +kernel
theorem dX2_plus_237 : decode cX2_plus 237 = .ok (.getfield 40, 3) := by decide +kernel
theorem dX2_plus_240 : decode cX2_plus 240 = .ok (.invokevirtual 86, 3) := by decide +kernel
theorem dX2_plus_243 : decode cX2_plus 243 = .ok (.aload_n 0, 1) := by decide +kernel
theorem dX2_plus_244 : decode cX2_plus 244 = .ok (.getfield 46, 3) := by decide +kernel
theorem dX2_plus_247 : decode cX2_plus 247 = .ok (.aload_n 0, 1) := by decide +kernel
theorem dX2_plus_248 : decode cX2_plus 248 = .ok (.getfield 40, 3) := by decide +kernel
theorem dX2_plus_251 : decode cX2_plus 251 = .ok (.aload_n 0, 1) := by decide +kernel
theorem dX2_plus_252 : decode cX2_plus 252 = .ok (.getfield 40, 3) := by decide +kernel
theorem dX2_plus_255 : decode cX2_plus 255 = .ok (.invokevirtual 86, 3) := by decide +kernel
theorem dX2_plus_258 : decode cX2_plus 258 = .ok (.aload_n 0, 1) := by decide +kernel
theorem dX2_plus_259 : decode cX2_plus 259 = .ok (.getfield 34, 3) := by decide +kernel
theorem dX2_plus_262 : decode cX2_plus 262 = .ok (.aload_n 0, 1) := by decide +kernel
theorem dX2_plus_263 : decode cX2_plus 263 = .ok (.getfield 34, 3) := by decide +kernel
theorem dX2_plus_266 : decode cX2_plus 266 = .ok (.aload_n 0, 1) := by decide +kernel
theorem dX2_plus_267 : decode cX2_plus 267 = .ok (.getfield 46, 3) := by decide +kernel
theorem dX2_plus_270 : decode cX2_plus 270 = .ok (.invokevirtual 86, 3) := by decide +kernel
theorem dX2_plus_273 : decode cX2_plus 273 = .ok (.aload_n 0, 1) := by decide +kernel
theorem dX2_plus_274 : decode cX2_plus 274 = .ok (.getfield 40, 3) := by decide +kernel
theorem dX2_plus_277 : decode cX2_plus 277 = .ok (.aload_n 0, 1) := by decide +kernel
theorem dX2_plus_278 : decode cX2_plus 278 = .ok (.getfield 40, 3) := by decide +kernel
theorem dX2_plus_281 : decode cX2_plus 281 = .ok (.aload_n 0, 1) := by decide +kernel
theorem dX2_plus_282 : decode cX2_plus 282 = .ok (.getfield 46, 3) := by decide +kernel
theorem dX2_plus_285 : decode cX2_plus 285 = .ok (.invokevirtual 86, 3) := by decide +kernel
theorem dX2_plus_288 : decode cX2_plus 288 = .ok (.aload_n 1, 1) := by decide +kernel
theorem dX2_plus_289 : decode cX2_plus 289 = .ok (.getfield 53, 3) := by decide +kernel
theorem dX2_plus_292 : decode cX2_plus 292 = .ok (.aload_n 0, 1) := by decide +kernel
theorem dX2_plus_293 : decode cX2_plus 293 = .ok (.getfield 43, 3) := by decide +kernel
theorem dX2_plus_296 : decode cX2_plus 296 = .ok (.aload_n 0, 1) := by decide +kernel
theorem dX2_plus_297 : decode cX2_plus 297 = .ok (.getfield 43, 3) := by decide +kernel
theorem dX2_plus_300 : decode cX2_plus 300 = .ok (.invokevirtual 86, 3) := by decide +kernel
theorem dX2_plus_303 : decode cX2_plus 303 = .ok (.aload_n 1, 1) := by decide +kernel
theorem dX2_plus_304 : decode cX2_plus 304 = .ok (.getfield 53, 3) := by decide +kernel
theorem dX2_plus_307 : decode cX2_plus 307 = .ok (.aload_n 1, 1) := by decide +kernel
theorem dX2_plus_308 : decode cX2_plus 308 = .ok (.getfield 53, 3) := by decide +kernel
theorem dX2_plus_311 : decode cX2_plus 311 = .ok (.aload_n 0, 1) := by decide +kernel
theorem dX2_plus_312 : decode cX2_plus 312 = .ok (.getfield 40, 3) := by decide +kernel
theorem dX2_plus_315 : decode cX2_plus 315 = .ok (.invokevirtual 94, 3) := by decide +kernel
theorem dX2_plus_318 : decode cX2_plus 318 = .ok (.aload_n 1, 1) := by decide +kernel
theorem dX2_plus_319 : decode cX2_plus 319 = .ok (.getfield 53, 3) := by decide +kernel
theorem dX2_plus_322 : decode cX2_plus 322 = .ok (.aload_n 1, 1) := by decide +kernel
theorem dX2_plus_323 : decode cX2_plus 323 = .ok (.getfield 53, 3) := by decide +kernel
theorem dX2_plus_326 : decode cX2_plus 326 = .ok (.aload_n 0, 1) := by decide +kernel
theorem dX2_plus_327 : decode cX2_plus 327 = .ok (.getfield 34, 3) := by decide +kernel
theorem dX2_plus_330 : decode cX2_plus 330 = .ok (.invokevirtual 94, 3) := by decide +kernel
theorem dX2_plus_333 : decode cX2_plus 333 = .ok (.aload_n 1, 1) := by decide +kernel
theorem dX2_plus_334 : decode cX2_plus 334 = .ok (.getfield 53, 3) := by decide +kernel
theorem dX2_plus_337 : decode cX2_plus 337 = .ok (.aload_n 1, 1) := by decide +kernel
theorem dX2_plus_338 : decode cX2_plus 338 = .ok (.getfield 53, 3) := by decide +kernel
theorem dX2_plus_341 : decode cX2_plus 341 = .ok (.aload_n 0, 1) := by decide +kernel
theorem dX2_plus_342 : decode cX2_plus 342 = .ok (.getfield 34, 3) := by decide +kernel
theorem dX2_plus_345 : decode cX2_plus 345 = .ok (.invokevirtual 94, 3) := by decide +kernel
theorem dX2_plus_348 : decode cX2_plus 348 = .ok (.aload_n 0, 1) := by decide +kernel
theorem dX2_plus_349 : decode cX2_plus 349 = .ok (.getfield 34, 3) := by decide +kernel
theorem dX2_plus_352 : decode cX2_plus 352 = .ok (.aload_n 0, 1) := by decide +kernel
theorem dX2_plus_353 : decode cX2_plus 353 = .ok (.getfield 34, 3) := by decide +kernel
theorem dX2_plus_356 : decode cX2_plus 356 = .ok (.aload_n 1, 1) := by decide +kernel
theorem dX2_plus_357 : decode cX2_plus 357 = .ok (.getfield 53, 3) := by decide +kernel
theorem dX2_plus_360 : decode cX2_plus 360 = .ok (.invokevirtual 94, 3) := by decide +kernel
theorem dX2_plus_363 : decode cX2_plus 363 = .ok (.aload_n 0, 1) := by decide +kernel
theorem dX2_plus_364 : decode cX2_plus 364 = .ok (.getfield 34, 3) := by decide +kernel
theorem dX2_plus_367 : decode cX2_plus 367 = .ok (.aload_n 0, 1) := by decide +kernel
theorem dX2_plus_368 : decode cX2_plus 368 = .ok (.getfield 34, 3) := by decide +kernel
theorem dX2_plus_371 : decode cX2_plus 371 = .ok (.aload_n 0, 1) := by decide +kernel
theorem dX2_plus_372 : decode cX2_plus 372 = .ok (.getfield 43, 3) := by decide +kernel
theorem dX2_plus_375 : decode cX2_plus 375 = .ok (.invokevirtual 86, 3) := by decide +kernel
theorem dX2_plus_378 : decode cX2_plus 378 = .ok (.aload_n 0, 1) := by decide +kernel
theorem dX2_plus_379 : decode cX2_plus 379 = .ok (.getfield 37, 3) := by decide +kernel
theorem dX2_plus_382 : decode cX2_plus 382 = .ok (.aload_n 0, 1) := by decide +kernel
theorem dX2_plus_383 : decode cX2_plus 383 = .ok (.getfield 37, 3) := by decide +kernel
theorem dX2_plus_386 : decode cX2_plus 386 = .ok (.aload_n 0, 1) := by decide +kernel
theorem dX2_plus_387 : decode cX2_plus 387 = .ok (.getfield 40, 3) := by decide +kernel
theorem dX2_plus_390 : decode cX2_plus 390 = .ok (.invokevirtual 86, 3) := by decide +kernel
theorem dX2_plus_393 : decode cX2_plus 393 = .ok (.aload_n 1, 1) := by decide +kernel
theorem dX2_plus_394 : decode cX2_plus 394 = .ok (.getfield 64, 3) := by decide +kernel
theorem dX2_plus_397 : decode cX2_plus 397 = .ok (.aload_n 0, 1) := by decide +kernel
theorem dX2_plus_398 : decode cX2_plus 398 = .ok (.getfield 34, 3) := by decide +kernel
theorem dX2_plus_401 : decode cX2_plus 401 = .ok (.aload_n 0, 1) := by decide +kernel
theorem dX2_plus_402 : decode cX2_plus 402 = .ok (.getfield 37, 3) := by decide +kernel
theorem dX2_plus_405 : decode cX2_plus 405 = .ok (.invokevirtual 94, 3) := by decide +kernel
theorem dX2_plus_408 : decode cX2_plus 408 = .ok (.return_, 1) := by decide +kernel
set_option maxRecDepth 20000 in
theorem ggX2_times_X6_become : GoodIn wsX2_times wsX6_become := goodIn_r _ [7, 8, 9, 10, 11, 12, 13, 14, 15, 16, 17, 18, 19, 20, 21, 22, 23, 24, 25, 95, 96, 97, 98, 99, 100, 101, 102, 103, 104, 105, 106, 107] rfl (by decide +kernel)
set_option maxRecDepth 20000 in
theorem gX2_times_X6_become : GoodIn wsX2_times (wsV RX2 97 RX6 yX6_become wsX6_become) := goodIn_app (goodIn_of _ (by decide +kernel)) ggX2_times_X6_become
set_option maxRecDepth 20000 in
theorem ggX2_times_X2_plus : GoodIn wsX2_times wsX2_plus := goodIn_r _ [30, 2, 31, 32, 33, 34, 35, 36, 37, 38, 3, 4, 5, 6, 7, 8, 9, 10, 11, 12, 13, 14, 15, 16, 17, 18, 19, 20, 21, 22, 23, 24, 25, 39, 40, 41, 42, 43, 44, 45, 46, 47, 48, 49, 50, 51, 52, 53, 54, 55, 56, 57, 58, 59, 60, 61, 62, 63, 64, 65, 66, 67, 68, 69, 70, 71, 72, 73, 74, 29, 75, 76, 77, 78, 79, 95, 96, 97, 98, 86, 87, 88, 89, 90, 91, 92, 93, 94, 99, 100, 101, 102, 103, 104, 105, 106, 107] rfl (by decide +kernel)
set_option maxRecDepth 20000 in
theorem gX2_times_X2_plus : GoodIn wsX2_times (wsV RX2 107 RX2 yX2_plus wsX2_plus) := goodIn_app (goodIn_of _ (by decide +kernel)) ggX2_times_X2_plus
set_option maxRecDepth 20000 in
theorem ggX2_times_X2_twice : GoodIn wsX2_times wsX2_twice := goodIn_r _ [75, 2, 35, 36, 33, 34, 38, 32, 39, 40, 41, 15, 42, 17, 18, 19, 20, 21, 22, 23, 24, 25, 43, 44, 45, 46, 76, 77, 78, 79, 51, 52, 53, 54, 47, 48, 49, 50, 95, 96, 97, 98, 86, 87, 88, 89, 90, 91, 92, 93, 94, 99, 100, 101, 102, 103, 104, 105, 106, 107] rfl (by decide +kernel)
set_option maxRecDepth 20000 in
theorem gX2_times_X2_twice : GoodIn wsX2_times (wsV RX2 104 RX2 yX2_twice wsX2_twice) := goodIn_app (goodIn_of _ (by decide +kernel)) ggX2_times_X2_twice
set_option maxRecDepth 20000 in
theorem ggX2_times_X8_digit : GoodIn wsX2_times wsX8_digit := goodIn_r _ [84, 85, 108] rfl (by decide +kernel)
set_option maxRecDepth 20000 in
theorem gX2_times_X8_digit : GoodIn wsX2_times (wsV RX2 111 RX8 yX8_digit wsX8_digit) := goodIn_app (goodIn_of _ (by decide +kernel)) ggX2_times_X8_digit
theorem dX2_times_0 : decode cX2_times 0 = .ok (.aload_n 0, 1) := by decide +kernel
theorem dX2_times_1 : decode cX2_times 1 = .ok (.getfield 16, 3) := by decide +kernel
theorem dX2_times_4 : decode cX2_times 4 = .ok (.iconst 1, 1) := by decide +kernel
theorem dX2_times_5 : decode cX2_times 5 = .ok (.aaload, 1) := by decide +kernel
theorem dX2_times_6 : decode cX2_times 6 = .ok (.aload_n 2, 1) := by decide +kernel
theorem dX2_times_7 : decode cX2_times 7 = .ok (.invokevirtual 97, 3) := by decide +kernel
theorem dX2_times_10 : decode cX2_times 10 = .ok (.iconst 2, 1) := by decide +kernel
theorem dX2_times_11 : decode cX2_times 11 = .ok (.istore 4, 2) := by decide +kernel
theorem dX2_times_13 : decode cX2_times 13 = .ok (.iload 4, 2) := by decide +kernel
theorem dX2_times_15 : decode cX2_times 15 = .ok (.bipush 16, 2) := by decide +kernel
theorem dX2_times_17 : decode cX2_times 17 = .ok (.if_icmp .ge 45, 3) := by decide +kernel
theorem dX2_times_20 : decode cX2_times 20 = .ok (.aload_n 0, 1) := by decide +kernel
theorem dX2_times_21 : decode cX2_times 21 = .ok (.getfield 16, 3) := by decide +kernel
theorem dX2_times_24 : decode cX2_times 24 = .ok (.iload 4, 2) := by decide +kernel
theorem dX2_times_26 : decode cX2_times 26 = .ok (.aaload, 1) := by decide +kernel
theorem dX2_times_27 : decode cX2_times 27 = .ok (.aload_n 0, 1) := by decide +kernel
theorem dX2_times_28 : decode cX2_times 28 = .ok (.getfield 16, 3) := by decide +kernel
theorem dX2_times_31 : decode cX2_times 31 = .ok (.iload 4, 2) := by decide +kernel
theorem dX2_times_33 : decode cX2_times 33 = .ok (.iconst 1, 1) := by decide +kernel
theorem dX2_times_34 : decode cX2_times 34 = .ok (.isub, 1) := by decide +kernel
theorem dX2_times_35 : decode cX2_times 35 = .ok (.aaload, 1) := by decide +kernel
theorem dX2_times_36 : decode cX2_times 36 = .ok (.invokevirtual 97, 3) := by decide +kernel
theorem dX2_times_39 : decode cX2_times 39 = .ok (.aload_n 0, 1) := by decide +kernel
theorem dX2_times_40 : decode cX2_times 40 = .ok (.aload_n 0, 1) := by decide +kernel
theorem dX2_times_41 : decode cX2_times 41 = .ok (.getfield 16, 3) := by decide +kernel
theorem dX2_times_44 : decode cX2_times 44 = .ok (.iload 4, 2) := by decide +kernel
theorem dX2_times_46 : decode cX2_times 46 = .ok (.aaload, 1) := by decide +kernel
theorem dX2_times_47 : decode cX2_times 47 = .ok (.aload_n 0, 1) := by decide +kernel
theorem dX2_times_48 : decode cX2_times 48 = .ok (.getfield 16, 3) := by decide +kernel
theorem dX2_times_51 : decode cX2_times 51 = .ok (.iconst 1, 1) := by decide +kernel
theorem dX2_times_52 : decode cX2_times 52 = .ok (.aaload, 1) := by decide +kernel
theorem dX2_times_53 : decode cX2_times 53 = .ok (.invokevirtual 107, 3) := by decide +kernel
theorem dX2_times_56 : decode cX2_times 56 = .ok (.iinc 4 1, 3) := by decide +kernel
theorem dX2_times_59 : decode cX2_times 59 = .ok (.goto (-46), 3) := by decide +kernel
theorem dX2_times_62 : decode cX2_times 62 = .ok (.aload_n 1, 1) := by decide +kernel
theorem dX2_times_63 : decode cX2_times 63 = .ok (.iconst 1, 1) := by decide +kernel
theorem dX2_times_64 : decode cX2_times 64 = .ok (.putfield 82, 3) := by decide +kernel
theorem dX2_times_67 : decode cX2_times 67 = .ok (.bipush 63, 2) := by decide +kernel
theorem dX2_times_69 : decode cX2_times 69 = .ok (.istore 4, 2) := by decide +kernel
theorem dX2_times_71 : decode cX2_times 71 = .ok (.iload 4, 2) := by decide +kernel
theorem dX2_times_73 : decode cX2_times 73 = .ok (.ifCond .lt 61, 3) := by decide +kernel
theorem dX2_times_76 : decode cX2_times 76 = .ok (.iconst 0, 1) := by decide +kernel
theorem dX2_times_77 : decode cX2_times 77 = .ok (.istore 5, 2) := by decide +kernel
theorem dX2_times_79 : decode cX2_times 79 = .ok (.iload 5, 2) := by decide +kernel
theorem dX2_times_81 : decode cX2_times 81 = .ok (.iconst 4, 1) := by decide +kernel
theorem dX2_times_82 : decode cX2_times 82 = .ok (.if_icmp .ge 14, 3) := by decide +kernel
theorem dX2_times_85 : decode cX2_times 85 = .ok (.aload_n 0, 1) := by decide +kernel
theorem dX2_times_86 : decode cX2_times 86 = .ok (.aload_n 1, 1) := by decide +kernel
theorem dX2_times_87 : decode cX2_times 87 = .ok (.invokevirtual 104, 3) := by decide +kernel
theorem dX2_times_90 : decode cX2_times 90 = .ok (.iinc 5 1, 3) := by decide +kernel
theorem dX2_times_93 : decode cX2_times 93 = .ok (.goto (-14), 3) := by decide +kernel
theorem dX2_times_96 : decode cX2_times 96 = .ok (.aload_n 3, 1) := by decide +kernel
theorem dX2_times_97 : decode cX2_times 97 = .ok (.iload 4, 2) := by decide +kernel
theorem dX2_times_99 : decode cX2_times 99 = .ok (.invokevirtual 111, 3) := by decide +kernel
theorem dX2_times_102 : decode cX2_times 102 = .ok (.istore 5, 2) := by decide +kernel
theorem dX2_times_104 : decode cX2_times 104 = .ok (.iload 5, 2) := by decide +kernel
theorem dX2_times_106 : decode cX2_times 106 = .ok (.ifCond .le 22, 3) := by decide +kernel
theorem dX2_times_109 : decode cX2_times 109 = .ok (.iload 5, 2) := by decide +kernel
theorem dX2_times_111 : decode cX2_times 111 = .ok (.bipush 16, 2) := by decide +kernel
theorem dX2_times_113 : decode cX2_times 113 = .ok (.if_icmp .ge 15, 3) := by decide +kernel
theorem dX2_times_116 : decode cX2_times 116 = .ok (.aload_n 0, 1) := by decide +kernel
theorem dX2_times_117 : decode cX2_times 117 = .ok (.aload_n 1, 1) := by decide +kernel
theorem dX2_times_118 : decode cX2_times 118 = .ok (.aload_n 0, 1) := by decide +kernel
theorem dX2_times_119 : decode cX2_times 119 = .ok (.getfield 16, 3) := by decide +kernel
theorem dX2_times_122 : decode cX2_times 122 = .ok (.iload 5, 2) := by decide +kernel
theorem dX2_times_124 : decode cX2_times 124 = .ok (.aaload, 1) := by decide +kernel
theorem dX2_times_125 : decode cX2_times 125 = .ok (.invokevirtual 107, 3) := by decide +kernel
theorem dX2_times_128 : decode cX2_times 128 = .ok (.iinc 4 (-1), 3) := by decide +kernel
theorem dX2_times_131 : decode cX2_times 131 = .ok (.goto (-60), 3) := by decide +kernel
theorem dX2_times_134 : decode cX2_times 134 = .ok (.return_, 1) := by decide +kernel
set_option maxRecDepth 20000 in
theorem ggX2_settle_X7_stem : GoodIn wsX2_settle wsX7_stem := goodIn_r _ [13, 14, 15, 16, 17, 18, 19, 20, 21, 22, 23, 24, 25, 26, 27, 28, 29, 30, 31, 32, 33, 34, 35, 36, 37, 38, 39, 40, 41, 42, 43, 44, 45, 46, 63, 64, 65, 66, 67, 68, 69, 70, 71, 72, 73, 74, 75, 76, 77] rfl (by decide +kernel)
set_option maxRecDepth 20000 in
theorem gX2_settle_X7_stem : GoodIn wsX2_settle (wsV RX2 117 RX7 yX7_stem wsX7_stem) := goodIn_app (goodIn_of _ (by decide +kernel)) ggX2_settle_X7_stem
set_option maxRecDepth 20000 in
theorem ggX2_settle_X1_raise : GoodIn wsX2_settle wsX1_raise := goodIn_r _ [24, 25, 26, 27, 23, 28, 29, 30, 31, 32, 33, 34, 35, 36, 37, 38, 39, 40, 41, 42, 43, 44, 45, 69, 70, 71, 72, 73, 74, 75, 76, 77] rfl (by decide +kernel)
set_option maxRecDepth 20000 in
theorem gX2_settle_X1_raise : GoodIn wsX2_settle (wsV RX2 120 RX1 yX1_raise wsX1_raise) := goodIn_app (goodIn_of _ (by decide +kernel)) ggX2_settle_X1_raise
set_option maxRecDepth 20000 in
theorem ggX2_settle_X1_product : GoodIn wsX2_settle wsX1_product := goodIn_r _ [41, 29, 30, 31, 32, 33, 34, 35, 36, 37, 42, 43, 44, 45, 69, 70, 71, 72, 73, 74, 75, 76, 77] rfl (by decide +kernel)
set_option maxRecDepth 20000 in
theorem gX2_settle_X1_product : GoodIn wsX2_settle (wsV RX2 86 RX1 yX1_product wsX1_product) := goodIn_app (goodIn_of _ (by decide +kernel)) ggX2_settle_X1_product
set_option maxRecDepth 20000 in
theorem ggX2_settle_X1_become : GoodIn wsX2_settle wsX1_become := goodIn_r _ [28, 29, 30, 31, 32, 33, 34, 35, 36, 37, 69, 70, 71, 72, 73, 74, 75, 76, 77] rfl (by decide +kernel)
set_option maxRecDepth 20000 in
theorem gX2_settle_X1_become : GoodIn wsX2_settle (wsV RX2 78 RX1 yX1_become wsX1_become) := goodIn_app (goodIn_of _ (by decide +kernel)) ggX2_settle_X1_become
theorem dX2_settle_0 : decode cX2_settle 0 = .ok (.aload_n 1, 1) := by decide +kernel
theorem dX2_settle_1 : decode cX2_settle 1 = .ok (.getfield 82, 3) := by decide +kernel
theorem dX2_settle_4 : decode cX2_settle 4 = .ok (.ifCond .eq 4, 3) := by decide +kernel
theorem dX2_settle_7 : decode cX2_settle 7 = .ok (.return_, 1) := by decide +kernel
theorem dX2_settle_8 : decode cX2_settle 8 = .ok (.aload_n 0, 1) := by decide +kernel
theorem dX2_settle_9 : decode cX2_settle 9 = .ok (.getfield 23, 3) := by decide +kernel
theorem dX2_settle_12 : decode cX2_settle 12 = .ok (.aload_n 0, 1) := by decide +kernel
theorem dX2_settle_13 : decode cX2_settle 13 = .ok (.getfield 46, 3) := by decide +kernel
theorem dX2_settle_16 : decode cX2_settle 16 = .ok (.aload_n 1, 1) := by decide +kernel
theorem dX2_settle_17 : decode cX2_settle 17 = .ok (.getfield 75, 3) := by decide +kernel
theorem dX2_settle_20 : decode cX2_settle 20 = .ok (.invokevirtual 117, 3) := by decide +kernel
theorem dX2_settle_23 : decode cX2_settle 23 = .ok (.aload_n 0, 1) := by decide +kernel
theorem dX2_settle_24 : decode cX2_settle 24 = .ok (.getfield 46, 3) := by decide +kernel
theorem dX2_settle_27 : decode cX2_settle 27 = .ok (.aload_n 0, 1) := by decide +kernel
theorem dX2_settle_28 : decode cX2_settle 28 = .ok (.getfield 46, 3) := by decide +kernel
theorem dX2_settle_31 : decode cX2_settle 31 = .ok (.iconst 2, 1) := by decide +kernel
theorem dX2_settle_32 : decode cX2_settle 32 = .ok (.aload_n 1, 1) := by decide +kernel
theorem dX2_settle_33 : decode cX2_settle 33 = .ok (.getfield 75, 3) := by decide +kernel
theorem dX2_settle_36 : decode cX2_settle 36 = .ok (.invokevirtual 120, 3) := by decide +kernel
theorem dX2_settle_39 : decode cX2_settle 39 = .ok (.aload_n 0, 1) := by decide +kernel
theorem dX2_settle_40 : decode cX2_settle 40 = .ok (.getfield 34, 3) := by decide +kernel
theorem dX2_settle_43 : decode cX2_settle 43 = .ok (.aload_n 0, 1) := by decide +kernel
theorem dX2_settle_44 : decode cX2_settle 44 = .ok (.getfield 46, 3) := by decide +kernel
theorem dX2_settle_47 : decode cX2_settle 47 = .ok (.aload_n 0, 1) := by decide +kernel
theorem dX2_settle_48 : decode cX2_settle 48 = .ok (.getfield 46, 3) := by decide +kernel
theorem dX2_settle_51 : decode cX2_settle 51 = .ok (.invokevirtual 86, 3) := by decide +kernel
theorem dX2_settle_54 : decode cX2_settle 54 = .ok (.aload_n 1, 1) := by decide +kernel
theorem dX2_settle_55 : decode cX2_settle 55 = .ok (.getfield 53, 3) := by decide +kernel
theorem dX2_settle_58 : decode cX2_settle 58 = .ok (.aload_n 1, 1) := by decide +kernel
theorem dX2_settle_59 : decode cX2_settle 59 = .ok (.getfield 53, 3) := by decide +kernel
theorem dX2_settle_62 : decode cX2_settle 62 = .ok (.aload_n 0, 1) := by decide +kernel
theorem dX2_settle_63 : decode cX2_settle 63 = .ok (.getfield 34, 3) := by decide +kernel
theorem dX2_settle_66 : decode cX2_settle 66 = .ok (.invokevirtual 86, 3) := by decide +kernel
theorem dX2_settle_69 : decode cX2_settle 69 = .ok (.aload_n 0, 1) := by decide +kernel
theorem dX2_settle_70 : decode cX2_settle 70 = .ok (.getfield 34, 3) := by decide +kernel
theorem dX2_settle_73 : decode cX2_settle 73 = .ok (.aload_n 0, 1) := by decide +kernel
theorem dX2_settle_74 : decode cX2_settle 74 = .ok (.getfield 34, 3) := by decide +kernel
theorem dX2_settle_77 : decode cX2_settle 77 = .ok (.aload_n 0, 1) := by decide +kernel
theorem dX2_settle_78 : decode cX2_settle 78 = .ok (.getfield 46, 3) := by decide +kernel
theorem dX2_settle_81 : decode cX2_settle 81 = .ok (.invokevirtual 86, 3) := by decide +kernel
theorem dX2_settle_84 : decode cX2_settle 84 = .ok (.aload_n 1, 1) := by decide +kernel
theorem dX2_settle_85 : decode cX2_settle 85 = .ok (.getfield 64, 3) := by decide +kernel
theorem dX2_settle_88 : decode cX2_settle 88 = .ok (.aload_n 1, 1) := by decide +kernel
theorem dX2_settle_89 : decode cX2_settle 89 = .ok (.getfield 64, 3) := by decide +kernel
theorem dX2_settle_92 : decode cX2_settle 92 = .ok (.aload_n 0, 1) := by decide +kernel
theorem dX2_settle_93 : decode cX2_settle 93 = .ok (.getfield 34, 3) := by decide +kernel
theorem dX2_settle_96 : decode cX2_settle 96 = .ok (.invokevirtual 86, 3) := by decide +kernel
theorem dX2_settle_99 : decode cX2_settle 99 = .ok (.aload_n 1, 1) := by decide +kernel
theorem dX2_settle_100 : decode cX2_settle 100 = .ok (.getfield 75, 3) := by decide +kernel
theorem dX2_settle_103 : decode cX2_settle 103 = .ok (.aload_n 0, 1) := by decide +kernel
theorem dX2_settle_104 : decode cX2_settle 104 = .ok (.getfield 30, 3) := by decide +kernel
theorem dX2_settle_107 : decode cX2_settle 107 = .ok (.invokevirtual 78, 3) := by decide +kernel
theorem dX2_settle_110 : decode cX2_settle 110 = .ok (.return_, 1) := by decide +kernel
set_option maxRecDepth 20000 in
theorem ggX2_lift_X1_take : GoodIn wsX2_lift wsX1_take := goodIn_r _ [13, 14, 15, 16, 17, 18, 19, 20, 21, 22, 23, 24, 25, 26, 12, 27, 28, 29, 30, 31, 32, 33, 34, 35, 36, 37, 38, 39, 40, 41, 42, 43, 115, 116, 117, 118, 119, 120, 121, 122, 123, 124, 125] rfl (by decide +kernel)
set_option maxRecDepth 20000 in
theorem gX2_lift_X1_take : GoodIn wsX2_lift (wsV RX2 124 RX1 yX1_take wsX1_take) := goodIn_app (goodIn_of _ (by decide +kernel)) ggX2_lift_X1_take
set_option maxRecDepth 20000 in
theorem ggX2_lift_X1_product : GoodIn wsX2_lift wsX1_product := goodIn_r _ [47, 29, 30, 31, 32, 33, 34, 35, 36, 37, 28, 48, 42, 49, 117, 118, 119, 120, 121, 122, 123, 124, 125] rfl (by decide +kernel)
set_option maxRecDepth 20000 in
theorem gX2_lift_X1_product : GoodIn wsX2_lift (wsV RX2 86 RX1 yX1_product wsX1_product) := goodIn_app (goodIn_of _ (by decide +kernel)) ggX2_lift_X1_product
set_option maxRecDepth 20000 in
theorem ggX2_lift_X1_addSmall : GoodIn wsX2_lift wsX1_addSmall := goodIn_r _ [53, 29, 54, 55, 56, 12, 57, 37, 49, 28, 30, 31, 32, 33, 34, 35, 36, 42, 117, 118, 119, 120, 121, 122, 123, 124, 125] rfl (by decide +kernel)
set_option maxRecDepth 20000 in
theorem gX2_lift_X1_addSmall : GoodIn wsX2_lift (wsV RX2 128 RX1 yX1_addSmall wsX1_addSmall) := goodIn_app (goodIn_of _ (by decide +kernel)) ggX2_lift_X1_addSmall
set_option maxRecDepth 20000 in
theorem ggX2_lift_X7_stem : GoodIn wsX2_lift wsX7_stem := goodIn_r _ [62, 63, 64, 65, 66, 67, 68, 69, 70, 71, 12, 72, 73, 74, 75, 76, 29, 30, 31, 32, 33, 34, 35, 36, 37, 77, 45, 46, 47, 28, 48, 42, 49, 78, 126, 127, 128, 129, 130, 131, 117, 118, 119, 120, 121, 122, 123, 124, 125] rfl (by decide +kernel)
set_option maxRecDepth 20000 in
theorem gX2_lift_X7_stem : GoodIn wsX2_lift (wsV RX2 117 RX7 yX7_stem wsX7_stem) := goodIn_app (goodIn_of _ (by decide +kernel)) ggX2_lift_X7_stem
set_option maxRecDepth 20000 in
theorem ggX2_lift_X1_isLike : GoodIn wsX2_lift wsX1_isLike := goodIn_r _ [82, 29, 30, 31, 32, 33, 34, 35, 36, 37, 83, 84, 85, 12, 86, 43, 54, 55, 56, 57, 49, 28, 42, 38, 39, 40, 41, 24, 25, 26, 27, 117, 118, 119, 120, 121, 122, 123, 124, 125] rfl (by decide +kernel)
set_option maxRecDepth 20000 in
theorem gX2_lift_X1_isLike : GoodIn wsX2_lift (wsV RX2 132 RX1 yX1_isLike wsX1_isLike) := goodIn_app (goodIn_of _ (by decide +kernel)) ggX2_lift_X1_isLike
set_option maxRecDepth 20000 in
theorem ggX2_lift_X1_isOdd : GoodIn wsX2_lift wsX1_isOdd := goodIn_r _ [90, 29, 83, 84, 85, 12, 86, 30, 43, 54, 55, 56, 57, 37, 49, 28, 31, 32, 33, 34, 35, 36, 42, 38, 39, 40, 41, 24, 25, 26, 27, 117, 118, 119, 120, 121, 122, 123, 124, 125] rfl (by decide +kernel)
set_option maxRecDepth 20000 in
theorem gX2_lift_X1_isOdd : GoodIn wsX2_lift (wsV RX2 136 RX1 yX1_isOdd wsX1_isOdd) := goodIn_app (goodIn_of _ (by decide +kernel)) ggX2_lift_X1_isOdd
set_option maxRecDepth 20000 in
theorem ggX2_lift_X6_negate : GoodIn wsX2_lift wsX6_negate := goodIn_r _ [95, 96, 97, 98, 99, 12, 100, 29, 30, 31, 32, 33, 34, 35, 36, 37, 54, 55, 56, 57, 49, 28, 42, 102, 103, 104, 105, 117, 118, 119, 120, 121, 122, 123, 124, 125] rfl (by decide +kernel)
set_option maxRecDepth 20000 in
theorem gX2_lift_X6_negate : GoodIn wsX2_lift (wsV RX2 139 RX6 yX6_negate wsX6_negate) := goodIn_app (goodIn_of _ (by decide +kernel)) ggX2_lift_X6_negate
set_option maxRecDepth 20000 in
theorem ggX2_lift_X1_become : GoodIn wsX2_lift wsX1_become := goodIn_r _ [76, 29, 30, 31, 32, 33, 34, 35, 36, 37, 117, 118, 119, 120, 121, 122, 123, 124, 125] rfl (by decide +kernel)
set_option maxRecDepth 20000 in
theorem gX2_lift_X1_become : GoodIn wsX2_lift (wsV RX2 78 RX1 yX1_become wsX1_become) := goodIn_app (goodIn_of _ (by decide +kernel)) ggX2_lift_X1_become
theorem dX2_lift_0 : decode cX2_lift 0 = .ok (.aload_n 1, 1) := by decide +kernel
theorem dX2_lift_1 : decode cX2_lift 1 = .ok (.getfield 53, 3) := by decide +kernel
theorem dX2_lift_4 : decode cX2_lift 4 = .ok (.aload_n 2, 1) := by decide +kernel
theorem dX2_lift_5 : decode cX2_lift 5 = .ok (.iload_n 3, 1) := by decide +kernel
theorem dX2_lift_6 : decode cX2_lift 6 = .ok (.invokevirtual 124, 3) := by decide +kernel
theorem dX2_lift_9 : decode cX2_lift 9 = .ok (.ifCond .ne 5, 3) := by decide +kernel
theorem dX2_lift_12 : decode cX2_lift 12 = .ok (.iconst 0, 1) := by decide +kernel
theorem dX2_lift_13 : decode cX2_lift 13 = .ok (.ireturn, 1) := by decide +kernel
theorem dX2_lift_14 : decode cX2_lift 14 = .ok (.aload_n 0, 1) := by decide +kernel
theorem dX2_lift_15 : decode cX2_lift 15 = .ok (.getfield 46, 3) := by decide +kernel
theorem dX2_lift_18 : decode cX2_lift 18 = .ok (.aload_n 1, 1) := by decide +kernel
theorem dX2_lift_19 : decode cX2_lift 19 = .ok (.getfield 53, 3) := by decide +kernel
theorem dX2_lift_22 : decode cX2_lift 22 = .ok (.aload_n 1, 1) := by decide +kernel
theorem dX2_lift_23 : decode cX2_lift 23 = .ok (.getfield 53, 3) := by decide +kernel
theorem dX2_lift_26 : decode cX2_lift 26 = .ok (.invokevirtual 86, 3) := by decide +kernel
theorem dX2_lift_29 : decode cX2_lift 29 = .ok (.aload_n 0, 1) := by decide +kernel
theorem dX2_lift_30 : decode cX2_lift 30 = .ok (.getfield 46, 3) := by decide +kernel
theorem dX2_lift_33 : decode cX2_lift 33 = .ok (.aload_n 0, 1) := by decide +kernel
theorem dX2_lift_34 : decode cX2_lift 34 = .ok (.getfield 46, 3) := by decide +kernel
theorem dX2_lift_37 : decode cX2_lift 37 = .ok (.aload_n 1, 1) := by decide +kernel
theorem dX2_lift_38 : decode cX2_lift 38 = .ok (.getfield 53, 3) := by decide +kernel
theorem dX2_lift_41 : decode cX2_lift 41 = .ok (.invokevirtual 86, 3) := by decide +kernel
theorem dX2_lift_44 : decode cX2_lift 44 = .ok (.aload_n 0, 1) := by decide +kernel
theorem dX2_lift_45 : decode cX2_lift 45 = .ok (.getfield 46, 3) := by decide +kernel
theorem dX2_lift_48 : decode cX2_lift 48 = .ok (.bipush 7, 2) := by decide +kernel
theorem dX2_lift_50 : decode cX2_lift 50 = .ok (.invokevirtual 128, 3) := by decide +kernel
theorem dX2_lift_53 : decode cX2_lift 53 = .ok (.aload_n 0, 1) := by decide +kernel
theorem dX2_lift_54 : decode cX2_lift 54 = .ok (.getfield 23, 3) := by decide +kernel
theorem dX2_lift_57 : decode cX2_lift 57 = .ok (.aload_n 1, 1) := by decide +kernel
theorem dX2_lift_58 : decode cX2_lift 58 = .ok (.getfield 64, 3) := by decide +kernel
theorem dX2_lift_61 : decode cX2_lift 61 = .ok (.aload_n 0, 1) := by decide +kernel
theorem dX2_lift_62 : decode cX2_lift 62 = .ok (.getfield 46, 3) := by decide +kernel
theorem dX2_lift_65 : decode cX2_lift 65 = .ok (.invokevirtual 117, 3) := by decide +kernel
theorem dX2_lift_68 : decode cX2_lift 68 = .ok (.aload_n 1, 1) := by decide +kernel
theorem dX2_lift_69 : decode cX2_lift 69 = .ok (.getfield 64, 3) := by decide +kernel
theorem dX2_lift_72 : decode cX2_lift 72 = .ok (.aload_n 1, 1) := by decide +kernel
theorem dX2_lift_73 : decode cX2_lift 73 = .ok (.getfield 64, 3) := by decide +kernel
theorem dX2_lift_76 : decode cX2_lift 76 = .ok (.aload_n 0, 1) := by decide +kernel
theorem dX2_lift_77 : decode cX2_lift 77 = .ok (.getfield 46, 3) := by decide +kernel
theorem dX2_lift_80 : decode cX2_lift 80 = .ok (.invokevirtual 86, 3) := by decide +kernel
theorem dX2_lift_83 : decode cX2_lift 83 = .ok (.aload_n 0, 1) := by decide +kernel
theorem dX2_lift_84 : decode cX2_lift 84 = .ok (.getfield 34, 3) := by decide +kernel
theorem dX2_lift_87 : decode cX2_lift 87 = .ok (.aload_n 1, 1) := by decide +kernel
theorem dX2_lift_88 : decode cX2_lift 88 = .ok (.getfield 64, 3) := by decide +kernel
theorem dX2_lift_91 : decode cX2_lift 91 = .ok (.aload_n 1, 1) := by decide +kernel
theorem dX2_lift_92 : decode cX2_lift 92 = .ok (.getfield 64, 3) := by decide +kernel
theorem dX2_lift_95 : decode cX2_lift 95 = .ok (.invokevirtual 86, 3) := by decide +kernel
theorem dX2_lift_98 : decode cX2_lift 98 = .ok (.aload_n 0, 1) := by decide +kernel
theorem dX2_lift_99 : decode cX2_lift 99 = .ok (.getfield 34, 3) := by decide +kernel
theorem dX2_lift_102 : decode cX2_lift 102 = .ok (.aload_n 0, 1) := by decide +kernel
theorem dX2_lift_103 : decode cX2_lift 103 = .ok (.getfield 46, 3) := by decide +kernel
theorem dX2_lift_106 : decode cX2_lift 106 = .ok (.invokevirtual 132, 3) := by decide +kernel
theorem dX2_lift_109 : decode cX2_lift 109 = .ok (.ifCond .ne 5, 3) := by decide +kernel
theorem dX2_lift_112 : decode cX2_lift 112 = .ok (.iconst 0, 1) := by decide +kernel
theorem dX2_lift_113 : decode cX2_lift 113 = .ok (.ireturn, 1) := by decide +kernel
theorem dX2_lift_114 : decode cX2_lift 114 = .ok (.aload_n 1, 1) := by decide +kernel
theorem dX2_lift_115 : decode cX2_lift 115 = .ok (.getfield 64, 3) := by decide +kernel
theorem dX2_lift_118 : decode cX2_lift 118 = .ok (.invokevirtual 136, 3) := by decide +kernel
theorem dX2_lift_121 : decode cX2_lift 121 = .ok (.ifCond .eq 7, 3) := by decide +kernel
theorem dX2_lift_124 : decode cX2_lift 124 = .ok (.aload_n 1, 1) := by decide +kernel
theorem dX2_lift_125 : decode cX2_lift 125 = .ok (.invokevirtual 139, 3) := by decide +kernel
theorem dX2_lift_128 : decode cX2_lift 128 = .ok (.aload_n 1, 1) := by decide +kernel
theorem dX2_lift_129 : decode cX2_lift 129 = .ok (.getfield 75, 3) := by decide +kernel
theorem dX2_lift_132 : decode cX2_lift 132 = .ok (.aload_n 0, 1) := by decide +kernel
theorem dX2_lift_133 : decode cX2_lift 133 = .ok (.getfield 30, 3) := by decide +kernel
theorem dX2_lift_136 : decode cX2_lift 136 = .ok (.invokevirtual 78, 3) := by decide +kernel
theorem dX2_lift_139 : decode cX2_lift 139 = .ok (.aload_n 1, 1) := by decide +kernel
theorem dX2_lift_140 : decode cX2_lift 140 = .ok (.iconst 0, 1) := by decide +kernel
theorem dX2_lift_141 : decode cX2_lift 141 = .ok (.putfield 82, 3) := by decide +kernel
theorem dX2_lift_144 : decode cX2_lift 144 = .ok (.iconst 1, 1) := by decide +kernel
theorem dX2_lift_145 : decode cX2_lift 145 = .ok (.ireturn, 1) := by decide +kernel
set_option maxRecDepth 20000 in
theorem ggX2_read_X0_get : GoodIn wsX2_read wsX0_get := goodIn_r _ [5, 6, 108, 109] rfl (by decide +kernel)
set_option maxRecDepth 20000 in
theorem gX2_read_X0_get : GoodIn wsX2_read (wsV RX2 142 RX0 yX0_get wsX0_get) := goodIn_app (goodIn_of _ (by decide +kernel)) ggX2_read_X0_get
set_option maxRecDepth 20000 in
theorem ggX2_read_X2_lift : GoodIn wsX2_read wsX2_lift := goodIn_r _ [11, 12, 13, 14, 15, 16, 17, 18, 19, 20, 21, 22, 23, 24, 25, 26, 27, 4, 28, 29, 2, 3, 5, 6, 30, 31, 32, 33, 34, 35, 36, 37, 38, 39, 40, 41, 42, 43, 44, 45, 46, 47, 48, 49, 50, 51, 52, 53, 54, 55, 56, 57, 58, 59, 60, 61, 62, 63, 64, 65, 66, 67, 68, 69, 70, 71, 72, 73, 74, 75, 76, 77, 78, 79, 80, 81, 82, 83, 84, 85, 86, 87, 88, 89, 90, 91, 92, 93, 94, 95, 96, 97, 98, 99, 100, 101, 102, 103, 104, 105, 106, 107, 110, 111, 112, 113, 114, 115, 116, 117, 118, 119, 120, 121, 122, 108, 109, 123, 124, 125, 126, 127, 128, 129, 130, 131, 132, 133, 134, 135, 136, 137] rfl (by decide +kernel)
set_option maxRecDepth 20000 in
theorem gX2_read_X2_lift : GoodIn wsX2_read (wsV RX2 147 RX2 yX2_lift wsX2_lift) := goodIn_app (goodIn_of _ (by decide +kernel)) ggX2_read_X2_lift
set_option maxRecDepth 20000 in
theorem ggX2_read_X6_negate : GoodIn wsX2_read wsX6_negate := goodIn_r _ [101, 102, 103, 104, 105, 23, 106, 35, 36, 37, 38, 39, 40, 41, 42, 43, 60, 61, 62, 63, 55, 34, 48, 110, 111, 112, 113, 123, 124, 125, 126, 127, 128, 129, 130, 131] rfl (by decide +kernel)
set_option maxRecDepth 20000 in
theorem gX2_read_X6_negate : GoodIn wsX2_read (wsV RX2 139 RX6 yX6_negate wsX6_negate) := goodIn_app (goodIn_of _ (by decide +kernel)) ggX2_read_X6_negate
theorem dX2_read_0 : decode cX2_read 0 = .ok (.aload_n 2, 1) := by decide +kernel
theorem dX2_read_1 : decode cX2_read 1 = .ok (.iload_n 3, 1) := by decide +kernel
theorem dX2_read_2 : decode cX2_read 2 = .ok (.invokevirtual 142, 3) := by decide +kernel
theorem dX2_read_5 : decode cX2_read 5 = .ok (.istore 4, 2) := by decide +kernel
theorem dX2_read_7 : decode cX2_read 7 = .ok (.iload 4, 2) := by decide +kernel
theorem dX2_read_9 : decode cX2_read 9 = .ok (.iconst 2, 1) := by decide +kernel
theorem dX2_read_10 : decode cX2_read 10 = .ok (.if_icmp .eq 9, 3) := by decide +kernel
theorem dX2_read_13 : decode cX2_read 13 = .ok (.iload 4, 2) := by decide +kernel
theorem dX2_read_15 : decode cX2_read 15 = .ok (.iconst 3, 1) := by decide +kernel
theorem dX2_read_16 : decode cX2_read 16 = .ok (.if_icmp .ne 15, 3) := by decide +kernel
theorem dX2_read_19 : decode cX2_read 19 = .ok (.aload_n 0, 1) := by decide +kernel
theorem dX2_read_20 : decode cX2_read 20 = .ok (.aload_n 1, 1) := by decide +kernel
theorem dX2_read_21 : decode cX2_read 21 = .ok (.aload_n 2, 1) := by decide +kernel
theorem dX2_read_22 : decode cX2_read 22 = .ok (.iload_n 3, 1) := by decide +kernel
theorem dX2_read_23 : decode cX2_read 23 = .ok (.iconst 1, 1) := by decide +kernel
theorem dX2_read_24 : decode cX2_read 24 = .ok (.iadd, 1) := by decide +kernel
theorem dX2_read_25 : decode cX2_read 25 = .ok (.invokevirtual 147, 3) := by decide +kernel
theorem dX2_read_28 : decode cX2_read 28 = .ok (.ifCond .ne 5, 3) := by decide +kernel
theorem dX2_read_31 : decode cX2_read 31 = .ok (.iconst 0, 1) := by decide +kernel
theorem dX2_read_32 : decode cX2_read 32 = .ok (.ireturn, 1) := by decide +kernel
theorem dX2_read_33 : decode cX2_read 33 = .ok (.iload 4, 2) := by decide +kernel
theorem dX2_read_35 : decode cX2_read 35 = .ok (.iconst 3, 1) := by decide +kernel
theorem dX2_read_36 : decode cX2_read 36 = .ok (.if_icmp .ne 7, 3) := by decide +kernel
theorem dX2_read_39 : decode cX2_read 39 = .ok (.aload_n 1, 1) := by decide +kernel
theorem dX2_read_40 : decode cX2_read 40 = .ok (.invokevirtual 139, 3) := by decide +kernel
theorem dX2_read_43 : decode cX2_read 43 = .ok (.iconst 1, 1) := by decide +kernel
theorem dX2_read_44 : decode cX2_read 44 = .ok (.ireturn, 1) := by decide +kernel
