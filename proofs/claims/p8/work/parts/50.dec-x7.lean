set_option maxRecDepth 20000 in
theorem ggX7_init_X1_init : GoodIn wsX7_init wsX1_init := goodIn_r _ [14, 15, 2, 3] rfl (by decide +kernel)
set_option maxRecDepth 20000 in
theorem gX7_init_X1_init_n9 : GoodIn wsX7_init (wsX1_init) := ggX7_init_X1_init
theorem dX7_init_0 : decode cX7_init 0 = .ok (.aload_n 0, 1) := by decide +kernel
theorem dX7_init_1 : decode cX7_init 1 = .ok (.invokespecial 1, 3) := by decide +kernel
theorem dX7_init_4 : decode cX7_init 4 = .ok (.aload_n 0, 1) := by decide +kernel
theorem dX7_init_5 : decode cX7_init 5 = .ok (.new 7, 3) := by decide +kernel
theorem dX7_init_8 : decode cX7_init 8 = .ok (.dup, 1) := by decide +kernel
theorem dX7_init_9 : decode cX7_init 9 = .ok (.invokespecial 9, 3) := by decide +kernel
theorem dX7_init_12 : decode cX7_init 12 = .ok (.putfield 10, 3) := by decide +kernel
theorem dX7_init_15 : decode cX7_init 15 = .ok (.aload_n 0, 1) := by decide +kernel
theorem dX7_init_16 : decode cX7_init 16 = .ok (.new 7, 3) := by decide +kernel
theorem dX7_init_19 : decode cX7_init 19 = .ok (.dup, 1) := by decide +kernel
theorem dX7_init_20 : decode cX7_init 20 = .ok (.invokespecial 9, 3) := by decide +kernel
theorem dX7_init_23 : decode cX7_init 23 = .ok (.putfield 16, 3) := by decide +kernel
theorem dX7_init_26 : decode cX7_init 26 = .ok (.aload_n 0, 1) := by decide +kernel
theorem dX7_init_27 : decode cX7_init 27 = .ok (.new 7, 3) := by decide +kernel
theorem dX7_init_30 : decode cX7_init 30 = .ok (.dup, 1) := by decide +kernel
theorem dX7_init_31 : decode cX7_init 31 = .ok (.invokespecial 9, 3) := by decide +kernel
theorem dX7_init_34 : decode cX7_init 34 = .ok (.putfield 19, 3) := by decide +kernel
theorem dX7_init_37 : decode cX7_init 37 = .ok (.aload_n 0, 1) := by decide +kernel
theorem dX7_init_38 : decode cX7_init 38 = .ok (.new 7, 3) := by decide +kernel
theorem dX7_init_41 : decode cX7_init 41 = .ok (.dup, 1) := by decide +kernel
theorem dX7_init_42 : decode cX7_init 42 = .ok (.invokespecial 9, 3) := by decide +kernel
theorem dX7_init_45 : decode cX7_init 45 = .ok (.putfield 22, 3) := by decide +kernel
theorem dX7_init_48 : decode cX7_init 48 = .ok (.aload_n 0, 1) := by decide +kernel
theorem dX7_init_49 : decode cX7_init 49 = .ok (.new 7, 3) := by decide +kernel
theorem dX7_init_52 : decode cX7_init 52 = .ok (.dup, 1) := by decide +kernel
theorem dX7_init_53 : decode cX7_init 53 = .ok (.invokespecial 9, 3) := by decide +kernel
theorem dX7_init_56 : decode cX7_init 56 = .ok (.putfield 25, 3) := by decide +kernel
theorem dX7_init_59 : decode cX7_init 59 = .ok (.aload_n 0, 1) := by decide +kernel
theorem dX7_init_60 : decode cX7_init 60 = .ok (.new 7, 3) := by decide +kernel
theorem dX7_init_63 : decode cX7_init 63 = .ok (.dup, 1) := by decide +kernel
theorem dX7_init_64 : decode cX7_init 64 = .ok (.invokespecial 9, 3) := by decide +kernel
theorem dX7_init_67 : decode cX7_init 67 = .ok (.putfield 28, 3) := by decide +kernel
theorem dX7_init_70 : decode cX7_init 70 = .ok (.return_, 1) := by decide +kernel
set_option maxRecDepth 20000 in
theorem ggX7_stem_X1_raise : GoodIn wsX7_stem wsX1_raise := goodIn_r _ [11, 12, 13, 14, 10, 15, 16, 17, 18, 19, 20, 21, 22, 23, 24, 25, 26, 27, 28, 29, 30, 31, 32, 40, 41, 42, 43, 44, 45, 46, 47, 48] rfl (by decide +kernel)
set_option maxRecDepth 20000 in
theorem gX7_stem_X1_raise : GoodIn wsX7_stem (wsV RX7 31 RX1 yX1_raise wsX1_raise) := goodIn_app (goodIn_of _ (by decide +kernel)) ggX7_stem_X1_raise
set_option maxRecDepth 20000 in
theorem ggX7_stem_X1_become : GoodIn wsX7_stem wsX1_become := goodIn_r _ [15, 16, 17, 18, 19, 20, 21, 22, 23, 24, 40, 41, 42, 43, 44, 45, 46, 47, 48] rfl (by decide +kernel)
set_option maxRecDepth 20000 in
theorem gX7_stem_X1_become : GoodIn wsX7_stem (wsV RX7 35 RX1 yX1_become wsX1_become) := goodIn_app (goodIn_of _ (by decide +kernel)) ggX7_stem_X1_become
theorem dX7_stem_0 : decode cX7_stem 0 = .ok (.aload_n 0, 1) := by decide +kernel
theorem dX7_stem_1 : decode cX7_stem 1 = .ok (.getfield 10, 3) := by decide +kernel
theorem dX7_stem_4 : decode cX7_stem 4 = .ok (.aload_n 2, 1) := by decide +kernel
theorem dX7_stem_5 : decode cX7_stem 5 = .ok (.iconst 1, 1) := by decide +kernel
theorem dX7_stem_6 : decode cX7_stem 6 = .ok (.aload_n 2, 1) := by decide +kernel
theorem dX7_stem_7 : decode cX7_stem 7 = .ok (.invokevirtual 31, 3) := by decide +kernel
theorem dX7_stem_10 : decode cX7_stem 10 = .ok (.aload_n 0, 1) := by decide +kernel
theorem dX7_stem_11 : decode cX7_stem 11 = .ok (.getfield 16, 3) := by decide +kernel
theorem dX7_stem_14 : decode cX7_stem 14 = .ok (.aload_n 0, 1) := by decide +kernel
theorem dX7_stem_15 : decode cX7_stem 15 = .ok (.getfield 10, 3) := by decide +kernel
theorem dX7_stem_18 : decode cX7_stem 18 = .ok (.iconst 1, 1) := by decide +kernel
theorem dX7_stem_19 : decode cX7_stem 19 = .ok (.aload_n 2, 1) := by decide +kernel
theorem dX7_stem_20 : decode cX7_stem 20 = .ok (.invokevirtual 31, 3) := by decide +kernel
theorem dX7_stem_23 : decode cX7_stem 23 = .ok (.aload_n 0, 1) := by decide +kernel
theorem dX7_stem_24 : decode cX7_stem 24 = .ok (.getfield 28, 3) := by decide +kernel
theorem dX7_stem_27 : decode cX7_stem 27 = .ok (.aload_n 0, 1) := by decide +kernel
theorem dX7_stem_28 : decode cX7_stem 28 = .ok (.getfield 16, 3) := by decide +kernel
theorem dX7_stem_31 : decode cX7_stem 31 = .ok (.iconst 3, 1) := by decide +kernel
theorem dX7_stem_32 : decode cX7_stem 32 = .ok (.aload_n 0, 1) := by decide +kernel
theorem dX7_stem_33 : decode cX7_stem 33 = .ok (.getfield 16, 3) := by decide +kernel
theorem dX7_stem_36 : decode cX7_stem 36 = .ok (.invokevirtual 31, 3) := by decide +kernel
theorem dX7_stem_39 : decode cX7_stem 39 = .ok (.aload_n 0, 1) := by decide +kernel
theorem dX7_stem_40 : decode cX7_stem 40 = .ok (.getfield 28, 3) := by decide +kernel
theorem dX7_stem_43 : decode cX7_stem 43 = .ok (.aload_n 0, 1) := by decide +kernel
theorem dX7_stem_44 : decode cX7_stem 44 = .ok (.getfield 28, 3) := by decide +kernel
theorem dX7_stem_47 : decode cX7_stem 47 = .ok (.iconst 3, 1) := by decide +kernel
theorem dX7_stem_48 : decode cX7_stem 48 = .ok (.aload_n 0, 1) := by decide +kernel
theorem dX7_stem_49 : decode cX7_stem 49 = .ok (.getfield 16, 3) := by decide +kernel
theorem dX7_stem_52 : decode cX7_stem 52 = .ok (.invokevirtual 31, 3) := by decide +kernel
theorem dX7_stem_55 : decode cX7_stem 55 = .ok (.aload_n 0, 1) := by decide +kernel
theorem dX7_stem_56 : decode cX7_stem 56 = .ok (.getfield 28, 3) := by decide +kernel
theorem dX7_stem_59 : decode cX7_stem 59 = .ok (.aload_n 0, 1) := by decide +kernel
theorem dX7_stem_60 : decode cX7_stem 60 = .ok (.getfield 28, 3) := by decide +kernel
theorem dX7_stem_63 : decode cX7_stem 63 = .ok (.iconst 2, 1) := by decide +kernel
theorem dX7_stem_64 : decode cX7_stem 64 = .ok (.aload_n 0, 1) := by decide +kernel
theorem dX7_stem_65 : decode cX7_stem 65 = .ok (.getfield 10, 3) := by decide +kernel
theorem dX7_stem_68 : decode cX7_stem 68 = .ok (.invokevirtual 31, 3) := by decide +kernel
theorem dX7_stem_71 : decode cX7_stem 71 = .ok (.aload_n 0, 1) := by decide +kernel
theorem dX7_stem_72 : decode cX7_stem 72 = .ok (.getfield 19, 3) := by decide +kernel
theorem dX7_stem_75 : decode cX7_stem 75 = .ok (.aload_n 0, 1) := by decide +kernel
theorem dX7_stem_76 : decode cX7_stem 76 = .ok (.getfield 28, 3) := by decide +kernel
theorem dX7_stem_79 : decode cX7_stem 79 = .ok (.bipush 11, 2) := by decide +kernel
theorem dX7_stem_81 : decode cX7_stem 81 = .ok (.aload_n 0, 1) := by decide +kernel
theorem dX7_stem_82 : decode cX7_stem 82 = .ok (.getfield 28, 3) := by decide +kernel
theorem dX7_stem_85 : decode cX7_stem 85 = .ok (.invokevirtual 31, 3) := by decide +kernel
theorem dX7_stem_88 : decode cX7_stem 88 = .ok (.aload_n 0, 1) := by decide +kernel
theorem dX7_stem_89 : decode cX7_stem 89 = .ok (.getfield 22, 3) := by decide +kernel
theorem dX7_stem_92 : decode cX7_stem 92 = .ok (.aload_n 0, 1) := by decide +kernel
theorem dX7_stem_93 : decode cX7_stem 93 = .ok (.getfield 19, 3) := by decide +kernel
theorem dX7_stem_96 : decode cX7_stem 96 = .ok (.bipush 22, 2) := by decide +kernel
theorem dX7_stem_98 : decode cX7_stem 98 = .ok (.aload_n 0, 1) := by decide +kernel
theorem dX7_stem_99 : decode cX7_stem 99 = .ok (.getfield 19, 3) := by decide +kernel
theorem dX7_stem_102 : decode cX7_stem 102 = .ok (.invokevirtual 31, 3) := by decide +kernel
theorem dX7_stem_105 : decode cX7_stem 105 = .ok (.aload_n 0, 1) := by decide +kernel
theorem dX7_stem_106 : decode cX7_stem 106 = .ok (.getfield 25, 3) := by decide +kernel
theorem dX7_stem_109 : decode cX7_stem 109 = .ok (.aload_n 0, 1) := by decide +kernel
theorem dX7_stem_110 : decode cX7_stem 110 = .ok (.getfield 22, 3) := by decide +kernel
theorem dX7_stem_113 : decode cX7_stem 113 = .ok (.bipush 44, 2) := by decide +kernel
theorem dX7_stem_115 : decode cX7_stem 115 = .ok (.aload_n 0, 1) := by decide +kernel
theorem dX7_stem_116 : decode cX7_stem 116 = .ok (.getfield 22, 3) := by decide +kernel
theorem dX7_stem_119 : decode cX7_stem 119 = .ok (.invokevirtual 31, 3) := by decide +kernel
theorem dX7_stem_122 : decode cX7_stem 122 = .ok (.aload_n 0, 1) := by decide +kernel
theorem dX7_stem_123 : decode cX7_stem 123 = .ok (.getfield 28, 3) := by decide +kernel
theorem dX7_stem_126 : decode cX7_stem 126 = .ok (.aload_n 0, 1) := by decide +kernel
theorem dX7_stem_127 : decode cX7_stem 127 = .ok (.getfield 25, 3) := by decide +kernel
theorem dX7_stem_130 : decode cX7_stem 130 = .ok (.bipush 88, 2) := by decide +kernel
theorem dX7_stem_132 : decode cX7_stem 132 = .ok (.aload_n 0, 1) := by decide +kernel
theorem dX7_stem_133 : decode cX7_stem 133 = .ok (.getfield 25, 3) := by decide +kernel
theorem dX7_stem_136 : decode cX7_stem 136 = .ok (.invokevirtual 31, 3) := by decide +kernel
theorem dX7_stem_139 : decode cX7_stem 139 = .ok (.aload_n 0, 1) := by decide +kernel
theorem dX7_stem_140 : decode cX7_stem 140 = .ok (.getfield 28, 3) := by decide +kernel
theorem dX7_stem_143 : decode cX7_stem 143 = .ok (.aload_n 0, 1) := by decide +kernel
theorem dX7_stem_144 : decode cX7_stem 144 = .ok (.getfield 28, 3) := by decide +kernel
theorem dX7_stem_147 : decode cX7_stem 147 = .ok (.bipush 44, 2) := by decide +kernel
theorem dX7_stem_149 : decode cX7_stem 149 = .ok (.aload_n 0, 1) := by decide +kernel
theorem dX7_stem_150 : decode cX7_stem 150 = .ok (.getfield 22, 3) := by decide +kernel
theorem dX7_stem_153 : decode cX7_stem 153 = .ok (.invokevirtual 31, 3) := by decide +kernel
theorem dX7_stem_156 : decode cX7_stem 156 = .ok (.aload_n 0, 1) := by decide +kernel
theorem dX7_stem_157 : decode cX7_stem 157 = .ok (.getfield 28, 3) := by decide +kernel
theorem dX7_stem_160 : decode cX7_stem 160 = .ok (.aload_n 0, 1) := by decide +kernel
theorem dX7_stem_161 : decode cX7_stem 161 = .ok (.getfield 28, 3) := by decide +kernel
theorem dX7_stem_164 : decode cX7_stem 164 = .ok (.iconst 3, 1) := by decide +kernel
theorem dX7_stem_165 : decode cX7_stem 165 = .ok (.aload_n 0, 1) := by decide +kernel
theorem dX7_stem_166 : decode cX7_stem 166 = .ok (.getfield 16, 3) := by decide +kernel
theorem dX7_stem_169 : decode cX7_stem 169 = .ok (.invokevirtual 31, 3) := by decide +kernel
theorem dX7_stem_172 : decode cX7_stem 172 = .ok (.aload_n 0, 1) := by decide +kernel
theorem dX7_stem_173 : decode cX7_stem 173 = .ok (.getfield 28, 3) := by decide +kernel
theorem dX7_stem_176 : decode cX7_stem 176 = .ok (.aload_n 0, 1) := by decide +kernel
theorem dX7_stem_177 : decode cX7_stem 177 = .ok (.getfield 28, 3) := by decide +kernel
theorem dX7_stem_180 : decode cX7_stem 180 = .ok (.bipush 23, 2) := by decide +kernel
theorem dX7_stem_182 : decode cX7_stem 182 = .ok (.aload_n 0, 1) := by decide +kernel
theorem dX7_stem_183 : decode cX7_stem 183 = .ok (.getfield 19, 3) := by decide +kernel
theorem dX7_stem_186 : decode cX7_stem 186 = .ok (.invokevirtual 31, 3) := by decide +kernel
theorem dX7_stem_189 : decode cX7_stem 189 = .ok (.aload_n 0, 1) := by decide +kernel
theorem dX7_stem_190 : decode cX7_stem 190 = .ok (.getfield 28, 3) := by decide +kernel
theorem dX7_stem_193 : decode cX7_stem 193 = .ok (.aload_n 0, 1) := by decide +kernel
theorem dX7_stem_194 : decode cX7_stem 194 = .ok (.getfield 28, 3) := by decide +kernel
theorem dX7_stem_197 : decode cX7_stem 197 = .ok (.iconst 5, 1) := by decide +kernel
theorem dX7_stem_198 : decode cX7_stem 198 = .ok (.aload_n 2, 1) := by decide +kernel
theorem dX7_stem_199 : decode cX7_stem 199 = .ok (.invokevirtual 31, 3) := by decide +kernel
theorem dX7_stem_202 : decode cX7_stem 202 = .ok (.aload_n 0, 1) := by decide +kernel
theorem dX7_stem_203 : decode cX7_stem 203 = .ok (.getfield 28, 3) := by decide +kernel
theorem dX7_stem_206 : decode cX7_stem 206 = .ok (.aload_n 0, 1) := by decide +kernel
theorem dX7_stem_207 : decode cX7_stem 207 = .ok (.getfield 28, 3) := by decide +kernel
theorem dX7_stem_210 : decode cX7_stem 210 = .ok (.iconst 3, 1) := by decide +kernel
theorem dX7_stem_211 : decode cX7_stem 211 = .ok (.aload_n 0, 1) := by decide +kernel
theorem dX7_stem_212 : decode cX7_stem 212 = .ok (.getfield 10, 3) := by decide +kernel
theorem dX7_stem_215 : decode cX7_stem 215 = .ok (.invokevirtual 31, 3) := by decide +kernel
theorem dX7_stem_218 : decode cX7_stem 218 = .ok (.aload_n 1, 1) := by decide +kernel
theorem dX7_stem_219 : decode cX7_stem 219 = .ok (.aload_n 0, 1) := by decide +kernel
theorem dX7_stem_220 : decode cX7_stem 220 = .ok (.getfield 28, 3) := by decide +kernel
theorem dX7_stem_223 : decode cX7_stem 223 = .ok (.invokevirtual 35, 3) := by decide +kernel
theorem dX7_stem_226 : decode cX7_stem 226 = .ok (.return_, 1) := by decide +kernel
