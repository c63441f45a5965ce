theorem dX1_init_0 : decode cX1_init 0 = .ok (.aload_n 0, 1) := by decide +kernel
theorem dX1_init_1 : decode cX1_init 1 = .ok (.invokespecial 1, 3) := by decide +kernel
theorem dX1_init_4 : decode cX1_init 4 = .ok (.return_, 1) := by decide +kernel
theorem dX1_become_0 : decode cX1_become 0 = .ok (.aload_n 0, 1) := by decide +kernel
theorem dX1_become_1 : decode cX1_become 1 = .ok (.aload_n 1, 1) := by decide +kernel
theorem dX1_become_2 : decode cX1_become 2 = .ok (.getfield 7, 3) := by decide +kernel
theorem dX1_become_5 : decode cX1_become 5 = .ok (.putfield 7, 3) := by decide +kernel
theorem dX1_become_8 : decode cX1_become 8 = .ok (.aload_n 0, 1) := by decide +kernel
theorem dX1_become_9 : decode cX1_become 9 = .ok (.aload_n 1, 1) := by decide +kernel
theorem dX1_become_10 : decode cX1_become 10 = .ok (.getfield 13, 3) := by decide +kernel
theorem dX1_become_13 : decode cX1_become 13 = .ok (.putfield 13, 3) := by decide +kernel
theorem dX1_become_16 : decode cX1_become 16 = .ok (.aload_n 0, 1) := by decide +kernel
theorem dX1_become_17 : decode cX1_become 17 = .ok (.aload_n 1, 1) := by decide +kernel
theorem dX1_become_18 : decode cX1_become 18 = .ok (.getfield 16, 3) := by decide +kernel
theorem dX1_become_21 : decode cX1_become 21 = .ok (.putfield 16, 3) := by decide +kernel
theorem dX1_become_24 : decode cX1_become 24 = .ok (.aload_n 0, 1) := by decide +kernel
theorem dX1_become_25 : decode cX1_become 25 = .ok (.aload_n 1, 1) := by decide +kernel
theorem dX1_become_26 : decode cX1_become 26 = .ok (.getfield 19, 3) := by decide +kernel
theorem dX1_become_29 : decode cX1_become 29 = .ok (.putfield 19, 3) := by decide +kernel
theorem dX1_become_32 : decode cX1_become 32 = .ok (.aload_n 0, 1) := by decide +kernel
theorem dX1_become_33 : decode cX1_become 33 = .ok (.aload_n 1, 1) := by decide +kernel
theorem dX1_become_34 : decode cX1_become 34 = .ok (.getfield 22, 3) := by decide +kernel
theorem dX1_become_37 : decode cX1_become 37 = .ok (.putfield 22, 3) := by decide +kernel
theorem dX1_become_40 : decode cX1_become 40 = .ok (.aload_n 0, 1) := by decide +kernel
theorem dX1_become_41 : decode cX1_become 41 = .ok (.aload_n 1, 1) := by decide +kernel
theorem dX1_become_42 : decode cX1_become 42 = .ok (.getfield 25, 3) := by decide +kernel
theorem dX1_become_45 : decode cX1_become 45 = .ok (.putfield 25, 3) := by decide +kernel
theorem dX1_become_48 : decode cX1_become 48 = .ok (.aload_n 0, 1) := by decide +kernel
theorem dX1_become_49 : decode cX1_become 49 = .ok (.aload_n 1, 1) := by decide +kernel
theorem dX1_become_50 : decode cX1_become 50 = .ok (.getfield 28, 3) := by decide +kernel
theorem dX1_become_53 : decode cX1_become 53 = .ok (.putfield 28, 3) := by decide +kernel
theorem dX1_become_56 : decode cX1_become 56 = .ok (.aload_n 0, 1) := by decide +kernel
theorem dX1_become_57 : decode cX1_become 57 = .ok (.aload_n 1, 1) := by decide +kernel
theorem dX1_become_58 : decode cX1_become 58 = .ok (.getfield 31, 3) := by decide +kernel
theorem dX1_become_61 : decode cX1_become 61 = .ok (.putfield 31, 3) := by decide +kernel
theorem dX1_become_64 : decode cX1_become 64 = .ok (.aload_n 0, 1) := by decide +kernel
theorem dX1_become_65 : decode cX1_become 65 = .ok (.aload_n 1, 1) := by decide +kernel
theorem dX1_become_66 : decode cX1_become 66 = .ok (.getfield 34, 3) := by decide +kernel
theorem dX1_become_69 : decode cX1_become 69 = .ok (.putfield 34, 3) := by decide +kernel
theorem dX1_become_72 : decode cX1_become 72 = .ok (.return_, 1) := by decide +kernel
theorem dX1_becomeWords_0 : decode cX1_becomeWords 0 = .ok (.aload_n 0, 1) := by decide +kernel
theorem dX1_becomeWords_1 : decode cX1_becomeWords 1 = .ok (.lload 7, 2) := by decide +kernel
theorem dX1_becomeWords_3 : decode cX1_becomeWords 3 = .ok (.ldc2_w 37, 3) := by decide +kernel
theorem dX1_becomeWords_6 : decode cX1_becomeWords 6 = .ok (.land, 1) := by decide +kernel
theorem dX1_becomeWords_7 : decode cX1_becomeWords 7 = .ok (.putfield 7, 3) := by decide +kernel
theorem dX1_becomeWords_10 : decode cX1_becomeWords 10 = .ok (.aload_n 0, 1) := by decide +kernel
theorem dX1_becomeWords_11 : decode cX1_becomeWords 11 = .ok (.lload 7, 2) := by decide +kernel
theorem dX1_becomeWords_13 : decode cX1_becomeWords 13 = .ok (.bipush 29, 2) := by decide +kernel
theorem dX1_becomeWords_15 : decode cX1_becomeWords 15 = .ok (.lushr, 1) := by decide +kernel
theorem dX1_becomeWords_16 : decode cX1_becomeWords 16 = .ok (.ldc2_w 37, 3) := by decide +kernel
theorem dX1_becomeWords_19 : decode cX1_becomeWords 19 = .ok (.land, 1) := by decide +kernel
theorem dX1_becomeWords_20 : decode cX1_becomeWords 20 = .ok (.putfield 13, 3) := by decide +kernel
theorem dX1_becomeWords_23 : decode cX1_becomeWords 23 = .ok (.aload_n 0, 1) := by decide +kernel
theorem dX1_becomeWords_24 : decode cX1_becomeWords 24 = .ok (.lload 7, 2) := by decide +kernel
theorem dX1_becomeWords_26 : decode cX1_becomeWords 26 = .ok (.bipush 58, 2) := by decide +kernel
theorem dX1_becomeWords_28 : decode cX1_becomeWords 28 = .ok (.lushr, 1) := by decide +kernel
theorem dX1_becomeWords_29 : decode cX1_becomeWords 29 = .ok (.lload 5, 2) := by decide +kernel
theorem dX1_becomeWords_31 : decode cX1_becomeWords 31 = .ok (.bipush 6, 2) := by decide +kernel
theorem dX1_becomeWords_33 : decode cX1_becomeWords 33 = .ok (.lshl, 1) := by decide +kernel
theorem dX1_becomeWords_34 : decode cX1_becomeWords 34 = .ok (.lor, 1) := by decide +kernel
theorem dX1_becomeWords_35 : decode cX1_becomeWords 35 = .ok (.ldc2_w 37, 3) := by decide +kernel
theorem dX1_becomeWords_38 : decode cX1_becomeWords 38 = .ok (.land, 1) := by decide +kernel
theorem dX1_becomeWords_39 : decode cX1_becomeWords 39 = .ok (.putfield 16, 3) := by decide +kernel
theorem dX1_becomeWords_42 : decode cX1_becomeWords 42 = .ok (.aload_n 0, 1) := by decide +kernel
theorem dX1_becomeWords_43 : decode cX1_becomeWords 43 = .ok (.lload 5, 2) := by decide +kernel
theorem dX1_becomeWords_45 : decode cX1_becomeWords 45 = .ok (.bipush 23, 2) := by decide +kernel
theorem dX1_becomeWords_47 : decode cX1_becomeWords 47 = .ok (.lushr, 1) := by decide +kernel
theorem dX1_becomeWords_48 : decode cX1_becomeWords 48 = .ok (.ldc2_w 37, 3) := by decide +kernel
theorem dX1_becomeWords_51 : decode cX1_becomeWords 51 = .ok (.land, 1) := by decide +kernel
theorem dX1_becomeWords_52 : decode cX1_becomeWords 52 = .ok (.putfield 19, 3) := by decide +kernel
theorem dX1_becomeWords_55 : decode cX1_becomeWords 55 = .ok (.aload_n 0, 1) := by decide +kernel
theorem dX1_becomeWords_56 : decode cX1_becomeWords 56 = .ok (.lload 5, 2) := by decide +kernel
theorem dX1_becomeWords_58 : decode cX1_becomeWords 58 = .ok (.bipush 52, 2) := by decide +kernel
theorem dX1_becomeWords_60 : decode cX1_becomeWords 60 = .ok (.lushr, 1) := by decide +kernel
theorem dX1_becomeWords_61 : decode cX1_becomeWords 61 = .ok (.lload_n 3, 1) := by decide +kernel
theorem dX1_becomeWords_62 : decode cX1_becomeWords 62 = .ok (.bipush 12, 2) := by decide +kernel
theorem dX1_becomeWords_64 : decode cX1_becomeWords 64 = .ok (.lshl, 1) := by decide +kernel
theorem dX1_becomeWords_65 : decode cX1_becomeWords 65 = .ok (.lor, 1) := by decide +kernel
theorem dX1_becomeWords_66 : decode cX1_becomeWords 66 = .ok (.ldc2_w 37, 3) := by decide +kernel
theorem dX1_becomeWords_69 : decode cX1_becomeWords 69 = .ok (.land, 1) := by decide +kernel
theorem dX1_becomeWords_70 : decode cX1_becomeWords 70 = .ok (.putfield 22, 3) := by decide +kernel
theorem dX1_becomeWords_73 : decode cX1_becomeWords 73 = .ok (.aload_n 0, 1) := by decide +kernel
theorem dX1_becomeWords_74 : decode cX1_becomeWords 74 = .ok (.lload_n 3, 1) := by decide +kernel
theorem dX1_becomeWords_75 : decode cX1_becomeWords 75 = .ok (.bipush 17, 2) := by decide +kernel
theorem dX1_becomeWords_77 : decode cX1_becomeWords 77 = .ok (.lushr, 1) := by decide +kernel
theorem dX1_becomeWords_78 : decode cX1_becomeWords 78 = .ok (.ldc2_w 37, 3) := by decide +kernel
theorem dX1_becomeWords_81 : decode cX1_becomeWords 81 = .ok (.land, 1) := by decide +kernel
theorem dX1_becomeWords_82 : decode cX1_becomeWords 82 = .ok (.putfield 25, 3) := by decide +kernel
theorem dX1_becomeWords_85 : decode cX1_becomeWords 85 = .ok (.aload_n 0, 1) := by decide +kernel
theorem dX1_becomeWords_86 : decode cX1_becomeWords 86 = .ok (.lload_n 3, 1) := by decide +kernel
theorem dX1_becomeWords_87 : decode cX1_becomeWords 87 = .ok (.bipush 46, 2) := by decide +kernel
theorem dX1_becomeWords_89 : decode cX1_becomeWords 89 = .ok (.lushr, 1) := by decide +kernel
theorem dX1_becomeWords_90 : decode cX1_becomeWords 90 = .ok (.lload_n 1, 1) := by decide +kernel
theorem dX1_becomeWords_91 : decode cX1_becomeWords 91 = .ok (.bipush 18, 2) := by decide +kernel
theorem dX1_becomeWords_93 : decode cX1_becomeWords 93 = .ok (.lshl, 1) := by decide +kernel
theorem dX1_becomeWords_94 : decode cX1_becomeWords 94 = .ok (.lor, 1) := by decide +kernel
theorem dX1_becomeWords_95 : decode cX1_becomeWords 95 = .ok (.ldc2_w 37, 3) := by decide +kernel
theorem dX1_becomeWords_98 : decode cX1_becomeWords 98 = .ok (.land, 1) := by decide +kernel
theorem dX1_becomeWords_99 : decode cX1_becomeWords 99 = .ok (.putfield 28, 3) := by decide +kernel
theorem dX1_becomeWords_102 : decode cX1_becomeWords 102 = .ok (.aload_n 0, 1) := by decide +kernel
theorem dX1_becomeWords_103 : decode cX1_becomeWords 103 = .ok (.lload_n 1, 1) := by decide +kernel
theorem dX1_becomeWords_104 : decode cX1_becomeWords 104 = .ok (.bipush 11, 2) := by decide +kernel
theorem dX1_becomeWords_106 : decode cX1_becomeWords 106 = .ok (.lushr, 1) := by decide +kernel
theorem dX1_becomeWords_107 : decode cX1_becomeWords 107 = .ok (.ldc2_w 37, 3) := by decide +kernel
theorem dX1_becomeWords_110 : decode cX1_becomeWords 110 = .ok (.land, 1) := by decide +kernel
theorem dX1_becomeWords_111 : decode cX1_becomeWords 111 = .ok (.putfield 31, 3) := by decide +kernel
theorem dX1_becomeWords_114 : decode cX1_becomeWords 114 = .ok (.aload_n 0, 1) := by decide +kernel
theorem dX1_becomeWords_115 : decode cX1_becomeWords 115 = .ok (.lload_n 1, 1) := by decide +kernel
theorem dX1_becomeWords_116 : decode cX1_becomeWords 116 = .ok (.bipush 40, 2) := by decide +kernel
theorem dX1_becomeWords_118 : decode cX1_becomeWords 118 = .ok (.lushr, 1) := by decide +kernel
theorem dX1_becomeWords_119 : decode cX1_becomeWords 119 = .ok (.putfield 34, 3) := by decide +kernel
theorem dX1_becomeWords_122 : decode cX1_becomeWords 122 = .ok (.return_, 1) := by decide +kernel
set_option maxRecDepth 20000 in
theorem ggX1_take_X0_number : GoodIn wsX1_take wsX0_number := goodIn_r _ [5, 6, 7, 8, 4, 9, 10, 32, 33] rfl (by decide +kernel)
set_option maxRecDepth 20000 in
theorem gX1_take_X0_number : GoodIn wsX1_take (wsV RX1 39 RX0 yX0_number wsX0_number) := goodIn_app (goodIn_of _ (by decide +kernel)) ggX1_take_X0_number
set_option maxRecDepth 20000 in
theorem ggX1_take_X1_becomeWords : GoodIn wsX1_take wsX1_becomeWords := goodIn_r _ [15, 16, 17, 18, 19, 20, 21, 22, 23, 24, 25, 34, 35, 36, 37, 38, 39, 40, 41, 42] rfl (by decide +kernel)
set_option maxRecDepth 20000 in
theorem gX1_take_X1_becomeWords : GoodIn wsX1_take (wsV RX1 45 RX1 yX1_becomeWords wsX1_becomeWords) := goodIn_app (goodIn_of _ (by decide +kernel)) ggX1_take_X1_becomeWords
set_option maxRecDepth 20000 in
theorem ggX1_take_X1_isBelowP : GoodIn wsX1_take wsX1_isBelowP := goodIn_r _ [29, 19, 20, 21, 22, 23, 24, 16, 25, 30, 17, 18, 31, 34, 35, 36, 37, 38, 39, 40, 41, 42] rfl (by decide +kernel)
set_option maxRecDepth 20000 in
theorem gX1_take_X1_isBelowP : GoodIn wsX1_take (wsV RX1 49 RX1 yX1_isBelowP wsX1_isBelowP) := goodIn_app (goodIn_of _ (by decide +kernel)) ggX1_take_X1_isBelowP
theorem dX1_take_0 : decode cX1_take 0 = .ok (.aload_n 0, 1) := by decide +kernel
theorem dX1_take_1 : decode cX1_take 1 = .ok (.aload_n 1, 1) := by decide +kernel
theorem dX1_take_2 : decode cX1_take 2 = .ok (.iload_n 2, 1) := by decide +kernel
theorem dX1_take_3 : decode cX1_take 3 = .ok (.bipush 8, 2) := by decide +kernel
theorem dX1_take_5 : decode cX1_take 5 = .ok (.invokevirtual 39, 3) := by decide +kernel
theorem dX1_take_8 : decode cX1_take 8 = .ok (.aload_n 1, 1) := by decide +kernel
theorem dX1_take_9 : decode cX1_take 9 = .ok (.iload_n 2, 1) := by decide +kernel
theorem dX1_take_10 : decode cX1_take 10 = .ok (.bipush 8, 2) := by decide +kernel
theorem dX1_take_12 : decode cX1_take 12 = .ok (.iadd, 1) := by decide +kernel
theorem dX1_take_13 : decode cX1_take 13 = .ok (.bipush 8, 2) := by decide +kernel
theorem dX1_take_15 : decode cX1_take 15 = .ok (.invokevirtual 39, 3) := by decide +kernel
theorem dX1_take_18 : decode cX1_take 18 = .ok (.aload_n 1, 1) := by decide +kernel
theorem dX1_take_19 : decode cX1_take 19 = .ok (.iload_n 2, 1) := by decide +kernel
theorem dX1_take_20 : decode cX1_take 20 = .ok (.bipush 16, 2) := by decide +kernel
theorem dX1_take_22 : decode cX1_take 22 = .ok (.iadd, 1) := by decide +kernel
theorem dX1_take_23 : decode cX1_take 23 = .ok (.bipush 8, 2) := by decide +kernel
theorem dX1_take_25 : decode cX1_take 25 = .ok (.invokevirtual 39, 3) := by decide +kernel
theorem dX1_take_28 : decode cX1_take 28 = .ok (.aload_n 1, 1) := by decide +kernel
theorem dX1_take_29 : decode cX1_take 29 = .ok (.iload_n 2, 1) := by decide +kernel
theorem dX1_take_30 : decode cX1_take 30 = .ok (.bipush 24, 2) := by decide +kernel
theorem dX1_take_32 : decode cX1_take 32 = .ok (.iadd, 1) := by decide +kernel
theorem dX1_take_33 : decode cX1_take 33 = .ok (.bipush 8, 2) := by decide +kernel
theorem dX1_take_35 : decode cX1_take 35 = .ok (.invokevirtual 39, 3) := by decide +kernel
theorem dX1_take_38 : decode cX1_take 38 = .ok (.invokevirtual 45, 3) := by decide +kernel
theorem dX1_take_41 : decode cX1_take 41 = .ok (.aload_n 0, 1) := by decide +kernel
theorem dX1_take_42 : decode cX1_take 42 = .ok (.invokevirtual 49, 3) := by decide +kernel
theorem dX1_take_45 : decode cX1_take 45 = .ok (.ireturn, 1) := by decide +kernel
set_option maxRecDepth 20000 in
theorem ggX1_addTo_X1_normalize : GoodIn wsX1_addTo wsX1_normalize := goodIn_r _ [14, 8, 9, 15, 16, 17, 18, 13, 19, 3, 20, 21, 6, 7, 4, 5, 1, 2, 22, 23, 24, 25, 26, 27, 28, 29, 30, 42, 43, 44, 45, 46, 47, 48, 49, 50] rfl (by decide +kernel)
set_option maxRecDepth 20000 in
theorem gX1_addTo_X1_normalize : GoodIn wsX1_addTo (wsV RX1 53 RX1 yX1_normalize wsX1_normalize) := goodIn_app (goodIn_of _ (by decide +kernel)) ggX1_addTo_X1_normalize
set_option maxRecDepth 20000 in
theorem ggX1_addTo_X0_addNumber : GoodIn wsX1_addTo wsX0_addNumber := goodIn_r _ [35, 36, 37, 38, 34, 39, 40, 41, 51, 52] rfl (by decide +kernel)
set_option maxRecDepth 20000 in
theorem gX1_addTo_X0_addNumber : GoodIn wsX1_addTo (wsV RX1 56 RX0 yX0_addNumber wsX0_addNumber) := goodIn_app (goodIn_of _ (by decide +kernel)) ggX1_addTo_X0_addNumber
theorem dX1_addTo_0 : decode cX1_addTo 0 = .ok (.aload_n 0, 1) := by decide +kernel
theorem dX1_addTo_1 : decode cX1_addTo 1 = .ok (.invokevirtual 53, 3) := by decide +kernel
theorem dX1_addTo_4 : decode cX1_addTo 4 = .ok (.aload_n 1, 1) := by decide +kernel
theorem dX1_addTo_5 : decode cX1_addTo 5 = .ok (.aload_n 0, 1) := by decide +kernel
theorem dX1_addTo_6 : decode cX1_addTo 6 = .ok (.getfield 28, 3) := by decide +kernel
theorem dX1_addTo_9 : decode cX1_addTo 9 = .ok (.bipush 18, 2) := by decide +kernel
theorem dX1_addTo_11 : decode cX1_addTo 11 = .ok (.lushr, 1) := by decide +kernel
theorem dX1_addTo_12 : decode cX1_addTo 12 = .ok (.aload_n 0, 1) := by decide +kernel
theorem dX1_addTo_13 : decode cX1_addTo 13 = .ok (.getfield 31, 3) := by decide +kernel
theorem dX1_addTo_16 : decode cX1_addTo 16 = .ok (.bipush 11, 2) := by decide +kernel
theorem dX1_addTo_18 : decode cX1_addTo 18 = .ok (.lshl, 1) := by decide +kernel
theorem dX1_addTo_19 : decode cX1_addTo 19 = .ok (.lor, 1) := by decide +kernel
theorem dX1_addTo_20 : decode cX1_addTo 20 = .ok (.aload_n 0, 1) := by decide +kernel
theorem dX1_addTo_21 : decode cX1_addTo 21 = .ok (.getfield 34, 3) := by decide +kernel
theorem dX1_addTo_24 : decode cX1_addTo 24 = .ok (.bipush 40, 2) := by decide +kernel
theorem dX1_addTo_26 : decode cX1_addTo 26 = .ok (.lshl, 1) := by decide +kernel
theorem dX1_addTo_27 : decode cX1_addTo 27 = .ok (.lor, 1) := by decide +kernel
theorem dX1_addTo_28 : decode cX1_addTo 28 = .ok (.bipush 8, 2) := by decide +kernel
theorem dX1_addTo_30 : decode cX1_addTo 30 = .ok (.invokevirtual 56, 3) := by decide +kernel
theorem dX1_addTo_33 : decode cX1_addTo 33 = .ok (.aload_n 1, 1) := by decide +kernel
theorem dX1_addTo_34 : decode cX1_addTo 34 = .ok (.aload_n 0, 1) := by decide +kernel
theorem dX1_addTo_35 : decode cX1_addTo 35 = .ok (.getfield 22, 3) := by decide +kernel
theorem dX1_addTo_38 : decode cX1_addTo 38 = .ok (.bipush 12, 2) := by decide +kernel
theorem dX1_addTo_40 : decode cX1_addTo 40 = .ok (.lushr, 1) := by decide +kernel
theorem dX1_addTo_41 : decode cX1_addTo 41 = .ok (.aload_n 0, 1) := by decide +kernel
theorem dX1_addTo_42 : decode cX1_addTo 42 = .ok (.getfield 25, 3) := by decide +kernel
theorem dX1_addTo_45 : decode cX1_addTo 45 = .ok (.bipush 17, 2) := by decide +kernel
theorem dX1_addTo_47 : decode cX1_addTo 47 = .ok (.lshl, 1) := by decide +kernel
theorem dX1_addTo_48 : decode cX1_addTo 48 = .ok (.lor, 1) := by decide +kernel
theorem dX1_addTo_49 : decode cX1_addTo 49 = .ok (.aload_n 0, 1) := by decide +kernel
theorem dX1_addTo_50 : decode cX1_addTo 50 = .ok (.getfield 28, 3) := by decide +kernel
theorem dX1_addTo_53 : decode cX1_addTo 53 = .ok (.bipush 46, 2) := by decide +kernel
theorem dX1_addTo_55 : decode cX1_addTo 55 = .ok (.lshl, 1) := by decide +kernel
theorem dX1_addTo_56 : decode cX1_addTo 56 = .ok (.lor, 1) := by decide +kernel
theorem dX1_addTo_57 : decode cX1_addTo 57 = .ok (.bipush 8, 2) := by decide +kernel
theorem dX1_addTo_59 : decode cX1_addTo 59 = .ok (.invokevirtual 56, 3) := by decide +kernel
theorem dX1_addTo_62 : decode cX1_addTo 62 = .ok (.aload_n 1, 1) := by decide +kernel
theorem dX1_addTo_63 : decode cX1_addTo 63 = .ok (.aload_n 0, 1) := by decide +kernel
theorem dX1_addTo_64 : decode cX1_addTo 64 = .ok (.getfield 16, 3) := by decide +kernel
theorem dX1_addTo_67 : decode cX1_addTo 67 = .ok (.bipush 6, 2) := by decide +kernel
theorem dX1_addTo_69 : decode cX1_addTo 69 = .ok (.lushr, 1) := by decide +kernel
theorem dX1_addTo_70 : decode cX1_addTo 70 = .ok (.aload_n 0, 1) := by decide +kernel
theorem dX1_addTo_71 : decode cX1_addTo 71 = .ok (.getfield 19, 3) := by decide +kernel
theorem dX1_addTo_74 : decode cX1_addTo 74 = .ok (.bipush 23, 2) := by decide +kernel
theorem dX1_addTo_76 : decode cX1_addTo 76 = .ok (.lshl, 1) := by decide +kernel
theorem dX1_addTo_77 : decode cX1_addTo 77 = .ok (.lor, 1) := by decide +kernel
theorem dX1_addTo_78 : decode cX1_addTo 78 = .ok (.aload_n 0, 1) := by decide +kernel
theorem dX1_addTo_79 : decode cX1_addTo 79 = .ok (.getfield 22, 3) := by decide +kernel
theorem dX1_addTo_82 : decode cX1_addTo 82 = .ok (.bipush 52, 2) := by decide +kernel
theorem dX1_addTo_84 : decode cX1_addTo 84 = .ok (.lshl, 1) := by decide +kernel
theorem dX1_addTo_85 : decode cX1_addTo 85 = .ok (.lor, 1) := by decide +kernel
theorem dX1_addTo_86 : decode cX1_addTo 86 = .ok (.bipush 8, 2) := by decide +kernel
theorem dX1_addTo_88 : decode cX1_addTo 88 = .ok (.invokevirtual 56, 3) := by decide +kernel
theorem dX1_addTo_91 : decode cX1_addTo 91 = .ok (.aload_n 1, 1) := by decide +kernel
theorem dX1_addTo_92 : decode cX1_addTo 92 = .ok (.aload_n 0, 1) := by decide +kernel
theorem dX1_addTo_93 : decode cX1_addTo 93 = .ok (.getfield 7, 3) := by decide +kernel
theorem dX1_addTo_96 : decode cX1_addTo 96 = .ok (.aload_n 0, 1) := by decide +kernel
theorem dX1_addTo_97 : decode cX1_addTo 97 = .ok (.getfield 13, 3) := by decide +kernel
theorem dX1_addTo_100 : decode cX1_addTo 100 = .ok (.bipush 29, 2) := by decide +kernel
theorem dX1_addTo_102 : decode cX1_addTo 102 = .ok (.lshl, 1) := by decide +kernel
theorem dX1_addTo_103 : decode cX1_addTo 103 = .ok (.lor, 1) := by decide +kernel
theorem dX1_addTo_104 : decode cX1_addTo 104 = .ok (.aload_n 0, 1) := by decide +kernel
theorem dX1_addTo_105 : decode cX1_addTo 105 = .ok (.getfield 16, 3) := by decide +kernel
theorem dX1_addTo_108 : decode cX1_addTo 108 = .ok (.bipush 58, 2) := by decide +kernel
theorem dX1_addTo_110 : decode cX1_addTo 110 = .ok (.lshl, 1) := by decide +kernel
theorem dX1_addTo_111 : decode cX1_addTo 111 = .ok (.lor, 1) := by decide +kernel
theorem dX1_addTo_112 : decode cX1_addTo 112 = .ok (.bipush 8, 2) := by decide +kernel
theorem dX1_addTo_114 : decode cX1_addTo 114 = .ok (.invokevirtual 56, 3) := by decide +kernel
theorem dX1_addTo_117 : decode cX1_addTo 117 = .ok (.return_, 1) := by decide +kernel
set_option maxRecDepth 20000 in
theorem ggX1_isZero_X1_normalize : GoodIn wsX1_isZero wsX1_normalize := goodIn_r _ [14, 1, 2, 15, 16, 17, 18, 13, 19, 9, 20, 21, 3, 4, 5, 6, 7, 8, 22, 23, 24, 25, 26, 27, 28, 29, 30, 31, 32, 33, 34, 35, 36, 37, 38, 39] rfl (by decide +kernel)
set_option maxRecDepth 20000 in
theorem gX1_isZero_X1_normalize : GoodIn wsX1_isZero (wsV RX1 53 RX1 yX1_normalize wsX1_normalize) := goodIn_app (goodIn_of _ (by decide +kernel)) ggX1_isZero_X1_normalize
theorem dX1_isZero_0 : decode cX1_isZero 0 = .ok (.aload_n 0, 1) := by decide +kernel
theorem dX1_isZero_1 : decode cX1_isZero 1 = .ok (.invokevirtual 53, 3) := by decide +kernel
theorem dX1_isZero_4 : decode cX1_isZero 4 = .ok (.aload_n 0, 1) := by decide +kernel
theorem dX1_isZero_5 : decode cX1_isZero 5 = .ok (.getfield 7, 3) := by decide +kernel
theorem dX1_isZero_8 : decode cX1_isZero 8 = .ok (.aload_n 0, 1) := by decide +kernel
theorem dX1_isZero_9 : decode cX1_isZero 9 = .ok (.getfield 13, 3) := by decide +kernel
theorem dX1_isZero_12 : decode cX1_isZero 12 = .ok (.lor, 1) := by decide +kernel
theorem dX1_isZero_13 : decode cX1_isZero 13 = .ok (.aload_n 0, 1) := by decide +kernel
theorem dX1_isZero_14 : decode cX1_isZero 14 = .ok (.getfield 16, 3) := by decide +kernel
theorem dX1_isZero_17 : decode cX1_isZero 17 = .ok (.lor, 1) := by decide +kernel
theorem dX1_isZero_18 : decode cX1_isZero 18 = .ok (.aload_n 0, 1) := by decide +kernel
theorem dX1_isZero_19 : decode cX1_isZero 19 = .ok (.getfield 19, 3) := by decide +kernel
theorem dX1_isZero_22 : decode cX1_isZero 22 = .ok (.lor, 1) := by decide +kernel
theorem dX1_isZero_23 : decode cX1_isZero 23 = .ok (.aload_n 0, 1) := by decide +kernel
theorem dX1_isZero_24 : decode cX1_isZero 24 = .ok (.getfield 22, 3) := by decide +kernel
theorem dX1_isZero_27 : decode cX1_isZero 27 = .ok (.lor, 1) := by decide +kernel
theorem dX1_isZero_28 : decode cX1_isZero 28 = .ok (.aload_n 0, 1) := by decide +kernel
theorem dX1_isZero_29 : decode cX1_isZero 29 = .ok (.getfield 25, 3) := by decide +kernel
theorem dX1_isZero_32 : decode cX1_isZero 32 = .ok (.lor, 1) := by decide +kernel
theorem dX1_isZero_33 : decode cX1_isZero 33 = .ok (.aload_n 0, 1) := by decide +kernel
theorem dX1_isZero_34 : decode cX1_isZero 34 = .ok (.getfield 28, 3) := by decide +kernel
theorem dX1_isZero_37 : decode cX1_isZero 37 = .ok (.lor, 1) := by decide +kernel
theorem dX1_isZero_38 : decode cX1_isZero 38 = .ok (.aload_n 0, 1) := by decide +kernel
theorem dX1_isZero_39 : decode cX1_isZero 39 = .ok (.getfield 31, 3) := by decide +kernel
theorem dX1_isZero_42 : decode cX1_isZero 42 = .ok (.lor, 1) := by decide +kernel
theorem dX1_isZero_43 : decode cX1_isZero 43 = .ok (.aload_n 0, 1) := by decide +kernel
theorem dX1_isZero_44 : decode cX1_isZero 44 = .ok (.getfield 34, 3) := by decide +kernel
theorem dX1_isZero_47 : decode cX1_isZero 47 = .ok (.lor, 1) := by decide +kernel
theorem dX1_isZero_48 : decode cX1_isZero 48 = .ok (.lconst 0, 1) := by decide +kernel
theorem dX1_isZero_49 : decode cX1_isZero 49 = .ok (.lcmp, 1) := by decide +kernel
theorem dX1_isZero_50 : decode cX1_isZero 50 = .ok (.ifCond .ne 7, 3) := by decide +kernel
theorem dX1_isZero_53 : decode cX1_isZero 53 = .ok (.iconst 1, 1) := by decide +kernel
theorem dX1_isZero_54 : decode cX1_isZero 54 = .ok (.goto 4, 3) := by decide +kernel
theorem dX1_isZero_57 : decode cX1_isZero 57 = .ok (.iconst 0, 1) := by decide +kernel
theorem dX1_isZero_58 : decode cX1_isZero 58 = .ok (.ireturn, 1) := by decide +kernel
set_option maxRecDepth 20000 in
theorem ggX1_isOdd_X1_normalize : GoodIn wsX1_isOdd wsX1_normalize := goodIn_r _ [6, 1, 7, 8, 9, 10, 11, 5, 12, 13, 14, 15, 16, 17, 18, 19, 20, 21, 22, 23, 24, 25, 26, 27, 28, 29, 30, 31, 32, 33, 34, 35, 36, 37, 38, 39] rfl (by decide +kernel)
set_option maxRecDepth 20000 in
theorem gX1_isOdd_X1_normalize : GoodIn wsX1_isOdd (wsV RX1 53 RX1 yX1_normalize wsX1_normalize) := goodIn_app (goodIn_of _ (by decide +kernel)) ggX1_isOdd_X1_normalize
theorem dX1_isOdd_0 : decode cX1_isOdd 0 = .ok (.aload_n 0, 1) := by decide +kernel
theorem dX1_isOdd_1 : decode cX1_isOdd 1 = .ok (.invokevirtual 53, 3) := by decide +kernel
theorem dX1_isOdd_4 : decode cX1_isOdd 4 = .ok (.aload_n 0, 1) := by decide +kernel
theorem dX1_isOdd_5 : decode cX1_isOdd 5 = .ok (.getfield 7, 3) := by decide +kernel
theorem dX1_isOdd_8 : decode cX1_isOdd 8 = .ok (.lconst 1, 1) := by decide +kernel
theorem dX1_isOdd_9 : decode cX1_isOdd 9 = .ok (.land, 1) := by decide +kernel
theorem dX1_isOdd_10 : decode cX1_isOdd 10 = .ok (.lconst 1, 1) := by decide +kernel
theorem dX1_isOdd_11 : decode cX1_isOdd 11 = .ok (.lcmp, 1) := by decide +kernel
theorem dX1_isOdd_12 : decode cX1_isOdd 12 = .ok (.ifCond .ne 7, 3) := by decide +kernel
theorem dX1_isOdd_15 : decode cX1_isOdd 15 = .ok (.iconst 1, 1) := by decide +kernel
theorem dX1_isOdd_16 : decode cX1_isOdd 16 = .ok (.goto 4, 3) := by decide +kernel
theorem dX1_isOdd_19 : decode cX1_isOdd 19 = .ok (.iconst 0, 1) := by decide +kernel
theorem dX1_isOdd_20 : decode cX1_isOdd 20 = .ok (.ireturn, 1) := by decide +kernel
set_option maxRecDepth 20000 in
theorem ggX1_isLike_X1_normalize : GoodIn wsX1_isLike wsX1_normalize := goodIn_r _ [14, 1, 2, 15, 16, 17, 18, 13, 19, 9, 20, 21, 3, 4, 5, 6, 7, 8, 22, 23, 24, 25, 26, 27, 28, 29, 30, 31, 32, 33, 34, 35, 36, 37, 38, 39] rfl (by decide +kernel)
set_option maxRecDepth 20000 in
theorem gX1_isLike_X1_normalize : GoodIn wsX1_isLike (wsV RX1 53 RX1 yX1_normalize wsX1_normalize) := goodIn_app (goodIn_of _ (by decide +kernel)) ggX1_isLike_X1_normalize
theorem dX1_isLike_0 : decode cX1_isLike 0 = .ok (.aload_n 0, 1) := by decide +kernel
theorem dX1_isLike_1 : decode cX1_isLike 1 = .ok (.invokevirtual 53, 3) := by decide +kernel
theorem dX1_isLike_4 : decode cX1_isLike 4 = .ok (.aload_n 1, 1) := by decide +kernel
theorem dX1_isLike_5 : decode cX1_isLike 5 = .ok (.invokevirtual 53, 3) := by decide +kernel
theorem dX1_isLike_8 : decode cX1_isLike 8 = .ok (.aload_n 0, 1) := by decide +kernel
theorem dX1_isLike_9 : decode cX1_isLike 9 = .ok (.getfield 7, 3) := by decide +kernel
theorem dX1_isLike_12 : decode cX1_isLike 12 = .ok (.aload_n 1, 1) := by decide +kernel
theorem dX1_isLike_13 : decode cX1_isLike 13 = .ok (.getfield 7, 3) := by decide +kernel
theorem dX1_isLike_16 : decode cX1_isLike 16 = .ok (.lxor, 1) := by decide +kernel
theorem dX1_isLike_17 : decode cX1_isLike 17 = .ok (.aload_n 0, 1) := by decide +kernel
theorem dX1_isLike_18 : decode cX1_isLike 18 = .ok (.getfield 13, 3) := by decide +kernel
theorem dX1_isLike_21 : decode cX1_isLike 21 = .ok (.aload_n 1, 1) := by decide +kernel
theorem dX1_isLike_22 : decode cX1_isLike 22 = .ok (.getfield 13, 3) := by decide +kernel
theorem dX1_isLike_25 : decode cX1_isLike 25 = .ok (.lxor, 1) := by decide +kernel
theorem dX1_isLike_26 : decode cX1_isLike 26 = .ok (.lor, 1) := by decide +kernel
theorem dX1_isLike_27 : decode cX1_isLike 27 = .ok (.aload_n 0, 1) := by decide +kernel
theorem dX1_isLike_28 : decode cX1_isLike 28 = .ok (.getfield 16, 3) := by decide +kernel
theorem dX1_isLike_31 : decode cX1_isLike 31 = .ok (.aload_n 1, 1) := by decide +kernel
theorem dX1_isLike_32 : decode cX1_isLike 32 = .ok (.getfield 16, 3) := by decide +kernel
theorem dX1_isLike_35 : decode cX1_isLike 35 = .ok (.lxor, 1) := by decide +kernel
theorem dX1_isLike_36 : decode cX1_isLike 36 = .ok (.lor, 1) := by decide +kernel
theorem dX1_isLike_37 : decode cX1_isLike 37 = .ok (.aload_n 0, 1) := by decide +kernel
theorem dX1_isLike_38 : decode cX1_isLike 38 = .ok (.getfield 19, 3) := by decide +kernel
theorem dX1_isLike_41 : decode cX1_isLike 41 = .ok (.aload_n 1, 1) := by decide +kernel
theorem dX1_isLike_42 : decode cX1_isLike 42 = .ok (.getfield 19, 3) := by decide +kernel
theorem dX1_isLike_45 : decode cX1_isLike 45 = .ok (.lxor, 1) := by decide +kernel
theorem dX1_isLike_46 : decode cX1_isLike 46 = .ok (.lor, 1) := by decide +kernel
theorem dX1_isLike_47 : decode cX1_isLike 47 = .ok (.aload_n 0, 1) := by decide +kernel
theorem dX1_isLike_48 : decode cX1_isLike 48 = .ok (.getfield 22, 3) := by decide +kernel
theorem dX1_isLike_51 : decode cX1_isLike 51 = .ok (.aload_n 1, 1) := by decide +kernel
theorem dX1_isLike_52 : decode cX1_isLike 52 = .ok (.getfield 22, 3) := by decide +kernel
theorem dX1_isLike_55 : decode cX1_isLike 55 = .ok (.lxor, 1) := by decide +kernel
theorem dX1_isLike_56 : decode cX1_isLike 56 = .ok (.lor, 1) := by decide +kernel
theorem dX1_isLike_57 : decode cX1_isLike 57 = .ok (.lstore_n 2, 1) := by decide +kernel
theorem dX1_isLike_58 : decode cX1_isLike 58 = .ok (.lload_n 2, 1) := by decide +kernel
theorem dX1_isLike_59 : decode cX1_isLike 59 = .ok (.aload_n 0, 1) := by decide +kernel
theorem dX1_isLike_60 : decode cX1_isLike 60 = .ok (.getfield 25, 3) := by decide +kernel
theorem dX1_isLike_63 : decode cX1_isLike 63 = .ok (.aload_n 1, 1) := by decide +kernel
theorem dX1_isLike_64 : decode cX1_isLike 64 = .ok (.getfield 25, 3) := by decide +kernel
theorem dX1_isLike_67 : decode cX1_isLike 67 = .ok (.lxor, 1) := by decide +kernel
theorem dX1_isLike_68 : decode cX1_isLike 68 = .ok (.lor, 1) := by decide +kernel
theorem dX1_isLike_69 : decode cX1_isLike 69 = .ok (.aload_n 0, 1) := by decide +kernel
theorem dX1_isLike_70 : decode cX1_isLike 70 = .ok (.getfield 28, 3) := by decide +kernel
theorem dX1_isLike_73 : decode cX1_isLike 73 = .ok (.aload_n 1, 1) := by decide +kernel
theorem dX1_isLike_74 : decode cX1_isLike 74 = .ok (.getfield 28, 3) := by decide +kernel
theorem dX1_isLike_77 : decode cX1_isLike 77 = .ok (.lxor, 1) := by decide +kernel
theorem dX1_isLike_78 : decode cX1_isLike 78 = .ok (.lor, 1) := by decide +kernel
theorem dX1_isLike_79 : decode cX1_isLike 79 = .ok (.aload_n 0, 1) := by decide +kernel
theorem dX1_isLike_80 : decode cX1_isLike 80 = .ok (.getfield 31, 3) := by decide +kernel
theorem dX1_isLike_83 : decode cX1_isLike 83 = .ok (.aload_n 1, 1) := by decide +kernel
theorem dX1_isLike_84 : decode cX1_isLike 84 = .ok (.getfield 31, 3) := by decide +kernel
theorem dX1_isLike_87 : decode cX1_isLike 87 = .ok (.lxor, 1) := by decide +kernel
theorem dX1_isLike_88 : decode cX1_isLike 88 = .ok (.lor, 1) := by decide +kernel
theorem dX1_isLike_89 : decode cX1_isLike 89 = .ok (.aload_n 0, 1) := by decide +kernel
theorem dX1_isLike_90 : decode cX1_isLike 90 = .ok (.getfield 34, 3) := by decide +kernel
theorem dX1_isLike_93 : decode cX1_isLike 93 = .ok (.aload_n 1, 1) := by decide +kernel
theorem dX1_isLike_94 : decode cX1_isLike 94 = .ok (.getfield 34, 3) := by decide +kernel
theorem dX1_isLike_97 : decode cX1_isLike 97 = .ok (.lxor, 1) := by decide +kernel
theorem dX1_isLike_98 : decode cX1_isLike 98 = .ok (.lor, 1) := by decide +kernel
theorem dX1_isLike_99 : decode cX1_isLike 99 = .ok (.lconst 0, 1) := by decide +kernel
theorem dX1_isLike_100 : decode cX1_isLike 100 = .ok (.lcmp, 1) := by decide +kernel
theorem dX1_isLike_101 : decode cX1_isLike 101 = .ok (.ifCond .ne 7, 3) := by decide +kernel
theorem dX1_isLike_104 : decode cX1_isLike 104 = .ok (.iconst 1, 1) := by decide +kernel
theorem dX1_isLike_105 : decode cX1_isLike 105 = .ok (.goto 4, 3) := by decide +kernel
theorem dX1_isLike_108 : decode cX1_isLike 108 = .ok (.iconst 0, 1) := by decide +kernel
theorem dX1_isLike_109 : decode cX1_isLike 109 = .ok (.ireturn, 1) := by decide +kernel
set_option maxRecDepth 20000 in
theorem ggX1_addSmall_X1_carry : GoodIn wsX1_addSmall wsX1_carry := goodIn_r _ [6, 7, 1, 8, 9, 10, 11, 12, 13, 14, 15, 16, 17, 18, 19, 20, 21, 22, 23, 24, 25, 26] rfl (by decide +kernel)
set_option maxRecDepth 20000 in
theorem gX1_addSmall_X1_carry : GoodIn wsX1_addSmall (wsV RX1 60 RX1 yX1_carry wsX1_carry) := goodIn_app (goodIn_of _ (by decide +kernel)) ggX1_addSmall_X1_carry
theorem dX1_addSmall_0 : decode cX1_addSmall 0 = .ok (.aload_n 0, 1) := by decide +kernel
theorem dX1_addSmall_1 : decode cX1_addSmall 1 = .ok (.dup, 1) := by decide +kernel
theorem dX1_addSmall_2 : decode cX1_addSmall 2 = .ok (.getfield 7, 3) := by decide +kernel
theorem dX1_addSmall_5 : decode cX1_addSmall 5 = .ok (.iload_n 1, 1) := by decide +kernel
theorem dX1_addSmall_6 : decode cX1_addSmall 6 = .ok (.i2l, 1) := by decide +kernel
theorem dX1_addSmall_7 : decode cX1_addSmall 7 = .ok (.ladd, 1) := by decide +kernel
theorem dX1_addSmall_8 : decode cX1_addSmall 8 = .ok (.putfield 7, 3) := by decide +kernel
theorem dX1_addSmall_11 : decode cX1_addSmall 11 = .ok (.aload_n 0, 1) := by decide +kernel
theorem dX1_addSmall_12 : decode cX1_addSmall 12 = .ok (.invokevirtual 60, 3) := by decide +kernel
theorem dX1_addSmall_15 : decode cX1_addSmall 15 = .ok (.return_, 1) := by decide +kernel
set_option maxRecDepth 20000 in
theorem ggX1_difference_X1_carry : GoodIn wsX1_difference wsX1_carry := goodIn_r _ [14, 9, 1, 15, 16, 2, 3, 4, 5, 6, 7, 8, 17, 18, 19, 20, 21, 22, 23, 24, 25, 26] rfl (by decide +kernel)
set_option maxRecDepth 20000 in
theorem gX1_difference_X1_carry : GoodIn wsX1_difference (wsV RX1 60 RX1 yX1_carry wsX1_carry) := goodIn_app (goodIn_of _ (by decide +kernel)) ggX1_difference_X1_carry
theorem dX1_difference_0 : decode cX1_difference 0 = .ok (.aload_n 0, 1) := by decide +kernel
theorem dX1_difference_1 : decode cX1_difference 1 = .ok (.aload_n 1, 1) := by decide +kernel
theorem dX1_difference_2 : decode cX1_difference 2 = .ok (.getfield 7, 3) := by decide +kernel
theorem dX1_difference_5 : decode cX1_difference 5 = .ok (.aload_n 2, 1) := by decide +kernel
theorem dX1_difference_6 : decode cX1_difference 6 = .ok (.getfield 7, 3) := by decide +kernel
theorem dX1_difference_9 : decode cX1_difference 9 = .ok (.lsub, 1) := by decide +kernel
theorem dX1_difference_10 : decode cX1_difference 10 = .ok (.putfield 7, 3) := by decide +kernel
theorem dX1_difference_13 : decode cX1_difference 13 = .ok (.aload_n 0, 1) := by decide +kernel
theorem dX1_difference_14 : decode cX1_difference 14 = .ok (.aload_n 1, 1) := by decide +kernel
theorem dX1_difference_15 : decode cX1_difference 15 = .ok (.getfield 13, 3) := by decide +kernel
theorem dX1_difference_18 : decode cX1_difference 18 = .ok (.aload_n 2, 1) := by decide +kernel
theorem dX1_difference_19 : decode cX1_difference 19 = .ok (.getfield 13, 3) := by decide +kernel
theorem dX1_difference_22 : decode cX1_difference 22 = .ok (.lsub, 1) := by decide +kernel
theorem dX1_difference_23 : decode cX1_difference 23 = .ok (.putfield 13, 3) := by decide +kernel
theorem dX1_difference_26 : decode cX1_difference 26 = .ok (.aload_n 0, 1) := by decide +kernel
theorem dX1_difference_27 : decode cX1_difference 27 = .ok (.aload_n 1, 1) := by decide +kernel
theorem dX1_difference_28 : decode cX1_difference 28 = .ok (.getfield 16, 3) := by decide +kernel
theorem dX1_difference_31 : decode cX1_difference 31 = .ok (.aload_n 2, 1) := by decide +kernel
theorem dX1_difference_32 : decode cX1_difference 32 = .ok (.getfield 16, 3) := by decide +kernel
theorem dX1_difference_35 : decode cX1_difference 35 = .ok (.lsub, 1) := by decide +kernel
theorem dX1_difference_36 : decode cX1_difference 36 = .ok (.putfield 16, 3) := by decide +kernel
theorem dX1_difference_39 : decode cX1_difference 39 = .ok (.aload_n 0, 1) := by decide +kernel
theorem dX1_difference_40 : decode cX1_difference 40 = .ok (.aload_n 1, 1) := by decide +kernel
theorem dX1_difference_41 : decode cX1_difference 41 = .ok (.getfield 19, 3) := by decide +kernel
theorem dX1_difference_44 : decode cX1_difference 44 = .ok (.aload_n 2, 1) := by decide +kernel
theorem dX1_difference_45 : decode cX1_difference 45 = .ok (.getfield 19, 3) := by decide +kernel
theorem dX1_difference_48 : decode cX1_difference 48 = .ok (.lsub, 1) := by decide +kernel
theorem dX1_difference_49 : decode cX1_difference 49 = .ok (.putfield 19, 3) := by decide +kernel
theorem dX1_difference_52 : decode cX1_difference 52 = .ok (.aload_n 0, 1) := by decide +kernel
theorem dX1_difference_53 : decode cX1_difference 53 = .ok (.aload_n 1, 1) := by decide +kernel
theorem dX1_difference_54 : decode cX1_difference 54 = .ok (.getfield 22, 3) := by decide +kernel
theorem dX1_difference_57 : decode cX1_difference 57 = .ok (.aload_n 2, 1) := by decide +kernel
theorem dX1_difference_58 : decode cX1_difference 58 = .ok (.getfield 22, 3) := by decide +kernel
theorem dX1_difference_61 : decode cX1_difference 61 = .ok (.lsub, 1) := by decide +kernel
theorem dX1_difference_62 : decode cX1_difference 62 = .ok (.putfield 22, 3) := by decide +kernel
theorem dX1_difference_65 : decode cX1_difference 65 = .ok (.aload_n 0, 1) := by decide +kernel
theorem dX1_difference_66 : decode cX1_difference 66 = .ok (.aload_n 1, 1) := by decide +kernel
theorem dX1_difference_67 : decode cX1_difference 67 = .ok (.getfield 25, 3) := by decide +kernel
theorem dX1_difference_70 : decode cX1_difference 70 = .ok (.aload_n 2, 1) := by decide +kernel
theorem dX1_difference_71 : decode cX1_difference 71 = .ok (.getfield 25, 3) := by decide +kernel
theorem dX1_difference_74 : decode cX1_difference 74 = .ok (.lsub, 1) := by decide +kernel
theorem dX1_difference_75 : decode cX1_difference 75 = .ok (.putfield 25, 3) := by decide +kernel
theorem dX1_difference_78 : decode cX1_difference 78 = .ok (.aload_n 0, 1) := by decide +kernel
theorem dX1_difference_79 : decode cX1_difference 79 = .ok (.aload_n 1, 1) := by decide +kernel
theorem dX1_difference_80 : decode cX1_difference 80 = .ok (.getfield 28, 3) := by decide +kernel
theorem dX1_difference_83 : decode cX1_difference 83 = .ok (.aload_n 2, 1) := by decide +kernel
theorem dX1_difference_84 : decode cX1_difference 84 = .ok (.getfield 28, 3) := by decide +kernel
theorem dX1_difference_87 : decode cX1_difference 87 = .ok (.lsub, 1) := by decide +kernel
theorem dX1_difference_88 : decode cX1_difference 88 = .ok (.putfield 28, 3) := by decide +kernel
theorem dX1_difference_91 : decode cX1_difference 91 = .ok (.aload_n 0, 1) := by decide +kernel
theorem dX1_difference_92 : decode cX1_difference 92 = .ok (.aload_n 1, 1) := by decide +kernel
theorem dX1_difference_93 : decode cX1_difference 93 = .ok (.getfield 31, 3) := by decide +kernel
theorem dX1_difference_96 : decode cX1_difference 96 = .ok (.aload_n 2, 1) := by decide +kernel
theorem dX1_difference_97 : decode cX1_difference 97 = .ok (.getfield 31, 3) := by decide +kernel
theorem dX1_difference_100 : decode cX1_difference 100 = .ok (.lsub, 1) := by decide +kernel
theorem dX1_difference_101 : decode cX1_difference 101 = .ok (.putfield 31, 3) := by decide +kernel
theorem dX1_difference_104 : decode cX1_difference 104 = .ok (.aload_n 0, 1) := by decide +kernel
theorem dX1_difference_105 : decode cX1_difference 105 = .ok (.aload_n 1, 1) := by decide +kernel
theorem dX1_difference_106 : decode cX1_difference 106 = .ok (.getfield 34, 3) := by decide +kernel
theorem dX1_difference_109 : decode cX1_difference 109 = .ok (.aload_n 2, 1) := by decide +kernel
theorem dX1_difference_110 : decode cX1_difference 110 = .ok (.getfield 34, 3) := by decide +kernel
theorem dX1_difference_113 : decode cX1_difference 113 = .ok (.lsub, 1) := by decide +kernel
theorem dX1_difference_114 : decode cX1_difference 114 = .ok (.putfield 34, 3) := by decide +kernel
theorem dX1_difference_117 : decode cX1_difference 117 = .ok (.aload_n 0, 1) := by decide +kernel
theorem dX1_difference_118 : decode cX1_difference 118 = .ok (.invokevirtual 60, 3) := by decide +kernel
theorem dX1_difference_121 : decode cX1_difference 121 = .ok (.return_, 1) := by decide +kernel
set_option maxRecDepth 20000 in
theorem ggX1_multiple_X1_carry : GoodIn wsX1_multiple wsX1_carry := goodIn_r _ [14, 9, 1, 15, 16, 2, 3, 4, 5, 6, 7, 8, 17, 18, 19, 20, 21, 22, 23, 24, 25, 26] rfl (by decide +kernel)
set_option maxRecDepth 20000 in
theorem gX1_multiple_X1_carry : GoodIn wsX1_multiple (wsV RX1 60 RX1 yX1_carry wsX1_carry) := goodIn_app (goodIn_of _ (by decide +kernel)) ggX1_multiple_X1_carry
theorem dX1_multiple_0 : decode cX1_multiple 0 = .ok (.aload_n 0, 1) := by decide +kernel
theorem dX1_multiple_1 : decode cX1_multiple 1 = .ok (.aload_n 1, 1) := by decide +kernel
theorem dX1_multiple_2 : decode cX1_multiple 2 = .ok (.getfield 7, 3) := by decide +kernel
theorem dX1_multiple_5 : decode cX1_multiple 5 = .ok (.iload_n 2, 1) := by decide +kernel
theorem dX1_multiple_6 : decode cX1_multiple 6 = .ok (.i2l, 1) := by decide +kernel
theorem dX1_multiple_7 : decode cX1_multiple 7 = .ok (.lmul, 1) := by decide +kernel
theorem dX1_multiple_8 : decode cX1_multiple 8 = .ok (.putfield 7, 3) := by decide +kernel
theorem dX1_multiple_11 : decode cX1_multiple 11 = .ok (.aload_n 0, 1) := by decide +kernel
theorem dX1_multiple_12 : decode cX1_multiple 12 = .ok (.aload_n 1, 1) := by decide +kernel
theorem dX1_multiple_13 : decode cX1_multiple 13 = .ok (.getfield 13, 3) := by decide +kernel
theorem dX1_multiple_16 : decode cX1_multiple 16 = .ok (.iload_n 2, 1) := by decide +kernel
theorem dX1_multiple_17 : decode cX1_multiple 17 = .ok (.i2l, 1) := by decide +kernel
theorem dX1_multiple_18 : decode cX1_multiple 18 = .ok (.lmul, 1) := by decide +kernel
theorem dX1_multiple_19 : decode cX1_multiple 19 = .ok (.putfield 13, 3) := by decide +kernel
theorem dX1_multiple_22 : decode cX1_multiple 22 = .ok (.aload_n 0, 1) := by decide +kernel
theorem dX1_multiple_23 : decode cX1_multiple 23 = .ok (.aload_n 1, 1) := by decide +kernel
theorem dX1_multiple_24 : decode cX1_multiple 24 = .ok (.getfield 16, 3) := by decide +kernel
theorem dX1_multiple_27 : decode cX1_multiple 27 = .ok (.iload_n 2, 1) := by decide +kernel
theorem dX1_multiple_28 : decode cX1_multiple 28 = .ok (.i2l, 1) := by decide +kernel
theorem dX1_multiple_29 : decode cX1_multiple 29 = .ok (.lmul, 1) := by decide +kernel
theorem dX1_multiple_30 : decode cX1_multiple 30 = .ok (.putfield 16, 3) := by decide +kernel
theorem dX1_multiple_33 : decode cX1_multiple 33 = .ok (.aload_n 0, 1) := by decide +kernel
theorem dX1_multiple_34 : decode cX1_multiple 34 = .ok (.aload_n 1, 1) := by decide +kernel
theorem dX1_multiple_35 : decode cX1_multiple 35 = .ok (.getfield 19, 3) := by decide +kernel
theorem dX1_multiple_38 : decode cX1_multiple 38 = .ok (.iload_n 2, 1) := by decide +kernel
theorem dX1_multiple_39 : decode cX1_multiple 39 = .ok (.i2l, 1) := by decide +kernel
theorem dX1_multiple_40 : decode cX1_multiple 40 = .ok (.lmul, 1) := by decide +kernel
theorem dX1_multiple_41 : decode cX1_multiple 41 = .ok (.putfield 19, 3) := by decide +kernel
theorem dX1_multiple_44 : decode cX1_multiple 44 = .ok (.aload_n 0, 1) := by decide +kernel
theorem dX1_multiple_45 : decode cX1_multiple 45 = .ok (.aload_n 1, 1) := by decide +kernel
theorem dX1_multiple_46 : decode cX1_multiple 46 = .ok (.getfield 22, 3) := by decide +kernel
theorem dX1_multiple_49 : decode cX1_multiple 49 = .ok (.iload_n 2, 1) := by decide +kernel
theorem dX1_multiple_50 : decode cX1_multiple 50 = .ok (.i2l, 1) := by decide +kernel
theorem dX1_multiple_51 : decode cX1_multiple 51 = .ok (.lmul, 1) := by decide +kernel
theorem dX1_multiple_52 : decode cX1_multiple 52 = .ok (.putfield 22, 3) := by decide +kernel
theorem dX1_multiple_55 : decode cX1_multiple 55 = .ok (.aload_n 0, 1) := by decide +kernel
theorem dX1_multiple_56 : decode cX1_multiple 56 = .ok (.aload_n 1, 1) := by decide +kernel
theorem dX1_multiple_57 : decode cX1_multiple 57 = .ok (.getfield 25, 3) := by decide +kernel
theorem dX1_multiple_60 : decode cX1_multiple 60 = .ok (.iload_n 2, 1) := by decide +kernel
theorem dX1_multiple_61 : decode cX1_multiple 61 = .ok (.i2l, 1) := by decide +kernel
theorem dX1_multiple_62 : decode cX1_multiple 62 = .ok (.lmul, 1) := by decide +kernel
theorem dX1_multiple_63 : decode cX1_multiple 63 = .ok (.putfield 25, 3) := by decide +kernel
theorem dX1_multiple_66 : decode cX1_multiple 66 = .ok (.aload_n 0, 1) := by decide +kernel
theorem dX1_multiple_67 : decode cX1_multiple 67 = .ok (.aload_n 1, 1) := by decide +kernel
theorem dX1_multiple_68 : decode cX1_multiple 68 = .ok (.getfield 28, 3) := by decide +kernel
theorem dX1_multiple_71 : decode cX1_multiple 71 = .ok (.iload_n 2, 1) := by decide +kernel
theorem dX1_multiple_72 : decode cX1_multiple 72 = .ok (.i2l, 1) := by decide +kernel
theorem dX1_multiple_73 : decode cX1_multiple 73 = .ok (.lmul, 1) := by decide +kernel
theorem dX1_multiple_74 : decode cX1_multiple 74 = .ok (.putfield 28, 3) := by decide +kernel
theorem dX1_multiple_77 : decode cX1_multiple 77 = .ok (.aload_n 0, 1) := by decide +kernel
theorem dX1_multiple_78 : decode cX1_multiple 78 = .ok (.aload_n 1, 1) := by decide +kernel
theorem dX1_multiple_79 : decode cX1_multiple 79 = .ok (.getfield 31, 3) := by decide +kernel
theorem dX1_multiple_82 : decode cX1_multiple 82 = .ok (.iload_n 2, 1) := by decide +kernel
theorem dX1_multiple_83 : decode cX1_multiple 83 = .ok (.i2l, 1) := by decide +kernel
theorem dX1_multiple_84 : decode cX1_multiple 84 = .ok (.lmul, 1) := by decide +kernel
theorem dX1_multiple_85 : decode cX1_multiple 85 = .ok (.putfield 31, 3) := by decide +kernel
theorem dX1_multiple_88 : decode cX1_multiple 88 = .ok (.aload_n 0, 1) := by decide +kernel
theorem dX1_multiple_89 : decode cX1_multiple 89 = .ok (.aload_n 1, 1) := by decide +kernel
theorem dX1_multiple_90 : decode cX1_multiple 90 = .ok (.getfield 34, 3) := by decide +kernel
theorem dX1_multiple_93 : decode cX1_multiple 93 = .ok (.iload_n 2, 1) := by decide +kernel
theorem dX1_multiple_94 : decode cX1_multiple 94 = .ok (.i2l, 1) := by decide +kernel
theorem dX1_multiple_95 : decode cX1_multiple 95 = .ok (.lmul, 1) := by decide +kernel
theorem dX1_multiple_96 : decode cX1_multiple 96 = .ok (.putfield 34, 3) := by decide +kernel
theorem dX1_multiple_99 : decode cX1_multiple 99 = .ok (.aload_n 0, 1) := by decide +kernel
theorem dX1_multiple_100 : decode cX1_multiple 100 = .ok (.invokevirtual 60, 3) := by decide +kernel
theorem dX1_multiple_103 : decode cX1_multiple 103 = .ok (.return_, 1) := by decide +kernel
set_option maxRecDepth 20000 in
theorem ggX1_raise_X1_become : GoodIn wsX1_raise wsX1_become := goodIn_r _ [5, 6, 7, 8, 9, 10, 11, 12, 13, 14, 23, 24, 25, 26, 27, 28, 29, 30, 31] rfl (by decide +kernel)
set_option maxRecDepth 20000 in
theorem gX1_raise_X1_become : GoodIn wsX1_raise (wsV RX1 69 RX1 yX1_become wsX1_become) := goodIn_app (goodIn_of _ (by decide +kernel)) ggX1_raise_X1_become
set_option maxRecDepth 20000 in
theorem ggX1_raise_X1_product : GoodIn wsX1_raise wsX1_product := goodIn_r _ [18, 6, 7, 8, 9, 10, 11, 12, 13, 14, 19, 20, 21, 22, 23, 24, 25, 26, 27, 28, 29, 30, 31] rfl (by decide +kernel)
set_option maxRecDepth 20000 in
theorem gX1_raise_X1_product : GoodIn wsX1_raise (wsV RX1 73 RX1 yX1_product wsX1_product) := goodIn_app (goodIn_of _ (by decide +kernel)) ggX1_raise_X1_product
theorem dX1_raise_0 : decode cX1_raise 0 = .ok (.aload_n 0, 1) := by decide +kernel
theorem dX1_raise_1 : decode cX1_raise 1 = .ok (.aload_n 1, 1) := by decide +kernel
theorem dX1_raise_2 : decode cX1_raise 2 = .ok (.invokevirtual 69, 3) := by decide +kernel
theorem dX1_raise_5 : decode cX1_raise 5 = .ok (.iconst 0, 1) := by decide +kernel
theorem dX1_raise_6 : decode cX1_raise 6 = .ok (.istore 4, 2) := by decide +kernel
theorem dX1_raise_8 : decode cX1_raise 8 = .ok (.iload 4, 2) := by decide +kernel
theorem dX1_raise_10 : decode cX1_raise 10 = .ok (.iload_n 2, 1) := by decide +kernel
theorem dX1_raise_11 : decode cX1_raise 11 = .ok (.if_icmp .ge 15, 3) := by decide +kernel
theorem dX1_raise_14 : decode cX1_raise 14 = .ok (.aload_n 0, 1) := by decide +kernel
theorem dX1_raise_15 : decode cX1_raise 15 = .ok (.aload_n 0, 1) := by decide +kernel
theorem dX1_raise_16 : decode cX1_raise 16 = .ok (.aload_n 0, 1) := by decide +kernel
theorem dX1_raise_17 : decode cX1_raise 17 = .ok (.invokevirtual 73, 3) := by decide +kernel
theorem dX1_raise_20 : decode cX1_raise 20 = .ok (.iinc 4 1, 3) := by decide +kernel
theorem dX1_raise_23 : decode cX1_raise 23 = .ok (.goto (-15), 3) := by decide +kernel
theorem dX1_raise_26 : decode cX1_raise 26 = .ok (.aload_n 0, 1) := by decide +kernel
theorem dX1_raise_27 : decode cX1_raise 27 = .ok (.aload_n 0, 1) := by decide +kernel
theorem dX1_raise_28 : decode cX1_raise 28 = .ok (.aload_n 3, 1) := by decide +kernel
theorem dX1_raise_29 : decode cX1_raise 29 = .ok (.invokevirtual 73, 3) := by decide +kernel
theorem dX1_raise_32 : decode cX1_raise 32 = .ok (.return_, 1) := by decide +kernel
theorem dX1_carry_0 : decode cX1_carry 0 = .ok (.aload_n 0, 1) := by decide +kernel
theorem dX1_carry_1 : decode cX1_carry 1 = .ok (.getfield 34, 3) := by decide +kernel
theorem dX1_carry_4 : decode cX1_carry 4 = .ok (.bipush 24, 2) := by decide +kernel
theorem dX1_carry_6 : decode cX1_carry 6 = .ok (.lshr, 1) := by decide +kernel
theorem dX1_carry_7 : decode cX1_carry 7 = .ok (.lstore_n 1, 1) := by decide +kernel
theorem dX1_carry_8 : decode cX1_carry 8 = .ok (.aload_n 0, 1) := by decide +kernel
theorem dX1_carry_9 : decode cX1_carry 9 = .ok (.getfield 7, 3) := by decide +kernel
theorem dX1_carry_12 : decode cX1_carry 12 = .ok (.lload_n 1, 1) := by decide +kernel
theorem dX1_carry_13 : decode cX1_carry 13 = .ok (.ldc2_w 67, 3) := by decide +kernel
theorem dX1_carry_16 : decode cX1_carry 16 = .ok (.lmul, 1) := by decide +kernel
theorem dX1_carry_17 : decode cX1_carry 17 = .ok (.ladd, 1) := by decide +kernel
theorem dX1_carry_18 : decode cX1_carry 18 = .ok (.lstore_n 3, 1) := by decide +kernel
theorem dX1_carry_19 : decode cX1_carry 19 = .ok (.aload_n 0, 1) := by decide +kernel
theorem dX1_carry_20 : decode cX1_carry 20 = .ok (.lload_n 3, 1) := by decide +kernel
theorem dX1_carry_21 : decode cX1_carry 21 = .ok (.ldc2_w 37, 3) := by decide +kernel
theorem dX1_carry_24 : decode cX1_carry 24 = .ok (.land, 1) := by decide +kernel
theorem dX1_carry_25 : decode cX1_carry 25 = .ok (.putfield 7, 3) := by decide +kernel
theorem dX1_carry_28 : decode cX1_carry 28 = .ok (.lload_n 3, 1) := by decide +kernel
theorem dX1_carry_29 : decode cX1_carry 29 = .ok (.bipush 29, 2) := by decide +kernel
theorem dX1_carry_31 : decode cX1_carry 31 = .ok (.lshr, 1) := by decide +kernel
theorem dX1_carry_32 : decode cX1_carry 32 = .ok (.aload_n 0, 1) := by decide +kernel
theorem dX1_carry_33 : decode cX1_carry 33 = .ok (.getfield 13, 3) := by decide +kernel
theorem dX1_carry_36 : decode cX1_carry 36 = .ok (.ladd, 1) := by decide +kernel
theorem dX1_carry_37 : decode cX1_carry 37 = .ok (.lload_n 1, 1) := by decide +kernel
theorem dX1_carry_38 : decode cX1_carry 38 = .ok (.iconst 3, 1) := by decide +kernel
theorem dX1_carry_39 : decode cX1_carry 39 = .ok (.lshl, 1) := by decide +kernel
theorem dX1_carry_40 : decode cX1_carry 40 = .ok (.ladd, 1) := by decide +kernel
theorem dX1_carry_41 : decode cX1_carry 41 = .ok (.lstore_n 3, 1) := by decide +kernel
theorem dX1_carry_42 : decode cX1_carry 42 = .ok (.aload_n 0, 1) := by decide +kernel
theorem dX1_carry_43 : decode cX1_carry 43 = .ok (.lload_n 3, 1) := by decide +kernel
theorem dX1_carry_44 : decode cX1_carry 44 = .ok (.ldc2_w 37, 3) := by decide +kernel
theorem dX1_carry_47 : decode cX1_carry 47 = .ok (.land, 1) := by decide +kernel
theorem dX1_carry_48 : decode cX1_carry 48 = .ok (.putfield 13, 3) := by decide +kernel
theorem dX1_carry_51 : decode cX1_carry 51 = .ok (.lload_n 3, 1) := by decide +kernel
theorem dX1_carry_52 : decode cX1_carry 52 = .ok (.bipush 29, 2) := by decide +kernel
theorem dX1_carry_54 : decode cX1_carry 54 = .ok (.lshr, 1) := by decide +kernel
theorem dX1_carry_55 : decode cX1_carry 55 = .ok (.aload_n 0, 1) := by decide +kernel
theorem dX1_carry_56 : decode cX1_carry 56 = .ok (.getfield 16, 3) := by decide +kernel
theorem dX1_carry_59 : decode cX1_carry 59 = .ok (.ladd, 1) := by decide +kernel
theorem dX1_carry_60 : decode cX1_carry 60 = .ok (.lstore_n 3, 1) := by decide +kernel
theorem dX1_carry_61 : decode cX1_carry 61 = .ok (.aload_n 0, 1) := by decide +kernel
theorem dX1_carry_62 : decode cX1_carry 62 = .ok (.lload_n 3, 1) := by decide +kernel
theorem dX1_carry_63 : decode cX1_carry 63 = .ok (.ldc2_w 37, 3) := by decide +kernel
theorem dX1_carry_66 : decode cX1_carry 66 = .ok (.land, 1) := by decide +kernel
theorem dX1_carry_67 : decode cX1_carry 67 = .ok (.putfield 16, 3) := by decide +kernel
theorem dX1_carry_70 : decode cX1_carry 70 = .ok (.lload_n 3, 1) := by decide +kernel
theorem dX1_carry_71 : decode cX1_carry 71 = .ok (.bipush 29, 2) := by decide +kernel
theorem dX1_carry_73 : decode cX1_carry 73 = .ok (.lshr, 1) := by decide +kernel
theorem dX1_carry_74 : decode cX1_carry 74 = .ok (.aload_n 0, 1) := by decide +kernel
theorem dX1_carry_75 : decode cX1_carry 75 = .ok (.getfield 19, 3) := by decide +kernel
theorem dX1_carry_78 : decode cX1_carry 78 = .ok (.ladd, 1) := by decide +kernel
theorem dX1_carry_79 : decode cX1_carry 79 = .ok (.lstore_n 3, 1) := by decide +kernel
theorem dX1_carry_80 : decode cX1_carry 80 = .ok (.aload_n 0, 1) := by decide +kernel
theorem dX1_carry_81 : decode cX1_carry 81 = .ok (.lload_n 3, 1) := by decide +kernel
theorem dX1_carry_82 : decode cX1_carry 82 = .ok (.ldc2_w 37, 3) := by decide +kernel
theorem dX1_carry_85 : decode cX1_carry 85 = .ok (.land, 1) := by decide +kernel
theorem dX1_carry_86 : decode cX1_carry 86 = .ok (.putfield 19, 3) := by decide +kernel
theorem dX1_carry_89 : decode cX1_carry 89 = .ok (.lload_n 3, 1) := by decide +kernel
theorem dX1_carry_90 : decode cX1_carry 90 = .ok (.bipush 29, 2) := by decide +kernel
theorem dX1_carry_92 : decode cX1_carry 92 = .ok (.lshr, 1) := by decide +kernel
theorem dX1_carry_93 : decode cX1_carry 93 = .ok (.aload_n 0, 1) := by decide +kernel
theorem dX1_carry_94 : decode cX1_carry 94 = .ok (.getfield 22, 3) := by decide +kernel
theorem dX1_carry_97 : decode cX1_carry 97 = .ok (.ladd, 1) := by decide +kernel
theorem dX1_carry_98 : decode cX1_carry 98 = .ok (.lstore_n 3, 1) := by decide +kernel
theorem dX1_carry_99 : decode cX1_carry 99 = .ok (.aload_n 0, 1) := by decide +kernel
theorem dX1_carry_100 : decode cX1_carry 100 = .ok (.lload_n 3, 1) := by decide +kernel
theorem dX1_carry_101 : decode cX1_carry 101 = .ok (.ldc2_w 37, 3) := by decide +kernel
theorem dX1_carry_104 : decode cX1_carry 104 = .ok (.land, 1) := by decide +kernel
theorem dX1_carry_105 : decode cX1_carry 105 = .ok (.putfield 22, 3) := by decide +kernel
theorem dX1_carry_108 : decode cX1_carry 108 = .ok (.lload_n 3, 1) := by decide +kernel
theorem dX1_carry_109 : decode cX1_carry 109 = .ok (.bipush 29, 2) := by decide +kernel
theorem dX1_carry_111 : decode cX1_carry 111 = .ok (.lshr, 1) := by decide +kernel
theorem dX1_carry_112 : decode cX1_carry 112 = .ok (.aload_n 0, 1) := by decide +kernel
theorem dX1_carry_113 : decode cX1_carry 113 = .ok (.getfield 25, 3) := by decide +kernel
theorem dX1_carry_116 : decode cX1_carry 116 = .ok (.ladd, 1) := by decide +kernel
theorem dX1_carry_117 : decode cX1_carry 117 = .ok (.lstore_n 3, 1) := by decide +kernel
theorem dX1_carry_118 : decode cX1_carry 118 = .ok (.aload_n 0, 1) := by decide +kernel
theorem dX1_carry_119 : decode cX1_carry 119 = .ok (.lload_n 3, 1) := by decide +kernel
theorem dX1_carry_120 : decode cX1_carry 120 = .ok (.ldc2_w 37, 3) := by decide +kernel
theorem dX1_carry_123 : decode cX1_carry 123 = .ok (.land, 1) := by decide +kernel
theorem dX1_carry_124 : decode cX1_carry 124 = .ok (.putfield 25, 3) := by decide +kernel
theorem dX1_carry_127 : decode cX1_carry 127 = .ok (.lload_n 3, 1) := by decide +kernel
theorem dX1_carry_128 : decode cX1_carry 128 = .ok (.bipush 29, 2) := by decide +kernel
theorem dX1_carry_130 : decode cX1_carry 130 = .ok (.lshr, 1) := by decide +kernel
theorem dX1_carry_131 : decode cX1_carry 131 = .ok (.aload_n 0, 1) := by decide +kernel
theorem dX1_carry_132 : decode cX1_carry 132 = .ok (.getfield 28, 3) := by decide +kernel
theorem dX1_carry_135 : decode cX1_carry 135 = .ok (.ladd, 1) := by decide +kernel
theorem dX1_carry_136 : decode cX1_carry 136 = .ok (.lstore_n 3, 1) := by decide +kernel
theorem dX1_carry_137 : decode cX1_carry 137 = .ok (.aload_n 0, 1) := by decide +kernel
theorem dX1_carry_138 : decode cX1_carry 138 = .ok (.lload_n 3, 1) := by decide +kernel
theorem dX1_carry_139 : decode cX1_carry 139 = .ok (.ldc2_w 37, 3) := by decide +kernel
theorem dX1_carry_142 : decode cX1_carry 142 = .ok (.land, 1) := by decide +kernel
theorem dX1_carry_143 : decode cX1_carry 143 = .ok (.putfield 28, 3) := by decide +kernel
theorem dX1_carry_146 : decode cX1_carry 146 = .ok (.lload_n 3, 1) := by decide +kernel
theorem dX1_carry_147 : decode cX1_carry 147 = .ok (.bipush 29, 2) := by decide +kernel
theorem dX1_carry_149 : decode cX1_carry 149 = .ok (.lshr, 1) := by decide +kernel
theorem dX1_carry_150 : decode cX1_carry 150 = .ok (.aload_n 0, 1) := by decide +kernel
theorem dX1_carry_151 : decode cX1_carry 151 = .ok (.getfield 31, 3) := by decide +kernel
theorem dX1_carry_154 : decode cX1_carry 154 = .ok (.ladd, 1) := by decide +kernel
theorem dX1_carry_155 : decode cX1_carry 155 = .ok (.lstore_n 3, 1) := by decide +kernel
theorem dX1_carry_156 : decode cX1_carry 156 = .ok (.aload_n 0, 1) := by decide +kernel
theorem dX1_carry_157 : decode cX1_carry 157 = .ok (.lload_n 3, 1) := by decide +kernel
theorem dX1_carry_158 : decode cX1_carry 158 = .ok (.ldc2_w 37, 3) := by decide +kernel
theorem dX1_carry_161 : decode cX1_carry 161 = .ok (.land, 1) := by decide +kernel
theorem dX1_carry_162 : decode cX1_carry 162 = .ok (.putfield 31, 3) := by decide +kernel
theorem dX1_carry_165 : decode cX1_carry 165 = .ok (.aload_n 0, 1) := by decide +kernel
theorem dX1_carry_166 : decode cX1_carry 166 = .ok (.aload_n 0, 1) := by decide +kernel
theorem dX1_carry_167 : decode cX1_carry 167 = .ok (.getfield 34, 3) := by decide +kernel
theorem dX1_carry_170 : decode cX1_carry 170 = .ok (.ldc2_w 65, 3) := by decide +kernel
theorem dX1_carry_173 : decode cX1_carry 173 = .ok (.land, 1) := by decide +kernel
theorem dX1_carry_174 : decode cX1_carry 174 = .ok (.lload_n 3, 1) := by decide +kernel
theorem dX1_carry_175 : decode cX1_carry 175 = .ok (.bipush 29, 2) := by decide +kernel
theorem dX1_carry_177 : decode cX1_carry 177 = .ok (.lshr, 1) := by decide +kernel
theorem dX1_carry_178 : decode cX1_carry 178 = .ok (.ladd, 1) := by decide +kernel
theorem dX1_carry_179 : decode cX1_carry 179 = .ok (.putfield 34, 3) := by decide +kernel
theorem dX1_carry_182 : decode cX1_carry 182 = .ok (.return_, 1) := by decide +kernel
set_option maxRecDepth 20000 in
theorem ggX1_normalize_X1_carry : GoodIn wsX1_normalize wsX1_carry := goodIn_r _ [8, 9, 1, 10, 11, 2, 12, 13, 14, 15, 16, 17, 18, 27, 28, 29, 30, 31, 32, 33, 34, 35] rfl (by decide +kernel)
set_option maxRecDepth 20000 in
theorem gX1_normalize_X1_carry : GoodIn wsX1_normalize (wsV RX1 60 RX1 yX1_carry wsX1_carry) := goodIn_app (goodIn_of _ (by decide +kernel)) ggX1_normalize_X1_carry
set_option maxRecDepth 20000 in
theorem ggX1_normalize_X1_isBelowP : GoodIn wsX1_normalize wsX1_isBelowP := goodIn_r _ [22, 12, 13, 14, 15, 16, 17, 11, 9, 18, 1, 2, 3, 27, 28, 29, 30, 31, 32, 33, 34, 35] rfl (by decide +kernel)
set_option maxRecDepth 20000 in
theorem gX1_normalize_X1_isBelowP : GoodIn wsX1_normalize (wsV RX1 49 RX1 yX1_isBelowP wsX1_isBelowP) := goodIn_app (goodIn_of _ (by decide +kernel)) ggX1_normalize_X1_isBelowP
set_option maxRecDepth 20000 in
theorem ggX1_normalize_X1_becomeWords : GoodIn wsX1_normalize wsX1_becomeWords := goodIn_r _ [26, 11, 1, 2, 12, 13, 14, 15, 16, 17, 9, 27, 28, 29, 30, 31, 32, 33, 34, 35] rfl (by decide +kernel)
set_option maxRecDepth 20000 in
theorem gX1_normalize_X1_becomeWords : GoodIn wsX1_normalize (wsV RX1 45 RX1 yX1_becomeWords wsX1_becomeWords) := goodIn_app (goodIn_of _ (by decide +kernel)) ggX1_normalize_X1_becomeWords
theorem dX1_normalize_0 : decode cX1_normalize 0 = .ok (.aload_n 0, 1) := by decide +kernel
theorem dX1_normalize_1 : decode cX1_normalize 1 = .ok (.invokevirtual 60, 3) := by decide +kernel
theorem dX1_normalize_4 : decode cX1_normalize 4 = .ok (.aload_n 0, 1) := by decide +kernel
theorem dX1_normalize_5 : decode cX1_normalize 5 = .ok (.invokevirtual 60, 3) := by decide +kernel
theorem dX1_normalize_8 : decode cX1_normalize 8 = .ok (.aload_n 0, 1) := by decide +kernel
theorem dX1_normalize_9 : decode cX1_normalize 9 = .ok (.invokevirtual 49, 3) := by decide +kernel
theorem dX1_normalize_12 : decode cX1_normalize 12 = .ok (.ifCond .eq 4, 3) := by decide +kernel
theorem dX1_normalize_15 : decode cX1_normalize 15 = .ok (.return_, 1) := by decide +kernel
theorem dX1_normalize_16 : decode cX1_normalize 16 = .ok (.aload_n 0, 1) := by decide +kernel
theorem dX1_normalize_17 : decode cX1_normalize 17 = .ok (.getfield 7, 3) := by decide +kernel
theorem dX1_normalize_20 : decode cX1_normalize 20 = .ok (.aload_n 0, 1) := by decide +kernel
theorem dX1_normalize_21 : decode cX1_normalize 21 = .ok (.getfield 13, 3) := by decide +kernel
theorem dX1_normalize_24 : decode cX1_normalize 24 = .ok (.bipush 29, 2) := by decide +kernel
theorem dX1_normalize_26 : decode cX1_normalize 26 = .ok (.lshl, 1) := by decide +kernel
theorem dX1_normalize_27 : decode cX1_normalize 27 = .ok (.lor, 1) := by decide +kernel
theorem dX1_normalize_28 : decode cX1_normalize 28 = .ok (.ldc2_w 77, 3) := by decide +kernel
theorem dX1_normalize_31 : decode cX1_normalize 31 = .ok (.lsub, 1) := by decide +kernel
theorem dX1_normalize_32 : decode cX1_normalize 32 = .ok (.lstore_n 1, 1) := by decide +kernel
theorem dX1_normalize_33 : decode cX1_normalize 33 = .ok (.aload_n 0, 1) := by decide +kernel
theorem dX1_normalize_34 : decode cX1_normalize 34 = .ok (.lconst 0, 1) := by decide +kernel
theorem dX1_normalize_35 : decode cX1_normalize 35 = .ok (.lconst 0, 1) := by decide +kernel
theorem dX1_normalize_36 : decode cX1_normalize 36 = .ok (.lconst 0, 1) := by decide +kernel
theorem dX1_normalize_37 : decode cX1_normalize 37 = .ok (.lload_n 1, 1) := by decide +kernel
theorem dX1_normalize_38 : decode cX1_normalize 38 = .ok (.invokevirtual 45, 3) := by decide +kernel
theorem dX1_normalize_41 : decode cX1_normalize 41 = .ok (.return_, 1) := by decide +kernel
theorem dX1_isBelowP_0 : decode cX1_isBelowP 0 = .ok (.aload_n 0, 1) := by decide +kernel
theorem dX1_isBelowP_1 : decode cX1_isBelowP 1 = .ok (.getfield 16, 3) := by decide +kernel
theorem dX1_isBelowP_4 : decode cX1_isBelowP 4 = .ok (.aload_n 0, 1) := by decide +kernel
theorem dX1_isBelowP_5 : decode cX1_isBelowP 5 = .ok (.getfield 19, 3) := by decide +kernel
theorem dX1_isBelowP_8 : decode cX1_isBelowP 8 = .ok (.land, 1) := by decide +kernel
theorem dX1_isBelowP_9 : decode cX1_isBelowP 9 = .ok (.aload_n 0, 1) := by decide +kernel
theorem dX1_isBelowP_10 : decode cX1_isBelowP 10 = .ok (.getfield 22, 3) := by decide +kernel
theorem dX1_isBelowP_13 : decode cX1_isBelowP 13 = .ok (.land, 1) := by decide +kernel
theorem dX1_isBelowP_14 : decode cX1_isBelowP 14 = .ok (.aload_n 0, 1) := by decide +kernel
theorem dX1_isBelowP_15 : decode cX1_isBelowP 15 = .ok (.getfield 25, 3) := by decide +kernel
theorem dX1_isBelowP_18 : decode cX1_isBelowP 18 = .ok (.land, 1) := by decide +kernel
theorem dX1_isBelowP_19 : decode cX1_isBelowP 19 = .ok (.aload_n 0, 1) := by decide +kernel
theorem dX1_isBelowP_20 : decode cX1_isBelowP 20 = .ok (.getfield 28, 3) := by decide +kernel
theorem dX1_isBelowP_23 : decode cX1_isBelowP 23 = .ok (.land, 1) := by decide +kernel
theorem dX1_isBelowP_24 : decode cX1_isBelowP 24 = .ok (.aload_n 0, 1) := by decide +kernel
theorem dX1_isBelowP_25 : decode cX1_isBelowP 25 = .ok (.getfield 31, 3) := by decide +kernel
theorem dX1_isBelowP_28 : decode cX1_isBelowP 28 = .ok (.land, 1) := by decide +kernel
theorem dX1_isBelowP_29 : decode cX1_isBelowP 29 = .ok (.ldc2_w 37, 3) := by decide +kernel
theorem dX1_isBelowP_32 : decode cX1_isBelowP 32 = .ok (.lcmp, 1) := by decide +kernel
theorem dX1_isBelowP_33 : decode cX1_isBelowP 33 = .ok (.ifCond .ne 18, 3) := by decide +kernel
theorem dX1_isBelowP_36 : decode cX1_isBelowP 36 = .ok (.aload_n 0, 1) := by decide +kernel
theorem dX1_isBelowP_37 : decode cX1_isBelowP 37 = .ok (.getfield 34, 3) := by decide +kernel
theorem dX1_isBelowP_40 : decode cX1_isBelowP 40 = .ok (.ldc2_w 65, 3) := by decide +kernel
theorem dX1_isBelowP_43 : decode cX1_isBelowP 43 = .ok (.lcmp, 1) := by decide +kernel
theorem dX1_isBelowP_44 : decode cX1_isBelowP 44 = .ok (.ifCond .ne 7, 3) := by decide +kernel
theorem dX1_isBelowP_47 : decode cX1_isBelowP 47 = .ok (.iconst 1, 1) := by decide +kernel
theorem dX1_isBelowP_48 : decode cX1_isBelowP 48 = .ok (.goto 4, 3) := by decide +kernel
theorem dX1_isBelowP_51 : decode cX1_isBelowP 51 = .ok (.iconst 0, 1) := by decide +kernel
theorem dX1_isBelowP_52 : decode cX1_isBelowP 52 = .ok (.istore_n 1, 1) := by decide +kernel
theorem dX1_isBelowP_53 : decode cX1_isBelowP 53 = .ok (.iload_n 1, 1) := by decide +kernel
theorem dX1_isBelowP_54 : decode cX1_isBelowP 54 = .ok (.ifCond .eq 22, 3) := by decide +kernel
theorem dX1_isBelowP_57 : decode cX1_isBelowP 57 = .ok (.aload_n 0, 1) := by decide +kernel
theorem dX1_isBelowP_58 : decode cX1_isBelowP 58 = .ok (.getfield 7, 3) := by decide +kernel
theorem dX1_isBelowP_61 : decode cX1_isBelowP 61 = .ok (.aload_n 0, 1) := by decide +kernel
theorem dX1_isBelowP_62 : decode cX1_isBelowP 62 = .ok (.getfield 13, 3) := by decide +kernel
theorem dX1_isBelowP_65 : decode cX1_isBelowP 65 = .ok (.bipush 29, 2) := by decide +kernel
theorem dX1_isBelowP_67 : decode cX1_isBelowP 67 = .ok (.lshl, 1) := by decide +kernel
theorem dX1_isBelowP_68 : decode cX1_isBelowP 68 = .ok (.lor, 1) := by decide +kernel
theorem dX1_isBelowP_69 : decode cX1_isBelowP 69 = .ok (.ldc2_w 77, 3) := by decide +kernel
theorem dX1_isBelowP_72 : decode cX1_isBelowP 72 = .ok (.lcmp, 1) := by decide +kernel
theorem dX1_isBelowP_73 : decode cX1_isBelowP 73 = .ok (.ifCond .ge 7, 3) := by decide +kernel
theorem dX1_isBelowP_76 : decode cX1_isBelowP 76 = .ok (.iconst 1, 1) := by decide +kernel
theorem dX1_isBelowP_77 : decode cX1_isBelowP 77 = .ok (.goto 4, 3) := by decide +kernel
theorem dX1_isBelowP_80 : decode cX1_isBelowP 80 = .ok (.iconst 0, 1) := by decide +kernel
theorem dX1_isBelowP_81 : decode cX1_isBelowP 81 = .ok (.ireturn, 1) := by decide +kernel
