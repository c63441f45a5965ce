set_option maxRecDepth 20000 in
theorem ggX9_init_X0_init : GoodIn wsX9_init wsX0_init := goodIn_r _ [14, 15, 2, 3, 16, 17, 18, 19, 20, 21, 22, 27, 28] rfl (by decide +kernel)
set_option maxRecDepth 20000 in
theorem gX9_init_X0_init : GoodIn wsX9_init (wsX0_init) := ggX9_init_X0_init
theorem dX9_init_0 : decode cX9_init 0 = .ok (.aload_n 0, 1) := by decide +kernel
theorem dX9_init_1 : decode cX9_init 1 = .ok (.invokespecial 1, 3) := by decide +kernel
theorem dX9_init_4 : decode cX9_init 4 = .ok (.aload_n 0, 1) := by decide +kernel
theorem dX9_init_5 : decode cX9_init 5 = .ok (.bipush 8, 2) := by decide +kernel
theorem dX9_init_7 : decode cX9_init 7 = .ok (.newarray .int, 2) := by decide +kernel
theorem dX9_init_9 : decode cX9_init 9 = .ok (.putfield 7, 3) := by decide +kernel
theorem dX9_init_12 : decode cX9_init 12 = .ok (.aload_n 0, 1) := by decide +kernel
theorem dX9_init_13 : decode cX9_init 13 = .ok (.bipush 64, 2) := by decide +kernel
theorem dX9_init_15 : decode cX9_init 15 = .ok (.newarray .int, 2) := by decide +kernel
theorem dX9_init_17 : decode cX9_init 17 = .ok (.putfield 13, 3) := by decide +kernel
theorem dX9_init_20 : decode cX9_init 20 = .ok (.aload_n 0, 1) := by decide +kernel
theorem dX9_init_21 : decode cX9_init 21 = .ok (.new 16, 3) := by decide +kernel
theorem dX9_init_24 : decode cX9_init 24 = .ok (.dup, 1) := by decide +kernel
theorem dX9_init_25 : decode cX9_init 25 = .ok (.bipush 32, 2) := by decide +kernel
theorem dX9_init_27 : decode cX9_init 27 = .ok (.invokespecial 18, 3) := by decide +kernel
theorem dX9_init_30 : decode cX9_init 30 = .ok (.putfield 21, 3) := by decide +kernel
theorem dX9_init_33 : decode cX9_init 33 = .ok (.aload_n 0, 1) := by decide +kernel
theorem dX9_init_34 : decode cX9_init 34 = .ok (.lconst 0, 1) := by decide +kernel
theorem dX9_init_35 : decode cX9_init 35 = .ok (.putfield 25, 3) := by decide +kernel
theorem dX9_init_38 : decode cX9_init 38 = .ok (.return_, 1) := by decide +kernel
theorem dX9_tagName_0 : decode cX9_tagName 0 = .ok (.iload_n 0, 1) := by decide +kernel
theorem dX9_tagName_1 : decode cX9_tagName 1 = .ok (.tableswitch 71 0 7 #[47, 50, 53, 56, 59, 62, 65, 68], 47) := by decide +kernel
theorem dX9_tagName_48 : decode cX9_tagName 48 = .ok (.ldc 29, 2) := by decide +kernel
theorem dX9_tagName_50 : decode cX9_tagName 50 = .ok (.areturn, 1) := by decide +kernel
theorem dX9_tagName_51 : decode cX9_tagName 51 = .ok (.ldc 31, 2) := by decide +kernel
theorem dX9_tagName_53 : decode cX9_tagName 53 = .ok (.areturn, 1) := by decide +kernel
theorem dX9_tagName_54 : decode cX9_tagName 54 = .ok (.ldc 33, 2) := by decide +kernel
theorem dX9_tagName_56 : decode cX9_tagName 56 = .ok (.areturn, 1) := by decide +kernel
theorem dX9_tagName_57 : decode cX9_tagName 57 = .ok (.ldc 35, 2) := by decide +kernel
theorem dX9_tagName_59 : decode cX9_tagName 59 = .ok (.areturn, 1) := by decide +kernel
theorem dX9_tagName_60 : decode cX9_tagName 60 = .ok (.ldc 37, 2) := by decide +kernel
theorem dX9_tagName_62 : decode cX9_tagName 62 = .ok (.areturn, 1) := by decide +kernel
theorem dX9_tagName_63 : decode cX9_tagName 63 = .ok (.ldc 39, 2) := by decide +kernel
theorem dX9_tagName_65 : decode cX9_tagName 65 = .ok (.areturn, 1) := by decide +kernel
theorem dX9_tagName_66 : decode cX9_tagName 66 = .ok (.ldc 41, 2) := by decide +kernel
theorem dX9_tagName_68 : decode cX9_tagName 68 = .ok (.areturn, 1) := by decide +kernel
theorem dX9_tagName_69 : decode cX9_tagName 69 = .ok (.ldc 43, 2) := by decide +kernel
theorem dX9_tagName_71 : decode cX9_tagName 71 = .ok (.areturn, 1) := by decide +kernel
theorem dX9_tagName_72 : decode cX9_tagName 72 = .ok (.ldc 45, 2) := by decide +kernel
theorem dX9_tagName_74 : decode cX9_tagName 74 = .ok (.areturn, 1) := by decide +kernel
set_option maxRecDepth 20000 in
theorem ggX9_beginBy_X9_begin : GoodIn wsX9_beginBy wsX9_begin := goodIn_r _ [6, 7, 8, 9, 103, 104, 105, 106] rfl (by decide +kernel)
set_option maxRecDepth 20000 in
theorem gX9_beginBy_X9_begin : GoodIn wsX9_beginBy (wsV RX9 47 RX9 yX9_begin wsX9_begin) := goodIn_app (goodIn_of _ (by decide +kernel)) ggX9_beginBy_X9_begin
set_option maxRecDepth 20000 in
theorem ggX9_beginBy_X9_tagName : GoodIn wsX9_beginBy wsX9_tagName := goodIn_r _ [12] rfl (by decide +kernel)
set_option maxRecDepth 20000 in
theorem gX9_beginBy_X9_tagName : GoodIn wsX9_beginBy (va_wsS RX9 50 yX9_tagName wsX9_tagName) := goodIn_app (goodIn_of _ (by decide +kernel)) ggX9_beginBy_X9_tagName
set_option maxRecDepth 20000 in
theorem ggX9_beginBy_J0_length_8abf5 : GoodIn wsX9_beginBy wsJ0_length_8abf5 := goodIn_r _ [17, 18, 19, 20, 21, 16, 22, 23, 24] rfl (by decide +kernel)
set_option maxRecDepth 20000 in
theorem gX9_beginBy_J0_length_8abf5 : GoodIn wsX9_beginBy (wsV RX9 54 RJ0 yJ0_length_8abf5 wsJ0_length_8abf5) := goodIn_app (goodIn_of _ (by decide +kernel)) ggX9_beginBy_J0_length_8abf5
set_option maxRecDepth 20000 in
theorem ggX9_beginBy_J0_charAt_5068e : GoodIn wsX9_beginBy wsJ0_charAt_5068e := goodIn_r _ [28, 18, 29, 30, 31, 16, 32, 23, 24, 33, 34, 35, 36, 37, 38, 39, 40, 41, 42, 43, 44, 45, 46, 47, 48, 49, 50, 51, 52, 53, 54, 55, 56, 57, 58, 59, 60, 61] rfl (by decide +kernel)
set_option maxRecDepth 20000 in
theorem gX9_beginBy_J0_charAt_5068e : GoodIn wsX9_beginBy (wsV RX9 60 RJ0 yJ0_charAt_5068e wsJ0_charAt_5068e) := goodIn_app (goodIn_of _ (by decide +kernel)) ggX9_beginBy_J0_charAt_5068e
set_option maxRecDepth 20000 in
theorem ggX9_beginBy_X9_take : GoodIn wsX9_beginBy wsX9_take := goodIn_r _ [65, 7, 66, 67, 68, 69, 70, 5, 71, 8, 72, 103, 104, 105, 106] rfl (by decide +kernel)
set_option maxRecDepth 20000 in
theorem gX9_beginBy_X9_take : GoodIn wsX9_beginBy (wsV RX9 64 RX9 yX9_take wsX9_take) := goodIn_app (goodIn_of _ (by decide +kernel)) ggX9_beginBy_X9_take
set_option maxRecDepth 20000 in
theorem ggX9_beginBy_X9_finish : GoodIn wsX9_beginBy wsX9_finish := goodIn_r _ [76, 7, 77, 67, 78, 66, 8, 62, 63, 64, 5, 65, 68, 69, 70, 71, 72, 79, 80, 81, 82, 83, 84, 85, 86, 87, 88, 89, 90, 91, 92, 93, 103, 104, 105, 106, 107, 108] rfl (by decide +kernel)
set_option maxRecDepth 20000 in
theorem gX9_beginBy_X9_finish : GoodIn wsX9_beginBy (wsV RX9 67 RX9 yX9_finish wsX9_finish) := goodIn_app (goodIn_of _ (by decide +kernel)) ggX9_beginBy_X9_finish
set_option maxRecDepth 20000 in
theorem ggX9_beginBy_X9_takeAll : GoodIn wsX9_beginBy wsX9_takeAll := goodIn_r _ [97, 98, 99, 100, 101, 82, 102, 93, 62, 63, 64, 5, 65, 7, 66, 67, 68, 69, 70, 71, 8, 72, 107, 108, 103, 104, 105, 106] rfl (by decide +kernel)
set_option maxRecDepth 20000 in
theorem gX9_beginBy_X9_takeAll : GoodIn wsX9_beginBy (wsV RX9 71 RX9 yX9_takeAll wsX9_takeAll) := goodIn_app (goodIn_of _ (by decide +kernel)) ggX9_beginBy_X9_takeAll
theorem dX9_beginBy_0 : decode cX9_beginBy 0 = .ok (.aload_n 0, 1) := by decide +kernel
theorem dX9_beginBy_1 : decode cX9_beginBy 1 = .ok (.invokevirtual 47, 3) := by decide +kernel
theorem dX9_beginBy_4 : decode cX9_beginBy 4 = .ok (.iload_n 1, 1) := by decide +kernel
theorem dX9_beginBy_5 : decode cX9_beginBy 5 = .ok (.iconst (-1), 1) := by decide +kernel
theorem dX9_beginBy_6 : decode cX9_beginBy 6 = .ok (.if_icmp .ne 4, 3) := by decide +kernel
theorem dX9_beginBy_9 : decode cX9_beginBy 9 = .ok (.return_, 1) := by decide +kernel
theorem dX9_beginBy_10 : decode cX9_beginBy 10 = .ok (.iload_n 1, 1) := by decide +kernel
theorem dX9_beginBy_11 : decode cX9_beginBy 11 = .ok (.invokestatic 50, 3) := by decide +kernel
theorem dX9_beginBy_14 : decode cX9_beginBy 14 = .ok (.astore_n 2, 1) := by decide +kernel
theorem dX9_beginBy_15 : decode cX9_beginBy 15 = .ok (.iconst 0, 1) := by decide +kernel
theorem dX9_beginBy_16 : decode cX9_beginBy 16 = .ok (.istore_n 3, 1) := by decide +kernel
theorem dX9_beginBy_17 : decode cX9_beginBy 17 = .ok (.iload_n 3, 1) := by decide +kernel
theorem dX9_beginBy_18 : decode cX9_beginBy 18 = .ok (.aload_n 2, 1) := by decide +kernel
theorem dX9_beginBy_19 : decode cX9_beginBy 19 = .ok (.invokevirtual 54, 3) := by decide +kernel
theorem dX9_beginBy_22 : decode cX9_beginBy 22 = .ok (.if_icmp .ge 18, 3) := by decide +kernel
theorem dX9_beginBy_25 : decode cX9_beginBy 25 = .ok (.aload_n 0, 1) := by decide +kernel
theorem dX9_beginBy_26 : decode cX9_beginBy 26 = .ok (.aload_n 2, 1) := by decide +kernel
theorem dX9_beginBy_27 : decode cX9_beginBy 27 = .ok (.iload_n 3, 1) := by decide +kernel
theorem dX9_beginBy_28 : decode cX9_beginBy 28 = .ok (.invokevirtual 60, 3) := by decide +kernel
theorem dX9_beginBy_31 : decode cX9_beginBy 31 = .ok (.invokevirtual 64, 3) := by decide +kernel
theorem dX9_beginBy_34 : decode cX9_beginBy 34 = .ok (.iinc 3 1, 3) := by decide +kernel
theorem dX9_beginBy_37 : decode cX9_beginBy 37 = .ok (.goto (-20), 3) := by decide +kernel
theorem dX9_beginBy_40 : decode cX9_beginBy 40 = .ok (.aload_n 0, 1) := by decide +kernel
theorem dX9_beginBy_41 : decode cX9_beginBy 41 = .ok (.aload_n 0, 1) := by decide +kernel
theorem dX9_beginBy_42 : decode cX9_beginBy 42 = .ok (.getfield 21, 3) := by decide +kernel
theorem dX9_beginBy_45 : decode cX9_beginBy 45 = .ok (.invokevirtual 67, 3) := by decide +kernel
theorem dX9_beginBy_48 : decode cX9_beginBy 48 = .ok (.aload_n 0, 1) := by decide +kernel
theorem dX9_beginBy_49 : decode cX9_beginBy 49 = .ok (.invokevirtual 47, 3) := by decide +kernel
theorem dX9_beginBy_52 : decode cX9_beginBy 52 = .ok (.aload_n 0, 1) := by decide +kernel
theorem dX9_beginBy_53 : decode cX9_beginBy 53 = .ok (.aload_n 0, 1) := by decide +kernel
theorem dX9_beginBy_54 : decode cX9_beginBy 54 = .ok (.getfield 21, 3) := by decide +kernel
theorem dX9_beginBy_57 : decode cX9_beginBy 57 = .ok (.invokevirtual 71, 3) := by decide +kernel
theorem dX9_beginBy_60 : decode cX9_beginBy 60 = .ok (.aload_n 0, 1) := by decide +kernel
theorem dX9_beginBy_61 : decode cX9_beginBy 61 = .ok (.aload_n 0, 1) := by decide +kernel
theorem dX9_beginBy_62 : decode cX9_beginBy 62 = .ok (.getfield 21, 3) := by decide +kernel
theorem dX9_beginBy_65 : decode cX9_beginBy 65 = .ok (.invokevirtual 71, 3) := by decide +kernel
theorem dX9_beginBy_68 : decode cX9_beginBy 68 = .ok (.return_, 1) := by decide +kernel
theorem dX9_begin_0 : decode cX9_begin 0 = .ok (.aload_n 0, 1) := by decide +kernel
theorem dX9_begin_1 : decode cX9_begin 1 = .ok (.lconst 0, 1) := by decide +kernel
theorem dX9_begin_2 : decode cX9_begin 2 = .ok (.putfield 25, 3) := by decide +kernel
theorem dX9_begin_5 : decode cX9_begin 5 = .ok (.iconst 0, 1) := by decide +kernel
theorem dX9_begin_6 : decode cX9_begin 6 = .ok (.istore_n 1, 1) := by decide +kernel
theorem dX9_begin_7 : decode cX9_begin 7 = .ok (.iload_n 1, 1) := by decide +kernel
theorem dX9_begin_8 : decode cX9_begin 8 = .ok (.bipush 8, 2) := by decide +kernel
theorem dX9_begin_10 : decode cX9_begin 10 = .ok (.if_icmp .ge 20, 3) := by decide +kernel
theorem dX9_begin_13 : decode cX9_begin 13 = .ok (.aload_n 0, 1) := by decide +kernel
theorem dX9_begin_14 : decode cX9_begin 14 = .ok (.getfield 7, 3) := by decide +kernel
theorem dX9_begin_17 : decode cX9_begin 17 = .ok (.iload_n 1, 1) := by decide +kernel
theorem dX9_begin_18 : decode cX9_begin 18 = .ok (.getstatic 74, 3) := by decide +kernel
theorem dX9_begin_21 : decode cX9_begin 21 = .ok (.iload_n 1, 1) := by decide +kernel
theorem dX9_begin_22 : decode cX9_begin 22 = .ok (.iaload, 1) := by decide +kernel
theorem dX9_begin_23 : decode cX9_begin 23 = .ok (.iastore, 1) := by decide +kernel
theorem dX9_begin_24 : decode cX9_begin 24 = .ok (.iinc 1 1, 3) := by decide +kernel
theorem dX9_begin_27 : decode cX9_begin 27 = .ok (.goto (-20), 3) := by decide +kernel
theorem dX9_begin_30 : decode cX9_begin 30 = .ok (.return_, 1) := by decide +kernel
set_option maxRecDepth 20000 in
theorem ggX9_take_X9_stir : GoodIn wsX9_take wsX9_stir := goodIn_r _ [8, 2, 9, 10, 11, 12, 13, 14] rfl (by decide +kernel)
set_option maxRecDepth 20000 in
theorem gX9_take_X9_stir : GoodIn wsX9_take (wsV RX9 79 RX9 yX9_stir wsX9_stir) := goodIn_app (goodIn_of _ (by decide +kernel)) ggX9_take_X9_stir
theorem dX9_take_0 : decode cX9_take 0 = .ok (.aload_n 0, 1) := by decide +kernel
theorem dX9_take_1 : decode cX9_take 1 = .ok (.getfield 25, 3) := by decide +kernel
theorem dX9_take_4 : decode cX9_take 4 = .ok (.iconst 2, 1) := by decide +kernel
theorem dX9_take_5 : decode cX9_take 5 = .ok (.lushr, 1) := by decide +kernel
theorem dX9_take_6 : decode cX9_take 6 = .ok (.l2i, 1) := by decide +kernel
theorem dX9_take_7 : decode cX9_take 7 = .ok (.bipush 15, 2) := by decide +kernel
theorem dX9_take_9 : decode cX9_take 9 = .ok (.iand, 1) := by decide +kernel
theorem dX9_take_10 : decode cX9_take 10 = .ok (.istore_n 2, 1) := by decide +kernel
theorem dX9_take_11 : decode cX9_take 11 = .ok (.aload_n 0, 1) := by decide +kernel
theorem dX9_take_12 : decode cX9_take 12 = .ok (.getfield 13, 3) := by decide +kernel
theorem dX9_take_15 : decode cX9_take 15 = .ok (.iload_n 2, 1) := by decide +kernel
theorem dX9_take_16 : decode cX9_take 16 = .ok (.aload_n 0, 1) := by decide +kernel
theorem dX9_take_17 : decode cX9_take 17 = .ok (.getfield 13, 3) := by decide +kernel
theorem dX9_take_20 : decode cX9_take 20 = .ok (.iload_n 2, 1) := by decide +kernel
theorem dX9_take_21 : decode cX9_take 21 = .ok (.iaload, 1) := by decide +kernel
theorem dX9_take_22 : decode cX9_take 22 = .ok (.bipush 8, 2) := by decide +kernel
theorem dX9_take_24 : decode cX9_take 24 = .ok (.ishl, 1) := by decide +kernel
theorem dX9_take_25 : decode cX9_take 25 = .ok (.iload_n 1, 1) := by decide +kernel
theorem dX9_take_26 : decode cX9_take 26 = .ok (.sipush 255, 3) := by decide +kernel
theorem dX9_take_29 : decode cX9_take 29 = .ok (.iand, 1) := by decide +kernel
theorem dX9_take_30 : decode cX9_take 30 = .ok (.ior, 1) := by decide +kernel
theorem dX9_take_31 : decode cX9_take 31 = .ok (.iastore, 1) := by decide +kernel
theorem dX9_take_32 : decode cX9_take 32 = .ok (.aload_n 0, 1) := by decide +kernel
theorem dX9_take_33 : decode cX9_take 33 = .ok (.dup, 1) := by decide +kernel
theorem dX9_take_34 : decode cX9_take 34 = .ok (.getfield 25, 3) := by decide +kernel
theorem dX9_take_37 : decode cX9_take 37 = .ok (.lconst 1, 1) := by decide +kernel
theorem dX9_take_38 : decode cX9_take 38 = .ok (.ladd, 1) := by decide +kernel
theorem dX9_take_39 : decode cX9_take 39 = .ok (.putfield 25, 3) := by decide +kernel
theorem dX9_take_42 : decode cX9_take 42 = .ok (.aload_n 0, 1) := by decide +kernel
theorem dX9_take_43 : decode cX9_take 43 = .ok (.getfield 25, 3) := by decide +kernel
theorem dX9_take_46 : decode cX9_take 46 = .ok (.ldc2_w 77, 3) := by decide +kernel
theorem dX9_take_49 : decode cX9_take 49 = .ok (.land, 1) := by decide +kernel
theorem dX9_take_50 : decode cX9_take 50 = .ok (.lconst 0, 1) := by decide +kernel
theorem dX9_take_51 : decode cX9_take 51 = .ok (.lcmp, 1) := by decide +kernel
theorem dX9_take_52 : decode cX9_take 52 = .ok (.ifCond .ne 7, 3) := by decide +kernel
theorem dX9_take_55 : decode cX9_take 55 = .ok (.aload_n 0, 1) := by decide +kernel
theorem dX9_take_56 : decode cX9_take 56 = .ok (.invokevirtual 79, 3) := by decide +kernel
theorem dX9_take_59 : decode cX9_take 59 = .ok (.return_, 1) := by decide +kernel
set_option maxRecDepth 20000 in
theorem ggX9_takePart_X0_get : GoodIn wsX9_takePart wsX0_get := goodIn_r _ [5, 6, 21, 22] rfl (by decide +kernel)
set_option maxRecDepth 20000 in
theorem gX9_takePart_X0_get : GoodIn wsX9_takePart (wsV RX9 82 RX0 yX0_get wsX0_get) := goodIn_app (goodIn_of _ (by decide +kernel)) ggX9_takePart_X0_get
set_option maxRecDepth 20000 in
theorem ggX9_takePart_X9_take : GoodIn wsX9_takePart wsX9_take := goodIn_r _ [11, 12, 13, 14, 15, 16, 17, 10, 18, 19, 20, 23, 24, 25, 26] rfl (by decide +kernel)
set_option maxRecDepth 20000 in
theorem gX9_takePart_X9_take : GoodIn wsX9_takePart (wsV RX9 64 RX9 yX9_take wsX9_take) := goodIn_app (goodIn_of _ (by decide +kernel)) ggX9_takePart_X9_take
theorem dX9_takePart_0 : decode cX9_takePart 0 = .ok (.iconst 0, 1) := by decide +kernel
theorem dX9_takePart_1 : decode cX9_takePart 1 = .ok (.istore 4, 2) := by decide +kernel
theorem dX9_takePart_3 : decode cX9_takePart 3 = .ok (.iload 4, 2) := by decide +kernel
theorem dX9_takePart_5 : decode cX9_takePart 5 = .ok (.iload_n 3, 1) := by decide +kernel
theorem dX9_takePart_6 : decode cX9_takePart 6 = .ok (.if_icmp .ge 21, 3) := by decide +kernel
theorem dX9_takePart_9 : decode cX9_takePart 9 = .ok (.aload_n 0, 1) := by decide +kernel
theorem dX9_takePart_10 : decode cX9_takePart 10 = .ok (.aload_n 1, 1) := by decide +kernel
theorem dX9_takePart_11 : decode cX9_takePart 11 = .ok (.iload_n 2, 1) := by decide +kernel
theorem dX9_takePart_12 : decode cX9_takePart 12 = .ok (.iload 4, 2) := by decide +kernel
theorem dX9_takePart_14 : decode cX9_takePart 14 = .ok (.iadd, 1) := by decide +kernel
theorem dX9_takePart_15 : decode cX9_takePart 15 = .ok (.invokevirtual 82, 3) := by decide +kernel
theorem dX9_takePart_18 : decode cX9_takePart 18 = .ok (.invokevirtual 64, 3) := by decide +kernel
theorem dX9_takePart_21 : decode cX9_takePart 21 = .ok (.iinc 4 1, 3) := by decide +kernel
theorem dX9_takePart_24 : decode cX9_takePart 24 = .ok (.goto (-21), 3) := by decide +kernel
theorem dX9_takePart_27 : decode cX9_takePart 27 = .ok (.return_, 1) := by decide +kernel
set_option maxRecDepth 20000 in
theorem ggX9_takeAll_X0_get : GoodIn wsX9_takeAll wsX0_get := goodIn_r _ [6, 7, 22, 23] rfl (by decide +kernel)
set_option maxRecDepth 20000 in
theorem gX9_takeAll_X0_get : GoodIn wsX9_takeAll (wsV RX9 82 RX0 yX0_get wsX0_get) := goodIn_app (goodIn_of _ (by decide +kernel)) ggX9_takeAll_X0_get
set_option maxRecDepth 20000 in
theorem ggX9_takeAll_X9_take : GoodIn wsX9_takeAll wsX9_take := goodIn_r _ [12, 13, 14, 15, 16, 17, 18, 11, 19, 20, 21, 24, 25, 26, 27] rfl (by decide +kernel)
set_option maxRecDepth 20000 in
theorem gX9_takeAll_X9_take : GoodIn wsX9_takeAll (wsV RX9 64 RX9 yX9_take wsX9_take) := goodIn_app (goodIn_of _ (by decide +kernel)) ggX9_takeAll_X9_take
theorem dX9_takeAll_0 : decode cX9_takeAll 0 = .ok (.iconst 0, 1) := by decide +kernel
theorem dX9_takeAll_1 : decode cX9_takeAll 1 = .ok (.istore_n 2, 1) := by decide +kernel
theorem dX9_takeAll_2 : decode cX9_takeAll 2 = .ok (.iload_n 2, 1) := by decide +kernel
theorem dX9_takeAll_3 : decode cX9_takeAll 3 = .ok (.aload_n 1, 1) := by decide +kernel
theorem dX9_takeAll_4 : decode cX9_takeAll 4 = .ok (.getfield 86, 3) := by decide +kernel
theorem dX9_takeAll_7 : decode cX9_takeAll 7 = .ok (.if_icmp .ge 18, 3) := by decide +kernel
theorem dX9_takeAll_10 : decode cX9_takeAll 10 = .ok (.aload_n 0, 1) := by decide +kernel
theorem dX9_takeAll_11 : decode cX9_takeAll 11 = .ok (.aload_n 1, 1) := by decide +kernel
theorem dX9_takeAll_12 : decode cX9_takeAll 12 = .ok (.iload_n 2, 1) := by decide +kernel
theorem dX9_takeAll_13 : decode cX9_takeAll 13 = .ok (.invokevirtual 82, 3) := by decide +kernel
theorem dX9_takeAll_16 : decode cX9_takeAll 16 = .ok (.invokevirtual 64, 3) := by decide +kernel
theorem dX9_takeAll_19 : decode cX9_takeAll 19 = .ok (.iinc 2 1, 3) := by decide +kernel
theorem dX9_takeAll_22 : decode cX9_takeAll 22 = .ok (.goto (-20), 3) := by decide +kernel
theorem dX9_takeAll_25 : decode cX9_takeAll 25 = .ok (.return_, 1) := by decide +kernel
set_option maxRecDepth 20000 in
theorem ggX9_takeNumber_X9_take : GoodIn wsX9_takeNumber wsX9_take := goodIn_r _ [5, 6, 7, 8, 9, 10, 11, 4, 12, 13, 14, 15, 16, 17, 18] rfl (by decide +kernel)
set_option maxRecDepth 20000 in
theorem gX9_takeNumber_X9_take : GoodIn wsX9_takeNumber (wsV RX9 64 RX9 yX9_take wsX9_take) := goodIn_app (goodIn_of _ (by decide +kernel)) ggX9_takeNumber_X9_take
theorem dX9_takeNumber_0 : decode cX9_takeNumber 0 = .ok (.bipush 7, 2) := by decide +kernel
theorem dX9_takeNumber_2 : decode cX9_takeNumber 2 = .ok (.istore_n 3, 1) := by decide +kernel
theorem dX9_takeNumber_3 : decode cX9_takeNumber 3 = .ok (.iload_n 3, 1) := by decide +kernel
theorem dX9_takeNumber_4 : decode cX9_takeNumber 4 = .ok (.ifCond .lt 20, 3) := by decide +kernel
theorem dX9_takeNumber_7 : decode cX9_takeNumber 7 = .ok (.aload_n 0, 1) := by decide +kernel
theorem dX9_takeNumber_8 : decode cX9_takeNumber 8 = .ok (.lload_n 1, 1) := by decide +kernel
theorem dX9_takeNumber_9 : decode cX9_takeNumber 9 = .ok (.bipush 8, 2) := by decide +kernel
theorem dX9_takeNumber_11 : decode cX9_takeNumber 11 = .ok (.iload_n 3, 1) := by decide +kernel
theorem dX9_takeNumber_12 : decode cX9_takeNumber 12 = .ok (.imul, 1) := by decide +kernel
theorem dX9_takeNumber_13 : decode cX9_takeNumber 13 = .ok (.lushr, 1) := by decide +kernel
theorem dX9_takeNumber_14 : decode cX9_takeNumber 14 = .ok (.l2i, 1) := by decide +kernel
theorem dX9_takeNumber_15 : decode cX9_takeNumber 15 = .ok (.invokevirtual 64, 3) := by decide +kernel
theorem dX9_takeNumber_18 : decode cX9_takeNumber 18 = .ok (.iinc 3 (-1), 3) := by decide +kernel
theorem dX9_takeNumber_21 : decode cX9_takeNumber 21 = .ok (.goto (-18), 3) := by decide +kernel
theorem dX9_takeNumber_24 : decode cX9_takeNumber 24 = .ok (.return_, 1) := by decide +kernel
set_option maxRecDepth 20000 in
theorem ggX9_finish_X9_take : GoodIn wsX9_finish wsX9_take := goodIn_r _ [11, 1, 5, 3, 12, 13, 14, 10, 15, 6, 16, 32, 33, 34, 35] rfl (by decide +kernel)
set_option maxRecDepth 20000 in
theorem gX9_finish_X9_take : GoodIn wsX9_finish (wsV RX9 64 RX9 yX9_take wsX9_take) := goodIn_app (goodIn_of _ (by decide +kernel)) ggX9_finish_X9_take
set_option maxRecDepth 20000 in
theorem ggX9_finish_X9_stir : GoodIn wsX9_finish wsX9_stir := goodIn_r _ [15, 5, 6, 16, 32, 33, 34, 35] rfl (by decide +kernel)
set_option maxRecDepth 20000 in
theorem gX9_finish_X9_stir : GoodIn wsX9_finish (wsV RX9 79 RX9 yX9_stir wsX9_stir) := goodIn_app (goodIn_of _ (by decide +kernel)) ggX9_finish_X9_stir
set_option maxRecDepth 20000 in
theorem ggX9_finish_X0_empty : GoodIn wsX9_finish wsX0_empty := goodIn_r _ [21, 22, 36, 37] rfl (by decide +kernel)
set_option maxRecDepth 20000 in
theorem gX9_finish_X0_empty : GoodIn wsX9_finish (wsV RX9 93 RX0 yX0_empty wsX0_empty) := goodIn_app (goodIn_of _ (by decide +kernel)) ggX9_finish_X0_empty
set_option maxRecDepth 20000 in
theorem ggX9_finish_X0_addNumber : GoodIn wsX9_finish wsX0_addNumber := goodIn_r _ [26, 27, 28, 29, 20, 30, 22, 31, 36, 37] rfl (by decide +kernel)
set_option maxRecDepth 20000 in
theorem gX9_finish_X0_addNumber : GoodIn wsX9_finish (wsV RX9 96 RX0 yX0_addNumber wsX0_addNumber) := goodIn_app (goodIn_of _ (by decide +kernel)) ggX9_finish_X0_addNumber
theorem dX9_finish_0 : decode cX9_finish 0 = .ok (.aload_n 0, 1) := by decide +kernel
theorem dX9_finish_1 : decode cX9_finish 1 = .ok (.getfield 25, 3) := by decide +kernel
theorem dX9_finish_4 : decode cX9_finish 4 = .ok (.ldc2_w 89, 3) := by decide +kernel
theorem dX9_finish_7 : decode cX9_finish 7 = .ok (.lmul, 1) := by decide +kernel
theorem dX9_finish_8 : decode cX9_finish 8 = .ok (.lstore_n 2, 1) := by decide +kernel
theorem dX9_finish_9 : decode cX9_finish 9 = .ok (.aload_n 0, 1) := by decide +kernel
theorem dX9_finish_10 : decode cX9_finish 10 = .ok (.sipush 128, 3) := by decide +kernel
theorem dX9_finish_13 : decode cX9_finish 13 = .ok (.invokevirtual 64, 3) := by decide +kernel
theorem dX9_finish_16 : decode cX9_finish 16 = .ok (.iconst 0, 1) := by decide +kernel
theorem dX9_finish_17 : decode cX9_finish 17 = .ok (.istore 4, 2) := by decide +kernel
theorem dX9_finish_19 : decode cX9_finish 19 = .ok (.iload 4, 2) := by decide +kernel
theorem dX9_finish_21 : decode cX9_finish 21 = .ok (.bipush 64, 2) := by decide +kernel
theorem dX9_finish_23 : decode cX9_finish 23 = .ok (.if_icmp .ge 29, 3) := by decide +kernel
theorem dX9_finish_26 : decode cX9_finish 26 = .ok (.aload_n 0, 1) := by decide +kernel
theorem dX9_finish_27 : decode cX9_finish 27 = .ok (.getfield 25, 3) := by decide +kernel
theorem dX9_finish_30 : decode cX9_finish 30 = .ok (.ldc2_w 77, 3) := by decide +kernel
theorem dX9_finish_33 : decode cX9_finish 33 = .ok (.land, 1) := by decide +kernel
theorem dX9_finish_34 : decode cX9_finish 34 = .ok (.ldc2_w 91, 3) := by decide +kernel
theorem dX9_finish_37 : decode cX9_finish 37 = .ok (.lcmp, 1) := by decide +kernel
theorem dX9_finish_38 : decode cX9_finish 38 = .ok (.ifCond .eq 14, 3) := by decide +kernel
theorem dX9_finish_41 : decode cX9_finish 41 = .ok (.aload_n 0, 1) := by decide +kernel
theorem dX9_finish_42 : decode cX9_finish 42 = .ok (.iconst 0, 1) := by decide +kernel
theorem dX9_finish_43 : decode cX9_finish 43 = .ok (.invokevirtual 64, 3) := by decide +kernel
theorem dX9_finish_46 : decode cX9_finish 46 = .ok (.iinc 4 1, 3) := by decide +kernel
theorem dX9_finish_49 : decode cX9_finish 49 = .ok (.goto (-30), 3) := by decide +kernel
theorem dX9_finish_52 : decode cX9_finish 52 = .ok (.aload_n 0, 1) := by decide +kernel
theorem dX9_finish_53 : decode cX9_finish 53 = .ok (.getfield 13, 3) := by decide +kernel
theorem dX9_finish_56 : decode cX9_finish 56 = .ok (.bipush 14, 2) := by decide +kernel
theorem dX9_finish_58 : decode cX9_finish 58 = .ok (.lload_n 2, 1) := by decide +kernel
theorem dX9_finish_59 : decode cX9_finish 59 = .ok (.bipush 32, 2) := by decide +kernel
theorem dX9_finish_61 : decode cX9_finish 61 = .ok (.lushr, 1) := by decide +kernel
theorem dX9_finish_62 : decode cX9_finish 62 = .ok (.l2i, 1) := by decide +kernel
theorem dX9_finish_63 : decode cX9_finish 63 = .ok (.iastore, 1) := by decide +kernel
theorem dX9_finish_64 : decode cX9_finish 64 = .ok (.aload_n 0, 1) := by decide +kernel
theorem dX9_finish_65 : decode cX9_finish 65 = .ok (.getfield 13, 3) := by decide +kernel
theorem dX9_finish_68 : decode cX9_finish 68 = .ok (.bipush 15, 2) := by decide +kernel
theorem dX9_finish_70 : decode cX9_finish 70 = .ok (.lload_n 2, 1) := by decide +kernel
theorem dX9_finish_71 : decode cX9_finish 71 = .ok (.l2i, 1) := by decide +kernel
theorem dX9_finish_72 : decode cX9_finish 72 = .ok (.iastore, 1) := by decide +kernel
theorem dX9_finish_73 : decode cX9_finish 73 = .ok (.aload_n 0, 1) := by decide +kernel
theorem dX9_finish_74 : decode cX9_finish 74 = .ok (.invokevirtual 79, 3) := by decide +kernel
theorem dX9_finish_77 : decode cX9_finish 77 = .ok (.aload_n 1, 1) := by decide +kernel
theorem dX9_finish_78 : decode cX9_finish 78 = .ok (.invokevirtual 93, 3) := by decide +kernel
theorem dX9_finish_81 : decode cX9_finish 81 = .ok (.iconst 0, 1) := by decide +kernel
theorem dX9_finish_82 : decode cX9_finish 82 = .ok (.istore 4, 2) := by decide +kernel
theorem dX9_finish_84 : decode cX9_finish 84 = .ok (.iload 4, 2) := by decide +kernel
theorem dX9_finish_86 : decode cX9_finish 86 = .ok (.bipush 8, 2) := by decide +kernel
theorem dX9_finish_88 : decode cX9_finish 88 = .ok (.if_icmp .ge 22, 3) := by decide +kernel
theorem dX9_finish_91 : decode cX9_finish 91 = .ok (.aload_n 1, 1) := by decide +kernel
theorem dX9_finish_92 : decode cX9_finish 92 = .ok (.aload_n 0, 1) := by decide +kernel
theorem dX9_finish_93 : decode cX9_finish 93 = .ok (.getfield 7, 3) := by decide +kernel
theorem dX9_finish_96 : decode cX9_finish 96 = .ok (.iload 4, 2) := by decide +kernel
theorem dX9_finish_98 : decode cX9_finish 98 = .ok (.iaload, 1) := by decide +kernel
theorem dX9_finish_99 : decode cX9_finish 99 = .ok (.i2l, 1) := by decide +kernel
theorem dX9_finish_100 : decode cX9_finish 100 = .ok (.iconst 4, 1) := by decide +kernel
theorem dX9_finish_101 : decode cX9_finish 101 = .ok (.invokevirtual 96, 3) := by decide +kernel
theorem dX9_finish_104 : decode cX9_finish 104 = .ok (.iinc 4 1, 3) := by decide +kernel
theorem dX9_finish_107 : decode cX9_finish 107 = .ok (.goto (-23), 3) := by decide +kernel
theorem dX9_finish_110 : decode cX9_finish 110 = .ok (.return_, 1) := by decide +kernel
theorem dX9_stir_0 : decode cX9_stir 0 = .ok (.bipush 16, 2) := by decide +kernel
theorem dX9_stir_2 : decode cX9_stir 2 = .ok (.istore_n 1, 1) := by decide +kernel
theorem dX9_stir_3 : decode cX9_stir 3 = .ok (.iload_n 1, 1) := by decide +kernel
theorem dX9_stir_4 : decode cX9_stir 4 = .ok (.bipush 64, 2) := by decide +kernel
theorem dX9_stir_6 : decode cX9_stir 6 = .ok (.if_icmp .ge 110, 3) := by decide +kernel
theorem dX9_stir_9 : decode cX9_stir 9 = .ok (.aload_n 0, 1) := by decide +kernel
theorem dX9_stir_10 : decode cX9_stir 10 = .ok (.getfield 13, 3) := by decide +kernel
theorem dX9_stir_13 : decode cX9_stir 13 = .ok (.iload_n 1, 1) := by decide +kernel
theorem dX9_stir_14 : decode cX9_stir 14 = .ok (.bipush 15, 2) := by decide +kernel
theorem dX9_stir_16 : decode cX9_stir 16 = .ok (.isub, 1) := by decide +kernel
theorem dX9_stir_17 : decode cX9_stir 17 = .ok (.iaload, 1) := by decide +kernel
theorem dX9_stir_18 : decode cX9_stir 18 = .ok (.istore_n 2, 1) := by decide +kernel
theorem dX9_stir_19 : decode cX9_stir 19 = .ok (.aload_n 0, 1) := by decide +kernel
theorem dX9_stir_20 : decode cX9_stir 20 = .ok (.getfield 13, 3) := by decide +kernel
theorem dX9_stir_23 : decode cX9_stir 23 = .ok (.iload_n 1, 1) := by decide +kernel
theorem dX9_stir_24 : decode cX9_stir 24 = .ok (.iconst 2, 1) := by decide +kernel
theorem dX9_stir_25 : decode cX9_stir 25 = .ok (.isub, 1) := by decide +kernel
theorem dX9_stir_26 : decode cX9_stir 26 = .ok (.iaload, 1) := by decide +kernel
theorem dX9_stir_27 : decode cX9_stir 27 = .ok (.istore_n 3, 1) := by decide +kernel
theorem dX9_stir_28 : decode cX9_stir 28 = .ok (.iload_n 2, 1) := by decide +kernel
theorem dX9_stir_29 : decode cX9_stir 29 = .ok (.bipush 7, 2) := by decide +kernel
theorem dX9_stir_31 : decode cX9_stir 31 = .ok (.iushr, 1) := by decide +kernel
theorem dX9_stir_32 : decode cX9_stir 32 = .ok (.iload_n 2, 1) := by decide +kernel
theorem dX9_stir_33 : decode cX9_stir 33 = .ok (.bipush 25, 2) := by decide +kernel
theorem dX9_stir_35 : decode cX9_stir 35 = .ok (.ishl, 1) := by decide +kernel
theorem dX9_stir_36 : decode cX9_stir 36 = .ok (.ior, 1) := by decide +kernel
theorem dX9_stir_37 : decode cX9_stir 37 = .ok (.iload_n 2, 1) := by decide +kernel
theorem dX9_stir_38 : decode cX9_stir 38 = .ok (.bipush 18, 2) := by decide +kernel
theorem dX9_stir_40 : decode cX9_stir 40 = .ok (.iushr, 1) := by decide +kernel
theorem dX9_stir_41 : decode cX9_stir 41 = .ok (.iload_n 2, 1) := by decide +kernel
theorem dX9_stir_42 : decode cX9_stir 42 = .ok (.bipush 14, 2) := by decide +kernel
theorem dX9_stir_44 : decode cX9_stir 44 = .ok (.ishl, 1) := by decide +kernel
theorem dX9_stir_45 : decode cX9_stir 45 = .ok (.ior, 1) := by decide +kernel
theorem dX9_stir_46 : decode cX9_stir 46 = .ok (.ixor, 1) := by decide +kernel
theorem dX9_stir_47 : decode cX9_stir 47 = .ok (.iload_n 2, 1) := by decide +kernel
theorem dX9_stir_48 : decode cX9_stir 48 = .ok (.iconst 3, 1) := by decide +kernel
theorem dX9_stir_49 : decode cX9_stir 49 = .ok (.iushr, 1) := by decide +kernel
theorem dX9_stir_50 : decode cX9_stir 50 = .ok (.ixor, 1) := by decide +kernel
theorem dX9_stir_51 : decode cX9_stir 51 = .ok (.istore 4, 2) := by decide +kernel
theorem dX9_stir_53 : decode cX9_stir 53 = .ok (.iload_n 3, 1) := by decide +kernel
theorem dX9_stir_54 : decode cX9_stir 54 = .ok (.bipush 17, 2) := by decide +kernel
theorem dX9_stir_56 : decode cX9_stir 56 = .ok (.iushr, 1) := by decide +kernel
theorem dX9_stir_57 : decode cX9_stir 57 = .ok (.iload_n 3, 1) := by decide +kernel
theorem dX9_stir_58 : decode cX9_stir 58 = .ok (.bipush 15, 2) := by decide +kernel
theorem dX9_stir_60 : decode cX9_stir 60 = .ok (.ishl, 1) := by decide +kernel
theorem dX9_stir_61 : decode cX9_stir 61 = .ok (.ior, 1) := by decide +kernel
theorem dX9_stir_62 : decode cX9_stir 62 = .ok (.iload_n 3, 1) := by decide +kernel
theorem dX9_stir_63 : decode cX9_stir 63 = .ok (.bipush 19, 2) := by decide +kernel
theorem dX9_stir_65 : decode cX9_stir 65 = .ok (.iushr, 1) := by decide +kernel
theorem dX9_stir_66 : decode cX9_stir 66 = .ok (.iload_n 3, 1) := by decide +kernel
theorem dX9_stir_67 : decode cX9_stir 67 = .ok (.bipush 13, 2) := by decide +kernel
theorem dX9_stir_69 : decode cX9_stir 69 = .ok (.ishl, 1) := by decide +kernel
theorem dX9_stir_70 : decode cX9_stir 70 = .ok (.ior, 1) := by decide +kernel
theorem dX9_stir_71 : decode cX9_stir 71 = .ok (.ixor, 1) := by decide +kernel
theorem dX9_stir_72 : decode cX9_stir 72 = .ok (.iload_n 3, 1) := by decide +kernel
theorem dX9_stir_73 : decode cX9_stir 73 = .ok (.bipush 10, 2) := by decide +kernel
theorem dX9_stir_75 : decode cX9_stir 75 = .ok (.iushr, 1) := by decide +kernel
theorem dX9_stir_76 : decode cX9_stir 76 = .ok (.ixor, 1) := by decide +kernel
theorem dX9_stir_77 : decode cX9_stir 77 = .ok (.istore 5, 2) := by decide +kernel
theorem dX9_stir_79 : decode cX9_stir 79 = .ok (.aload_n 0, 1) := by decide +kernel
theorem dX9_stir_80 : decode cX9_stir 80 = .ok (.getfield 13, 3) := by decide +kernel
theorem dX9_stir_83 : decode cX9_stir 83 = .ok (.iload_n 1, 1) := by decide +kernel
theorem dX9_stir_84 : decode cX9_stir 84 = .ok (.aload_n 0, 1) := by decide +kernel
theorem dX9_stir_85 : decode cX9_stir 85 = .ok (.getfield 13, 3) := by decide +kernel
theorem dX9_stir_88 : decode cX9_stir 88 = .ok (.iload_n 1, 1) := by decide +kernel
theorem dX9_stir_89 : decode cX9_stir 89 = .ok (.bipush 16, 2) := by decide +kernel
theorem dX9_stir_91 : decode cX9_stir 91 = .ok (.isub, 1) := by decide +kernel
theorem dX9_stir_92 : decode cX9_stir 92 = .ok (.iaload, 1) := by decide +kernel
theorem dX9_stir_93 : decode cX9_stir 93 = .ok (.iload 4, 2) := by decide +kernel
theorem dX9_stir_95 : decode cX9_stir 95 = .ok (.iadd, 1) := by decide +kernel
theorem dX9_stir_96 : decode cX9_stir 96 = .ok (.aload_n 0, 1) := by decide +kernel
theorem dX9_stir_97 : decode cX9_stir 97 = .ok (.getfield 13, 3) := by decide +kernel
theorem dX9_stir_100 : decode cX9_stir 100 = .ok (.iload_n 1, 1) := by decide +kernel
theorem dX9_stir_101 : decode cX9_stir 101 = .ok (.bipush 7, 2) := by decide +kernel
theorem dX9_stir_103 : decode cX9_stir 103 = .ok (.isub, 1) := by decide +kernel
theorem dX9_stir_104 : decode cX9_stir 104 = .ok (.iaload, 1) := by decide +kernel
theorem dX9_stir_105 : decode cX9_stir 105 = .ok (.iadd, 1) := by decide +kernel
theorem dX9_stir_106 : decode cX9_stir 106 = .ok (.iload 5, 2) := by decide +kernel
theorem dX9_stir_108 : decode cX9_stir 108 = .ok (.iadd, 1) := by decide +kernel
theorem dX9_stir_109 : decode cX9_stir 109 = .ok (.iastore, 1) := by decide +kernel
theorem dX9_stir_110 : decode cX9_stir 110 = .ok (.iinc 1 1, 3) := by decide +kernel
theorem dX9_stir_113 : decode cX9_stir 113 = .ok (.goto (-110), 3) := by decide +kernel
theorem dX9_stir_116 : decode cX9_stir 116 = .ok (.aload_n 0, 1) := by decide +kernel
theorem dX9_stir_117 : decode cX9_stir 117 = .ok (.getfield 7, 3) := by decide +kernel
theorem dX9_stir_120 : decode cX9_stir 120 = .ok (.iconst 0, 1) := by decide +kernel
theorem dX9_stir_121 : decode cX9_stir 121 = .ok (.iaload, 1) := by decide +kernel
theorem dX9_stir_122 : decode cX9_stir 122 = .ok (.istore_n 1, 1) := by decide +kernel
theorem dX9_stir_123 : decode cX9_stir 123 = .ok (.aload_n 0, 1) := by decide +kernel
theorem dX9_stir_124 : decode cX9_stir 124 = .ok (.getfield 7, 3) := by decide +kernel
theorem dX9_stir_127 : decode cX9_stir 127 = .ok (.iconst 1, 1) := by decide +kernel
theorem dX9_stir_128 : decode cX9_stir 128 = .ok (.iaload, 1) := by decide +kernel
theorem dX9_stir_129 : decode cX9_stir 129 = .ok (.istore_n 2, 1) := by decide +kernel
theorem dX9_stir_130 : decode cX9_stir 130 = .ok (.aload_n 0, 1) := by decide +kernel
theorem dX9_stir_131 : decode cX9_stir 131 = .ok (.getfield 7, 3) := by decide +kernel
theorem dX9_stir_134 : decode cX9_stir 134 = .ok (.iconst 2, 1) := by decide +kernel
theorem dX9_stir_135 : decode cX9_stir 135 = .ok (.iaload, 1) := by decide +kernel
theorem dX9_stir_136 : decode cX9_stir 136 = .ok (.istore_n 3, 1) := by decide +kernel
theorem dX9_stir_137 : decode cX9_stir 137 = .ok (.aload_n 0, 1) := by decide +kernel
theorem dX9_stir_138 : decode cX9_stir 138 = .ok (.getfield 7, 3) := by decide +kernel
theorem dX9_stir_141 : decode cX9_stir 141 = .ok (.iconst 3, 1) := by decide +kernel
theorem dX9_stir_142 : decode cX9_stir 142 = .ok (.iaload, 1) := by decide +kernel
theorem dX9_stir_143 : decode cX9_stir 143 = .ok (.istore 4, 2) := by decide +kernel
theorem dX9_stir_145 : decode cX9_stir 145 = .ok (.aload_n 0, 1) := by decide +kernel
theorem dX9_stir_146 : decode cX9_stir 146 = .ok (.getfield 7, 3) := by decide +kernel
theorem dX9_stir_149 : decode cX9_stir 149 = .ok (.iconst 4, 1) := by decide +kernel
theorem dX9_stir_150 : decode cX9_stir 150 = .ok (.iaload, 1) := by decide +kernel
theorem dX9_stir_151 : decode cX9_stir 151 = .ok (.istore 5, 2) := by decide +kernel
theorem dX9_stir_153 : decode cX9_stir 153 = .ok (.aload_n 0, 1) := by decide +kernel
theorem dX9_stir_154 : decode cX9_stir 154 = .ok (.getfield 7, 3) := by decide +kernel
theorem dX9_stir_157 : decode cX9_stir 157 = .ok (.iconst 5, 1) := by decide +kernel
theorem dX9_stir_158 : decode cX9_stir 158 = .ok (.iaload, 1) := by decide +kernel
theorem dX9_stir_159 : decode cX9_stir 159 = .ok (.istore 6, 2) := by decide +kernel
theorem dX9_stir_161 : decode cX9_stir 161 = .ok (.aload_n 0, 1) := by decide +kernel
theorem dX9_stir_162 : decode cX9_stir 162 = .ok (.getfield 7, 3) := by decide +kernel
theorem dX9_stir_165 : decode cX9_stir 165 = .ok (.bipush 6, 2) := by decide +kernel
theorem dX9_stir_167 : decode cX9_stir 167 = .ok (.iaload, 1) := by decide +kernel
theorem dX9_stir_168 : decode cX9_stir 168 = .ok (.istore 7, 2) := by decide +kernel
theorem dX9_stir_170 : decode cX9_stir 170 = .ok (.aload_n 0, 1) := by decide +kernel
theorem dX9_stir_171 : decode cX9_stir 171 = .ok (.getfield 7, 3) := by decide +kernel
theorem dX9_stir_174 : decode cX9_stir 174 = .ok (.bipush 7, 2) := by decide +kernel
theorem dX9_stir_176 : decode cX9_stir 176 = .ok (.iaload, 1) := by decide +kernel
theorem dX9_stir_177 : decode cX9_stir 177 = .ok (.istore 8, 2) := by decide +kernel
theorem dX9_stir_179 : decode cX9_stir 179 = .ok (.iconst 0, 1) := by decide +kernel
theorem dX9_stir_180 : decode cX9_stir 180 = .ok (.istore 9, 2) := by decide +kernel
theorem dX9_stir_182 : decode cX9_stir 182 = .ok (.iload 9, 2) := by decide +kernel
theorem dX9_stir_184 : decode cX9_stir 184 = .ok (.bipush 64, 2) := by decide +kernel
theorem dX9_stir_186 : decode cX9_stir 186 = .ok (.if_icmp .ge 160, 3) := by decide +kernel
theorem dX9_stir_189 : decode cX9_stir 189 = .ok (.iload 5, 2) := by decide +kernel
theorem dX9_stir_191 : decode cX9_stir 191 = .ok (.bipush 6, 2) := by decide +kernel
theorem dX9_stir_193 : decode cX9_stir 193 = .ok (.iushr, 1) := by decide +kernel
theorem dX9_stir_194 : decode cX9_stir 194 = .ok (.iload 5, 2) := by decide +kernel
theorem dX9_stir_196 : decode cX9_stir 196 = .ok (.bipush 26, 2) := by decide +kernel
theorem dX9_stir_198 : decode cX9_stir 198 = .ok (.ishl, 1) := by decide +kernel
theorem dX9_stir_199 : decode cX9_stir 199 = .ok (.ior, 1) := by decide +kernel
theorem dX9_stir_200 : decode cX9_stir 200 = .ok (.iload 5, 2) := by decide +kernel
theorem dX9_stir_202 : decode cX9_stir 202 = .ok (.bipush 11, 2) := by decide +kernel
theorem dX9_stir_204 : decode cX9_stir 204 = .ok (.iushr, 1) := by decide +kernel
theorem dX9_stir_205 : decode cX9_stir 205 = .ok (.iload 5, 2) := by decide +kernel
theorem dX9_stir_207 : decode cX9_stir 207 = .ok (.bipush 21, 2) := by decide +kernel
theorem dX9_stir_209 : decode cX9_stir 209 = .ok (.ishl, 1) := by decide +kernel
theorem dX9_stir_210 : decode cX9_stir 210 = .ok (.ior, 1) := by decide +kernel
theorem dX9_stir_211 : decode cX9_stir 211 = .ok (.ixor, 1) := by decide +kernel
theorem dX9_stir_212 : decode cX9_stir 212 = .ok (.iload 5, 2) := by decide +kernel
theorem dX9_stir_214 : decode cX9_stir 214 = .ok (.bipush 25, 2) := by decide +kernel
theorem dX9_stir_216 : decode cX9_stir 216 = .ok (.iushr, 1) := by decide +kernel
theorem dX9_stir_217 : decode cX9_stir 217 = .ok (.iload 5, 2) := by decide +kernel
theorem dX9_stir_219 : decode cX9_stir 219 = .ok (.bipush 7, 2) := by decide +kernel
theorem dX9_stir_221 : decode cX9_stir 221 = .ok (.ishl, 1) := by decide +kernel
theorem dX9_stir_222 : decode cX9_stir 222 = .ok (.ior, 1) := by decide +kernel
theorem dX9_stir_223 : decode cX9_stir 223 = .ok (.ixor, 1) := by decide +kernel
theorem dX9_stir_224 : decode cX9_stir 224 = .ok (.istore 10, 2) := by decide +kernel
theorem dX9_stir_226 : decode cX9_stir 226 = .ok (.iload 8, 2) := by decide +kernel
theorem dX9_stir_228 : decode cX9_stir 228 = .ok (.iload 10, 2) := by decide +kernel
theorem dX9_stir_230 : decode cX9_stir 230 = .ok (.iadd, 1) := by decide +kernel
theorem dX9_stir_231 : decode cX9_stir 231 = .ok (.iload 5, 2) := by decide +kernel
theorem dX9_stir_233 : decode cX9_stir 233 = .ok (.iload 6, 2) := by decide +kernel
theorem dX9_stir_235 : decode cX9_stir 235 = .ok (.iand, 1) := by decide +kernel
theorem dX9_stir_236 : decode cX9_stir 236 = .ok (.iload 5, 2) := by decide +kernel
theorem dX9_stir_238 : decode cX9_stir 238 = .ok (.iconst (-1), 1) := by decide +kernel
theorem dX9_stir_239 : decode cX9_stir 239 = .ok (.ixor, 1) := by decide +kernel
theorem dX9_stir_240 : decode cX9_stir 240 = .ok (.iload 7, 2) := by decide +kernel
theorem dX9_stir_242 : decode cX9_stir 242 = .ok (.iand, 1) := by decide +kernel
theorem dX9_stir_243 : decode cX9_stir 243 = .ok (.ixor, 1) := by decide +kernel
theorem dX9_stir_244 : decode cX9_stir 244 = .ok (.iadd, 1) := by decide +kernel
theorem dX9_stir_245 : decode cX9_stir 245 = .ok (.getstatic 100, 3) := by decide +kernel
theorem dX9_stir_248 : decode cX9_stir 248 = .ok (.iload 9, 2) := by decide +kernel
theorem dX9_stir_250 : decode cX9_stir 250 = .ok (.iaload, 1) := by decide +kernel
theorem dX9_stir_251 : decode cX9_stir 251 = .ok (.iadd, 1) := by decide +kernel
theorem dX9_stir_252 : decode cX9_stir 252 = .ok (.aload_n 0, 1) := by decide +kernel
theorem dX9_stir_253 : decode cX9_stir 253 = .ok (.getfield 13, 3) := by decide +kernel
theorem dX9_stir_256 : decode cX9_stir 256 = .ok (.iload 9, 2) := by decide +kernel
theorem dX9_stir_258 : decode cX9_stir 258 = .ok (.iaload, 1) := by decide +kernel
theorem dX9_stir_259 : decode cX9_stir 259 = .ok (.iadd, 1) := by decide +kernel
theorem dX9_stir_260 : decode cX9_stir 260 = .ok (.istore 11, 2) := by decide +kernel
theorem dX9_stir_262 : decode cX9_stir 262 = .ok (.iload_n 1, 1) := by decide +kernel
theorem dX9_stir_263 : decode cX9_stir 263 = .ok (.iconst 2, 1) := by decide +kernel
theorem dX9_stir_264 : decode cX9_stir 264 = .ok (.iushr, 1) := by decide +kernel
theorem dX9_stir_265 : decode cX9_stir 265 = .ok (.iload_n 1, 1) := by decide +kernel
theorem dX9_stir_266 : decode cX9_stir 266 = .ok (.bipush 30, 2) := by decide +kernel
theorem dX9_stir_268 : decode cX9_stir 268 = .ok (.ishl, 1) := by decide +kernel
theorem dX9_stir_269 : decode cX9_stir 269 = .ok (.ior, 1) := by decide +kernel
theorem dX9_stir_270 : decode cX9_stir 270 = .ok (.iload_n 1, 1) := by decide +kernel
theorem dX9_stir_271 : decode cX9_stir 271 = .ok (.bipush 13, 2) := by decide +kernel
theorem dX9_stir_273 : decode cX9_stir 273 = .ok (.iushr, 1) := by decide +kernel
theorem dX9_stir_274 : decode cX9_stir 274 = .ok (.iload_n 1, 1) := by decide +kernel
theorem dX9_stir_275 : decode cX9_stir 275 = .ok (.bipush 19, 2) := by decide +kernel
theorem dX9_stir_277 : decode cX9_stir 277 = .ok (.ishl, 1) := by decide +kernel
theorem dX9_stir_278 : decode cX9_stir 278 = .ok (.ior, 1) := by decide +kernel
theorem dX9_stir_279 : decode cX9_stir 279 = .ok (.ixor, 1) := by decide +kernel
theorem dX9_stir_280 : decode cX9_stir 280 = .ok (.iload_n 1, 1) := by decide +kernel
theorem dX9_stir_281 : decode cX9_stir 281 = .ok (.bipush 22, 2) := by decide +kernel
theorem dX9_stir_283 : decode cX9_stir 283 = .ok (.iushr, 1) := by decide +kernel
theorem dX9_stir_284 : decode cX9_stir 284 = .ok (.iload_n 1, 1) := by decide +kernel
theorem dX9_stir_285 : decode cX9_stir 285 = .ok (.bipush 10, 2) := by decide +kernel
theorem dX9_stir_287 : decode cX9_stir 287 = .ok (.ishl, 1) := by decide +kernel
theorem dX9_stir_288 : decode cX9_stir 288 = .ok (.ior, 1) := by decide +kernel
theorem dX9_stir_289 : decode cX9_stir 289 = .ok (.ixor, 1) := by decide +kernel
theorem dX9_stir_290 : decode cX9_stir 290 = .ok (.istore 12, 2) := by decide +kernel
theorem dX9_stir_292 : decode cX9_stir 292 = .ok (.iload 12, 2) := by decide +kernel
theorem dX9_stir_294 : decode cX9_stir 294 = .ok (.iload_n 1, 1) := by decide +kernel
theorem dX9_stir_295 : decode cX9_stir 295 = .ok (.iload_n 2, 1) := by decide +kernel
theorem dX9_stir_296 : decode cX9_stir 296 = .ok (.iand, 1) := by decide +kernel
theorem dX9_stir_297 : decode cX9_stir 297 = .ok (.iload_n 1, 1) := by decide +kernel
theorem dX9_stir_298 : decode cX9_stir 298 = .ok (.iload_n 3, 1) := by decide +kernel
theorem dX9_stir_299 : decode cX9_stir 299 = .ok (.iand, 1) := by decide +kernel
theorem dX9_stir_300 : decode cX9_stir 300 = .ok (.ixor, 1) := by decide +kernel
theorem dX9_stir_301 : decode cX9_stir 301 = .ok (.iload_n 2, 1) := by decide +kernel
theorem dX9_stir_302 : decode cX9_stir 302 = .ok (.iload_n 3, 1) := by decide +kernel
theorem dX9_stir_303 : decode cX9_stir 303 = .ok (.iand, 1) := by decide +kernel
theorem dX9_stir_304 : decode cX9_stir 304 = .ok (.ixor, 1) := by decide +kernel
theorem dX9_stir_305 : decode cX9_stir 305 = .ok (.iadd, 1) := by decide +kernel
theorem dX9_stir_306 : decode cX9_stir 306 = .ok (.istore 13, 2) := by decide +kernel
theorem dX9_stir_308 : decode cX9_stir 308 = .ok (.iload 7, 2) := by decide +kernel
theorem dX9_stir_310 : decode cX9_stir 310 = .ok (.istore 8, 2) := by decide +kernel
theorem dX9_stir_312 : decode cX9_stir 312 = .ok (.iload 6, 2) := by decide +kernel
theorem dX9_stir_314 : decode cX9_stir 314 = .ok (.istore 7, 2) := by decide +kernel
theorem dX9_stir_316 : decode cX9_stir 316 = .ok (.iload 5, 2) := by decide +kernel
theorem dX9_stir_318 : decode cX9_stir 318 = .ok (.istore 6, 2) := by decide +kernel
theorem dX9_stir_320 : decode cX9_stir 320 = .ok (.iload 4, 2) := by decide +kernel
theorem dX9_stir_322 : decode cX9_stir 322 = .ok (.iload 11, 2) := by decide +kernel
theorem dX9_stir_324 : decode cX9_stir 324 = .ok (.iadd, 1) := by decide +kernel
theorem dX9_stir_325 : decode cX9_stir 325 = .ok (.istore 5, 2) := by decide +kernel
theorem dX9_stir_327 : decode cX9_stir 327 = .ok (.iload_n 3, 1) := by decide +kernel
theorem dX9_stir_328 : decode cX9_stir 328 = .ok (.istore 4, 2) := by decide +kernel
theorem dX9_stir_330 : decode cX9_stir 330 = .ok (.iload_n 2, 1) := by decide +kernel
theorem dX9_stir_331 : decode cX9_stir 331 = .ok (.istore_n 3, 1) := by decide +kernel
theorem dX9_stir_332 : decode cX9_stir 332 = .ok (.iload_n 1, 1) := by decide +kernel
theorem dX9_stir_333 : decode cX9_stir 333 = .ok (.istore_n 2, 1) := by decide +kernel
theorem dX9_stir_334 : decode cX9_stir 334 = .ok (.iload 11, 2) := by decide +kernel
theorem dX9_stir_336 : decode cX9_stir 336 = .ok (.iload 13, 2) := by decide +kernel
theorem dX9_stir_338 : decode cX9_stir 338 = .ok (.iadd, 1) := by decide +kernel
theorem dX9_stir_339 : decode cX9_stir 339 = .ok (.istore_n 1, 1) := by decide +kernel
theorem dX9_stir_340 : decode cX9_stir 340 = .ok (.iinc 9 1, 3) := by decide +kernel
theorem dX9_stir_343 : decode cX9_stir 343 = .ok (.goto (-161), 3) := by decide +kernel
theorem dX9_stir_346 : decode cX9_stir 346 = .ok (.aload_n 0, 1) := by decide +kernel
theorem dX9_stir_347 : decode cX9_stir 347 = .ok (.getfield 7, 3) := by decide +kernel
theorem dX9_stir_350 : decode cX9_stir 350 = .ok (.iconst 0, 1) := by decide +kernel
theorem dX9_stir_351 : decode cX9_stir 351 = .ok (.dup2, 1) := by decide +kernel
theorem dX9_stir_352 : decode cX9_stir 352 = .ok (.iaload, 1) := by decide +kernel
theorem dX9_stir_353 : decode cX9_stir 353 = .ok (.iload_n 1, 1) := by decide +kernel
theorem dX9_stir_354 : decode cX9_stir 354 = .ok (.iadd, 1) := by decide +kernel
theorem dX9_stir_355 : decode cX9_stir 355 = .ok (.iastore, 1) := by decide +kernel
theorem dX9_stir_356 : decode cX9_stir 356 = .ok (.aload_n 0, 1) := by decide +kernel
theorem dX9_stir_357 : decode cX9_stir 357 = .ok (.getfield 7, 3) := by decide +kernel
theorem dX9_stir_360 : decode cX9_stir 360 = .ok (.iconst 1, 1) := by decide +kernel
theorem dX9_stir_361 : decode cX9_stir 361 = .ok (.dup2, 1) := by decide +kernel
theorem dX9_stir_362 : decode cX9_stir 362 = .ok (.iaload, 1) := by decide +kernel
theorem dX9_stir_363 : decode cX9_stir 363 = .ok (.iload_n 2, 1) := by decide +kernel
theorem dX9_stir_364 : decode cX9_stir 364 = .ok (.iadd, 1) := by decide +kernel
theorem dX9_stir_365 : decode cX9_stir 365 = .ok (.iastore, 1) := by decide +kernel
theorem dX9_stir_366 : decode cX9_stir 366 = .ok (.aload_n 0, 1) := by decide +kernel
theorem dX9_stir_367 : decode cX9_stir 367 = .ok (.getfield 7, 3) := by decide +kernel
theorem dX9_stir_370 : decode cX9_stir 370 = .ok (.iconst 2, 1) := by decide +kernel
theorem dX9_stir_371 : decode cX9_stir 371 = .ok (.dup2, 1) := by decide +kernel
theorem dX9_stir_372 : decode cX9_stir 372 = .ok (.iaload, 1) := by decide +kernel
theorem dX9_stir_373 : decode cX9_stir 373 = .ok (.iload_n 3, 1) := by decide +kernel
theorem dX9_stir_374 : decode cX9_stir 374 = .ok (.iadd, 1) := by decide +kernel
theorem dX9_stir_375 : decode cX9_stir 375 = .ok (.iastore, 1) := by decide +kernel
theorem dX9_stir_376 : decode cX9_stir 376 = .ok (.aload_n 0, 1) := by decide +kernel
theorem dX9_stir_377 : decode cX9_stir 377 = .ok (.getfield 7, 3) := by decide +kernel
theorem dX9_stir_380 : decode cX9_stir 380 = .ok (.iconst 3, 1) := by decide +kernel
theorem dX9_stir_381 : decode cX9_stir 381 = .ok (.dup2, 1) := by decide +kernel
theorem dX9_stir_382 : decode cX9_stir 382 = .ok (.iaload, 1) := by decide +kernel
theorem dX9_stir_383 : decode cX9_stir 383 = .ok (.iload 4, 2) := by decide +kernel
theorem dX9_stir_385 : decode cX9_stir 385 = .ok (.iadd, 1) := by decide +kernel
theorem dX9_stir_386 : decode cX9_stir 386 = .ok (.iastore, 1) := by decide +kernel
theorem dX9_stir_387 : decode cX9_stir 387 = .ok (.aload_n 0, 1) := by decide +kernel
theorem dX9_stir_388 : decode cX9_stir 388 = .ok (.getfield 7, 3) := by decide +kernel
theorem dX9_stir_391 : decode cX9_stir 391 = .ok (.iconst 4, 1) := by decide +kernel
theorem dX9_stir_392 : decode cX9_stir 392 = .ok (.dup2, 1) := by decide +kernel
theorem dX9_stir_393 : decode cX9_stir 393 = .ok (.iaload, 1) := by decide +kernel
theorem dX9_stir_394 : decode cX9_stir 394 = .ok (.iload 5, 2) := by decide +kernel
theorem dX9_stir_396 : decode cX9_stir 396 = .ok (.iadd, 1) := by decide +kernel
theorem dX9_stir_397 : decode cX9_stir 397 = .ok (.iastore, 1) := by decide +kernel
theorem dX9_stir_398 : decode cX9_stir 398 = .ok (.aload_n 0, 1) := by decide +kernel
theorem dX9_stir_399 : decode cX9_stir 399 = .ok (.getfield 7, 3) := by decide +kernel
theorem dX9_stir_402 : decode cX9_stir 402 = .ok (.iconst 5, 1) := by decide +kernel
theorem dX9_stir_403 : decode cX9_stir 403 = .ok (.dup2, 1) := by decide +kernel
theorem dX9_stir_404 : decode cX9_stir 404 = .ok (.iaload, 1) := by decide +kernel
theorem dX9_stir_405 : decode cX9_stir 405 = .ok (.iload 6, 2) := by decide +kernel
theorem dX9_stir_407 : decode cX9_stir 407 = .ok (.iadd, 1) := by decide +kernel
theorem dX9_stir_408 : decode cX9_stir 408 = .ok (.iastore, 1) := by decide +kernel
theorem dX9_stir_409 : decode cX9_stir 409 = .ok (.aload_n 0, 1) := by decide +kernel
theorem dX9_stir_410 : decode cX9_stir 410 = .ok (.getfield 7, 3) := by decide +kernel
theorem dX9_stir_413 : decode cX9_stir 413 = .ok (.bipush 6, 2) := by decide +kernel
theorem dX9_stir_415 : decode cX9_stir 415 = .ok (.dup2, 1) := by decide +kernel
theorem dX9_stir_416 : decode cX9_stir 416 = .ok (.iaload, 1) := by decide +kernel
theorem dX9_stir_417 : decode cX9_stir 417 = .ok (.iload 7, 2) := by decide +kernel
theorem dX9_stir_419 : decode cX9_stir 419 = .ok (.iadd, 1) := by decide +kernel
theorem dX9_stir_420 : decode cX9_stir 420 = .ok (.iastore, 1) := by decide +kernel
theorem dX9_stir_421 : decode cX9_stir 421 = .ok (.aload_n 0, 1) := by decide +kernel
theorem dX9_stir_422 : decode cX9_stir 422 = .ok (.getfield 7, 3) := by decide +kernel
theorem dX9_stir_425 : decode cX9_stir 425 = .ok (.bipush 7, 2) := by decide +kernel
theorem dX9_stir_427 : decode cX9_stir 427 = .ok (.dup2, 1) := by decide +kernel
theorem dX9_stir_428 : decode cX9_stir 428 = .ok (.iaload, 1) := by decide +kernel
theorem dX9_stir_429 : decode cX9_stir 429 = .ok (.iload 8, 2) := by decide +kernel
theorem dX9_stir_431 : decode cX9_stir 431 = .ok (.iadd, 1) := by decide +kernel
theorem dX9_stir_432 : decode cX9_stir 432 = .ok (.iastore, 1) := by decide +kernel
theorem dX9_stir_433 : decode cX9_stir 433 = .ok (.return_, 1) := by decide +kernel
