set_option maxRecDepth 20000 in
theorem ggX3_init_X0_init : GoodIn wsX3_init wsX0_init := goodIn_r _ [11, 12, 2, 3, 8, 13, 14, 15, 16, 17] (by decide +kernel) (by decide +kernel)
set_option maxRecDepth 20000 in
theorem gX3_init_X0_init_n11 : GoodIn wsX3_init (wsX0_init) := ggX3_init_X0_init
theorem dX3_init_0 : decode cX3_init 0 = .ok (.aload_n 0, 1) := by decide +kernel
theorem dX3_init_1 : decode cX3_init 1 = .ok (.invokespecial 3, 3) := by decide +kernel
theorem dX3_init_4 : decode cX3_init 4 = .ok (.aload_n 0, 1) := by decide +kernel
theorem dX3_init_5 : decode cX3_init 5 = .ok (.new 9, 3) := by decide +kernel
theorem dX3_init_8 : decode cX3_init 8 = .ok (.dup, 1) := by decide +kernel
theorem dX3_init_9 : decode cX3_init 9 = .ok (.invokespecial 11, 3) := by decide +kernel
theorem dX3_init_12 : decode cX3_init 12 = .ok (.putfield 12, 3) := by decide +kernel
theorem dX3_init_15 : decode cX3_init 15 = .ok (.aload_n 0, 1) := by decide +kernel
theorem dX3_init_16 : decode cX3_init 16 = .ok (.bipush 81, 2) := by decide +kernel
theorem dX3_init_18 : decode cX3_init 18 = .ok (.newarray .int, 2) := by decide +kernel
theorem dX3_init_20 : decode cX3_init 20 = .ok (.putfield 18, 3) := by decide +kernel
theorem dX3_init_23 : decode cX3_init 23 = .ok (.return_, 1) := by decide +kernel
set_option maxRecDepth 20000 in
theorem ggX3_seek_X0_measure : GoodIn wsX3_seek wsX0_measure := goodIn_r _ [7, 8, 9, 10, 11, 12, 13, 14, 15, 16, 17, 18, 19, 20, 21, 22, 23, 24, 25, 26, 27, 28, 29, 30, 31, 32, 33, 34, 35, 36, 37, 38, 39, 6, 40, 41, 42, 43, 44, 57, 58, 59, 60, 61, 62, 63, 64, 65, 66, 67] (by decide +kernel) (by decide +kernel)
set_option maxRecDepth 20000 in
theorem gX3_seek_X0_measure : GoodIn wsX3_seek (wsV RX3 26 RX0 yX0_measure wsX0_measure) := goodIn_app (goodIn_of _ (by decide +kernel)) ggX3_seek_X0_measure
set_option maxRecDepth 20000 in
theorem ggX3_seek_X2_size : GoodIn wsX3_seek wsX2_size := goodIn_r _ [14, 15, 60, 61] (by decide +kernel) (by decide +kernel)
set_option maxRecDepth 20000 in
theorem gX3_seek_X2_size_u30X2 : GoodIn wsX3_seek (va_wsU RX3 30 RX2 "Sashwords$Text" ⟨"Sashwords$Text", "size", "()I"⟩ yX2_size wsX2_size) := goodIn_app (goodIn_of _ (by decide +kernel)) ggX3_seek_X2_size
set_option maxRecDepth 20000 in
theorem ggX3_seek_X5_size : GoodIn wsX3_seek wsX5_size := goodIn_r _ [19, 20, 21, 62, 63, 64, 65, 66, 67] (by decide +kernel) (by decide +kernel)
set_option maxRecDepth 20000 in
theorem gX3_seek_X5_size_u30X5 : GoodIn wsX3_seek (va_wsU RX3 30 RX5 "Sashwords$Text" ⟨"Sashwords$Text", "size", "()I"⟩ yX5_size wsX5_size) := goodIn_app (goodIn_of _ (by decide +kernel)) ggX3_seek_X5_size
set_option maxRecDepth 20000 in
theorem ggX3_seek_X3_note : GoodIn wsX3_seek wsX3_note := goodIn_r _ [50, 1, 51, 54, 55, 56] (by decide +kernel) (by decide +kernel)
set_option maxRecDepth 20000 in
theorem gX3_seek_X3_note : GoodIn wsX3_seek (wsV RX3 36 RX3 yX3_note wsX3_note) := goodIn_app (goodIn_of _ (by decide +kernel)) ggX3_seek_X3_note
set_option maxRecDepth 20000 in
theorem ggX3_seek_X2_at : GoodIn wsX3_seek wsX2_at := goodIn_r _ [26, 15, 27, 60, 61] (by decide +kernel) (by decide +kernel)
set_option maxRecDepth 20000 in
theorem gX3_seek_X2_at_u40X2 : GoodIn wsX3_seek (va_wsU RX3 40 RX2 "Sashwords$Text" ⟨"Sashwords$Text", "at", "(I)I"⟩ yX2_at wsX2_at) := goodIn_app (goodIn_of _ (by decide +kernel)) ggX3_seek_X2_at
set_option maxRecDepth 20000 in
theorem ggX3_seek_X5_at : GoodIn wsX3_seek wsX5_at := goodIn_r _ [30, 20, 21, 31, 32, 33, 18, 34, 35, 36, 62, 63, 64, 65, 66, 67] (by decide +kernel) (by decide +kernel)
set_option maxRecDepth 20000 in
theorem gX3_seek_X5_at_u40X5 : GoodIn wsX3_seek (va_wsU RX3 40 RX5 "Sashwords$Text" ⟨"Sashwords$Text", "at", "(I)I"⟩ yX5_at wsX5_at) := goodIn_app (goodIn_of _ (by decide +kernel)) ggX3_seek_X5_at
set_option maxRecDepth 20000 in
theorem ggX3_seek_X0_grown : GoodIn wsX3_seek wsX0_grown := goodIn_r _ [40, 22, 23, 24, 25, 13, 26, 15, 27, 28, 29, 18, 30, 20, 21, 31, 32, 33, 34, 35, 36, 41, 42, 43, 6, 44, 8, 60, 61, 62, 63, 64, 65, 66, 67, 57, 58, 59] (by decide +kernel) (by decide +kernel)
set_option maxRecDepth 20000 in
theorem gX3_seek_X0_grown : GoodIn wsX3_seek (wsV RX3 44 RX0 yX0_grown wsX0_grown) := goodIn_app (goodIn_of _ (by decide +kernel)) ggX3_seek_X0_grown
theorem dX3_seek_0 : decode cX3_seek 0 = .ok (.aload_n 0, 1) := by decide +kernel
theorem dX3_seek_1 : decode cX3_seek 1 = .ok (.iconst 0, 1) := by decide +kernel
theorem dX3_seek_2 : decode cX3_seek 2 = .ok (.putfield 22, 3) := by decide +kernel
theorem dX3_seek_5 : decode cX3_seek 5 = .ok (.aload_n 0, 1) := by decide +kernel
theorem dX3_seek_6 : decode cX3_seek 6 = .ok (.getfield 12, 3) := by decide +kernel
theorem dX3_seek_9 : decode cX3_seek 9 = .ok (.aload_n 2, 1) := by decide +kernel
theorem dX3_seek_10 : decode cX3_seek 10 = .ok (.invokevirtual 26, 3) := by decide +kernel
theorem dX3_seek_13 : decode cX3_seek 13 = .ok (.aload_n 2, 1) := by decide +kernel
theorem dX3_seek_14 : decode cX3_seek 14 = .ok (.invokevirtual 30, 3) := by decide +kernel
theorem dX3_seek_17 : decode cX3_seek 17 = .ok (.istore_n 3, 1) := by decide +kernel
theorem dX3_seek_18 : decode cX3_seek 18 = .ok (.iload_n 3, 1) := by decide +kernel
theorem dX3_seek_19 : decode cX3_seek 19 = .ok (.ifCond .ne 8, 3) := by decide +kernel
theorem dX3_seek_22 : decode cX3_seek 22 = .ok (.aload_n 0, 1) := by decide +kernel
theorem dX3_seek_23 : decode cX3_seek 23 = .ok (.iconst 0, 1) := by decide +kernel
theorem dX3_seek_24 : decode cX3_seek 24 = .ok (.invokevirtual 36, 3) := by decide +kernel
theorem dX3_seek_27 : decode cX3_seek 27 = .ok (.iconst 0, 1) := by decide +kernel
theorem dX3_seek_28 : decode cX3_seek 28 = .ok (.istore 4, 2) := by decide +kernel
theorem dX3_seek_30 : decode cX3_seek 30 = .ok (.iconst 0, 1) := by decide +kernel
theorem dX3_seek_31 : decode cX3_seek 31 = .ok (.istore 5, 2) := by decide +kernel
theorem dX3_seek_33 : decode cX3_seek 33 = .ok (.iload 5, 2) := by decide +kernel
theorem dX3_seek_35 : decode cX3_seek 35 = .ok (.aload_n 1, 1) := by decide +kernel
theorem dX3_seek_36 : decode cX3_seek 36 = .ok (.invokevirtual 30, 3) := by decide +kernel
theorem dX3_seek_39 : decode cX3_seek 39 = .ok (.if_icmp .ge 43, 3) := by decide +kernel
theorem dX3_seek_42 : decode cX3_seek 42 = .ok (.aload_n 0, 1) := by decide +kernel
theorem dX3_seek_43 : decode cX3_seek 43 = .ok (.getfield 12, 3) := by decide +kernel
theorem dX3_seek_46 : decode cX3_seek 46 = .ok (.aload_n 2, 1) := by decide +kernel
theorem dX3_seek_47 : decode cX3_seek 47 = .ok (.iload 4, 2) := by decide +kernel
theorem dX3_seek_49 : decode cX3_seek 49 = .ok (.aload_n 1, 1) := by decide +kernel
theorem dX3_seek_50 : decode cX3_seek 50 = .ok (.iload 5, 2) := by decide +kernel
theorem dX3_seek_52 : decode cX3_seek 52 = .ok (.invokevirtual 40, 3) := by decide +kernel
theorem dX3_seek_55 : decode cX3_seek 55 = .ok (.invokevirtual 44, 3) := by decide +kernel
theorem dX3_seek_58 : decode cX3_seek 58 = .ok (.istore 4, 2) := by decide +kernel
theorem dX3_seek_60 : decode cX3_seek 60 = .ok (.iload 4, 2) := by decide +kernel
theorem dX3_seek_62 : decode cX3_seek 62 = .ok (.iload_n 3, 1) := by decide +kernel
theorem dX3_seek_63 : decode cX3_seek 63 = .ok (.if_icmp .ne 13, 3) := by decide +kernel
theorem dX3_seek_66 : decode cX3_seek 66 = .ok (.aload_n 0, 1) := by decide +kernel
theorem dX3_seek_67 : decode cX3_seek 67 = .ok (.iload 5, 2) := by decide +kernel
theorem dX3_seek_69 : decode cX3_seek 69 = .ok (.iconst 1, 1) := by decide +kernel
theorem dX3_seek_70 : decode cX3_seek 70 = .ok (.iadd, 1) := by decide +kernel
theorem dX3_seek_71 : decode cX3_seek 71 = .ok (.iload_n 3, 1) := by decide +kernel
theorem dX3_seek_72 : decode cX3_seek 72 = .ok (.isub, 1) := by decide +kernel
theorem dX3_seek_73 : decode cX3_seek 73 = .ok (.invokevirtual 36, 3) := by decide +kernel
theorem dX3_seek_76 : decode cX3_seek 76 = .ok (.iinc 5 1, 3) := by decide +kernel
theorem dX3_seek_79 : decode cX3_seek 79 = .ok (.goto (-46), 3) := by decide +kernel
theorem dX3_seek_82 : decode cX3_seek 82 = .ok (.return_, 1) := by decide +kernel
theorem dX3_foundAt_0 : decode cX3_foundAt 0 = .ok (.iload_n 1, 1) := by decide +kernel
theorem dX3_foundAt_1 : decode cX3_foundAt 1 = .ok (.ifCond .lt 20, 3) := by decide +kernel
theorem dX3_foundAt_4 : decode cX3_foundAt 4 = .ok (.iload_n 1, 1) := by decide +kernel
theorem dX3_foundAt_5 : decode cX3_foundAt 5 = .ok (.aload_n 0, 1) := by decide +kernel
theorem dX3_foundAt_6 : decode cX3_foundAt 6 = .ok (.getfield 22, 3) := by decide +kernel
theorem dX3_foundAt_9 : decode cX3_foundAt 9 = .ok (.if_icmp .ge 12, 3) := by decide +kernel
theorem dX3_foundAt_12 : decode cX3_foundAt 12 = .ok (.iload_n 1, 1) := by decide +kernel
theorem dX3_foundAt_13 : decode cX3_foundAt 13 = .ok (.aload_n 0, 1) := by decide +kernel
theorem dX3_foundAt_14 : decode cX3_foundAt 14 = .ok (.getfield 18, 3) := by decide +kernel
theorem dX3_foundAt_17 : decode cX3_foundAt 17 = .ok (.arraylength, 1) := by decide +kernel
theorem dX3_foundAt_18 : decode cX3_foundAt 18 = .ok (.if_icmp .lt 7, 3) := by decide +kernel
theorem dX3_foundAt_21 : decode cX3_foundAt 21 = .ok (.iconst (-1), 1) := by decide +kernel
theorem dX3_foundAt_22 : decode cX3_foundAt 22 = .ok (.goto 9, 3) := by decide +kernel
theorem dX3_foundAt_25 : decode cX3_foundAt 25 = .ok (.aload_n 0, 1) := by decide +kernel
theorem dX3_foundAt_26 : decode cX3_foundAt 26 = .ok (.getfield 18, 3) := by decide +kernel
theorem dX3_foundAt_29 : decode cX3_foundAt 29 = .ok (.iload_n 1, 1) := by decide +kernel
theorem dX3_foundAt_30 : decode cX3_foundAt 30 = .ok (.iaload, 1) := by decide +kernel
theorem dX3_foundAt_31 : decode cX3_foundAt 31 = .ok (.ireturn, 1) := by decide +kernel
theorem dX3_note_0 : decode cX3_note 0 = .ok (.aload_n 0, 1) := by decide +kernel
theorem dX3_note_1 : decode cX3_note 1 = .ok (.getfield 22, 3) := by decide +kernel
theorem dX3_note_4 : decode cX3_note 4 = .ok (.ifCond .lt 35, 3) := by decide +kernel
theorem dX3_note_7 : decode cX3_note 7 = .ok (.aload_n 0, 1) := by decide +kernel
theorem dX3_note_8 : decode cX3_note 8 = .ok (.getfield 22, 3) := by decide +kernel
theorem dX3_note_11 : decode cX3_note 11 = .ok (.aload_n 0, 1) := by decide +kernel
theorem dX3_note_12 : decode cX3_note 12 = .ok (.getfield 18, 3) := by decide +kernel
theorem dX3_note_15 : decode cX3_note 15 = .ok (.arraylength, 1) := by decide +kernel
theorem dX3_note_16 : decode cX3_note 16 = .ok (.if_icmp .ge 23, 3) := by decide +kernel
theorem dX3_note_19 : decode cX3_note 19 = .ok (.aload_n 0, 1) := by decide +kernel
theorem dX3_note_20 : decode cX3_note 20 = .ok (.getfield 18, 3) := by decide +kernel
theorem dX3_note_23 : decode cX3_note 23 = .ok (.aload_n 0, 1) := by decide +kernel
theorem dX3_note_24 : decode cX3_note 24 = .ok (.getfield 22, 3) := by decide +kernel
theorem dX3_note_27 : decode cX3_note 27 = .ok (.iload_n 1, 1) := by decide +kernel
theorem dX3_note_28 : decode cX3_note 28 = .ok (.iastore, 1) := by decide +kernel
theorem dX3_note_29 : decode cX3_note 29 = .ok (.aload_n 0, 1) := by decide +kernel
theorem dX3_note_30 : decode cX3_note 30 = .ok (.dup, 1) := by decide +kernel
theorem dX3_note_31 : decode cX3_note 31 = .ok (.getfield 22, 3) := by decide +kernel
theorem dX3_note_34 : decode cX3_note 34 = .ok (.iconst 1, 1) := by decide +kernel
theorem dX3_note_35 : decode cX3_note 35 = .ok (.iadd, 1) := by decide +kernel
theorem dX3_note_36 : decode cX3_note 36 = .ok (.putfield 22, 3) := by decide +kernel
theorem dX3_note_39 : decode cX3_note 39 = .ok (.return_, 1) := by decide +kernel
