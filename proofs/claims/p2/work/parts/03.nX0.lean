theorem dX0_init_0 : decode cX0_init 0 = .ok (.aload_n 0, 1) := by decide +kernel
theorem dX0_init_1 : decode cX0_init 1 = .ok (.invokespecial 3, 3) := by decide +kernel
theorem dX0_init_4 : decode cX0_init 4 = .ok (.aload_n 0, 1) := by decide +kernel
theorem dX0_init_5 : decode cX0_init 5 = .ok (.bipush 81, 2) := by decide +kernel
theorem dX0_init_7 : decode cX0_init 7 = .ok (.newarray .int, 2) := by decide +kernel
theorem dX0_init_9 : decode cX0_init 9 = .ok (.putfield 9, 3) := by decide +kernel
theorem dX0_init_12 : decode cX0_init 12 = .ok (.aload_n 0, 1) := by decide +kernel
theorem dX0_init_13 : decode cX0_init 13 = .ok (.bipush 80, 2) := by decide +kernel
theorem dX0_init_15 : decode cX0_init 15 = .ok (.newarray .int, 2) := by decide +kernel
theorem dX0_init_17 : decode cX0_init 17 = .ok (.putfield 15, 3) := by decide +kernel
theorem dX0_init_20 : decode cX0_init 20 = .ok (.return_, 1) := by decide +kernel
def sgX0_measure : List (List Cond) := [[.code yX0_measure cX0_measure 4 none], wsX0_measure_r1, wsX0_measure_r2, wsX00, wsX20, wsX50]
theorem seX0_measure : sgX0_measure.flatten = wsX0_measure := by simp only [sgX0_measure, wsX0_measure, List.flatten_cons, List.flatten_nil, List.append_assoc, List.append_nil, List.cons_append, List.nil_append]
set_option maxRecDepth 20000 in
theorem ggX0_measure_X2_size : GoodIn wsX0_measure wsX2_size := goodIn_s seX0_measure _ [(1, 6), (1, 7), (4, 0), (4, 1)] (by rfl) (by decide +kernel)
set_option maxRecDepth 20000 in
theorem gX0_measure_X2_size_u18X2 : GoodIn wsX0_measure (va_wsU RX0 18 RX2 "Sashwords$Text" ⟨"Sashwords$Text", "size", "()I"⟩ yX2_size wsX2_size) := goodIn_app (goodIn_s seX0_measure _ [(1, 1), (1, 2), (1, 3), (1, 4), (1, 5)] (by rfl) (by decide +kernel)) ggX0_measure_X2_size
set_option maxRecDepth 20000 in
theorem ggX0_measure_X5_size : GoodIn wsX0_measure wsX5_size := goodIn_s seX0_measure _ [(1, 11), (1, 12), (1, 13), (5, 0), (5, 1), (5, 2), (5, 3), (5, 4), (5, 5)] (by rfl) (by decide +kernel)
set_option maxRecDepth 20000 in
theorem gX0_measure_X5_size_u18X5 : GoodIn wsX0_measure (va_wsU RX0 18 RX5 "Sashwords$Text" ⟨"Sashwords$Text", "size", "()I"⟩ yX5_size wsX5_size) := goodIn_app (goodIn_s seX0_measure _ [(1, 1), (1, 2), (1, 8), (1, 9), (1, 10)] (by rfl) (by decide +kernel)) ggX0_measure_X5_size
set_option maxRecDepth 20000 in
theorem ggX0_measure_X2_at : GoodIn wsX0_measure wsX2_at := goodIn_s seX0_measure _ [(1, 18), (1, 7), (1, 19), (4, 0), (4, 1)] (by rfl) (by decide +kernel)
set_option maxRecDepth 20000 in
theorem gX0_measure_X2_at_u24X2 : GoodIn wsX0_measure (va_wsU RX0 24 RX2 "Sashwords$Text" ⟨"Sashwords$Text", "at", "(I)I"⟩ yX2_at wsX2_at) := goodIn_app (goodIn_s seX0_measure _ [(1, 14), (1, 15), (1, 16), (1, 17), (1, 5)] (by rfl) (by decide +kernel)) ggX0_measure_X2_at
set_option maxRecDepth 20000 in
theorem ggX0_measure_X5_at : GoodIn wsX0_measure wsX5_at := goodIn_s seX0_measure _ [(1, 22), (1, 12), (1, 13), (1, 23), (2, 0), (2, 1), (1, 10), (2, 2), (2, 3), (2, 4), (5, 0), (5, 1), (5, 2), (5, 3), (5, 4), (5, 5)] (by rfl) (by decide +kernel)
set_option maxRecDepth 20000 in
theorem gX0_measure_X5_at_u24X5 : GoodIn wsX0_measure (va_wsU RX0 24 RX5 "Sashwords$Text" ⟨"Sashwords$Text", "at", "(I)I"⟩ yX5_at wsX5_at) := goodIn_app (goodIn_s seX0_measure _ [(1, 14), (1, 15), (1, 20), (1, 21), (1, 10)] (by rfl) (by decide +kernel)) ggX0_measure_X5_at
set_option maxRecDepth 20000 in
theorem ggX0_measure_X0_grown : GoodIn wsX0_measure wsX0_grown := goodIn_s seX0_measure _ [(2, 9), (1, 14), (1, 15), (1, 16), (1, 17), (1, 5), (1, 18), (1, 7), (1, 19), (1, 20), (1, 21), (1, 10), (1, 22), (1, 12), (1, 13), (1, 23), (2, 0), (2, 1), (2, 2), (2, 3), (2, 4), (2, 10), (2, 11), (2, 12), (2, 8), (2, 13), (1, 0), (4, 0), (4, 1), (5, 0), (5, 1), (5, 2), (5, 3), (5, 4), (5, 5), (3, 0), (3, 1), (3, 2)] (by rfl) (by decide +kernel)
set_option maxRecDepth 20000 in
theorem gX0_measure_X0_grown : GoodIn wsX0_measure (wsV RX0 28 RX0 yX0_grown wsX0_grown) := goodIn_app (goodIn_s seX0_measure _ [(2, 5), (2, 6), (2, 7), (2, 8)] (by rfl) (by decide +kernel)) ggX0_measure_X0_grown
theorem dX0_measure_0 : decode cX0_measure 0 = .ok (.iconst 0, 1) := by decide +kernel
theorem dX0_measure_1 : decode cX0_measure 1 = .ok (.istore_n 2, 1) := by decide +kernel
theorem dX0_measure_2 : decode cX0_measure 2 = .ok (.iconst 1, 1) := by decide +kernel
theorem dX0_measure_3 : decode cX0_measure 3 = .ok (.istore_n 3, 1) := by decide +kernel
theorem dX0_measure_4 : decode cX0_measure 4 = .ok (.iload_n 3, 1) := by decide +kernel
theorem dX0_measure_5 : decode cX0_measure 5 = .ok (.aload_n 1, 1) := by decide +kernel
theorem dX0_measure_6 : decode cX0_measure 6 = .ok (.invokevirtual 18, 3) := by decide +kernel
theorem dX0_measure_9 : decode cX0_measure 9 = .ok (.if_icmp .ge 41, 3) := by decide +kernel
theorem dX0_measure_12 : decode cX0_measure 12 = .ok (.iload_n 3, 1) := by decide +kernel
theorem dX0_measure_13 : decode cX0_measure 13 = .ok (.iconst 1, 1) := by decide +kernel
theorem dX0_measure_14 : decode cX0_measure 14 = .ok (.iadd, 1) := by decide +kernel
theorem dX0_measure_15 : decode cX0_measure 15 = .ok (.aload_n 0, 1) := by decide +kernel
theorem dX0_measure_16 : decode cX0_measure 16 = .ok (.getfield 9, 3) := by decide +kernel
theorem dX0_measure_19 : decode cX0_measure 19 = .ok (.arraylength, 1) := by decide +kernel
theorem dX0_measure_20 : decode cX0_measure 20 = .ok (.if_icmp .ge 30, 3) := by decide +kernel
theorem dX0_measure_23 : decode cX0_measure 23 = .ok (.aload_n 0, 1) := by decide +kernel
theorem dX0_measure_24 : decode cX0_measure 24 = .ok (.aload_n 1, 1) := by decide +kernel
theorem dX0_measure_25 : decode cX0_measure 25 = .ok (.iload_n 2, 1) := by decide +kernel
theorem dX0_measure_26 : decode cX0_measure 26 = .ok (.aload_n 1, 1) := by decide +kernel
theorem dX0_measure_27 : decode cX0_measure 27 = .ok (.iload_n 3, 1) := by decide +kernel
theorem dX0_measure_28 : decode cX0_measure 28 = .ok (.invokevirtual 24, 3) := by decide +kernel
theorem dX0_measure_31 : decode cX0_measure 31 = .ok (.invokevirtual 28, 3) := by decide +kernel
theorem dX0_measure_34 : decode cX0_measure 34 = .ok (.istore_n 2, 1) := by decide +kernel
theorem dX0_measure_35 : decode cX0_measure 35 = .ok (.aload_n 0, 1) := by decide +kernel
theorem dX0_measure_36 : decode cX0_measure 36 = .ok (.getfield 9, 3) := by decide +kernel
theorem dX0_measure_39 : decode cX0_measure 39 = .ok (.iload_n 3, 1) := by decide +kernel
theorem dX0_measure_40 : decode cX0_measure 40 = .ok (.iconst 1, 1) := by decide +kernel
theorem dX0_measure_41 : decode cX0_measure 41 = .ok (.iadd, 1) := by decide +kernel
theorem dX0_measure_42 : decode cX0_measure 42 = .ok (.iload_n 2, 1) := by decide +kernel
theorem dX0_measure_43 : decode cX0_measure 43 = .ok (.iastore, 1) := by decide +kernel
theorem dX0_measure_44 : decode cX0_measure 44 = .ok (.iinc 3 1, 3) := by decide +kernel
theorem dX0_measure_47 : decode cX0_measure 47 = .ok (.goto (-43), 3) := by decide +kernel
theorem dX0_measure_50 : decode cX0_measure 50 = .ok (.return_, 1) := by decide +kernel
theorem dX0_greatestOf_0 : decode cX0_greatestOf 0 = .ok (.iload_n 1, 1) := by decide +kernel
theorem dX0_greatestOf_1 : decode cX0_greatestOf 1 = .ok (.ifCond .lt 12, 3) := by decide +kernel
theorem dX0_greatestOf_4 : decode cX0_greatestOf 4 = .ok (.iload_n 1, 1) := by decide +kernel
theorem dX0_greatestOf_5 : decode cX0_greatestOf 5 = .ok (.aload_n 0, 1) := by decide +kernel
theorem dX0_greatestOf_6 : decode cX0_greatestOf 6 = .ok (.getfield 9, 3) := by decide +kernel
theorem dX0_greatestOf_9 : decode cX0_greatestOf 9 = .ok (.arraylength, 1) := by decide +kernel
theorem dX0_greatestOf_10 : decode cX0_greatestOf 10 = .ok (.if_icmp .lt 7, 3) := by decide +kernel
theorem dX0_greatestOf_13 : decode cX0_greatestOf 13 = .ok (.iconst 0, 1) := by decide +kernel
theorem dX0_greatestOf_14 : decode cX0_greatestOf 14 = .ok (.goto 9, 3) := by decide +kernel
theorem dX0_greatestOf_17 : decode cX0_greatestOf 17 = .ok (.aload_n 0, 1) := by decide +kernel
theorem dX0_greatestOf_18 : decode cX0_greatestOf 18 = .ok (.getfield 9, 3) := by decide +kernel
theorem dX0_greatestOf_21 : decode cX0_greatestOf 21 = .ok (.iload_n 1, 1) := by decide +kernel
theorem dX0_greatestOf_22 : decode cX0_greatestOf 22 = .ok (.iaload, 1) := by decide +kernel
theorem dX0_greatestOf_23 : decode cX0_greatestOf 23 = .ok (.ireturn, 1) := by decide +kernel
def sgX0_grown : List (List Cond) := [[.code yX0_grown cX0_grown 6 (some .int)], wsX0_grown_r1, wsX0_grown_r2, wsX20, wsX50, wsX00]
theorem seX0_grown : sgX0_grown.flatten = wsX0_grown := by simp only [sgX0_grown, wsX0_grown, List.flatten_cons, List.flatten_nil, List.append_assoc, List.append_nil, List.cons_append, List.nil_append]
set_option maxRecDepth 20000 in
theorem ggX0_grown_X2_at : GoodIn wsX0_grown wsX2_at := goodIn_s seX0_grown _ [(1, 5), (1, 6), (1, 7), (3, 0), (3, 1)] (by rfl) (by decide +kernel)
set_option maxRecDepth 20000 in
theorem gX0_grown_X2_at_u24X2 : GoodIn wsX0_grown (va_wsU RX0 24 RX2 "Sashwords$Text" ⟨"Sashwords$Text", "at", "(I)I"⟩ yX2_at wsX2_at) := goodIn_app (goodIn_s seX0_grown _ [(1, 0), (1, 1), (1, 2), (1, 3), (1, 4)] (by rfl) (by decide +kernel)) ggX0_grown_X2_at
set_option maxRecDepth 20000 in
theorem ggX0_grown_X5_at : GoodIn wsX0_grown wsX5_at := goodIn_s seX0_grown _ [(1, 11), (1, 12), (1, 13), (1, 14), (1, 15), (1, 16), (1, 10), (1, 17), (1, 18), (1, 19), (4, 0), (4, 1), (4, 2), (4, 3), (4, 4), (4, 5)] (by rfl) (by decide +kernel)
set_option maxRecDepth 20000 in
theorem gX0_grown_X5_at_u24X5 : GoodIn wsX0_grown (va_wsU RX0 24 RX5 "Sashwords$Text" ⟨"Sashwords$Text", "at", "(I)I"⟩ yX5_at wsX5_at) := goodIn_app (goodIn_s seX0_grown _ [(1, 0), (1, 1), (1, 8), (1, 9), (1, 10)] (by rfl) (by decide +kernel)) ggX0_grown_X5_at
set_option maxRecDepth 20000 in
theorem ggX0_grown_X0_greatestOf : GoodIn wsX0_grown wsX0_greatestOf := goodIn_s seX0_grown _ [(2, 0), (2, 1), (5, 0), (5, 1), (5, 2)] (by rfl) (by decide +kernel)
set_option maxRecDepth 20000 in
theorem gX0_grown_X0_greatestOf : GoodIn wsX0_grown (wsV RX0 32 RX0 yX0_greatestOf wsX0_greatestOf) := goodIn_app (goodIn_s seX0_grown _ [(1, 20), (1, 21), (1, 22), (1, 23)] (by rfl) (by decide +kernel)) ggX0_grown_X0_greatestOf
theorem dX0_grown_0 : decode cX0_grown 0 = .ok (.iload_n 2, 1) := by decide +kernel
theorem dX0_grown_1 : decode cX0_grown 1 = .ok (.istore 4, 2) := by decide +kernel
theorem dX0_grown_3 : decode cX0_grown 3 = .ok (.iload_n 2, 1) := by decide +kernel
theorem dX0_grown_4 : decode cX0_grown 4 = .ok (.istore 5, 2) := by decide +kernel
theorem dX0_grown_6 : decode cX0_grown 6 = .ok (.iload 5, 2) := by decide +kernel
theorem dX0_grown_8 : decode cX0_grown 8 = .ok (.ifCond .le 32, 3) := by decide +kernel
theorem dX0_grown_11 : decode cX0_grown 11 = .ok (.iload 4, 2) := by decide +kernel
theorem dX0_grown_13 : decode cX0_grown 13 = .ok (.ifCond .le 27, 3) := by decide +kernel
theorem dX0_grown_16 : decode cX0_grown 16 = .ok (.aload_n 1, 1) := by decide +kernel
theorem dX0_grown_17 : decode cX0_grown 17 = .ok (.iload 4, 2) := by decide +kernel
theorem dX0_grown_19 : decode cX0_grown 19 = .ok (.invokevirtual 24, 3) := by decide +kernel
theorem dX0_grown_22 : decode cX0_grown 22 = .ok (.iload_n 3, 1) := by decide +kernel
theorem dX0_grown_23 : decode cX0_grown 23 = .ok (.if_icmp .eq 17, 3) := by decide +kernel
theorem dX0_grown_26 : decode cX0_grown 26 = .ok (.aload_n 0, 1) := by decide +kernel
theorem dX0_grown_27 : decode cX0_grown 27 = .ok (.iload 4, 2) := by decide +kernel
theorem dX0_grown_29 : decode cX0_grown 29 = .ok (.invokevirtual 32, 3) := by decide +kernel
theorem dX0_grown_32 : decode cX0_grown 32 = .ok (.istore 4, 2) := by decide +kernel
theorem dX0_grown_34 : decode cX0_grown 34 = .ok (.iinc 5 (-1), 3) := by decide +kernel
theorem dX0_grown_37 : decode cX0_grown 37 = .ok (.goto (-31), 3) := by decide +kernel
theorem dX0_grown_40 : decode cX0_grown 40 = .ok (.aload_n 1, 1) := by decide +kernel
theorem dX0_grown_41 : decode cX0_grown 41 = .ok (.iload 4, 2) := by decide +kernel
theorem dX0_grown_43 : decode cX0_grown 43 = .ok (.invokevirtual 24, 3) := by decide +kernel
theorem dX0_grown_46 : decode cX0_grown 46 = .ok (.iload_n 3, 1) := by decide +kernel
theorem dX0_grown_47 : decode cX0_grown 47 = .ok (.if_icmp .ne 10, 3) := by decide +kernel
theorem dX0_grown_50 : decode cX0_grown 50 = .ok (.iload 4, 2) := by decide +kernel
theorem dX0_grown_52 : decode cX0_grown 52 = .ok (.iconst 1, 1) := by decide +kernel
theorem dX0_grown_53 : decode cX0_grown 53 = .ok (.iadd, 1) := by decide +kernel
theorem dX0_grown_54 : decode cX0_grown 54 = .ok (.goto 4, 3) := by decide +kernel
theorem dX0_grown_57 : decode cX0_grown 57 = .ok (.iconst 0, 1) := by decide +kernel
theorem dX0_grown_58 : decode cX0_grown 58 = .ok (.ireturn, 1) := by decide +kernel
def sgX0_measureChain : List (List Cond) := [[.code yX0_measureChain cX0_measureChain 4 none], wsX0_measureChain_r1, wsX0_measureChain_r2, wsX00, wsX20, wsX50]
theorem seX0_measureChain : sgX0_measureChain.flatten = wsX0_measureChain := by simp only [sgX0_measureChain, wsX0_measureChain, List.flatten_cons, List.flatten_nil, List.append_assoc, List.append_nil, List.cons_append, List.nil_append]
set_option maxRecDepth 20000 in
theorem ggX0_measureChain_X0_measure : GoodIn wsX0_measureChain wsX0_measure := goodIn_s seX0_measureChain _ [(1, 6), (1, 7), (1, 8), (1, 9), (1, 10), (1, 11), (1, 12), (1, 13), (1, 14), (1, 15), (1, 16), (1, 17), (1, 18), (1, 19), (1, 20), (1, 21), (1, 22), (1, 23), (2, 0), (2, 1), (2, 2), (2, 3), (2, 4), (2, 5), (2, 6), (2, 7), (2, 8), (2, 9), (2, 10), (2, 11), (2, 12), (2, 13), (2, 14), (1, 5), (2, 15), (2, 16), (2, 17), (2, 18), (2, 19), (3, 0), (3, 1), (3, 2), (4, 0), (4, 1), (5, 0), (5, 1), (5, 2), (5, 3), (5, 4), (5, 5)] (by rfl) (by decide +kernel)
set_option maxRecDepth 20000 in
theorem gX0_measureChain_X0_measure : GoodIn wsX0_measureChain (wsV RX0 35 RX0 yX0_measure wsX0_measure) := goodIn_app (goodIn_s seX0_measureChain _ [(1, 2), (1, 3), (1, 4), (1, 5)] (by rfl) (by decide +kernel)) ggX0_measureChain_X0_measure
set_option maxRecDepth 20000 in
theorem ggX0_measureChain_X2_size : GoodIn wsX0_measureChain wsX2_size := goodIn_s seX0_measureChain _ [(1, 13), (1, 14), (4, 0), (4, 1)] (by rfl) (by decide +kernel)
set_option maxRecDepth 20000 in
theorem gX0_measureChain_X2_size_u18X2 : GoodIn wsX0_measureChain (va_wsU RX0 18 RX2 "Sashwords$Text" ⟨"Sashwords$Text", "size", "()I"⟩ yX2_size wsX2_size) := goodIn_app (goodIn_s seX0_measureChain _ [(1, 8), (1, 9), (1, 10), (1, 11), (1, 12)] (by rfl) (by decide +kernel)) ggX0_measureChain_X2_size
set_option maxRecDepth 20000 in
theorem ggX0_measureChain_X5_size : GoodIn wsX0_measureChain wsX5_size := goodIn_s seX0_measureChain _ [(1, 18), (1, 19), (1, 20), (5, 0), (5, 1), (5, 2), (5, 3), (5, 4), (5, 5)] (by rfl) (by decide +kernel)
set_option maxRecDepth 20000 in
theorem gX0_measureChain_X5_size_u18X5 : GoodIn wsX0_measureChain (va_wsU RX0 18 RX5 "Sashwords$Text" ⟨"Sashwords$Text", "size", "()I"⟩ yX5_size wsX5_size) := goodIn_app (goodIn_s seX0_measureChain _ [(1, 8), (1, 9), (1, 15), (1, 16), (1, 17)] (by rfl) (by decide +kernel)) ggX0_measureChain_X5_size
set_option maxRecDepth 20000 in
theorem ggX0_measureChain_X0_greatestOf : GoodIn wsX0_measureChain wsX0_greatestOf := goodIn_s seX0_measureChain _ [(2, 19), (1, 7), (3, 0), (3, 1), (3, 2)] (by rfl) (by decide +kernel)
set_option maxRecDepth 20000 in
theorem gX0_measureChain_X0_greatestOf : GoodIn wsX0_measureChain (wsV RX0 32 RX0 yX0_greatestOf wsX0_greatestOf) := goodIn_app (goodIn_s seX0_measureChain _ [(2, 16), (2, 17), (2, 18), (1, 5)] (by rfl) (by decide +kernel)) ggX0_measureChain_X0_greatestOf
theorem dX0_measureChain_0 : decode cX0_measureChain 0 = .ok (.aload_n 0, 1) := by decide +kernel
theorem dX0_measureChain_1 : decode cX0_measureChain 1 = .ok (.aload_n 1, 1) := by decide +kernel
theorem dX0_measureChain_2 : decode cX0_measureChain 2 = .ok (.invokevirtual 35, 3) := by decide +kernel
theorem dX0_measureChain_5 : decode cX0_measureChain 5 = .ok (.aload_n 0, 1) := by decide +kernel
theorem dX0_measureChain_6 : decode cX0_measureChain 6 = .ok (.iconst 0, 1) := by decide +kernel
theorem dX0_measureChain_7 : decode cX0_measureChain 7 = .ok (.putfield 39, 3) := by decide +kernel
theorem dX0_measureChain_10 : decode cX0_measureChain 10 = .ok (.aload_n 1, 1) := by decide +kernel
theorem dX0_measureChain_11 : decode cX0_measureChain 11 = .ok (.invokevirtual 18, 3) := by decide +kernel
theorem dX0_measureChain_14 : decode cX0_measureChain 14 = .ok (.istore_n 2, 1) := by decide +kernel
theorem dX0_measureChain_15 : decode cX0_measureChain 15 = .ok (.aload_n 1, 1) := by decide +kernel
theorem dX0_measureChain_16 : decode cX0_measureChain 16 = .ok (.invokevirtual 18, 3) := by decide +kernel
theorem dX0_measureChain_19 : decode cX0_measureChain 19 = .ok (.istore_n 3, 1) := by decide +kernel
theorem dX0_measureChain_20 : decode cX0_measureChain 20 = .ok (.iload_n 3, 1) := by decide +kernel
theorem dX0_measureChain_21 : decode cX0_measureChain 21 = .ok (.ifCond .le 51, 3) := by decide +kernel
theorem dX0_measureChain_24 : decode cX0_measureChain 24 = .ok (.iload_n 2, 1) := by decide +kernel
theorem dX0_measureChain_25 : decode cX0_measureChain 25 = .ok (.ifCond .le 47, 3) := by decide +kernel
theorem dX0_measureChain_28 : decode cX0_measureChain 28 = .ok (.aload_n 0, 1) := by decide +kernel
theorem dX0_measureChain_29 : decode cX0_measureChain 29 = .ok (.iload_n 2, 1) := by decide +kernel
theorem dX0_measureChain_30 : decode cX0_measureChain 30 = .ok (.invokevirtual 32, 3) := by decide +kernel
theorem dX0_measureChain_33 : decode cX0_measureChain 33 = .ok (.istore_n 2, 1) := by decide +kernel
theorem dX0_measureChain_34 : decode cX0_measureChain 34 = .ok (.aload_n 0, 1) := by decide +kernel
theorem dX0_measureChain_35 : decode cX0_measureChain 35 = .ok (.getfield 39, 3) := by decide +kernel
theorem dX0_measureChain_38 : decode cX0_measureChain 38 = .ok (.aload_n 0, 1) := by decide +kernel
theorem dX0_measureChain_39 : decode cX0_measureChain 39 = .ok (.getfield 15, 3) := by decide +kernel
theorem dX0_measureChain_42 : decode cX0_measureChain 42 = .ok (.arraylength, 1) := by decide +kernel
theorem dX0_measureChain_43 : decode cX0_measureChain 43 = .ok (.if_icmp .ge 23, 3) := by decide +kernel
theorem dX0_measureChain_46 : decode cX0_measureChain 46 = .ok (.aload_n 0, 1) := by decide +kernel
theorem dX0_measureChain_47 : decode cX0_measureChain 47 = .ok (.getfield 15, 3) := by decide +kernel
theorem dX0_measureChain_50 : decode cX0_measureChain 50 = .ok (.aload_n 0, 1) := by decide +kernel
theorem dX0_measureChain_51 : decode cX0_measureChain 51 = .ok (.getfield 39, 3) := by decide +kernel
theorem dX0_measureChain_54 : decode cX0_measureChain 54 = .ok (.iload_n 2, 1) := by decide +kernel
theorem dX0_measureChain_55 : decode cX0_measureChain 55 = .ok (.iastore, 1) := by decide +kernel
theorem dX0_measureChain_56 : decode cX0_measureChain 56 = .ok (.aload_n 0, 1) := by decide +kernel
theorem dX0_measureChain_57 : decode cX0_measureChain 57 = .ok (.dup, 1) := by decide +kernel
theorem dX0_measureChain_58 : decode cX0_measureChain 58 = .ok (.getfield 39, 3) := by decide +kernel
theorem dX0_measureChain_61 : decode cX0_measureChain 61 = .ok (.iconst 1, 1) := by decide +kernel
theorem dX0_measureChain_62 : decode cX0_measureChain 62 = .ok (.iadd, 1) := by decide +kernel
theorem dX0_measureChain_63 : decode cX0_measureChain 63 = .ok (.putfield 39, 3) := by decide +kernel
theorem dX0_measureChain_66 : decode cX0_measureChain 66 = .ok (.iinc 3 (-1), 3) := by decide +kernel
theorem dX0_measureChain_69 : decode cX0_measureChain 69 = .ok (.goto (-49), 3) := by decide +kernel
theorem dX0_measureChain_72 : decode cX0_measureChain 72 = .ok (.return_, 1) := by decide +kernel
theorem dX0_linkAt_0 : decode cX0_linkAt 0 = .ok (.iload_n 1, 1) := by decide +kernel
theorem dX0_linkAt_1 : decode cX0_linkAt 1 = .ok (.ifCond .lt 20, 3) := by decide +kernel
theorem dX0_linkAt_4 : decode cX0_linkAt 4 = .ok (.iload_n 1, 1) := by decide +kernel
theorem dX0_linkAt_5 : decode cX0_linkAt 5 = .ok (.aload_n 0, 1) := by decide +kernel
theorem dX0_linkAt_6 : decode cX0_linkAt 6 = .ok (.getfield 39, 3) := by decide +kernel
theorem dX0_linkAt_9 : decode cX0_linkAt 9 = .ok (.if_icmp .ge 12, 3) := by decide +kernel
theorem dX0_linkAt_12 : decode cX0_linkAt 12 = .ok (.iload_n 1, 1) := by decide +kernel
theorem dX0_linkAt_13 : decode cX0_linkAt 13 = .ok (.aload_n 0, 1) := by decide +kernel
theorem dX0_linkAt_14 : decode cX0_linkAt 14 = .ok (.getfield 15, 3) := by decide +kernel
theorem dX0_linkAt_17 : decode cX0_linkAt 17 = .ok (.arraylength, 1) := by decide +kernel
theorem dX0_linkAt_18 : decode cX0_linkAt 18 = .ok (.if_icmp .lt 7, 3) := by decide +kernel
theorem dX0_linkAt_21 : decode cX0_linkAt 21 = .ok (.iconst (-1), 1) := by decide +kernel
theorem dX0_linkAt_22 : decode cX0_linkAt 22 = .ok (.goto 9, 3) := by decide +kernel
theorem dX0_linkAt_25 : decode cX0_linkAt 25 = .ok (.aload_n 0, 1) := by decide +kernel
theorem dX0_linkAt_26 : decode cX0_linkAt 26 = .ok (.getfield 15, 3) := by decide +kernel
theorem dX0_linkAt_29 : decode cX0_linkAt 29 = .ok (.iload_n 1, 1) := by decide +kernel
theorem dX0_linkAt_30 : decode cX0_linkAt 30 = .ok (.iaload, 1) := by decide +kernel
theorem dX0_linkAt_31 : decode cX0_linkAt 31 = .ok (.ireturn, 1) := by decide +kernel
