def lb_sgX0_init : List (List UInt8) := [[42, 183, 0, 3, 42, 16, 81, 188, 10, 181, 0, 9, 42, 16, 80, 188], [10, 181, 0, 15, 177]]
set_option maxRecDepth 100000 in
theorem lb_seX0_init : cX0_init.data.toList = lb_sgX0_init.flatten := by decide +kernel
theorem lb_lnX0_init : ∀ s ∈ lb_sgX0_init.dropLast, s.length = 16 := by decide +kernel
theorem lxX0_init (k j : Nat) {b : UInt8} (h : (lb_sgX0_init[k]?).bind (fun s => s[j]?) = some b) : lb_at cX0_init (16 * k + j) b := by
  unfold lb_at
  rw [lb_seX0_init]
  exact lb_flat 16 lb_sgX0_init k j b lb_lnX0_init h
set_option maxRecDepth 20000 in
theorem dX0_init_0 : decode cX0_init 0 = .ok (.aload_n 0, 1) := dc_42 (lxX0_init 0 0 rfl)
set_option maxRecDepth 20000 in
theorem dX0_init_1 : decode cX0_init 1 = .ok (.invokespecial 3, 3) := dc_183 0 3 (lxX0_init 0 1 rfl) (lxX0_init 0 2 rfl) (lxX0_init 0 3 rfl)
set_option maxRecDepth 20000 in
theorem dX0_init_4 : decode cX0_init 4 = .ok (.aload_n 0, 1) := dc_42 (lxX0_init 0 4 rfl)
set_option maxRecDepth 20000 in
theorem dX0_init_5 : decode cX0_init 5 = .ok (.bipush 81, 2) := dc_16 81 (lxX0_init 0 5 rfl) (lxX0_init 0 6 rfl)
theorem dX0_init_7 : decode cX0_init 7 = .ok (.newarray .int, 2) := by decide +kernel
set_option maxRecDepth 20000 in
theorem dX0_init_9 : decode cX0_init 9 = .ok (.putfield 9, 3) := dc_181 0 9 (lxX0_init 0 9 rfl) (lxX0_init 0 10 rfl) (lxX0_init 0 11 rfl)
set_option maxRecDepth 20000 in
theorem dX0_init_12 : decode cX0_init 12 = .ok (.aload_n 0, 1) := dc_42 (lxX0_init 0 12 rfl)
set_option maxRecDepth 20000 in
theorem dX0_init_13 : decode cX0_init 13 = .ok (.bipush 80, 2) := dc_16 80 (lxX0_init 0 13 rfl) (lxX0_init 0 14 rfl)
theorem dX0_init_15 : decode cX0_init 15 = .ok (.newarray .int, 2) := by decide +kernel
set_option maxRecDepth 20000 in
theorem dX0_init_17 : decode cX0_init 17 = .ok (.putfield 15, 3) := dc_181 0 15 (lxX0_init 1 1 rfl) (lxX0_init 1 2 rfl) (lxX0_init 1 3 rfl)
set_option maxRecDepth 20000 in
theorem dX0_init_20 : decode cX0_init 20 = .ok (.return_, 1) := dc_177 (lxX0_init 1 4 rfl)
noncomputable def sgX0_measure : List (List Cond) := [[.code yX0_measure cX0_measure 4 none], wsX0_measure_r1, wsX0_measure_r2, wsX00, wsX20, wsX50]
theorem seX0_measure : sgX0_measure.flatten = wsX0_measure := by simp only [sgX0_measure, wsX0_measure, List.flatten_cons, List.flatten_nil, List.append_assoc, List.append_nil, List.cons_append, List.nil_append]
set_option maxRecDepth 20000 in
theorem ggX0_measure_X2_size : GoodIn wsX0_measure wsX2_size := goodIn_s seX0_measure _ [pq_1_6, pq_1_7, pq_4_0, pq_4_1] (by rfl) gw_wsX2_size
set_option maxRecDepth 20000 in
theorem gX0_measure_X2_size_u18X2 : GoodIn wsX0_measure (va_wsU RX0 18 RX2 "Sashwords$Text" ⟨"Sashwords$Text", "size", "()I"⟩ yX2_size wsX2_size) := goodIn_app (goodIn_s seX0_measure _ [pq_1_1, pq_1_2, pq_1_3, pq_1_4, pq_1_5] (by rfl) (by decide +kernel)) ggX0_measure_X2_size
set_option maxRecDepth 20000 in
theorem ggX0_measure_X5_size : GoodIn wsX0_measure wsX5_size := goodIn_s seX0_measure _ [pq_1_11, pq_1_12, pq_1_13, pq_5_0, pq_5_1, pq_5_2, pq_5_3, pq_5_4, pq_5_5] (by rfl) gw_wsX5_size
set_option maxRecDepth 20000 in
theorem gX0_measure_X5_size_u18X5 : GoodIn wsX0_measure (va_wsU RX0 18 RX5 "Sashwords$Text" ⟨"Sashwords$Text", "size", "()I"⟩ yX5_size wsX5_size) := goodIn_app (goodIn_s seX0_measure _ [pq_1_1, pq_1_2, pq_1_8, pq_1_9, pq_1_10] (by rfl) (by decide +kernel)) ggX0_measure_X5_size
set_option maxRecDepth 20000 in
theorem ggX0_measure_X2_at : GoodIn wsX0_measure wsX2_at := goodIn_s seX0_measure _ [pq_1_18, pq_1_7, pq_1_19, pq_4_0, pq_4_1] (by rfl) gw_wsX2_at
set_option maxRecDepth 20000 in
theorem gX0_measure_X2_at_u24X2 : GoodIn wsX0_measure (va_wsU RX0 24 RX2 "Sashwords$Text" ⟨"Sashwords$Text", "at", "(I)I"⟩ yX2_at wsX2_at) := goodIn_app (goodIn_s seX0_measure _ [pq_1_14, pq_1_15, pq_1_16, pq_1_17, pq_1_5] (by rfl) (by decide +kernel)) ggX0_measure_X2_at
set_option maxRecDepth 20000 in
theorem ggX0_measure_X5_at : GoodIn wsX0_measure wsX5_at := goodIn_s seX0_measure _ [pq_1_22, pq_1_12, pq_1_13, pq_1_23, pq_2_0, pq_2_1, pq_1_10, pq_2_2, pq_2_3, pq_2_4, pq_5_0, pq_5_1, pq_5_2, pq_5_3, pq_5_4, pq_5_5] (by rfl) gw_wsX5_at
set_option maxRecDepth 20000 in
theorem gX0_measure_X5_at_u24X5 : GoodIn wsX0_measure (va_wsU RX0 24 RX5 "Sashwords$Text" ⟨"Sashwords$Text", "at", "(I)I"⟩ yX5_at wsX5_at) := goodIn_app (goodIn_s seX0_measure _ [pq_1_14, pq_1_15, pq_1_20, pq_1_21, pq_1_10] (by rfl) (by decide +kernel)) ggX0_measure_X5_at
set_option maxRecDepth 20000 in
theorem ggX0_measure_X0_grown : GoodIn wsX0_measure wsX0_grown := goodIn_s seX0_measure _ [pq_2_9, pq_1_14, pq_1_15, pq_1_16, pq_1_17, pq_1_5, pq_1_18, pq_1_7, pq_1_19, pq_1_20, pq_1_21, pq_1_10, pq_1_22, pq_1_12, pq_1_13, pq_1_23, pq_2_0, pq_2_1, pq_2_2, pq_2_3, pq_2_4, pq_2_10, pq_2_11, pq_2_12, pq_2_8, pq_2_13, pq_1_0, pq_4_0, pq_4_1, pq_5_0, pq_5_1, pq_5_2, pq_5_3, pq_5_4, pq_5_5, pq_3_0, pq_3_1, pq_3_2] (by rfl) gw_wsX0_grown
set_option maxRecDepth 20000 in
theorem gX0_measure_X0_grown : GoodIn wsX0_measure (wsV RX0 28 RX0 yX0_grown wsX0_grown) := goodIn_app (goodIn_s seX0_measure _ [pq_2_5, pq_2_6, pq_2_7, pq_2_8] (by rfl) (by decide +kernel)) ggX0_measure_X0_grown
def lb_sgX0_measure : List (List UInt8) := [[3, 61, 4, 62, 29, 43, 182, 0, 18, 162, 0, 41, 29, 4, 96, 42], [180, 0, 9, 190, 162, 0, 30, 42, 43, 28, 43, 29, 182, 0, 24, 182], [0, 28, 61, 42, 180, 0, 9, 29, 4, 96, 28, 79, 132, 3, 1, 167], [255, 213, 177]]
set_option maxRecDepth 100000 in
theorem lb_seX0_measure : cX0_measure.data.toList = lb_sgX0_measure.flatten := by decide +kernel
theorem lb_lnX0_measure : ∀ s ∈ lb_sgX0_measure.dropLast, s.length = 16 := by decide +kernel
theorem lxX0_measure (k j : Nat) {b : UInt8} (h : (lb_sgX0_measure[k]?).bind (fun s => s[j]?) = some b) : lb_at cX0_measure (16 * k + j) b := by
  unfold lb_at
  rw [lb_seX0_measure]
  exact lb_flat 16 lb_sgX0_measure k j b lb_lnX0_measure h
set_option maxRecDepth 20000 in
theorem dX0_measure_0 : decode cX0_measure 0 = .ok (.iconst 0, 1) := dc_3 (lxX0_measure 0 0 rfl)
set_option maxRecDepth 20000 in
theorem dX0_measure_1 : decode cX0_measure 1 = .ok (.istore_n 2, 1) := dc_61 (lxX0_measure 0 1 rfl)
set_option maxRecDepth 20000 in
theorem dX0_measure_2 : decode cX0_measure 2 = .ok (.iconst 1, 1) := dc_4 (lxX0_measure 0 2 rfl)
set_option maxRecDepth 20000 in
theorem dX0_measure_3 : decode cX0_measure 3 = .ok (.istore_n 3, 1) := dc_62 (lxX0_measure 0 3 rfl)
set_option maxRecDepth 20000 in
theorem dX0_measure_4 : decode cX0_measure 4 = .ok (.iload_n 3, 1) := dc_29 (lxX0_measure 0 4 rfl)
set_option maxRecDepth 20000 in
theorem dX0_measure_5 : decode cX0_measure 5 = .ok (.aload_n 1, 1) := dc_43 (lxX0_measure 0 5 rfl)
set_option maxRecDepth 20000 in
theorem dX0_measure_6 : decode cX0_measure 6 = .ok (.invokevirtual 18, 3) := dc_182 0 18 (lxX0_measure 0 6 rfl) (lxX0_measure 0 7 rfl) (lxX0_measure 0 8 rfl)
set_option maxRecDepth 20000 in
theorem dX0_measure_9 : decode cX0_measure 9 = .ok (.if_icmp .ge 41, 3) := dc_162 0 41 (lxX0_measure 0 9 rfl) (lxX0_measure 0 10 rfl) (lxX0_measure 0 11 rfl)
set_option maxRecDepth 20000 in
theorem dX0_measure_12 : decode cX0_measure 12 = .ok (.iload_n 3, 1) := dc_29 (lxX0_measure 0 12 rfl)
set_option maxRecDepth 20000 in
theorem dX0_measure_13 : decode cX0_measure 13 = .ok (.iconst 1, 1) := dc_4 (lxX0_measure 0 13 rfl)
set_option maxRecDepth 20000 in
theorem dX0_measure_14 : decode cX0_measure 14 = .ok (.iadd, 1) := dc_96 (lxX0_measure 0 14 rfl)
set_option maxRecDepth 20000 in
theorem dX0_measure_15 : decode cX0_measure 15 = .ok (.aload_n 0, 1) := dc_42 (lxX0_measure 0 15 rfl)
set_option maxRecDepth 20000 in
theorem dX0_measure_16 : decode cX0_measure 16 = .ok (.getfield 9, 3) := dc_180 0 9 (lxX0_measure 1 0 rfl) (lxX0_measure 1 1 rfl) (lxX0_measure 1 2 rfl)
set_option maxRecDepth 20000 in
theorem dX0_measure_19 : decode cX0_measure 19 = .ok (.arraylength, 1) := dc_190 (lxX0_measure 1 3 rfl)
set_option maxRecDepth 20000 in
theorem dX0_measure_20 : decode cX0_measure 20 = .ok (.if_icmp .ge 30, 3) := dc_162 0 30 (lxX0_measure 1 4 rfl) (lxX0_measure 1 5 rfl) (lxX0_measure 1 6 rfl)
set_option maxRecDepth 20000 in
theorem dX0_measure_23 : decode cX0_measure 23 = .ok (.aload_n 0, 1) := dc_42 (lxX0_measure 1 7 rfl)
set_option maxRecDepth 20000 in
theorem dX0_measure_24 : decode cX0_measure 24 = .ok (.aload_n 1, 1) := dc_43 (lxX0_measure 1 8 rfl)
set_option maxRecDepth 20000 in
theorem dX0_measure_25 : decode cX0_measure 25 = .ok (.iload_n 2, 1) := dc_28 (lxX0_measure 1 9 rfl)
set_option maxRecDepth 20000 in
theorem dX0_measure_26 : decode cX0_measure 26 = .ok (.aload_n 1, 1) := dc_43 (lxX0_measure 1 10 rfl)
set_option maxRecDepth 20000 in
theorem dX0_measure_27 : decode cX0_measure 27 = .ok (.iload_n 3, 1) := dc_29 (lxX0_measure 1 11 rfl)
set_option maxRecDepth 20000 in
theorem dX0_measure_28 : decode cX0_measure 28 = .ok (.invokevirtual 24, 3) := dc_182 0 24 (lxX0_measure 1 12 rfl) (lxX0_measure 1 13 rfl) (lxX0_measure 1 14 rfl)
set_option maxRecDepth 20000 in
theorem dX0_measure_31 : decode cX0_measure 31 = .ok (.invokevirtual 28, 3) := dc_182 0 28 (lxX0_measure 1 15 rfl) (lxX0_measure 2 0 rfl) (lxX0_measure 2 1 rfl)
set_option maxRecDepth 20000 in
theorem dX0_measure_34 : decode cX0_measure 34 = .ok (.istore_n 2, 1) := dc_61 (lxX0_measure 2 2 rfl)
set_option maxRecDepth 20000 in
theorem dX0_measure_35 : decode cX0_measure 35 = .ok (.aload_n 0, 1) := dc_42 (lxX0_measure 2 3 rfl)
set_option maxRecDepth 20000 in
theorem dX0_measure_36 : decode cX0_measure 36 = .ok (.getfield 9, 3) := dc_180 0 9 (lxX0_measure 2 4 rfl) (lxX0_measure 2 5 rfl) (lxX0_measure 2 6 rfl)
set_option maxRecDepth 20000 in
theorem dX0_measure_39 : decode cX0_measure 39 = .ok (.iload_n 3, 1) := dc_29 (lxX0_measure 2 7 rfl)
set_option maxRecDepth 20000 in
theorem dX0_measure_40 : decode cX0_measure 40 = .ok (.iconst 1, 1) := dc_4 (lxX0_measure 2 8 rfl)
set_option maxRecDepth 20000 in
theorem dX0_measure_41 : decode cX0_measure 41 = .ok (.iadd, 1) := dc_96 (lxX0_measure 2 9 rfl)
set_option maxRecDepth 20000 in
theorem dX0_measure_42 : decode cX0_measure 42 = .ok (.iload_n 2, 1) := dc_28 (lxX0_measure 2 10 rfl)
set_option maxRecDepth 20000 in
theorem dX0_measure_43 : decode cX0_measure 43 = .ok (.iastore, 1) := dc_79 (lxX0_measure 2 11 rfl)
set_option maxRecDepth 20000 in
theorem dX0_measure_44 : decode cX0_measure 44 = .ok (.iinc 3 1, 3) := dc_132 3 1 (lxX0_measure 2 12 rfl) (lxX0_measure 2 13 rfl) (lxX0_measure 2 14 rfl)
set_option maxRecDepth 20000 in
theorem dX0_measure_47 : decode cX0_measure 47 = .ok (.goto (-43), 3) := dc_167 255 213 (lxX0_measure 2 15 rfl) (lxX0_measure 3 0 rfl) (lxX0_measure 3 1 rfl)
set_option maxRecDepth 20000 in
theorem dX0_measure_50 : decode cX0_measure 50 = .ok (.return_, 1) := dc_177 (lxX0_measure 3 2 rfl)
def lb_sgX0_greatestOf : List (List UInt8) := [[27, 155, 0, 12, 27, 42, 180, 0, 9, 190, 161, 0, 7, 3, 167, 0], [9, 42, 180, 0, 9, 27, 46, 172]]
set_option maxRecDepth 100000 in
theorem lb_seX0_greatestOf : cX0_greatestOf.data.toList = lb_sgX0_greatestOf.flatten := by decide +kernel
theorem lb_lnX0_greatestOf : ∀ s ∈ lb_sgX0_greatestOf.dropLast, s.length = 16 := by decide +kernel
theorem lxX0_greatestOf (k j : Nat) {b : UInt8} (h : (lb_sgX0_greatestOf[k]?).bind (fun s => s[j]?) = some b) : lb_at cX0_greatestOf (16 * k + j) b := by
  unfold lb_at
  rw [lb_seX0_greatestOf]
  exact lb_flat 16 lb_sgX0_greatestOf k j b lb_lnX0_greatestOf h
set_option maxRecDepth 20000 in
theorem dX0_greatestOf_0 : decode cX0_greatestOf 0 = .ok (.iload_n 1, 1) := dc_27 (lxX0_greatestOf 0 0 rfl)
set_option maxRecDepth 20000 in
theorem dX0_greatestOf_1 : decode cX0_greatestOf 1 = .ok (.ifCond .lt 12, 3) := dc_155 0 12 (lxX0_greatestOf 0 1 rfl) (lxX0_greatestOf 0 2 rfl) (lxX0_greatestOf 0 3 rfl)
set_option maxRecDepth 20000 in
theorem dX0_greatestOf_4 : decode cX0_greatestOf 4 = .ok (.iload_n 1, 1) := dc_27 (lxX0_greatestOf 0 4 rfl)
set_option maxRecDepth 20000 in
theorem dX0_greatestOf_5 : decode cX0_greatestOf 5 = .ok (.aload_n 0, 1) := dc_42 (lxX0_greatestOf 0 5 rfl)
set_option maxRecDepth 20000 in
theorem dX0_greatestOf_6 : decode cX0_greatestOf 6 = .ok (.getfield 9, 3) := dc_180 0 9 (lxX0_greatestOf 0 6 rfl) (lxX0_greatestOf 0 7 rfl) (lxX0_greatestOf 0 8 rfl)
set_option maxRecDepth 20000 in
theorem dX0_greatestOf_9 : decode cX0_greatestOf 9 = .ok (.arraylength, 1) := dc_190 (lxX0_greatestOf 0 9 rfl)
set_option maxRecDepth 20000 in
theorem dX0_greatestOf_10 : decode cX0_greatestOf 10 = .ok (.if_icmp .lt 7, 3) := dc_161 0 7 (lxX0_greatestOf 0 10 rfl) (lxX0_greatestOf 0 11 rfl) (lxX0_greatestOf 0 12 rfl)
set_option maxRecDepth 20000 in
theorem dX0_greatestOf_13 : decode cX0_greatestOf 13 = .ok (.iconst 0, 1) := dc_3 (lxX0_greatestOf 0 13 rfl)
set_option maxRecDepth 20000 in
theorem dX0_greatestOf_14 : decode cX0_greatestOf 14 = .ok (.goto 9, 3) := dc_167 0 9 (lxX0_greatestOf 0 14 rfl) (lxX0_greatestOf 0 15 rfl) (lxX0_greatestOf 1 0 rfl)
set_option maxRecDepth 20000 in
theorem dX0_greatestOf_17 : decode cX0_greatestOf 17 = .ok (.aload_n 0, 1) := dc_42 (lxX0_greatestOf 1 1 rfl)
set_option maxRecDepth 20000 in
theorem dX0_greatestOf_18 : decode cX0_greatestOf 18 = .ok (.getfield 9, 3) := dc_180 0 9 (lxX0_greatestOf 1 2 rfl) (lxX0_greatestOf 1 3 rfl) (lxX0_greatestOf 1 4 rfl)
set_option maxRecDepth 20000 in
theorem dX0_greatestOf_21 : decode cX0_greatestOf 21 = .ok (.iload_n 1, 1) := dc_27 (lxX0_greatestOf 1 5 rfl)
set_option maxRecDepth 20000 in
theorem dX0_greatestOf_22 : decode cX0_greatestOf 22 = .ok (.iaload, 1) := dc_46 (lxX0_greatestOf 1 6 rfl)
set_option maxRecDepth 20000 in
theorem dX0_greatestOf_23 : decode cX0_greatestOf 23 = .ok (.ireturn, 1) := dc_172 (lxX0_greatestOf 1 7 rfl)
noncomputable def sgX0_grown : List (List Cond) := [[.code yX0_grown cX0_grown 6 (some .int)], wsX0_grown_r1, wsX0_grown_r2, wsX20, wsX50, wsX00]
theorem seX0_grown : sgX0_grown.flatten = wsX0_grown := by simp only [sgX0_grown, wsX0_grown, List.flatten_cons, List.flatten_nil, List.append_assoc, List.append_nil, List.cons_append, List.nil_append]
set_option maxRecDepth 20000 in
theorem ggX0_grown_X2_at : GoodIn wsX0_grown wsX2_at := goodIn_s seX0_grown _ [pq_1_5, pq_1_6, pq_1_7, pq_3_0, pq_3_1] (by rfl) gw_wsX2_at
set_option maxRecDepth 20000 in
theorem gX0_grown_X2_at_u24X2 : GoodIn wsX0_grown (va_wsU RX0 24 RX2 "Sashwords$Text" ⟨"Sashwords$Text", "at", "(I)I"⟩ yX2_at wsX2_at) := goodIn_app (goodIn_s seX0_grown _ [pq_1_0, pq_1_1, pq_1_2, pq_1_3, pq_1_4] (by rfl) (by decide +kernel)) ggX0_grown_X2_at
set_option maxRecDepth 20000 in
theorem ggX0_grown_X5_at : GoodIn wsX0_grown wsX5_at := goodIn_s seX0_grown _ [pq_1_11, pq_1_12, pq_1_13, pq_1_14, pq_1_15, pq_1_16, pq_1_10, pq_1_17, pq_1_18, pq_1_19, pq_4_0, pq_4_1, pq_4_2, pq_4_3, pq_4_4, pq_4_5] (by rfl) gw_wsX5_at
set_option maxRecDepth 20000 in
theorem gX0_grown_X5_at_u24X5 : GoodIn wsX0_grown (va_wsU RX0 24 RX5 "Sashwords$Text" ⟨"Sashwords$Text", "at", "(I)I"⟩ yX5_at wsX5_at) := goodIn_app (goodIn_s seX0_grown _ [pq_1_0, pq_1_1, pq_1_8, pq_1_9, pq_1_10] (by rfl) (by decide +kernel)) ggX0_grown_X5_at
set_option maxRecDepth 20000 in
theorem ggX0_grown_X0_greatestOf : GoodIn wsX0_grown wsX0_greatestOf := goodIn_s seX0_grown _ [pq_2_0, pq_2_1, pq_5_0, pq_5_1, pq_5_2] (by rfl) gw_wsX0_greatestOf
set_option maxRecDepth 20000 in
theorem gX0_grown_X0_greatestOf : GoodIn wsX0_grown (wsV RX0 32 RX0 yX0_greatestOf wsX0_greatestOf) := goodIn_app (goodIn_s seX0_grown _ [pq_1_20, pq_1_21, pq_1_22, pq_1_23] (by rfl) (by decide +kernel)) ggX0_grown_X0_greatestOf
def lb_sgX0_grown : List (List UInt8) := [[28, 54, 4, 28, 54, 5, 21, 5, 158, 0, 32, 21, 4, 158, 0, 27], [43, 21, 4, 182, 0, 24, 29, 159, 0, 17, 42, 21, 4, 182, 0, 32], [54, 4, 132, 5, 255, 167, 255, 225, 43, 21, 4, 182, 0, 24, 29, 160], [0, 10, 21, 4, 4, 96, 167, 0, 4, 3, 172]]
set_option maxRecDepth 100000 in
theorem lb_seX0_grown : cX0_grown.data.toList = lb_sgX0_grown.flatten := by decide +kernel
theorem lb_lnX0_grown : ∀ s ∈ lb_sgX0_grown.dropLast, s.length = 16 := by decide +kernel
theorem lxX0_grown (k j : Nat) {b : UInt8} (h : (lb_sgX0_grown[k]?).bind (fun s => s[j]?) = some b) : lb_at cX0_grown (16 * k + j) b := by
  unfold lb_at
  rw [lb_seX0_grown]
  exact lb_flat 16 lb_sgX0_grown k j b lb_lnX0_grown h
set_option maxRecDepth 20000 in
theorem dX0_grown_0 : decode cX0_grown 0 = .ok (.iload_n 2, 1) := dc_28 (lxX0_grown 0 0 rfl)
set_option maxRecDepth 20000 in
theorem dX0_grown_1 : decode cX0_grown 1 = .ok (.istore 4, 2) := dc_54 4 (lxX0_grown 0 1 rfl) (lxX0_grown 0 2 rfl)
set_option maxRecDepth 20000 in
theorem dX0_grown_3 : decode cX0_grown 3 = .ok (.iload_n 2, 1) := dc_28 (lxX0_grown 0 3 rfl)
set_option maxRecDepth 20000 in
theorem dX0_grown_4 : decode cX0_grown 4 = .ok (.istore 5, 2) := dc_54 5 (lxX0_grown 0 4 rfl) (lxX0_grown 0 5 rfl)
set_option maxRecDepth 20000 in
theorem dX0_grown_6 : decode cX0_grown 6 = .ok (.iload 5, 2) := dc_21 5 (lxX0_grown 0 6 rfl) (lxX0_grown 0 7 rfl)
set_option maxRecDepth 20000 in
theorem dX0_grown_8 : decode cX0_grown 8 = .ok (.ifCond .le 32, 3) := dc_158 0 32 (lxX0_grown 0 8 rfl) (lxX0_grown 0 9 rfl) (lxX0_grown 0 10 rfl)
set_option maxRecDepth 20000 in
theorem dX0_grown_11 : decode cX0_grown 11 = .ok (.iload 4, 2) := dc_21 4 (lxX0_grown 0 11 rfl) (lxX0_grown 0 12 rfl)
set_option maxRecDepth 20000 in
theorem dX0_grown_13 : decode cX0_grown 13 = .ok (.ifCond .le 27, 3) := dc_158 0 27 (lxX0_grown 0 13 rfl) (lxX0_grown 0 14 rfl) (lxX0_grown 0 15 rfl)
set_option maxRecDepth 20000 in
theorem dX0_grown_16 : decode cX0_grown 16 = .ok (.aload_n 1, 1) := dc_43 (lxX0_grown 1 0 rfl)
set_option maxRecDepth 20000 in
theorem dX0_grown_17 : decode cX0_grown 17 = .ok (.iload 4, 2) := dc_21 4 (lxX0_grown 1 1 rfl) (lxX0_grown 1 2 rfl)
set_option maxRecDepth 20000 in
theorem dX0_grown_19 : decode cX0_grown 19 = .ok (.invokevirtual 24, 3) := dc_182 0 24 (lxX0_grown 1 3 rfl) (lxX0_grown 1 4 rfl) (lxX0_grown 1 5 rfl)
set_option maxRecDepth 20000 in
theorem dX0_grown_22 : decode cX0_grown 22 = .ok (.iload_n 3, 1) := dc_29 (lxX0_grown 1 6 rfl)
set_option maxRecDepth 20000 in
theorem dX0_grown_23 : decode cX0_grown 23 = .ok (.if_icmp .eq 17, 3) := dc_159 0 17 (lxX0_grown 1 7 rfl) (lxX0_grown 1 8 rfl) (lxX0_grown 1 9 rfl)
set_option maxRecDepth 20000 in
theorem dX0_grown_26 : decode cX0_grown 26 = .ok (.aload_n 0, 1) := dc_42 (lxX0_grown 1 10 rfl)
set_option maxRecDepth 20000 in
theorem dX0_grown_27 : decode cX0_grown 27 = .ok (.iload 4, 2) := dc_21 4 (lxX0_grown 1 11 rfl) (lxX0_grown 1 12 rfl)
set_option maxRecDepth 20000 in
theorem dX0_grown_29 : decode cX0_grown 29 = .ok (.invokevirtual 32, 3) := dc_182 0 32 (lxX0_grown 1 13 rfl) (lxX0_grown 1 14 rfl) (lxX0_grown 1 15 rfl)
set_option maxRecDepth 20000 in
theorem dX0_grown_32 : decode cX0_grown 32 = .ok (.istore 4, 2) := dc_54 4 (lxX0_grown 2 0 rfl) (lxX0_grown 2 1 rfl)
set_option maxRecDepth 20000 in
theorem dX0_grown_34 : decode cX0_grown 34 = .ok (.iinc 5 (-1), 3) := dc_132 5 255 (lxX0_grown 2 2 rfl) (lxX0_grown 2 3 rfl) (lxX0_grown 2 4 rfl)
set_option maxRecDepth 20000 in
theorem dX0_grown_37 : decode cX0_grown 37 = .ok (.goto (-31), 3) := dc_167 255 225 (lxX0_grown 2 5 rfl) (lxX0_grown 2 6 rfl) (lxX0_grown 2 7 rfl)
set_option maxRecDepth 20000 in
theorem dX0_grown_40 : decode cX0_grown 40 = .ok (.aload_n 1, 1) := dc_43 (lxX0_grown 2 8 rfl)
set_option maxRecDepth 20000 in
theorem dX0_grown_41 : decode cX0_grown 41 = .ok (.iload 4, 2) := dc_21 4 (lxX0_grown 2 9 rfl) (lxX0_grown 2 10 rfl)
set_option maxRecDepth 20000 in
theorem dX0_grown_43 : decode cX0_grown 43 = .ok (.invokevirtual 24, 3) := dc_182 0 24 (lxX0_grown 2 11 rfl) (lxX0_grown 2 12 rfl) (lxX0_grown 2 13 rfl)
set_option maxRecDepth 20000 in
theorem dX0_grown_46 : decode cX0_grown 46 = .ok (.iload_n 3, 1) := dc_29 (lxX0_grown 2 14 rfl)
set_option maxRecDepth 20000 in
theorem dX0_grown_47 : decode cX0_grown 47 = .ok (.if_icmp .ne 10, 3) := dc_160 0 10 (lxX0_grown 2 15 rfl) (lxX0_grown 3 0 rfl) (lxX0_grown 3 1 rfl)
set_option maxRecDepth 20000 in
theorem dX0_grown_50 : decode cX0_grown 50 = .ok (.iload 4, 2) := dc_21 4 (lxX0_grown 3 2 rfl) (lxX0_grown 3 3 rfl)
set_option maxRecDepth 20000 in
theorem dX0_grown_52 : decode cX0_grown 52 = .ok (.iconst 1, 1) := dc_4 (lxX0_grown 3 4 rfl)
set_option maxRecDepth 20000 in
theorem dX0_grown_53 : decode cX0_grown 53 = .ok (.iadd, 1) := dc_96 (lxX0_grown 3 5 rfl)
set_option maxRecDepth 20000 in
theorem dX0_grown_54 : decode cX0_grown 54 = .ok (.goto 4, 3) := dc_167 0 4 (lxX0_grown 3 6 rfl) (lxX0_grown 3 7 rfl) (lxX0_grown 3 8 rfl)
set_option maxRecDepth 20000 in
theorem dX0_grown_57 : decode cX0_grown 57 = .ok (.iconst 0, 1) := dc_3 (lxX0_grown 3 9 rfl)
set_option maxRecDepth 20000 in
theorem dX0_grown_58 : decode cX0_grown 58 = .ok (.ireturn, 1) := dc_172 (lxX0_grown 3 10 rfl)
noncomputable def sgX0_measureChain : List (List Cond) := [[.code yX0_measureChain cX0_measureChain 4 none], wsX0_measureChain_r1, wsX0_measureChain_r2, wsX00, wsX20, wsX50]
theorem seX0_measureChain : sgX0_measureChain.flatten = wsX0_measureChain := by simp only [sgX0_measureChain, wsX0_measureChain, List.flatten_cons, List.flatten_nil, List.append_assoc, List.append_nil, List.cons_append, List.nil_append]
set_option maxRecDepth 20000 in
theorem ggX0_measureChain_X0_measure : GoodIn wsX0_measureChain wsX0_measure := goodIn_s seX0_measureChain _ [pq_1_6, pq_1_7, pq_1_8, pq_1_9, pq_1_10, pq_1_11, pq_1_12, pq_1_13, pq_1_14, pq_1_15, pq_1_16, pq_1_17, pq_1_18, pq_1_19, pq_1_20, pq_1_21, pq_1_22, pq_1_23, pq_2_0, pq_2_1, pq_2_2, pq_2_3, pq_2_4, pq_2_5, pq_2_6, pq_2_7, pq_2_8, pq_2_9, pq_2_10, pq_2_11, pq_2_12, pq_2_13, pq_2_14, pq_1_5, pq_2_15, pq_2_16, pq_2_17, pq_2_18, pq_2_19, pq_3_0, pq_3_1, pq_3_2, pq_4_0, pq_4_1, pq_5_0, pq_5_1, pq_5_2, pq_5_3, pq_5_4, pq_5_5] (by rfl) gw_wsX0_measure
set_option maxRecDepth 20000 in
theorem gX0_measureChain_X0_measure : GoodIn wsX0_measureChain (wsV RX0 35 RX0 yX0_measure wsX0_measure) := goodIn_app (goodIn_s seX0_measureChain _ [pq_1_2, pq_1_3, pq_1_4, pq_1_5] (by rfl) (by decide +kernel)) ggX0_measureChain_X0_measure
set_option maxRecDepth 20000 in
theorem ggX0_measureChain_X2_size : GoodIn wsX0_measureChain wsX2_size := goodIn_s seX0_measureChain _ [pq_1_13, pq_1_14, pq_4_0, pq_4_1] (by rfl) gw_wsX2_size
set_option maxRecDepth 20000 in
theorem gX0_measureChain_X2_size_u18X2 : GoodIn wsX0_measureChain (va_wsU RX0 18 RX2 "Sashwords$Text" ⟨"Sashwords$Text", "size", "()I"⟩ yX2_size wsX2_size) := goodIn_app (goodIn_s seX0_measureChain _ [pq_1_8, pq_1_9, pq_1_10, pq_1_11, pq_1_12] (by rfl) (by decide +kernel)) ggX0_measureChain_X2_size
set_option maxRecDepth 20000 in
theorem ggX0_measureChain_X5_size : GoodIn wsX0_measureChain wsX5_size := goodIn_s seX0_measureChain _ [pq_1_18, pq_1_19, pq_1_20, pq_5_0, pq_5_1, pq_5_2, pq_5_3, pq_5_4, pq_5_5] (by rfl) gw_wsX5_size
set_option maxRecDepth 20000 in
theorem gX0_measureChain_X5_size_u18X5 : GoodIn wsX0_measureChain (va_wsU RX0 18 RX5 "Sashwords$Text" ⟨"Sashwords$Text", "size", "()I"⟩ yX5_size wsX5_size) := goodIn_app (goodIn_s seX0_measureChain _ [pq_1_8, pq_1_9, pq_1_15, pq_1_16, pq_1_17] (by rfl) (by decide +kernel)) ggX0_measureChain_X5_size
set_option maxRecDepth 20000 in
theorem ggX0_measureChain_X0_greatestOf : GoodIn wsX0_measureChain wsX0_greatestOf := goodIn_s seX0_measureChain _ [pq_2_19, pq_1_7, pq_3_0, pq_3_1, pq_3_2] (by rfl) gw_wsX0_greatestOf
set_option maxRecDepth 20000 in
theorem gX0_measureChain_X0_greatestOf : GoodIn wsX0_measureChain (wsV RX0 32 RX0 yX0_greatestOf wsX0_greatestOf) := goodIn_app (goodIn_s seX0_measureChain _ [pq_2_16, pq_2_17, pq_2_18, pq_1_5] (by rfl) (by decide +kernel)) ggX0_measureChain_X0_greatestOf
def lb_sgX0_measureChain : List (List UInt8) := [[42, 43, 182, 0, 35, 42, 3, 181, 0, 39, 43, 182, 0, 18, 61, 43], [182, 0, 18, 62, 29, 158, 0, 51, 28, 158, 0, 47, 42, 28, 182, 0], [32, 61, 42, 180, 0, 39, 42, 180, 0, 15, 190, 162, 0, 23, 42, 180], [0, 15, 42, 180, 0, 39, 28, 79, 42, 89, 180, 0, 39, 4, 96, 181], [0, 39, 132, 3, 255, 167, 255, 207, 177]]
set_option maxRecDepth 100000 in
theorem lb_seX0_measureChain : cX0_measureChain.data.toList = lb_sgX0_measureChain.flatten := by decide +kernel
theorem lb_lnX0_measureChain : ∀ s ∈ lb_sgX0_measureChain.dropLast, s.length = 16 := by decide +kernel
theorem lxX0_measureChain (k j : Nat) {b : UInt8} (h : (lb_sgX0_measureChain[k]?).bind (fun s => s[j]?) = some b) : lb_at cX0_measureChain (16 * k + j) b := by
  unfold lb_at
  rw [lb_seX0_measureChain]
  exact lb_flat 16 lb_sgX0_measureChain k j b lb_lnX0_measureChain h
set_option maxRecDepth 20000 in
theorem dX0_measureChain_0 : decode cX0_measureChain 0 = .ok (.aload_n 0, 1) := dc_42 (lxX0_measureChain 0 0 rfl)
set_option maxRecDepth 20000 in
theorem dX0_measureChain_1 : decode cX0_measureChain 1 = .ok (.aload_n 1, 1) := dc_43 (lxX0_measureChain 0 1 rfl)
set_option maxRecDepth 20000 in
theorem dX0_measureChain_2 : decode cX0_measureChain 2 = .ok (.invokevirtual 35, 3) := dc_182 0 35 (lxX0_measureChain 0 2 rfl) (lxX0_measureChain 0 3 rfl) (lxX0_measureChain 0 4 rfl)
set_option maxRecDepth 20000 in
theorem dX0_measureChain_5 : decode cX0_measureChain 5 = .ok (.aload_n 0, 1) := dc_42 (lxX0_measureChain 0 5 rfl)
set_option maxRecDepth 20000 in
theorem dX0_measureChain_6 : decode cX0_measureChain 6 = .ok (.iconst 0, 1) := dc_3 (lxX0_measureChain 0 6 rfl)
set_option maxRecDepth 20000 in
theorem dX0_measureChain_7 : decode cX0_measureChain 7 = .ok (.putfield 39, 3) := dc_181 0 39 (lxX0_measureChain 0 7 rfl) (lxX0_measureChain 0 8 rfl) (lxX0_measureChain 0 9 rfl)
set_option maxRecDepth 20000 in
theorem dX0_measureChain_10 : decode cX0_measureChain 10 = .ok (.aload_n 1, 1) := dc_43 (lxX0_measureChain 0 10 rfl)
set_option maxRecDepth 20000 in
theorem dX0_measureChain_11 : decode cX0_measureChain 11 = .ok (.invokevirtual 18, 3) := dc_182 0 18 (lxX0_measureChain 0 11 rfl) (lxX0_measureChain 0 12 rfl) (lxX0_measureChain 0 13 rfl)
set_option maxRecDepth 20000 in
theorem dX0_measureChain_14 : decode cX0_measureChain 14 = .ok (.istore_n 2, 1) := dc_61 (lxX0_measureChain 0 14 rfl)
set_option maxRecDepth 20000 in
theorem dX0_measureChain_15 : decode cX0_measureChain 15 = .ok (.aload_n 1, 1) := dc_43 (lxX0_measureChain 0 15 rfl)
set_option maxRecDepth 20000 in
theorem dX0_measureChain_16 : decode cX0_measureChain 16 = .ok (.invokevirtual 18, 3) := dc_182 0 18 (lxX0_measureChain 1 0 rfl) (lxX0_measureChain 1 1 rfl) (lxX0_measureChain 1 2 rfl)
set_option maxRecDepth 20000 in
theorem dX0_measureChain_19 : decode cX0_measureChain 19 = .ok (.istore_n 3, 1) := dc_62 (lxX0_measureChain 1 3 rfl)
set_option maxRecDepth 20000 in
theorem dX0_measureChain_20 : decode cX0_measureChain 20 = .ok (.iload_n 3, 1) := dc_29 (lxX0_measureChain 1 4 rfl)
set_option maxRecDepth 20000 in
theorem dX0_measureChain_21 : decode cX0_measureChain 21 = .ok (.ifCond .le 51, 3) := dc_158 0 51 (lxX0_measureChain 1 5 rfl) (lxX0_measureChain 1 6 rfl) (lxX0_measureChain 1 7 rfl)
set_option maxRecDepth 20000 in
theorem dX0_measureChain_24 : decode cX0_measureChain 24 = .ok (.iload_n 2, 1) := dc_28 (lxX0_measureChain 1 8 rfl)
set_option maxRecDepth 20000 in
theorem dX0_measureChain_25 : decode cX0_measureChain 25 = .ok (.ifCond .le 47, 3) := dc_158 0 47 (lxX0_measureChain 1 9 rfl) (lxX0_measureChain 1 10 rfl) (lxX0_measureChain 1 11 rfl)
set_option maxRecDepth 20000 in
theorem dX0_measureChain_28 : decode cX0_measureChain 28 = .ok (.aload_n 0, 1) := dc_42 (lxX0_measureChain 1 12 rfl)
set_option maxRecDepth 20000 in
theorem dX0_measureChain_29 : decode cX0_measureChain 29 = .ok (.iload_n 2, 1) := dc_28 (lxX0_measureChain 1 13 rfl)
set_option maxRecDepth 20000 in
theorem dX0_measureChain_30 : decode cX0_measureChain 30 = .ok (.invokevirtual 32, 3) := dc_182 0 32 (lxX0_measureChain 1 14 rfl) (lxX0_measureChain 1 15 rfl) (lxX0_measureChain 2 0 rfl)
set_option maxRecDepth 20000 in
theorem dX0_measureChain_33 : decode cX0_measureChain 33 = .ok (.istore_n 2, 1) := dc_61 (lxX0_measureChain 2 1 rfl)
set_option maxRecDepth 20000 in
theorem dX0_measureChain_34 : decode cX0_measureChain 34 = .ok (.aload_n 0, 1) := dc_42 (lxX0_measureChain 2 2 rfl)
set_option maxRecDepth 20000 in
theorem dX0_measureChain_35 : decode cX0_measureChain 35 = .ok (.getfield 39, 3) := dc_180 0 39 (lxX0_measureChain 2 3 rfl) (lxX0_measureChain 2 4 rfl) (lxX0_measureChain 2 5 rfl)
set_option maxRecDepth 20000 in
theorem dX0_measureChain_38 : decode cX0_measureChain 38 = .ok (.aload_n 0, 1) := dc_42 (lxX0_measureChain 2 6 rfl)
set_option maxRecDepth 20000 in
theorem dX0_measureChain_39 : decode cX0_measureChain 39 = .ok (.getfield 15, 3) := dc_180 0 15 (lxX0_measureChain 2 7 rfl) (lxX0_measureChain 2 8 rfl) (lxX0_measureChain 2 9 rfl)
set_option maxRecDepth 20000 in
theorem dX0_measureChain_42 : decode cX0_measureChain 42 = .ok (.arraylength, 1) := dc_190 (lxX0_measureChain 2 10 rfl)
set_option maxRecDepth 20000 in
theorem dX0_measureChain_43 : decode cX0_measureChain 43 = .ok (.if_icmp .ge 23, 3) := dc_162 0 23 (lxX0_measureChain 2 11 rfl) (lxX0_measureChain 2 12 rfl) (lxX0_measureChain 2 13 rfl)
set_option maxRecDepth 20000 in
theorem dX0_measureChain_46 : decode cX0_measureChain 46 = .ok (.aload_n 0, 1) := dc_42 (lxX0_measureChain 2 14 rfl)
set_option maxRecDepth 20000 in
theorem dX0_measureChain_47 : decode cX0_measureChain 47 = .ok (.getfield 15, 3) := dc_180 0 15 (lxX0_measureChain 2 15 rfl) (lxX0_measureChain 3 0 rfl) (lxX0_measureChain 3 1 rfl)
set_option maxRecDepth 20000 in
theorem dX0_measureChain_50 : decode cX0_measureChain 50 = .ok (.aload_n 0, 1) := dc_42 (lxX0_measureChain 3 2 rfl)
set_option maxRecDepth 20000 in
theorem dX0_measureChain_51 : decode cX0_measureChain 51 = .ok (.getfield 39, 3) := dc_180 0 39 (lxX0_measureChain 3 3 rfl) (lxX0_measureChain 3 4 rfl) (lxX0_measureChain 3 5 rfl)
set_option maxRecDepth 20000 in
theorem dX0_measureChain_54 : decode cX0_measureChain 54 = .ok (.iload_n 2, 1) := dc_28 (lxX0_measureChain 3 6 rfl)
set_option maxRecDepth 20000 in
theorem dX0_measureChain_55 : decode cX0_measureChain 55 = .ok (.iastore, 1) := dc_79 (lxX0_measureChain 3 7 rfl)
set_option maxRecDepth 20000 in
theorem dX0_measureChain_56 : decode cX0_measureChain 56 = .ok (.aload_n 0, 1) := dc_42 (lxX0_measureChain 3 8 rfl)
set_option maxRecDepth 20000 in
theorem dX0_measureChain_57 : decode cX0_measureChain 57 = .ok (.dup, 1) := dc_89 (lxX0_measureChain 3 9 rfl)
set_option maxRecDepth 20000 in
theorem dX0_measureChain_58 : decode cX0_measureChain 58 = .ok (.getfield 39, 3) := dc_180 0 39 (lxX0_measureChain 3 10 rfl) (lxX0_measureChain 3 11 rfl) (lxX0_measureChain 3 12 rfl)
set_option maxRecDepth 20000 in
theorem dX0_measureChain_61 : decode cX0_measureChain 61 = .ok (.iconst 1, 1) := dc_4 (lxX0_measureChain 3 13 rfl)
set_option maxRecDepth 20000 in
theorem dX0_measureChain_62 : decode cX0_measureChain 62 = .ok (.iadd, 1) := dc_96 (lxX0_measureChain 3 14 rfl)
set_option maxRecDepth 20000 in
theorem dX0_measureChain_63 : decode cX0_measureChain 63 = .ok (.putfield 39, 3) := dc_181 0 39 (lxX0_measureChain 3 15 rfl) (lxX0_measureChain 4 0 rfl) (lxX0_measureChain 4 1 rfl)
set_option maxRecDepth 20000 in
theorem dX0_measureChain_66 : decode cX0_measureChain 66 = .ok (.iinc 3 (-1), 3) := dc_132 3 255 (lxX0_measureChain 4 2 rfl) (lxX0_measureChain 4 3 rfl) (lxX0_measureChain 4 4 rfl)
set_option maxRecDepth 20000 in
theorem dX0_measureChain_69 : decode cX0_measureChain 69 = .ok (.goto (-49), 3) := dc_167 255 207 (lxX0_measureChain 4 5 rfl) (lxX0_measureChain 4 6 rfl) (lxX0_measureChain 4 7 rfl)
set_option maxRecDepth 20000 in
theorem dX0_measureChain_72 : decode cX0_measureChain 72 = .ok (.return_, 1) := dc_177 (lxX0_measureChain 4 8 rfl)
def lb_sgX0_linkAt : List (List UInt8) := [[27, 155, 0, 20, 27, 42, 180, 0, 39, 162, 0, 12, 27, 42, 180, 0], [15, 190, 161, 0, 7, 2, 167, 0, 9, 42, 180, 0, 15, 27, 46, 172]]
set_option maxRecDepth 100000 in
theorem lb_seX0_linkAt : cX0_linkAt.data.toList = lb_sgX0_linkAt.flatten := by decide +kernel
theorem lb_lnX0_linkAt : ∀ s ∈ lb_sgX0_linkAt.dropLast, s.length = 16 := by decide +kernel
theorem lxX0_linkAt (k j : Nat) {b : UInt8} (h : (lb_sgX0_linkAt[k]?).bind (fun s => s[j]?) = some b) : lb_at cX0_linkAt (16 * k + j) b := by
  unfold lb_at
  rw [lb_seX0_linkAt]
  exact lb_flat 16 lb_sgX0_linkAt k j b lb_lnX0_linkAt h
set_option maxRecDepth 20000 in
theorem dX0_linkAt_0 : decode cX0_linkAt 0 = .ok (.iload_n 1, 1) := dc_27 (lxX0_linkAt 0 0 rfl)
set_option maxRecDepth 20000 in
theorem dX0_linkAt_1 : decode cX0_linkAt 1 = .ok (.ifCond .lt 20, 3) := dc_155 0 20 (lxX0_linkAt 0 1 rfl) (lxX0_linkAt 0 2 rfl) (lxX0_linkAt 0 3 rfl)
set_option maxRecDepth 20000 in
theorem dX0_linkAt_4 : decode cX0_linkAt 4 = .ok (.iload_n 1, 1) := dc_27 (lxX0_linkAt 0 4 rfl)
set_option maxRecDepth 20000 in
theorem dX0_linkAt_5 : decode cX0_linkAt 5 = .ok (.aload_n 0, 1) := dc_42 (lxX0_linkAt 0 5 rfl)
set_option maxRecDepth 20000 in
theorem dX0_linkAt_6 : decode cX0_linkAt 6 = .ok (.getfield 39, 3) := dc_180 0 39 (lxX0_linkAt 0 6 rfl) (lxX0_linkAt 0 7 rfl) (lxX0_linkAt 0 8 rfl)
set_option maxRecDepth 20000 in
theorem dX0_linkAt_9 : decode cX0_linkAt 9 = .ok (.if_icmp .ge 12, 3) := dc_162 0 12 (lxX0_linkAt 0 9 rfl) (lxX0_linkAt 0 10 rfl) (lxX0_linkAt 0 11 rfl)
set_option maxRecDepth 20000 in
theorem dX0_linkAt_12 : decode cX0_linkAt 12 = .ok (.iload_n 1, 1) := dc_27 (lxX0_linkAt 0 12 rfl)
set_option maxRecDepth 20000 in
theorem dX0_linkAt_13 : decode cX0_linkAt 13 = .ok (.aload_n 0, 1) := dc_42 (lxX0_linkAt 0 13 rfl)
set_option maxRecDepth 20000 in
theorem dX0_linkAt_14 : decode cX0_linkAt 14 = .ok (.getfield 15, 3) := dc_180 0 15 (lxX0_linkAt 0 14 rfl) (lxX0_linkAt 0 15 rfl) (lxX0_linkAt 1 0 rfl)
set_option maxRecDepth 20000 in
theorem dX0_linkAt_17 : decode cX0_linkAt 17 = .ok (.arraylength, 1) := dc_190 (lxX0_linkAt 1 1 rfl)
set_option maxRecDepth 20000 in
theorem dX0_linkAt_18 : decode cX0_linkAt 18 = .ok (.if_icmp .lt 7, 3) := dc_161 0 7 (lxX0_linkAt 1 2 rfl) (lxX0_linkAt 1 3 rfl) (lxX0_linkAt 1 4 rfl)
set_option maxRecDepth 20000 in
theorem dX0_linkAt_21 : decode cX0_linkAt 21 = .ok (.iconst (-1), 1) := dc_2 (lxX0_linkAt 1 5 rfl)
set_option maxRecDepth 20000 in
theorem dX0_linkAt_22 : decode cX0_linkAt 22 = .ok (.goto 9, 3) := dc_167 0 9 (lxX0_linkAt 1 6 rfl) (lxX0_linkAt 1 7 rfl) (lxX0_linkAt 1 8 rfl)
set_option maxRecDepth 20000 in
theorem dX0_linkAt_25 : decode cX0_linkAt 25 = .ok (.aload_n 0, 1) := dc_42 (lxX0_linkAt 1 9 rfl)
set_option maxRecDepth 20000 in
theorem dX0_linkAt_26 : decode cX0_linkAt 26 = .ok (.getfield 15, 3) := dc_180 0 15 (lxX0_linkAt 1 10 rfl) (lxX0_linkAt 1 11 rfl) (lxX0_linkAt 1 12 rfl)
set_option maxRecDepth 20000 in
theorem dX0_linkAt_29 : decode cX0_linkAt 29 = .ok (.iload_n 1, 1) := dc_27 (lxX0_linkAt 1 13 rfl)
set_option maxRecDepth 20000 in
theorem dX0_linkAt_30 : decode cX0_linkAt 30 = .ok (.iaload, 1) := dc_46 (lxX0_linkAt 1 14 rfl)
set_option maxRecDepth 20000 in
theorem dX0_linkAt_31 : decode cX0_linkAt 31 = .ok (.ireturn, 1) := dc_172 (lxX0_linkAt 1 15 rfl)
