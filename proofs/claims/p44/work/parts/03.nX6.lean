noncomputable def sgX6_init : List (List Cond) := [[.code yX6_init cX6_init 2 none], wsX6_init_r1, wsX6_init_r2, wsX6_init_r3, wsX60, wsX20, wsX10, wsX50, wsX30, wsX00]
theorem seX6_init : sgX6_init.flatten = wsX6_init := by simp only [sgX6_init, wsX6_init, List.flatten_cons, List.flatten_nil, List.append_assoc, List.append_nil, List.cons_append, List.nil_append]
set_option maxRecDepth 20000 in
theorem ggX6_init_X2_init : GoodIn wsX6_init wsX2_init := goodIn_s seX6_init _ [pq_2_6, pq_2_7, pq_2_8, pq_2_9, pq_2_10, pq_2_11, pq_2_12, pq_2_13, pq_2_14, pq_2_15, pq_2_16, pq_1_1, pq_1_2, pq_5_0, pq_5_1] (by rfl) (by decide +kernel)
set_option maxRecDepth 20000 in
theorem gX6_init_X2_init : GoodIn wsX6_init (wsX2_init) := ggX6_init_X2_init
set_option maxRecDepth 20000 in
theorem ggX6_init_X1_init : GoodIn wsX6_init wsX1_init := goodIn_s seX6_init _ [pq_2_18, pq_2_19, pq_1_1, pq_1_2, pq_2_20, pq_1_6, pq_1_7, pq_2_21, pq_2_22, pq_2_23, pq_3_0, pq_3_1, pq_2_5, pq_2_6, pq_2_7, pq_2_8, pq_2_9, pq_2_10, pq_2_11, pq_2_12, pq_2_13, pq_2_14, pq_2_15, pq_2_16, pq_5_0, pq_5_1, pq_6_0, pq_6_1, pq_6_2, pq_6_3] (by rfl) (by decide +kernel)
set_option maxRecDepth 20000 in
theorem gX6_init_X1_init_n29 : GoodIn wsX6_init (wsX1_init) := ggX6_init_X1_init
set_option maxRecDepth 20000 in
theorem ggX6_init_X5_init : GoodIn wsX6_init wsX5_init := goodIn_s seX6_init _ [pq_3_4, pq_3_5, pq_2_8, pq_2_9, pq_2_10, pq_2_11, pq_3_6, pq_3_7, pq_3_8, pq_3_9, pq_2_13, pq_2_14, pq_2_15, pq_2_16, pq_1_1, pq_1_2, pq_7_0, pq_7_1, pq_7_2, pq_7_3, pq_7_4, pq_7_5] (by rfl) (by decide +kernel)
set_option maxRecDepth 20000 in
theorem gX6_init_X5_init : GoodIn wsX6_init (wsX5_init) := ggX6_init_X5_init
set_option maxRecDepth 20000 in
theorem ggX6_init_X3_init : GoodIn wsX6_init wsX3_init := goodIn_s seX6_init _ [pq_3_11, pq_3_12, pq_1_1, pq_1_2, pq_3_13, pq_2_1, pq_2_2, pq_3_14, pq_3_15, pq_3_16, pq_3_17, pq_3_18, pq_3_19, pq_3_20, pq_3_21, pq_9_0, pq_9_1, pq_9_2, pq_8_0, pq_8_1, pq_8_2] (by rfl) (by decide +kernel)
set_option maxRecDepth 20000 in
theorem gX6_init_X3_init_n47 : GoodIn wsX6_init (wsX3_init) := ggX6_init_X3_init
set_option maxRecDepth 20000 in
theorem ggX6_init_X0_init : GoodIn wsX6_init wsX0_init := goodIn_s seX6_init _ [pq_3_18, pq_3_19, pq_1_1, pq_1_2, pq_3_15, pq_3_20, pq_3_21, pq_9_0, pq_9_1, pq_9_2] (by rfl) (by decide +kernel)
set_option maxRecDepth 20000 in
theorem gX6_init_X0_init_n57 : GoodIn wsX6_init (wsX0_init) := ggX6_init_X0_init
def lb_sgX6_init : List (List UInt8) := [[42, 183, 0, 1, 42, 16, 6, 189, 0, 9, 181, 0, 11, 42, 187, 0], [15, 89, 16, 80, 183, 0, 17, 181, 0, 20, 42, 187, 0, 15, 89, 16], [80, 183, 0, 17, 181, 0, 24, 42, 187, 0, 27, 89, 183, 0, 29, 181], [0, 30, 42, 187, 0, 9, 89, 3, 183, 0, 34, 181, 0, 35, 42, 187], [0, 15, 89, 16, 80, 183, 0, 17, 181, 0, 39, 42, 187, 0, 15, 89], [16, 80, 183, 0, 17, 181, 0, 42, 42, 187, 0, 45, 89, 183, 0, 47], [181, 0, 48, 42, 187, 0, 45, 89, 183, 0, 47, 181, 0, 52, 42, 187], [0, 55, 89, 183, 0, 57, 181, 0, 58, 3, 60, 27, 42, 180, 0, 11], [190, 162, 0, 24, 42, 180, 0, 11, 27, 187, 0, 9, 89, 16, 12, 183], [0, 34, 83, 132, 1, 1, 167, 255, 229, 177]]
set_option maxRecDepth 100000 in
theorem lb_seX6_init : cX6_init.data.toList = lb_sgX6_init.flatten := by decide +kernel
theorem lb_lnX6_init : ∀ s ∈ lb_sgX6_init.dropLast, s.length = 16 := by decide +kernel
theorem lxX6_init (k j : Nat) {b : UInt8} (h : (lb_sgX6_init[k]?).bind (fun s => s[j]?) = some b) : lb_at cX6_init (16 * k + j) b := by
  unfold lb_at
  rw [lb_seX6_init]
  exact lb_flat 16 lb_sgX6_init k j b lb_lnX6_init h
set_option maxRecDepth 20000 in
theorem dX6_init_0 : decode cX6_init 0 = .ok (.aload_n 0, 1) := dc_42 (lxX6_init 0 0 rfl)
set_option maxRecDepth 20000 in
theorem dX6_init_1 : decode cX6_init 1 = .ok (.invokespecial 1, 3) := dc_183 0 1 (lxX6_init 0 1 rfl) (lxX6_init 0 2 rfl) (lxX6_init 0 3 rfl)
set_option maxRecDepth 20000 in
theorem dX6_init_4 : decode cX6_init 4 = .ok (.aload_n 0, 1) := dc_42 (lxX6_init 0 4 rfl)
set_option maxRecDepth 20000 in
theorem dX6_init_5 : decode cX6_init 5 = .ok (.bipush 6, 2) := dc_16 6 (lxX6_init 0 5 rfl) (lxX6_init 0 6 rfl)
set_option maxRecDepth 20000 in
theorem dX6_init_7 : decode cX6_init 7 = .ok (.anewarray 9, 3) := dc_189 0 9 (lxX6_init 0 7 rfl) (lxX6_init 0 8 rfl) (lxX6_init 0 9 rfl)
set_option maxRecDepth 20000 in
theorem dX6_init_10 : decode cX6_init 10 = .ok (.putfield 11, 3) := dc_181 0 11 (lxX6_init 0 10 rfl) (lxX6_init 0 11 rfl) (lxX6_init 0 12 rfl)
set_option maxRecDepth 20000 in
theorem dX6_init_13 : decode cX6_init 13 = .ok (.aload_n 0, 1) := dc_42 (lxX6_init 0 13 rfl)
set_option maxRecDepth 20000 in
theorem dX6_init_14 : decode cX6_init 14 = .ok (.new 15, 3) := dc_187 0 15 (lxX6_init 0 14 rfl) (lxX6_init 0 15 rfl) (lxX6_init 1 0 rfl)
set_option maxRecDepth 20000 in
theorem dX6_init_17 : decode cX6_init 17 = .ok (.dup, 1) := dc_89 (lxX6_init 1 1 rfl)
set_option maxRecDepth 20000 in
theorem dX6_init_18 : decode cX6_init 18 = .ok (.bipush 80, 2) := dc_16 80 (lxX6_init 1 2 rfl) (lxX6_init 1 3 rfl)
set_option maxRecDepth 20000 in
theorem dX6_init_20 : decode cX6_init 20 = .ok (.invokespecial 17, 3) := dc_183 0 17 (lxX6_init 1 4 rfl) (lxX6_init 1 5 rfl) (lxX6_init 1 6 rfl)
set_option maxRecDepth 20000 in
theorem dX6_init_23 : decode cX6_init 23 = .ok (.putfield 20, 3) := dc_181 0 20 (lxX6_init 1 7 rfl) (lxX6_init 1 8 rfl) (lxX6_init 1 9 rfl)
set_option maxRecDepth 20000 in
theorem dX6_init_26 : decode cX6_init 26 = .ok (.aload_n 0, 1) := dc_42 (lxX6_init 1 10 rfl)
set_option maxRecDepth 20000 in
theorem dX6_init_27 : decode cX6_init 27 = .ok (.new 15, 3) := dc_187 0 15 (lxX6_init 1 11 rfl) (lxX6_init 1 12 rfl) (lxX6_init 1 13 rfl)
set_option maxRecDepth 20000 in
theorem dX6_init_30 : decode cX6_init 30 = .ok (.dup, 1) := dc_89 (lxX6_init 1 14 rfl)
set_option maxRecDepth 20000 in
theorem dX6_init_31 : decode cX6_init 31 = .ok (.bipush 80, 2) := dc_16 80 (lxX6_init 1 15 rfl) (lxX6_init 2 0 rfl)
set_option maxRecDepth 20000 in
theorem dX6_init_33 : decode cX6_init 33 = .ok (.invokespecial 17, 3) := dc_183 0 17 (lxX6_init 2 1 rfl) (lxX6_init 2 2 rfl) (lxX6_init 2 3 rfl)
set_option maxRecDepth 20000 in
theorem dX6_init_36 : decode cX6_init 36 = .ok (.putfield 24, 3) := dc_181 0 24 (lxX6_init 2 4 rfl) (lxX6_init 2 5 rfl) (lxX6_init 2 6 rfl)
set_option maxRecDepth 20000 in
theorem dX6_init_39 : decode cX6_init 39 = .ok (.aload_n 0, 1) := dc_42 (lxX6_init 2 7 rfl)
set_option maxRecDepth 20000 in
theorem dX6_init_40 : decode cX6_init 40 = .ok (.new 27, 3) := dc_187 0 27 (lxX6_init 2 8 rfl) (lxX6_init 2 9 rfl) (lxX6_init 2 10 rfl)
set_option maxRecDepth 20000 in
theorem dX6_init_43 : decode cX6_init 43 = .ok (.dup, 1) := dc_89 (lxX6_init 2 11 rfl)
set_option maxRecDepth 20000 in
theorem dX6_init_44 : decode cX6_init 44 = .ok (.invokespecial 29, 3) := dc_183 0 29 (lxX6_init 2 12 rfl) (lxX6_init 2 13 rfl) (lxX6_init 2 14 rfl)
set_option maxRecDepth 20000 in
theorem dX6_init_47 : decode cX6_init 47 = .ok (.putfield 30, 3) := dc_181 0 30 (lxX6_init 2 15 rfl) (lxX6_init 3 0 rfl) (lxX6_init 3 1 rfl)
set_option maxRecDepth 20000 in
theorem dX6_init_50 : decode cX6_init 50 = .ok (.aload_n 0, 1) := dc_42 (lxX6_init 3 2 rfl)
set_option maxRecDepth 20000 in
theorem dX6_init_51 : decode cX6_init 51 = .ok (.new 9, 3) := dc_187 0 9 (lxX6_init 3 3 rfl) (lxX6_init 3 4 rfl) (lxX6_init 3 5 rfl)
set_option maxRecDepth 20000 in
theorem dX6_init_54 : decode cX6_init 54 = .ok (.dup, 1) := dc_89 (lxX6_init 3 6 rfl)
set_option maxRecDepth 20000 in
theorem dX6_init_55 : decode cX6_init 55 = .ok (.iconst 0, 1) := dc_3 (lxX6_init 3 7 rfl)
set_option maxRecDepth 20000 in
theorem dX6_init_56 : decode cX6_init 56 = .ok (.invokespecial 34, 3) := dc_183 0 34 (lxX6_init 3 8 rfl) (lxX6_init 3 9 rfl) (lxX6_init 3 10 rfl)
set_option maxRecDepth 20000 in
theorem dX6_init_59 : decode cX6_init 59 = .ok (.putfield 35, 3) := dc_181 0 35 (lxX6_init 3 11 rfl) (lxX6_init 3 12 rfl) (lxX6_init 3 13 rfl)
set_option maxRecDepth 20000 in
theorem dX6_init_62 : decode cX6_init 62 = .ok (.aload_n 0, 1) := dc_42 (lxX6_init 3 14 rfl)
set_option maxRecDepth 20000 in
theorem dX6_init_63 : decode cX6_init 63 = .ok (.new 15, 3) := dc_187 0 15 (lxX6_init 3 15 rfl) (lxX6_init 4 0 rfl) (lxX6_init 4 1 rfl)
set_option maxRecDepth 20000 in
theorem dX6_init_66 : decode cX6_init 66 = .ok (.dup, 1) := dc_89 (lxX6_init 4 2 rfl)
set_option maxRecDepth 20000 in
theorem dX6_init_67 : decode cX6_init 67 = .ok (.bipush 80, 2) := dc_16 80 (lxX6_init 4 3 rfl) (lxX6_init 4 4 rfl)
set_option maxRecDepth 20000 in
theorem dX6_init_69 : decode cX6_init 69 = .ok (.invokespecial 17, 3) := dc_183 0 17 (lxX6_init 4 5 rfl) (lxX6_init 4 6 rfl) (lxX6_init 4 7 rfl)
set_option maxRecDepth 20000 in
theorem dX6_init_72 : decode cX6_init 72 = .ok (.putfield 39, 3) := dc_181 0 39 (lxX6_init 4 8 rfl) (lxX6_init 4 9 rfl) (lxX6_init 4 10 rfl)
set_option maxRecDepth 20000 in
theorem dX6_init_75 : decode cX6_init 75 = .ok (.aload_n 0, 1) := dc_42 (lxX6_init 4 11 rfl)
set_option maxRecDepth 20000 in
theorem dX6_init_76 : decode cX6_init 76 = .ok (.new 15, 3) := dc_187 0 15 (lxX6_init 4 12 rfl) (lxX6_init 4 13 rfl) (lxX6_init 4 14 rfl)
set_option maxRecDepth 20000 in
theorem dX6_init_79 : decode cX6_init 79 = .ok (.dup, 1) := dc_89 (lxX6_init 4 15 rfl)
set_option maxRecDepth 20000 in
theorem dX6_init_80 : decode cX6_init 80 = .ok (.bipush 80, 2) := dc_16 80 (lxX6_init 5 0 rfl) (lxX6_init 5 1 rfl)
set_option maxRecDepth 20000 in
theorem dX6_init_82 : decode cX6_init 82 = .ok (.invokespecial 17, 3) := dc_183 0 17 (lxX6_init 5 2 rfl) (lxX6_init 5 3 rfl) (lxX6_init 5 4 rfl)
set_option maxRecDepth 20000 in
theorem dX6_init_85 : decode cX6_init 85 = .ok (.putfield 42, 3) := dc_181 0 42 (lxX6_init 5 5 rfl) (lxX6_init 5 6 rfl) (lxX6_init 5 7 rfl)
set_option maxRecDepth 20000 in
theorem dX6_init_88 : decode cX6_init 88 = .ok (.aload_n 0, 1) := dc_42 (lxX6_init 5 8 rfl)
set_option maxRecDepth 20000 in
theorem dX6_init_89 : decode cX6_init 89 = .ok (.new 45, 3) := dc_187 0 45 (lxX6_init 5 9 rfl) (lxX6_init 5 10 rfl) (lxX6_init 5 11 rfl)
set_option maxRecDepth 20000 in
theorem dX6_init_92 : decode cX6_init 92 = .ok (.dup, 1) := dc_89 (lxX6_init 5 12 rfl)
set_option maxRecDepth 20000 in
theorem dX6_init_93 : decode cX6_init 93 = .ok (.invokespecial 47, 3) := dc_183 0 47 (lxX6_init 5 13 rfl) (lxX6_init 5 14 rfl) (lxX6_init 5 15 rfl)
set_option maxRecDepth 20000 in
theorem dX6_init_96 : decode cX6_init 96 = .ok (.putfield 48, 3) := dc_181 0 48 (lxX6_init 6 0 rfl) (lxX6_init 6 1 rfl) (lxX6_init 6 2 rfl)
set_option maxRecDepth 20000 in
theorem dX6_init_99 : decode cX6_init 99 = .ok (.aload_n 0, 1) := dc_42 (lxX6_init 6 3 rfl)
set_option maxRecDepth 20000 in
theorem dX6_init_100 : decode cX6_init 100 = .ok (.new 45, 3) := dc_187 0 45 (lxX6_init 6 4 rfl) (lxX6_init 6 5 rfl) (lxX6_init 6 6 rfl)
set_option maxRecDepth 20000 in
theorem dX6_init_103 : decode cX6_init 103 = .ok (.dup, 1) := dc_89 (lxX6_init 6 7 rfl)
set_option maxRecDepth 20000 in
theorem dX6_init_104 : decode cX6_init 104 = .ok (.invokespecial 47, 3) := dc_183 0 47 (lxX6_init 6 8 rfl) (lxX6_init 6 9 rfl) (lxX6_init 6 10 rfl)
set_option maxRecDepth 20000 in
theorem dX6_init_107 : decode cX6_init 107 = .ok (.putfield 52, 3) := dc_181 0 52 (lxX6_init 6 11 rfl) (lxX6_init 6 12 rfl) (lxX6_init 6 13 rfl)
set_option maxRecDepth 20000 in
theorem dX6_init_110 : decode cX6_init 110 = .ok (.aload_n 0, 1) := dc_42 (lxX6_init 6 14 rfl)
set_option maxRecDepth 20000 in
theorem dX6_init_111 : decode cX6_init 111 = .ok (.new 55, 3) := dc_187 0 55 (lxX6_init 6 15 rfl) (lxX6_init 7 0 rfl) (lxX6_init 7 1 rfl)
set_option maxRecDepth 20000 in
theorem dX6_init_114 : decode cX6_init 114 = .ok (.dup, 1) := dc_89 (lxX6_init 7 2 rfl)
set_option maxRecDepth 20000 in
theorem dX6_init_115 : decode cX6_init 115 = .ok (.invokespecial 57, 3) := dc_183 0 57 (lxX6_init 7 3 rfl) (lxX6_init 7 4 rfl) (lxX6_init 7 5 rfl)
set_option maxRecDepth 20000 in
theorem dX6_init_118 : decode cX6_init 118 = .ok (.putfield 58, 3) := dc_181 0 58 (lxX6_init 7 6 rfl) (lxX6_init 7 7 rfl) (lxX6_init 7 8 rfl)
set_option maxRecDepth 20000 in
theorem dX6_init_121 : decode cX6_init 121 = .ok (.iconst 0, 1) := dc_3 (lxX6_init 7 9 rfl)
set_option maxRecDepth 20000 in
theorem dX6_init_122 : decode cX6_init 122 = .ok (.istore_n 1, 1) := dc_60 (lxX6_init 7 10 rfl)
set_option maxRecDepth 20000 in
theorem dX6_init_123 : decode cX6_init 123 = .ok (.iload_n 1, 1) := dc_27 (lxX6_init 7 11 rfl)
set_option maxRecDepth 20000 in
theorem dX6_init_124 : decode cX6_init 124 = .ok (.aload_n 0, 1) := dc_42 (lxX6_init 7 12 rfl)
set_option maxRecDepth 20000 in
theorem dX6_init_125 : decode cX6_init 125 = .ok (.getfield 11, 3) := dc_180 0 11 (lxX6_init 7 13 rfl) (lxX6_init 7 14 rfl) (lxX6_init 7 15 rfl)
set_option maxRecDepth 20000 in
theorem dX6_init_128 : decode cX6_init 128 = .ok (.arraylength, 1) := dc_190 (lxX6_init 8 0 rfl)
set_option maxRecDepth 20000 in
theorem dX6_init_129 : decode cX6_init 129 = .ok (.if_icmp .ge 24, 3) := dc_162 0 24 (lxX6_init 8 1 rfl) (lxX6_init 8 2 rfl) (lxX6_init 8 3 rfl)
set_option maxRecDepth 20000 in
theorem dX6_init_132 : decode cX6_init 132 = .ok (.aload_n 0, 1) := dc_42 (lxX6_init 8 4 rfl)
set_option maxRecDepth 20000 in
theorem dX6_init_133 : decode cX6_init 133 = .ok (.getfield 11, 3) := dc_180 0 11 (lxX6_init 8 5 rfl) (lxX6_init 8 6 rfl) (lxX6_init 8 7 rfl)
set_option maxRecDepth 20000 in
theorem dX6_init_136 : decode cX6_init 136 = .ok (.iload_n 1, 1) := dc_27 (lxX6_init 8 8 rfl)
set_option maxRecDepth 20000 in
theorem dX6_init_137 : decode cX6_init 137 = .ok (.new 9, 3) := dc_187 0 9 (lxX6_init 8 9 rfl) (lxX6_init 8 10 rfl) (lxX6_init 8 11 rfl)
set_option maxRecDepth 20000 in
theorem dX6_init_140 : decode cX6_init 140 = .ok (.dup, 1) := dc_89 (lxX6_init 8 12 rfl)
set_option maxRecDepth 20000 in
theorem dX6_init_141 : decode cX6_init 141 = .ok (.bipush 12, 2) := dc_16 12 (lxX6_init 8 13 rfl) (lxX6_init 8 14 rfl)
set_option maxRecDepth 20000 in
theorem dX6_init_143 : decode cX6_init 143 = .ok (.invokespecial 34, 3) := dc_183 0 34 (lxX6_init 8 15 rfl) (lxX6_init 9 0 rfl) (lxX6_init 9 1 rfl)
set_option maxRecDepth 20000 in
theorem dX6_init_146 : decode cX6_init 146 = .ok (.aastore, 1) := dc_83 (lxX6_init 9 2 rfl)
set_option maxRecDepth 20000 in
theorem dX6_init_147 : decode cX6_init 147 = .ok (.iinc 1 1, 3) := dc_132 1 1 (lxX6_init 9 3 rfl) (lxX6_init 9 4 rfl) (lxX6_init 9 5 rfl)
set_option maxRecDepth 20000 in
theorem dX6_init_150 : decode cX6_init 150 = .ok (.goto (-27), 3) := dc_167 255 229 (lxX6_init 9 6 rfl) (lxX6_init 9 7 rfl) (lxX6_init 9 8 rfl)
set_option maxRecDepth 20000 in
theorem dX6_init_153 : decode cX6_init 153 = .ok (.return_, 1) := dc_177 (lxX6_init 9 9 rfl)
noncomputable def sgX6_allocate : List (List Cond) := [[.code yX6_allocate cX6_allocate 4 (some .int)], wsX6_allocate_r1, wsX6_allocate_r2, wsX60, wsX50, (vx_atS RX6 306 "java/lang/IndexOutOfBoundsException" ["java/lang/RuntimeException", "java/lang/Exception"]).filter goodWord, (vx_atS RX6 317 "java/lang/IllegalArgumentException" ["java/lang/RuntimeException", "java/lang/Exception"]).filter goodWord]
theorem seX6_allocate : sgX6_allocate.flatten = wsX6_allocate := by simp only [sgX6_allocate, wsX6_allocate, List.flatten_cons, List.flatten_nil, List.append_assoc, List.append_nil, List.cons_append, List.nil_append]
set_option maxRecDepth 20000 in
theorem ggX6_allocate_X6_windowOf : GoodIn wsX6_allocate wsX6_windowOf := goodIn_ca (goodIn_s seX6_allocate _ [pq_1_4, pq_1_5, pq_1_6, pq_1_7, pq_3_0, pq_3_1, pq_3_2, pq_3_3, pq_3_4, pq_3_5, pq_3_6, pq_3_7, pq_3_8, pq_3_9, pq_3_10, pq_3_11, pq_3_12, pq_3_13] (by rfl) (by decide +kernel)) (goodIn_sub (fun _ h => List.mem_cons_of_mem _ (List.mem_append_left _ (List.mem_append_right _ h))) (by decide +kernel))
set_option maxRecDepth 20000 in
theorem gX6_allocate_X6_windowOf : GoodIn wsX6_allocate (wsV RX6 62 RX6 yX6_windowOf wsX6_windowOf) := goodIn_app (goodIn_s seX6_allocate _ [pq_1_0, pq_1_1, pq_1_2, pq_1_3] (by rfl) (by decide +kernel)) ggX6_allocate_X6_windowOf
set_option maxRecDepth 20000 in
theorem ggX6_allocate_X6_requireWithin : GoodIn wsX6_allocate wsX6_requireWithin := goodIn_ca (goodIn_s seX6_allocate _ [pq_1_10, pq_1_11, pq_1_12] (by rfl) (by decide +kernel)) (goodIn_sub (fun _ h => List.mem_cons_of_mem _ (List.mem_append_right _ h)) (by decide +kernel))
set_option maxRecDepth 20000 in
theorem gX6_allocate_X6_requireWithin : GoodIn wsX6_allocate (va_wsS RX6 66 yX6_requireWithin wsX6_requireWithin) := goodIn_app (goodIn_s seX6_allocate _ [pq_1_8, pq_1_9, pq_1_3] (by rfl) (by decide +kernel)) ggX6_allocate_X6_requireWithin
set_option maxRecDepth 20000 in
theorem ggX6_allocate_X5_becomeNew : GoodIn wsX6_allocate wsX5_becomeNew := goodIn_s seX6_allocate _ [pq_1_17, pq_1_18, pq_1_19, pq_1_20, pq_1_21, pq_1_22, pq_1_23, pq_2_0, pq_2_1, pq_2_2, pq_2_3, pq_2_4, pq_1_16, pq_2_5, pq_2_6, pq_2_7, pq_2_8, pq_4_0, pq_4_1, pq_4_2, pq_4_3, pq_4_4, pq_4_5] (by rfl) (by decide +kernel)
set_option maxRecDepth 20000 in
theorem gX6_allocate_X5_becomeNew : GoodIn wsX6_allocate (wsV RX6 70 RX5 yX5_becomeNew wsX5_becomeNew) := goodIn_app (goodIn_s seX6_allocate _ [pq_1_13, pq_1_14, pq_1_15, pq_1_16] (by rfl) (by decide +kernel)) ggX6_allocate_X5_becomeNew
set_option maxRecDepth 20000 in
theorem ggX6_allocate_X5_size : GoodIn wsX6_allocate wsX5_size := goodIn_s seX6_allocate _ [pq_2_12, pq_2_7, pq_2_6, pq_4_0, pq_4_1, pq_4_2, pq_4_3, pq_4_4, pq_4_5] (by rfl) (by decide +kernel)
set_option maxRecDepth 20000 in
theorem gX6_allocate_X5_size : GoodIn wsX6_allocate (wsV RX6 73 RX5 yX5_size wsX5_size) := goodIn_app (goodIn_s seX6_allocate _ [pq_2_9, pq_2_10, pq_2_11, pq_1_16] (by rfl) (by decide +kernel)) ggX6_allocate_X5_size
set_option maxRecDepth 20000 in
theorem ggX6_allocate_X6_done : GoodIn wsX6_allocate wsX6_done := goodIn_s seX6_allocate _ [pq_2_16, pq_2_17, pq_3_0, pq_3_1, pq_3_2, pq_3_3, pq_3_4, pq_3_5, pq_3_6, pq_3_7, pq_3_8, pq_3_9, pq_3_10, pq_3_11, pq_3_12, pq_3_13] (by rfl) (by decide +kernel)
set_option maxRecDepth 20000 in
theorem gX6_allocate_X6_done : GoodIn wsX6_allocate (wsV RX6 77 RX6 yX6_done wsX6_done) := goodIn_app (goodIn_s seX6_allocate _ [pq_2_13, pq_2_14, pq_2_15, pq_1_3] (by rfl) (by decide +kernel)) ggX6_allocate_X6_done
def lb_sgX6_allocate : List (List UInt8) := [[42, 27, 182, 0, 62, 78, 28, 3, 16, 40, 184, 0, 66, 45, 28, 182], [0, 70, 42, 45, 182, 0, 73, 182, 0, 77, 172]]
set_option maxRecDepth 100000 in
theorem lb_seX6_allocate : cX6_allocate.data.toList = lb_sgX6_allocate.flatten := by decide +kernel
theorem lb_lnX6_allocate : ∀ s ∈ lb_sgX6_allocate.dropLast, s.length = 16 := by decide +kernel
theorem lxX6_allocate (k j : Nat) {b : UInt8} (h : (lb_sgX6_allocate[k]?).bind (fun s => s[j]?) = some b) : lb_at cX6_allocate (16 * k + j) b := by
  unfold lb_at
  rw [lb_seX6_allocate]
  exact lb_flat 16 lb_sgX6_allocate k j b lb_lnX6_allocate h
set_option maxRecDepth 20000 in
theorem dX6_allocate_0 : decode cX6_allocate 0 = .ok (.aload_n 0, 1) := dc_42 (lxX6_allocate 0 0 rfl)
set_option maxRecDepth 20000 in
theorem dX6_allocate_1 : decode cX6_allocate 1 = .ok (.iload_n 1, 1) := dc_27 (lxX6_allocate 0 1 rfl)
set_option maxRecDepth 20000 in
theorem dX6_allocate_2 : decode cX6_allocate 2 = .ok (.invokevirtual 62, 3) := dc_182 0 62 (lxX6_allocate 0 2 rfl) (lxX6_allocate 0 3 rfl) (lxX6_allocate 0 4 rfl)
set_option maxRecDepth 20000 in
theorem dX6_allocate_5 : decode cX6_allocate 5 = .ok (.astore_n 3, 1) := dc_78 (lxX6_allocate 0 5 rfl)
set_option maxRecDepth 20000 in
theorem dX6_allocate_6 : decode cX6_allocate 6 = .ok (.iload_n 2, 1) := dc_28 (lxX6_allocate 0 6 rfl)
set_option maxRecDepth 20000 in
theorem dX6_allocate_7 : decode cX6_allocate 7 = .ok (.iconst 0, 1) := dc_3 (lxX6_allocate 0 7 rfl)
set_option maxRecDepth 20000 in
theorem dX6_allocate_8 : decode cX6_allocate 8 = .ok (.bipush 40, 2) := dc_16 40 (lxX6_allocate 0 8 rfl) (lxX6_allocate 0 9 rfl)
set_option maxRecDepth 20000 in
theorem dX6_allocate_10 : decode cX6_allocate 10 = .ok (.invokestatic 66, 3) := dc_184 0 66 (lxX6_allocate 0 10 rfl) (lxX6_allocate 0 11 rfl) (lxX6_allocate 0 12 rfl)
set_option maxRecDepth 20000 in
theorem dX6_allocate_13 : decode cX6_allocate 13 = .ok (.aload_n 3, 1) := dc_45 (lxX6_allocate 0 13 rfl)
set_option maxRecDepth 20000 in
theorem dX6_allocate_14 : decode cX6_allocate 14 = .ok (.iload_n 2, 1) := dc_28 (lxX6_allocate 0 14 rfl)
set_option maxRecDepth 20000 in
theorem dX6_allocate_15 : decode cX6_allocate 15 = .ok (.invokevirtual 70, 3) := dc_182 0 70 (lxX6_allocate 0 15 rfl) (lxX6_allocate 1 0 rfl) (lxX6_allocate 1 1 rfl)
set_option maxRecDepth 20000 in
theorem dX6_allocate_18 : decode cX6_allocate 18 = .ok (.aload_n 0, 1) := dc_42 (lxX6_allocate 1 2 rfl)
set_option maxRecDepth 20000 in
theorem dX6_allocate_19 : decode cX6_allocate 19 = .ok (.aload_n 3, 1) := dc_45 (lxX6_allocate 1 3 rfl)
set_option maxRecDepth 20000 in
theorem dX6_allocate_20 : decode cX6_allocate 20 = .ok (.invokevirtual 73, 3) := dc_182 0 73 (lxX6_allocate 1 4 rfl) (lxX6_allocate 1 5 rfl) (lxX6_allocate 1 6 rfl)
set_option maxRecDepth 20000 in
theorem dX6_allocate_23 : decode cX6_allocate 23 = .ok (.invokevirtual 77, 3) := dc_182 0 77 (lxX6_allocate 1 7 rfl) (lxX6_allocate 1 8 rfl) (lxX6_allocate 1 9 rfl)
set_option maxRecDepth 20000 in
theorem dX6_allocate_26 : decode cX6_allocate 26 = .ok (.ireturn, 1) := dc_172 (lxX6_allocate 1 10 rfl)
noncomputable def sgX6_slice : List (List Cond) := [[.code yX6_slice cX6_slice 5 (some .int)], wsX6_slice_r1, wsX6_slice_r2, wsX60, wsX50, (vx_atS RX6 306 "java/lang/IndexOutOfBoundsException" ["java/lang/RuntimeException", "java/lang/Exception"]).filter goodWord]
theorem seX6_slice : sgX6_slice.flatten = wsX6_slice := by simp only [sgX6_slice, wsX6_slice, List.flatten_cons, List.flatten_nil, List.append_assoc, List.append_nil, List.cons_append, List.nil_append]
set_option maxRecDepth 20000 in
theorem ggX6_slice_X6_windowOf : GoodIn wsX6_slice wsX6_windowOf := goodIn_ca (goodIn_s seX6_slice _ [pq_1_4, pq_1_5, pq_1_6, pq_1_7, pq_3_0, pq_3_1, pq_3_2, pq_3_3, pq_3_4, pq_3_5, pq_3_6, pq_3_7, pq_3_8, pq_3_9, pq_3_10, pq_3_11, pq_3_12, pq_3_13] (by rfl) (by decide +kernel)) (goodIn_sub (fun _ h => List.mem_cons_of_mem _ (List.mem_append_right _ h)) (by decide +kernel))
set_option maxRecDepth 20000 in
theorem gX6_slice_X6_windowOf : GoodIn wsX6_slice (wsV RX6 62 RX6 yX6_windowOf wsX6_windowOf) := goodIn_app (goodIn_s seX6_slice _ [pq_1_0, pq_1_1, pq_1_2, pq_1_3] (by rfl) (by decide +kernel)) ggX6_slice_X6_windowOf
set_option maxRecDepth 20000 in
theorem ggX6_slice_X5_becomeSlice : GoodIn wsX6_slice wsX5_becomeSlice := goodIn_s seX6_slice _ [pq_1_12, pq_1_13, pq_1_14, pq_1_15, pq_1_16, pq_1_17, pq_1_18, pq_1_19, pq_1_11, pq_1_20, pq_1_21, pq_1_22, pq_1_23, pq_2_0, pq_2_1, pq_2_2, pq_4_0, pq_4_1, pq_4_2, pq_4_3, pq_4_4, pq_4_5] (by rfl) (by decide +kernel)
set_option maxRecDepth 20000 in
theorem gX6_slice_X5_becomeSlice : GoodIn wsX6_slice (wsV RX6 81 RX5 yX5_becomeSlice wsX5_becomeSlice) := goodIn_app (goodIn_s seX6_slice _ [pq_1_8, pq_1_9, pq_1_10, pq_1_11] (by rfl) (by decide +kernel)) ggX6_slice_X5_becomeSlice
set_option maxRecDepth 20000 in
theorem ggX6_slice_X5_size : GoodIn wsX6_slice wsX5_size := goodIn_s seX6_slice _ [pq_1_20, pq_1_21, pq_1_15, pq_4_0, pq_4_1, pq_4_2, pq_4_3, pq_4_4, pq_4_5] (by rfl) (by decide +kernel)
set_option maxRecDepth 20000 in
theorem gX6_slice_X5_size : GoodIn wsX6_slice (wsV RX6 73 RX5 yX5_size wsX5_size) := goodIn_app (goodIn_s seX6_slice _ [pq_2_3, pq_1_18, pq_1_19, pq_1_11] (by rfl) (by decide +kernel)) ggX6_slice_X5_size
set_option maxRecDepth 20000 in
theorem ggX6_slice_X6_done : GoodIn wsX6_slice wsX6_done := goodIn_s seX6_slice _ [pq_2_7, pq_2_8, pq_3_0, pq_3_1, pq_3_2, pq_3_3, pq_3_4, pq_3_5, pq_3_6, pq_3_7, pq_3_8, pq_3_9, pq_3_10, pq_3_11, pq_3_12, pq_3_13] (by rfl) (by decide +kernel)
set_option maxRecDepth 20000 in
theorem gX6_slice_X6_done : GoodIn wsX6_slice (wsV RX6 77 RX6 yX6_done wsX6_done) := goodIn_app (goodIn_s seX6_slice _ [pq_2_4, pq_2_5, pq_2_6, pq_1_3] (by rfl) (by decide +kernel)) ggX6_slice_X6_done
def lb_sgX6_slice : List (List UInt8) := [[42, 27, 182, 0, 62, 78, 42, 28, 182, 0, 62, 58, 4, 25, 4, 45], [182, 0, 81, 42, 25, 4, 182, 0, 73, 182, 0, 77, 172]]
set_option maxRecDepth 100000 in
theorem lb_seX6_slice : cX6_slice.data.toList = lb_sgX6_slice.flatten := by decide +kernel
theorem lb_lnX6_slice : ∀ s ∈ lb_sgX6_slice.dropLast, s.length = 16 := by decide +kernel
theorem lxX6_slice (k j : Nat) {b : UInt8} (h : (lb_sgX6_slice[k]?).bind (fun s => s[j]?) = some b) : lb_at cX6_slice (16 * k + j) b := by
  unfold lb_at
  rw [lb_seX6_slice]
  exact lb_flat 16 lb_sgX6_slice k j b lb_lnX6_slice h
set_option maxRecDepth 20000 in
theorem dX6_slice_0 : decode cX6_slice 0 = .ok (.aload_n 0, 1) := dc_42 (lxX6_slice 0 0 rfl)
set_option maxRecDepth 20000 in
theorem dX6_slice_1 : decode cX6_slice 1 = .ok (.iload_n 1, 1) := dc_27 (lxX6_slice 0 1 rfl)
set_option maxRecDepth 20000 in
theorem dX6_slice_2 : decode cX6_slice 2 = .ok (.invokevirtual 62, 3) := dc_182 0 62 (lxX6_slice 0 2 rfl) (lxX6_slice 0 3 rfl) (lxX6_slice 0 4 rfl)
set_option maxRecDepth 20000 in
theorem dX6_slice_5 : decode cX6_slice 5 = .ok (.astore_n 3, 1) := dc_78 (lxX6_slice 0 5 rfl)
set_option maxRecDepth 20000 in
theorem dX6_slice_6 : decode cX6_slice 6 = .ok (.aload_n 0, 1) := dc_42 (lxX6_slice 0 6 rfl)
set_option maxRecDepth 20000 in
theorem dX6_slice_7 : decode cX6_slice 7 = .ok (.iload_n 2, 1) := dc_28 (lxX6_slice 0 7 rfl)
set_option maxRecDepth 20000 in
theorem dX6_slice_8 : decode cX6_slice 8 = .ok (.invokevirtual 62, 3) := dc_182 0 62 (lxX6_slice 0 8 rfl) (lxX6_slice 0 9 rfl) (lxX6_slice 0 10 rfl)
set_option maxRecDepth 20000 in
theorem dX6_slice_11 : decode cX6_slice 11 = .ok (.astore 4, 2) := dc_58 4 (lxX6_slice 0 11 rfl) (lxX6_slice 0 12 rfl)
set_option maxRecDepth 20000 in
theorem dX6_slice_13 : decode cX6_slice 13 = .ok (.aload 4, 2) := dc_25 4 (lxX6_slice 0 13 rfl) (lxX6_slice 0 14 rfl)
set_option maxRecDepth 20000 in
theorem dX6_slice_15 : decode cX6_slice 15 = .ok (.aload_n 3, 1) := dc_45 (lxX6_slice 0 15 rfl)
set_option maxRecDepth 20000 in
theorem dX6_slice_16 : decode cX6_slice 16 = .ok (.invokevirtual 81, 3) := dc_182 0 81 (lxX6_slice 1 0 rfl) (lxX6_slice 1 1 rfl) (lxX6_slice 1 2 rfl)
set_option maxRecDepth 20000 in
theorem dX6_slice_19 : decode cX6_slice 19 = .ok (.aload_n 0, 1) := dc_42 (lxX6_slice 1 3 rfl)
set_option maxRecDepth 20000 in
theorem dX6_slice_20 : decode cX6_slice 20 = .ok (.aload 4, 2) := dc_25 4 (lxX6_slice 1 4 rfl) (lxX6_slice 1 5 rfl)
set_option maxRecDepth 20000 in
theorem dX6_slice_22 : decode cX6_slice 22 = .ok (.invokevirtual 73, 3) := dc_182 0 73 (lxX6_slice 1 6 rfl) (lxX6_slice 1 7 rfl) (lxX6_slice 1 8 rfl)
set_option maxRecDepth 20000 in
theorem dX6_slice_25 : decode cX6_slice 25 = .ok (.invokevirtual 77, 3) := dc_182 0 77 (lxX6_slice 1 9 rfl) (lxX6_slice 1 10 rfl) (lxX6_slice 1 11 rfl)
set_option maxRecDepth 20000 in
theorem dX6_slice_28 : decode cX6_slice 28 = .ok (.ireturn, 1) := dc_172 (lxX6_slice 1 12 rfl)
noncomputable def sgX6_duplicate : List (List Cond) := [[.code yX6_duplicate cX6_duplicate 5 (some .int)], wsX6_duplicate_r1, wsX6_duplicate_r2, wsX60, wsX50, (vx_atS RX6 306 "java/lang/IndexOutOfBoundsException" ["java/lang/RuntimeException", "java/lang/Exception"]).filter goodWord]
theorem seX6_duplicate : sgX6_duplicate.flatten = wsX6_duplicate := by simp only [sgX6_duplicate, wsX6_duplicate, List.flatten_cons, List.flatten_nil, List.append_assoc, List.append_nil, List.cons_append, List.nil_append]
set_option maxRecDepth 20000 in
theorem ggX6_duplicate_X6_windowOf : GoodIn wsX6_duplicate wsX6_windowOf := goodIn_ca (goodIn_s seX6_duplicate _ [pq_1_4, pq_1_5, pq_1_6, pq_1_7, pq_3_0, pq_3_1, pq_3_2, pq_3_3, pq_3_4, pq_3_5, pq_3_6, pq_3_7, pq_3_8, pq_3_9, pq_3_10, pq_3_11, pq_3_12, pq_3_13] (by rfl) (by decide +kernel)) (goodIn_sub (fun _ h => List.mem_cons_of_mem _ (List.mem_append_right _ h)) (by decide +kernel))
set_option maxRecDepth 20000 in
theorem gX6_duplicate_X6_windowOf : GoodIn wsX6_duplicate (wsV RX6 62 RX6 yX6_windowOf wsX6_windowOf) := goodIn_app (goodIn_s seX6_duplicate _ [pq_1_0, pq_1_1, pq_1_2, pq_1_3] (by rfl) (by decide +kernel)) ggX6_duplicate_X6_windowOf
set_option maxRecDepth 20000 in
theorem ggX6_duplicate_X5_becomeLike : GoodIn wsX6_duplicate wsX5_becomeLike := goodIn_s seX6_duplicate _ [pq_1_12, pq_1_13, pq_1_14, pq_1_15, pq_1_16, pq_1_17, pq_1_18, pq_4_0, pq_4_1, pq_4_2, pq_4_3, pq_4_4, pq_4_5] (by rfl) (by decide +kernel)
set_option maxRecDepth 20000 in
theorem gX6_duplicate_X5_becomeLike : GoodIn wsX6_duplicate (wsV RX6 85 RX5 yX5_becomeLike wsX5_becomeLike) := goodIn_app (goodIn_s seX6_duplicate _ [pq_1_8, pq_1_9, pq_1_10, pq_1_11] (by rfl) (by decide +kernel)) ggX6_duplicate_X5_becomeLike
set_option maxRecDepth 20000 in
theorem ggX6_duplicate_X5_size : GoodIn wsX6_duplicate wsX5_size := goodIn_s seX6_duplicate _ [pq_1_22, pq_1_16, pq_1_17, pq_4_0, pq_4_1, pq_4_2, pq_4_3, pq_4_4, pq_4_5] (by rfl) (by decide +kernel)
set_option maxRecDepth 20000 in
theorem gX6_duplicate_X5_size : GoodIn wsX6_duplicate (wsV RX6 73 RX5 yX5_size wsX5_size) := goodIn_app (goodIn_s seX6_duplicate _ [pq_1_19, pq_1_20, pq_1_21, pq_1_11] (by rfl) (by decide +kernel)) ggX6_duplicate_X5_size
set_option maxRecDepth 20000 in
theorem ggX6_duplicate_X6_done : GoodIn wsX6_duplicate wsX6_done := goodIn_s seX6_duplicate _ [pq_2_2, pq_2_3, pq_3_0, pq_3_1, pq_3_2, pq_3_3, pq_3_4, pq_3_5, pq_3_6, pq_3_7, pq_3_8, pq_3_9, pq_3_10, pq_3_11, pq_3_12, pq_3_13] (by rfl) (by decide +kernel)
set_option maxRecDepth 20000 in
theorem gX6_duplicate_X6_done : GoodIn wsX6_duplicate (wsV RX6 77 RX6 yX6_done wsX6_done) := goodIn_app (goodIn_s seX6_duplicate _ [pq_1_23, pq_2_0, pq_2_1, pq_1_3] (by rfl) (by decide +kernel)) ggX6_duplicate_X6_done
def lb_sgX6_duplicate : List (List UInt8) := [[42, 27, 182, 0, 62, 78, 42, 28, 182, 0, 62, 58, 4, 25, 4, 45], [182, 0, 85, 42, 25, 4, 182, 0, 73, 182, 0, 77, 172]]
set_option maxRecDepth 100000 in
theorem lb_seX6_duplicate : cX6_duplicate.data.toList = lb_sgX6_duplicate.flatten := by decide +kernel
theorem lb_lnX6_duplicate : ∀ s ∈ lb_sgX6_duplicate.dropLast, s.length = 16 := by decide +kernel
theorem lxX6_duplicate (k j : Nat) {b : UInt8} (h : (lb_sgX6_duplicate[k]?).bind (fun s => s[j]?) = some b) : lb_at cX6_duplicate (16 * k + j) b := by
  unfold lb_at
  rw [lb_seX6_duplicate]
  exact lb_flat 16 lb_sgX6_duplicate k j b lb_lnX6_duplicate h
set_option maxRecDepth 20000 in
theorem dX6_duplicate_0 : decode cX6_duplicate 0 = .ok (.aload_n 0, 1) := dc_42 (lxX6_duplicate 0 0 rfl)
set_option maxRecDepth 20000 in
theorem dX6_duplicate_1 : decode cX6_duplicate 1 = .ok (.iload_n 1, 1) := dc_27 (lxX6_duplicate 0 1 rfl)
set_option maxRecDepth 20000 in
theorem dX6_duplicate_2 : decode cX6_duplicate 2 = .ok (.invokevirtual 62, 3) := dc_182 0 62 (lxX6_duplicate 0 2 rfl) (lxX6_duplicate 0 3 rfl) (lxX6_duplicate 0 4 rfl)
set_option maxRecDepth 20000 in
theorem dX6_duplicate_5 : decode cX6_duplicate 5 = .ok (.astore_n 3, 1) := dc_78 (lxX6_duplicate 0 5 rfl)
set_option maxRecDepth 20000 in
theorem dX6_duplicate_6 : decode cX6_duplicate 6 = .ok (.aload_n 0, 1) := dc_42 (lxX6_duplicate 0 6 rfl)
set_option maxRecDepth 20000 in
theorem dX6_duplicate_7 : decode cX6_duplicate 7 = .ok (.iload_n 2, 1) := dc_28 (lxX6_duplicate 0 7 rfl)
set_option maxRecDepth 20000 in
theorem dX6_duplicate_8 : decode cX6_duplicate 8 = .ok (.invokevirtual 62, 3) := dc_182 0 62 (lxX6_duplicate 0 8 rfl) (lxX6_duplicate 0 9 rfl) (lxX6_duplicate 0 10 rfl)
set_option maxRecDepth 20000 in
theorem dX6_duplicate_11 : decode cX6_duplicate 11 = .ok (.astore 4, 2) := dc_58 4 (lxX6_duplicate 0 11 rfl) (lxX6_duplicate 0 12 rfl)
set_option maxRecDepth 20000 in
theorem dX6_duplicate_13 : decode cX6_duplicate 13 = .ok (.aload 4, 2) := dc_25 4 (lxX6_duplicate 0 13 rfl) (lxX6_duplicate 0 14 rfl)
set_option maxRecDepth 20000 in
theorem dX6_duplicate_15 : decode cX6_duplicate 15 = .ok (.aload_n 3, 1) := dc_45 (lxX6_duplicate 0 15 rfl)
set_option maxRecDepth 20000 in
theorem dX6_duplicate_16 : decode cX6_duplicate 16 = .ok (.invokevirtual 85, 3) := dc_182 0 85 (lxX6_duplicate 1 0 rfl) (lxX6_duplicate 1 1 rfl) (lxX6_duplicate 1 2 rfl)
set_option maxRecDepth 20000 in
theorem dX6_duplicate_19 : decode cX6_duplicate 19 = .ok (.aload_n 0, 1) := dc_42 (lxX6_duplicate 1 3 rfl)
set_option maxRecDepth 20000 in
theorem dX6_duplicate_20 : decode cX6_duplicate 20 = .ok (.aload 4, 2) := dc_25 4 (lxX6_duplicate 1 4 rfl) (lxX6_duplicate 1 5 rfl)
set_option maxRecDepth 20000 in
theorem dX6_duplicate_22 : decode cX6_duplicate 22 = .ok (.invokevirtual 73, 3) := dc_182 0 73 (lxX6_duplicate 1 6 rfl) (lxX6_duplicate 1 7 rfl) (lxX6_duplicate 1 8 rfl)
set_option maxRecDepth 20000 in
theorem dX6_duplicate_25 : decode cX6_duplicate 25 = .ok (.invokevirtual 77, 3) := dc_182 0 77 (lxX6_duplicate 1 9 rfl) (lxX6_duplicate 1 10 rfl) (lxX6_duplicate 1 11 rfl)
set_option maxRecDepth 20000 in
theorem dX6_duplicate_28 : decode cX6_duplicate 28 = .ok (.ireturn, 1) := dc_172 (lxX6_duplicate 1 12 rfl)
noncomputable def sgX6_part : List (List Cond) := [[.code yX6_part cX6_part 7 (some .int)], wsX6_part_r1, wsX6_part_r2, wsX60, wsX50, (vx_atS RX6 306 "java/lang/IndexOutOfBoundsException" ["java/lang/RuntimeException", "java/lang/Exception"]).filter goodWord]
theorem seX6_part : sgX6_part.flatten = wsX6_part := by simp only [sgX6_part, wsX6_part, List.flatten_cons, List.flatten_nil, List.append_assoc, List.append_nil, List.cons_append, List.nil_append]
set_option maxRecDepth 20000 in
theorem ggX6_part_X6_windowOf : GoodIn wsX6_part wsX6_windowOf := goodIn_ca (goodIn_s seX6_part _ [pq_1_4, pq_1_5, pq_1_6, pq_1_7, pq_3_0, pq_3_1, pq_3_2, pq_3_3, pq_3_4, pq_3_5, pq_3_6, pq_3_7, pq_3_8, pq_3_9, pq_3_10, pq_3_11, pq_3_12, pq_3_13] (by rfl) (by decide +kernel)) (goodIn_sub (fun _ h => List.mem_cons_of_mem _ (List.mem_append_right _ h)) (by decide +kernel))
set_option maxRecDepth 20000 in
theorem gX6_part_X6_windowOf : GoodIn wsX6_part (wsV RX6 62 RX6 yX6_windowOf wsX6_windowOf) := goodIn_app (goodIn_s seX6_part _ [pq_1_0, pq_1_1, pq_1_2, pq_1_3] (by rfl) (by decide +kernel)) ggX6_part_X6_windowOf
set_option maxRecDepth 20000 in
theorem ggX6_part_X5_size : GoodIn wsX6_part wsX5_size := goodIn_s seX6_part _ [pq_1_12, pq_1_13, pq_1_14, pq_4_0, pq_4_1, pq_4_2, pq_4_3, pq_4_4, pq_4_5] (by rfl) (by decide +kernel)
set_option maxRecDepth 20000 in
theorem gX6_part_X5_size : GoodIn wsX6_part (wsV RX6 73 RX5 yX5_size wsX5_size) := goodIn_app (goodIn_s seX6_part _ [pq_1_8, pq_1_9, pq_1_10, pq_1_11] (by rfl) (by decide +kernel)) ggX6_part_X5_size
set_option maxRecDepth 20000 in
theorem ggX6_part_X6_isStretch : GoodIn wsX6_part wsX6_isStretch := goodIn_s seX6_part _ [pq_1_17] (by rfl) (by decide +kernel)
set_option maxRecDepth 20000 in
theorem gX6_part_X6_isStretch : GoodIn wsX6_part (va_wsS RX6 88 yX6_isStretch wsX6_isStretch) := goodIn_app (goodIn_s seX6_part _ [pq_1_15, pq_1_16, pq_1_3] (by rfl) (by decide +kernel)) ggX6_part_X6_isStretch
set_option maxRecDepth 20000 in
theorem ggX6_part_X6_refused : GoodIn wsX6_part wsX6_refused := goodIn_s seX6_part _ [pq_1_21, pq_1_22, pq_3_0, pq_3_1, pq_3_2, pq_3_3, pq_3_4, pq_3_5, pq_3_6, pq_3_7, pq_3_8, pq_3_9, pq_3_10, pq_3_11, pq_3_12, pq_3_13] (by rfl) (by decide +kernel)
set_option maxRecDepth 20000 in
theorem gX6_part_X6_refused : GoodIn wsX6_part (wsV RX6 92 RX6 yX6_refused wsX6_refused) := goodIn_app (goodIn_s seX6_part _ [pq_1_18, pq_1_19, pq_1_20, pq_1_3] (by rfl) (by decide +kernel)) ggX6_part_X6_refused
set_option maxRecDepth 20000 in
theorem ggX6_part_X5_becomePart : GoodIn wsX6_part wsX5_becomePart := goodIn_s seX6_part _ [pq_2_2, pq_1_14, pq_2_3, pq_2_4, pq_2_5, pq_1_13, pq_2_6, pq_4_0, pq_4_1, pq_4_2, pq_4_3, pq_4_4, pq_4_5] (by rfl) (by decide +kernel)
set_option maxRecDepth 20000 in
theorem gX6_part_X5_becomePart : GoodIn wsX6_part (wsV RX6 95 RX5 yX5_becomePart wsX5_becomePart) := goodIn_app (goodIn_s seX6_part _ [pq_1_23, pq_2_0, pq_2_1, pq_1_11] (by rfl) (by decide +kernel)) ggX6_part_X5_becomePart
set_option maxRecDepth 20000 in
theorem ggX6_part_X6_done : GoodIn wsX6_part wsX6_done := goodIn_s seX6_part _ [pq_2_10, pq_2_11, pq_3_0, pq_3_1, pq_3_2, pq_3_3, pq_3_4, pq_3_5, pq_3_6, pq_3_7, pq_3_8, pq_3_9, pq_3_10, pq_3_11, pq_3_12, pq_3_13] (by rfl) (by decide +kernel)
set_option maxRecDepth 20000 in
theorem gX6_part_X6_done : GoodIn wsX6_part (wsV RX6 77 RX6 yX6_done wsX6_done) := goodIn_app (goodIn_s seX6_part _ [pq_2_7, pq_2_8, pq_2_9, pq_1_3] (by rfl) (by decide +kernel)) ggX6_part_X6_done
def lb_sgX6_part : List (List UInt8) := [[42, 27, 182, 0, 62, 58, 5, 42, 21, 4, 182, 0, 62, 58, 6, 28], [29, 25, 5, 182, 0, 73, 184, 0, 88, 154, 0, 8, 42, 182, 0, 92], [172, 25, 6, 25, 5, 28, 29, 182, 0, 95, 42, 25, 6, 182, 0, 73], [182, 0, 77, 172]]
set_option maxRecDepth 100000 in
theorem lb_seX6_part : cX6_part.data.toList = lb_sgX6_part.flatten := by decide +kernel
theorem lb_lnX6_part : ∀ s ∈ lb_sgX6_part.dropLast, s.length = 16 := by decide +kernel
theorem lxX6_part (k j : Nat) {b : UInt8} (h : (lb_sgX6_part[k]?).bind (fun s => s[j]?) = some b) : lb_at cX6_part (16 * k + j) b := by
  unfold lb_at
  rw [lb_seX6_part]
  exact lb_flat 16 lb_sgX6_part k j b lb_lnX6_part h
set_option maxRecDepth 20000 in
theorem dX6_part_0 : decode cX6_part 0 = .ok (.aload_n 0, 1) := dc_42 (lxX6_part 0 0 rfl)
set_option maxRecDepth 20000 in
theorem dX6_part_1 : decode cX6_part 1 = .ok (.iload_n 1, 1) := dc_27 (lxX6_part 0 1 rfl)
set_option maxRecDepth 20000 in
theorem dX6_part_2 : decode cX6_part 2 = .ok (.invokevirtual 62, 3) := dc_182 0 62 (lxX6_part 0 2 rfl) (lxX6_part 0 3 rfl) (lxX6_part 0 4 rfl)
set_option maxRecDepth 20000 in
theorem dX6_part_5 : decode cX6_part 5 = .ok (.astore 5, 2) := dc_58 5 (lxX6_part 0 5 rfl) (lxX6_part 0 6 rfl)
set_option maxRecDepth 20000 in
theorem dX6_part_7 : decode cX6_part 7 = .ok (.aload_n 0, 1) := dc_42 (lxX6_part 0 7 rfl)
set_option maxRecDepth 20000 in
theorem dX6_part_8 : decode cX6_part 8 = .ok (.iload 4, 2) := dc_21 4 (lxX6_part 0 8 rfl) (lxX6_part 0 9 rfl)
set_option maxRecDepth 20000 in
theorem dX6_part_10 : decode cX6_part 10 = .ok (.invokevirtual 62, 3) := dc_182 0 62 (lxX6_part 0 10 rfl) (lxX6_part 0 11 rfl) (lxX6_part 0 12 rfl)
set_option maxRecDepth 20000 in
theorem dX6_part_13 : decode cX6_part 13 = .ok (.astore 6, 2) := dc_58 6 (lxX6_part 0 13 rfl) (lxX6_part 0 14 rfl)
set_option maxRecDepth 20000 in
theorem dX6_part_15 : decode cX6_part 15 = .ok (.iload_n 2, 1) := dc_28 (lxX6_part 0 15 rfl)
set_option maxRecDepth 20000 in
theorem dX6_part_16 : decode cX6_part 16 = .ok (.iload_n 3, 1) := dc_29 (lxX6_part 1 0 rfl)
set_option maxRecDepth 20000 in
theorem dX6_part_17 : decode cX6_part 17 = .ok (.aload 5, 2) := dc_25 5 (lxX6_part 1 1 rfl) (lxX6_part 1 2 rfl)
set_option maxRecDepth 20000 in
theorem dX6_part_19 : decode cX6_part 19 = .ok (.invokevirtual 73, 3) := dc_182 0 73 (lxX6_part 1 3 rfl) (lxX6_part 1 4 rfl) (lxX6_part 1 5 rfl)
set_option maxRecDepth 20000 in
theorem dX6_part_22 : decode cX6_part 22 = .ok (.invokestatic 88, 3) := dc_184 0 88 (lxX6_part 1 6 rfl) (lxX6_part 1 7 rfl) (lxX6_part 1 8 rfl)
set_option maxRecDepth 20000 in
theorem dX6_part_25 : decode cX6_part 25 = .ok (.ifCond .ne 8, 3) := dc_154 0 8 (lxX6_part 1 9 rfl) (lxX6_part 1 10 rfl) (lxX6_part 1 11 rfl)
set_option maxRecDepth 20000 in
theorem dX6_part_28 : decode cX6_part 28 = .ok (.aload_n 0, 1) := dc_42 (lxX6_part 1 12 rfl)
set_option maxRecDepth 20000 in
theorem dX6_part_29 : decode cX6_part 29 = .ok (.invokevirtual 92, 3) := dc_182 0 92 (lxX6_part 1 13 rfl) (lxX6_part 1 14 rfl) (lxX6_part 1 15 rfl)
set_option maxRecDepth 20000 in
theorem dX6_part_32 : decode cX6_part 32 = .ok (.ireturn, 1) := dc_172 (lxX6_part 2 0 rfl)
set_option maxRecDepth 20000 in
theorem dX6_part_33 : decode cX6_part 33 = .ok (.aload 6, 2) := dc_25 6 (lxX6_part 2 1 rfl) (lxX6_part 2 2 rfl)
set_option maxRecDepth 20000 in
theorem dX6_part_35 : decode cX6_part 35 = .ok (.aload 5, 2) := dc_25 5 (lxX6_part 2 3 rfl) (lxX6_part 2 4 rfl)
set_option maxRecDepth 20000 in
theorem dX6_part_37 : decode cX6_part 37 = .ok (.iload_n 2, 1) := dc_28 (lxX6_part 2 5 rfl)
set_option maxRecDepth 20000 in
theorem dX6_part_38 : decode cX6_part 38 = .ok (.iload_n 3, 1) := dc_29 (lxX6_part 2 6 rfl)
set_option maxRecDepth 20000 in
theorem dX6_part_39 : decode cX6_part 39 = .ok (.invokevirtual 95, 3) := dc_182 0 95 (lxX6_part 2 7 rfl) (lxX6_part 2 8 rfl) (lxX6_part 2 9 rfl)
set_option maxRecDepth 20000 in
theorem dX6_part_42 : decode cX6_part 42 = .ok (.aload_n 0, 1) := dc_42 (lxX6_part 2 10 rfl)
set_option maxRecDepth 20000 in
theorem dX6_part_43 : decode cX6_part 43 = .ok (.aload 6, 2) := dc_25 6 (lxX6_part 2 11 rfl) (lxX6_part 2 12 rfl)
set_option maxRecDepth 20000 in
theorem dX6_part_45 : decode cX6_part 45 = .ok (.invokevirtual 73, 3) := dc_182 0 73 (lxX6_part 2 13 rfl) (lxX6_part 2 14 rfl) (lxX6_part 2 15 rfl)
set_option maxRecDepth 20000 in
theorem dX6_part_48 : decode cX6_part 48 = .ok (.invokevirtual 77, 3) := dc_182 0 77 (lxX6_part 3 0 rfl) (lxX6_part 3 1 rfl) (lxX6_part 3 2 rfl)
set_option maxRecDepth 20000 in
theorem dX6_part_51 : decode cX6_part 51 = .ok (.ireturn, 1) := dc_172 (lxX6_part 3 3 rfl)
noncomputable def sgX6_put : List (List Cond) := [[.code yX6_put cX6_put 4 (some .int)], wsX6_put_r1, wsX6_put_r2, wsX60, wsX50, (vx_atS RX6 306 "java/lang/IndexOutOfBoundsException" ["java/lang/RuntimeException", "java/lang/Exception"]).filter goodWord, (vx_atS RX6 317 "java/lang/IllegalArgumentException" ["java/lang/RuntimeException", "java/lang/Exception"]).filter goodWord]
theorem seX6_put : sgX6_put.flatten = wsX6_put := by simp only [sgX6_put, wsX6_put, List.flatten_cons, List.flatten_nil, List.append_assoc, List.append_nil, List.cons_append, List.nil_append]
set_option maxRecDepth 20000 in
theorem ggX6_put_X6_windowOf : GoodIn wsX6_put wsX6_windowOf := goodIn_ca (goodIn_s seX6_put _ [pq_1_4, pq_1_5, pq_1_6, pq_1_7, pq_3_0, pq_3_1, pq_3_2, pq_3_3, pq_3_4, pq_3_5, pq_3_6, pq_3_7, pq_3_8, pq_3_9, pq_3_10, pq_3_11, pq_3_12, pq_3_13] (by rfl) (by decide +kernel)) (goodIn_sub (fun _ h => List.mem_cons_of_mem _ (List.mem_append_left _ (List.mem_append_right _ h))) (by decide +kernel))
set_option maxRecDepth 20000 in
theorem gX6_put_X6_windowOf : GoodIn wsX6_put (wsV RX6 62 RX6 yX6_windowOf wsX6_windowOf) := goodIn_app (goodIn_s seX6_put _ [pq_1_0, pq_1_1, pq_1_2, pq_1_3] (by rfl) (by decide +kernel)) ggX6_put_X6_windowOf
set_option maxRecDepth 20000 in
theorem ggX6_put_X6_requireWithin : GoodIn wsX6_put wsX6_requireWithin := goodIn_ca (goodIn_s seX6_put _ [pq_1_10, pq_1_11, pq_1_12] (by rfl) (by decide +kernel)) (goodIn_sub (fun _ h => List.mem_cons_of_mem _ (List.mem_append_right _ h)) (by decide +kernel))
set_option maxRecDepth 20000 in
theorem gX6_put_X6_requireWithin : GoodIn wsX6_put (va_wsS RX6 66 yX6_requireWithin wsX6_requireWithin) := goodIn_app (goodIn_s seX6_put _ [pq_1_8, pq_1_9, pq_1_3] (by rfl) (by decide +kernel)) ggX6_put_X6_requireWithin
set_option maxRecDepth 20000 in
theorem ggX6_put_X5_writeSign : GoodIn wsX6_put wsX5_writeSign := goodIn_s seX6_put _ [pq_1_17, pq_1_18, pq_1_19, pq_1_20, pq_1_21, pq_1_16, pq_1_22, pq_1_23, pq_2_0, pq_2_1, pq_2_2, pq_2_3, pq_2_4, pq_2_5, pq_4_0, pq_4_1, pq_4_2, pq_4_3, pq_4_4, pq_4_5] (by rfl) (by decide +kernel)
set_option maxRecDepth 20000 in
theorem gX6_put_X5_writeSign : GoodIn wsX6_put (wsV RX6 99 RX5 yX5_writeSign wsX5_writeSign) := goodIn_app (goodIn_s seX6_put _ [pq_1_13, pq_1_14, pq_1_15, pq_1_16] (by rfl) (by decide +kernel)) ggX6_put_X5_writeSign
set_option maxRecDepth 20000 in
theorem ggX6_put_X5_size : GoodIn wsX6_put wsX5_size := goodIn_s seX6_put _ [pq_1_22, pq_1_23, pq_1_18, pq_4_0, pq_4_1, pq_4_2, pq_4_3, pq_4_4, pq_4_5] (by rfl) (by decide +kernel)
set_option maxRecDepth 20000 in
theorem gX6_put_X5_size : GoodIn wsX6_put (wsV RX6 73 RX5 yX5_size wsX5_size) := goodIn_app (goodIn_s seX6_put _ [pq_2_6, pq_1_20, pq_1_21, pq_1_16] (by rfl) (by decide +kernel)) ggX6_put_X5_size
set_option maxRecDepth 20000 in
theorem ggX6_put_X6_done : GoodIn wsX6_put wsX6_done := goodIn_s seX6_put _ [pq_2_10, pq_2_11, pq_3_0, pq_3_1, pq_3_2, pq_3_3, pq_3_4, pq_3_5, pq_3_6, pq_3_7, pq_3_8, pq_3_9, pq_3_10, pq_3_11, pq_3_12, pq_3_13] (by rfl) (by decide +kernel)
set_option maxRecDepth 20000 in
theorem gX6_put_X6_done : GoodIn wsX6_put (wsV RX6 77 RX6 yX6_done wsX6_done) := goodIn_app (goodIn_s seX6_put _ [pq_2_7, pq_2_8, pq_2_9, pq_1_3] (by rfl) (by decide +kernel)) ggX6_put_X6_done
set_option maxRecDepth 20000 in
theorem ggX6_put_X6_refused : GoodIn wsX6_put wsX6_refused := goodIn_s seX6_put _ [pq_2_15, pq_2_16, pq_3_0, pq_3_1, pq_3_2, pq_3_3, pq_3_4, pq_3_5, pq_3_6, pq_3_7, pq_3_8, pq_3_9, pq_3_10, pq_3_11, pq_3_12, pq_3_13] (by rfl) (by decide +kernel)
set_option maxRecDepth 20000 in
theorem gX6_put_X6_refused : GoodIn wsX6_put (wsV RX6 92 RX6 yX6_refused wsX6_refused) := goodIn_app (goodIn_s seX6_put _ [pq_2_12, pq_2_13, pq_2_14, pq_1_3] (by rfl) (by decide +kernel)) ggX6_put_X6_refused
def lb_sgX6_put : List (List UInt8) := [[42, 27, 182, 0, 62, 78, 28, 3, 17, 0, 255, 184, 0, 66, 45, 28], [182, 0, 99, 153, 0, 14, 42, 45, 182, 0, 73, 182, 0, 77, 167, 0], [7, 42, 182, 0, 92, 172]]
set_option maxRecDepth 100000 in
theorem lb_seX6_put : cX6_put.data.toList = lb_sgX6_put.flatten := by decide +kernel
theorem lb_lnX6_put : ∀ s ∈ lb_sgX6_put.dropLast, s.length = 16 := by decide +kernel
theorem lxX6_put (k j : Nat) {b : UInt8} (h : (lb_sgX6_put[k]?).bind (fun s => s[j]?) = some b) : lb_at cX6_put (16 * k + j) b := by
  unfold lb_at
  rw [lb_seX6_put]
  exact lb_flat 16 lb_sgX6_put k j b lb_lnX6_put h
set_option maxRecDepth 20000 in
theorem dX6_put_0 : decode cX6_put 0 = .ok (.aload_n 0, 1) := dc_42 (lxX6_put 0 0 rfl)
set_option maxRecDepth 20000 in
theorem dX6_put_1 : decode cX6_put 1 = .ok (.iload_n 1, 1) := dc_27 (lxX6_put 0 1 rfl)
set_option maxRecDepth 20000 in
theorem dX6_put_2 : decode cX6_put 2 = .ok (.invokevirtual 62, 3) := dc_182 0 62 (lxX6_put 0 2 rfl) (lxX6_put 0 3 rfl) (lxX6_put 0 4 rfl)
set_option maxRecDepth 20000 in
theorem dX6_put_5 : decode cX6_put 5 = .ok (.astore_n 3, 1) := dc_78 (lxX6_put 0 5 rfl)
set_option maxRecDepth 20000 in
theorem dX6_put_6 : decode cX6_put 6 = .ok (.iload_n 2, 1) := dc_28 (lxX6_put 0 6 rfl)
set_option maxRecDepth 20000 in
theorem dX6_put_7 : decode cX6_put 7 = .ok (.iconst 0, 1) := dc_3 (lxX6_put 0 7 rfl)
set_option maxRecDepth 20000 in
theorem dX6_put_8 : decode cX6_put 8 = .ok (.sipush 255, 3) := dc_17 0 255 (lxX6_put 0 8 rfl) (lxX6_put 0 9 rfl) (lxX6_put 0 10 rfl)
set_option maxRecDepth 20000 in
theorem dX6_put_11 : decode cX6_put 11 = .ok (.invokestatic 66, 3) := dc_184 0 66 (lxX6_put 0 11 rfl) (lxX6_put 0 12 rfl) (lxX6_put 0 13 rfl)
set_option maxRecDepth 20000 in
theorem dX6_put_14 : decode cX6_put 14 = .ok (.aload_n 3, 1) := dc_45 (lxX6_put 0 14 rfl)
set_option maxRecDepth 20000 in
theorem dX6_put_15 : decode cX6_put 15 = .ok (.iload_n 2, 1) := dc_28 (lxX6_put 0 15 rfl)
set_option maxRecDepth 20000 in
theorem dX6_put_16 : decode cX6_put 16 = .ok (.invokevirtual 99, 3) := dc_182 0 99 (lxX6_put 1 0 rfl) (lxX6_put 1 1 rfl) (lxX6_put 1 2 rfl)
set_option maxRecDepth 20000 in
theorem dX6_put_19 : decode cX6_put 19 = .ok (.ifCond .eq 14, 3) := dc_153 0 14 (lxX6_put 1 3 rfl) (lxX6_put 1 4 rfl) (lxX6_put 1 5 rfl)
set_option maxRecDepth 20000 in
theorem dX6_put_22 : decode cX6_put 22 = .ok (.aload_n 0, 1) := dc_42 (lxX6_put 1 6 rfl)
set_option maxRecDepth 20000 in
theorem dX6_put_23 : decode cX6_put 23 = .ok (.aload_n 3, 1) := dc_45 (lxX6_put 1 7 rfl)
set_option maxRecDepth 20000 in
theorem dX6_put_24 : decode cX6_put 24 = .ok (.invokevirtual 73, 3) := dc_182 0 73 (lxX6_put 1 8 rfl) (lxX6_put 1 9 rfl) (lxX6_put 1 10 rfl)
set_option maxRecDepth 20000 in
theorem dX6_put_27 : decode cX6_put 27 = .ok (.invokevirtual 77, 3) := dc_182 0 77 (lxX6_put 1 11 rfl) (lxX6_put 1 12 rfl) (lxX6_put 1 13 rfl)
set_option maxRecDepth 20000 in
theorem dX6_put_30 : decode cX6_put 30 = .ok (.goto 7, 3) := dc_167 0 7 (lxX6_put 1 14 rfl) (lxX6_put 1 15 rfl) (lxX6_put 2 0 rfl)
set_option maxRecDepth 20000 in
theorem dX6_put_33 : decode cX6_put 33 = .ok (.aload_n 0, 1) := dc_42 (lxX6_put 2 1 rfl)
set_option maxRecDepth 20000 in
theorem dX6_put_34 : decode cX6_put 34 = .ok (.invokevirtual 92, 3) := dc_182 0 92 (lxX6_put 2 2 rfl) (lxX6_put 2 3 rfl) (lxX6_put 2 4 rfl)
set_option maxRecDepth 20000 in
theorem dX6_put_37 : decode cX6_put 37 = .ok (.ireturn, 1) := dc_172 (lxX6_put 2 5 rfl)
noncomputable def sgX6_run : List (List Cond) := [[.code yX6_run cX6_run 7 (some .int)], wsX6_run_r1, wsX6_run_r2, wsX60, wsX50, (vx_atS RX6 306 "java/lang/IndexOutOfBoundsException" ["java/lang/RuntimeException", "java/lang/Exception"]).filter goodWord, (vx_atS RX6 317 "java/lang/IllegalArgumentException" ["java/lang/RuntimeException", "java/lang/Exception"]).filter goodWord]
theorem seX6_run : sgX6_run.flatten = wsX6_run := by simp only [sgX6_run, wsX6_run, List.flatten_cons, List.flatten_nil, List.append_assoc, List.append_nil, List.cons_append, List.nil_append]
set_option maxRecDepth 20000 in
theorem ggX6_run_X6_windowOf : GoodIn wsX6_run wsX6_windowOf := goodIn_ca (goodIn_s seX6_run _ [pq_1_4, pq_1_5, pq_1_6, pq_1_7, pq_3_0, pq_3_1, pq_3_2, pq_3_3, pq_3_4, pq_3_5, pq_3_6, pq_3_7, pq_3_8, pq_3_9, pq_3_10, pq_3_11, pq_3_12, pq_3_13] (by rfl) (by decide +kernel)) (goodIn_sub (fun _ h => List.mem_cons_of_mem _ (List.mem_append_left _ (List.mem_append_right _ h))) (by decide +kernel))
set_option maxRecDepth 20000 in
theorem gX6_run_X6_windowOf : GoodIn wsX6_run (wsV RX6 62 RX6 yX6_windowOf wsX6_windowOf) := goodIn_app (goodIn_s seX6_run _ [pq_1_0, pq_1_1, pq_1_2, pq_1_3] (by rfl) (by decide +kernel)) ggX6_run_X6_windowOf
set_option maxRecDepth 20000 in
theorem ggX6_run_X6_requireWithin : GoodIn wsX6_run wsX6_requireWithin := goodIn_ca (goodIn_s seX6_run _ [pq_1_10, pq_1_11, pq_1_12] (by rfl) (by decide +kernel)) (goodIn_sub (fun _ h => List.mem_cons_of_mem _ (List.mem_append_right _ h)) (by decide +kernel))
set_option maxRecDepth 20000 in
theorem gX6_run_X6_requireWithin : GoodIn wsX6_run (va_wsS RX6 66 yX6_requireWithin wsX6_requireWithin) := goodIn_app (goodIn_s seX6_run _ [pq_1_8, pq_1_9, pq_1_3] (by rfl) (by decide +kernel)) ggX6_run_X6_requireWithin
set_option maxRecDepth 20000 in
theorem ggX6_run_X5_writeSign : GoodIn wsX6_run wsX5_writeSign := goodIn_s seX6_run _ [pq_1_17, pq_1_18, pq_1_19, pq_1_20, pq_1_21, pq_1_16, pq_1_22, pq_1_23, pq_2_0, pq_2_1, pq_2_2, pq_2_3, pq_2_4, pq_2_5, pq_4_0, pq_4_1, pq_4_2, pq_4_3, pq_4_4, pq_4_5] (by rfl) (by decide +kernel)
set_option maxRecDepth 20000 in
theorem gX6_run_X5_writeSign : GoodIn wsX6_run (wsV RX6 99 RX5 yX5_writeSign wsX5_writeSign) := goodIn_app (goodIn_s seX6_run _ [pq_1_13, pq_1_14, pq_1_15, pq_1_16] (by rfl) (by decide +kernel)) ggX6_run_X5_writeSign
set_option maxRecDepth 20000 in
theorem ggX6_run_X6_done : GoodIn wsX6_run wsX6_done := goodIn_s seX6_run _ [pq_2_9, pq_2_10, pq_3_0, pq_3_1, pq_3_2, pq_3_3, pq_3_4, pq_3_5, pq_3_6, pq_3_7, pq_3_8, pq_3_9, pq_3_10, pq_3_11, pq_3_12, pq_3_13] (by rfl) (by decide +kernel)
set_option maxRecDepth 20000 in
theorem gX6_run_X6_done : GoodIn wsX6_run (wsV RX6 77 RX6 yX6_done wsX6_done) := goodIn_app (goodIn_s seX6_run _ [pq_2_6, pq_2_7, pq_2_8, pq_1_3] (by rfl) (by decide +kernel)) ggX6_run_X6_done
def lb_sgX6_run : List (List UInt8) := [[42, 27, 182, 0, 62, 58, 5, 28, 3, 17, 0, 255, 184, 0, 66, 29], [3, 17, 0, 255, 184, 0, 66, 21, 4, 3, 16, 40, 184, 0, 66, 3], [54, 6, 21, 6, 21, 4, 162, 0, 27, 25, 5, 28, 21, 6, 29, 104], [96, 17, 1, 0, 112, 182, 0, 99, 153, 0, 9, 132, 6, 1, 167, 255], [228, 42, 21, 6, 182, 0, 77, 172]]
set_option maxRecDepth 100000 in
theorem lb_seX6_run : cX6_run.data.toList = lb_sgX6_run.flatten := by decide +kernel
theorem lb_lnX6_run : ∀ s ∈ lb_sgX6_run.dropLast, s.length = 16 := by decide +kernel
theorem lxX6_run (k j : Nat) {b : UInt8} (h : (lb_sgX6_run[k]?).bind (fun s => s[j]?) = some b) : lb_at cX6_run (16 * k + j) b := by
  unfold lb_at
  rw [lb_seX6_run]
  exact lb_flat 16 lb_sgX6_run k j b lb_lnX6_run h
set_option maxRecDepth 20000 in
theorem dX6_run_0 : decode cX6_run 0 = .ok (.aload_n 0, 1) := dc_42 (lxX6_run 0 0 rfl)
set_option maxRecDepth 20000 in
theorem dX6_run_1 : decode cX6_run 1 = .ok (.iload_n 1, 1) := dc_27 (lxX6_run 0 1 rfl)
set_option maxRecDepth 20000 in
theorem dX6_run_2 : decode cX6_run 2 = .ok (.invokevirtual 62, 3) := dc_182 0 62 (lxX6_run 0 2 rfl) (lxX6_run 0 3 rfl) (lxX6_run 0 4 rfl)
set_option maxRecDepth 20000 in
theorem dX6_run_5 : decode cX6_run 5 = .ok (.astore 5, 2) := dc_58 5 (lxX6_run 0 5 rfl) (lxX6_run 0 6 rfl)
set_option maxRecDepth 20000 in
theorem dX6_run_7 : decode cX6_run 7 = .ok (.iload_n 2, 1) := dc_28 (lxX6_run 0 7 rfl)
set_option maxRecDepth 20000 in
theorem dX6_run_8 : decode cX6_run 8 = .ok (.iconst 0, 1) := dc_3 (lxX6_run 0 8 rfl)
set_option maxRecDepth 20000 in
theorem dX6_run_9 : decode cX6_run 9 = .ok (.sipush 255, 3) := dc_17 0 255 (lxX6_run 0 9 rfl) (lxX6_run 0 10 rfl) (lxX6_run 0 11 rfl)
set_option maxRecDepth 20000 in
theorem dX6_run_12 : decode cX6_run 12 = .ok (.invokestatic 66, 3) := dc_184 0 66 (lxX6_run 0 12 rfl) (lxX6_run 0 13 rfl) (lxX6_run 0 14 rfl)
set_option maxRecDepth 20000 in
theorem dX6_run_15 : decode cX6_run 15 = .ok (.iload_n 3, 1) := dc_29 (lxX6_run 0 15 rfl)
set_option maxRecDepth 20000 in
theorem dX6_run_16 : decode cX6_run 16 = .ok (.iconst 0, 1) := dc_3 (lxX6_run 1 0 rfl)
set_option maxRecDepth 20000 in
theorem dX6_run_17 : decode cX6_run 17 = .ok (.sipush 255, 3) := dc_17 0 255 (lxX6_run 1 1 rfl) (lxX6_run 1 2 rfl) (lxX6_run 1 3 rfl)
set_option maxRecDepth 20000 in
theorem dX6_run_20 : decode cX6_run 20 = .ok (.invokestatic 66, 3) := dc_184 0 66 (lxX6_run 1 4 rfl) (lxX6_run 1 5 rfl) (lxX6_run 1 6 rfl)
set_option maxRecDepth 20000 in
theorem dX6_run_23 : decode cX6_run 23 = .ok (.iload 4, 2) := dc_21 4 (lxX6_run 1 7 rfl) (lxX6_run 1 8 rfl)
set_option maxRecDepth 20000 in
theorem dX6_run_25 : decode cX6_run 25 = .ok (.iconst 0, 1) := dc_3 (lxX6_run 1 9 rfl)
set_option maxRecDepth 20000 in
theorem dX6_run_26 : decode cX6_run 26 = .ok (.bipush 40, 2) := dc_16 40 (lxX6_run 1 10 rfl) (lxX6_run 1 11 rfl)
set_option maxRecDepth 20000 in
theorem dX6_run_28 : decode cX6_run 28 = .ok (.invokestatic 66, 3) := dc_184 0 66 (lxX6_run 1 12 rfl) (lxX6_run 1 13 rfl) (lxX6_run 1 14 rfl)
set_option maxRecDepth 20000 in
theorem dX6_run_31 : decode cX6_run 31 = .ok (.iconst 0, 1) := dc_3 (lxX6_run 1 15 rfl)
set_option maxRecDepth 20000 in
theorem dX6_run_32 : decode cX6_run 32 = .ok (.istore 6, 2) := dc_54 6 (lxX6_run 2 0 rfl) (lxX6_run 2 1 rfl)
set_option maxRecDepth 20000 in
theorem dX6_run_34 : decode cX6_run 34 = .ok (.iload 6, 2) := dc_21 6 (lxX6_run 2 2 rfl) (lxX6_run 2 3 rfl)
set_option maxRecDepth 20000 in
theorem dX6_run_36 : decode cX6_run 36 = .ok (.iload 4, 2) := dc_21 4 (lxX6_run 2 4 rfl) (lxX6_run 2 5 rfl)
set_option maxRecDepth 20000 in
theorem dX6_run_38 : decode cX6_run 38 = .ok (.if_icmp .ge 27, 3) := dc_162 0 27 (lxX6_run 2 6 rfl) (lxX6_run 2 7 rfl) (lxX6_run 2 8 rfl)
set_option maxRecDepth 20000 in
theorem dX6_run_41 : decode cX6_run 41 = .ok (.aload 5, 2) := dc_25 5 (lxX6_run 2 9 rfl) (lxX6_run 2 10 rfl)
set_option maxRecDepth 20000 in
theorem dX6_run_43 : decode cX6_run 43 = .ok (.iload_n 2, 1) := dc_28 (lxX6_run 2 11 rfl)
set_option maxRecDepth 20000 in
theorem dX6_run_44 : decode cX6_run 44 = .ok (.iload 6, 2) := dc_21 6 (lxX6_run 2 12 rfl) (lxX6_run 2 13 rfl)
set_option maxRecDepth 20000 in
theorem dX6_run_46 : decode cX6_run 46 = .ok (.iload_n 3, 1) := dc_29 (lxX6_run 2 14 rfl)
set_option maxRecDepth 20000 in
theorem dX6_run_47 : decode cX6_run 47 = .ok (.imul, 1) := dc_104 (lxX6_run 2 15 rfl)
set_option maxRecDepth 20000 in
theorem dX6_run_48 : decode cX6_run 48 = .ok (.iadd, 1) := dc_96 (lxX6_run 3 0 rfl)
set_option maxRecDepth 20000 in
theorem dX6_run_49 : decode cX6_run 49 = .ok (.sipush 256, 3) := dc_17 1 0 (lxX6_run 3 1 rfl) (lxX6_run 3 2 rfl) (lxX6_run 3 3 rfl)
set_option maxRecDepth 20000 in
theorem dX6_run_52 : decode cX6_run 52 = .ok (.irem, 1) := dc_112 (lxX6_run 3 4 rfl)
set_option maxRecDepth 20000 in
theorem dX6_run_53 : decode cX6_run 53 = .ok (.invokevirtual 99, 3) := dc_182 0 99 (lxX6_run 3 5 rfl) (lxX6_run 3 6 rfl) (lxX6_run 3 7 rfl)
set_option maxRecDepth 20000 in
theorem dX6_run_56 : decode cX6_run 56 = .ok (.ifCond .eq 9, 3) := dc_153 0 9 (lxX6_run 3 8 rfl) (lxX6_run 3 9 rfl) (lxX6_run 3 10 rfl)
set_option maxRecDepth 20000 in
theorem dX6_run_59 : decode cX6_run 59 = .ok (.iinc 6 1, 3) := dc_132 6 1 (lxX6_run 3 11 rfl) (lxX6_run 3 12 rfl) (lxX6_run 3 13 rfl)
set_option maxRecDepth 20000 in
theorem dX6_run_62 : decode cX6_run 62 = .ok (.goto (-28), 3) := dc_167 255 228 (lxX6_run 3 14 rfl) (lxX6_run 3 15 rfl) (lxX6_run 4 0 rfl)
set_option maxRecDepth 20000 in
theorem dX6_run_65 : decode cX6_run 65 = .ok (.aload_n 0, 1) := dc_42 (lxX6_run 4 1 rfl)
set_option maxRecDepth 20000 in
theorem dX6_run_66 : decode cX6_run 66 = .ok (.iload 6, 2) := dc_21 6 (lxX6_run 4 2 rfl) (lxX6_run 4 3 rfl)
set_option maxRecDepth 20000 in
theorem dX6_run_68 : decode cX6_run 68 = .ok (.invokevirtual 77, 3) := dc_182 0 77 (lxX6_run 4 4 rfl) (lxX6_run 4 5 rfl) (lxX6_run 4 6 rfl)
set_option maxRecDepth 20000 in
theorem dX6_run_71 : decode cX6_run 71 = .ok (.ireturn, 1) := dc_172 (lxX6_run 4 7 rfl)
noncomputable def sgX6_write : List (List Cond) := [[.code yX6_write cX6_write 7 (some .int)], wsX6_write_r1, wsX6_write_r2, wsX60, wsX50, (vx_atS RX6 306 "java/lang/IndexOutOfBoundsException" ["java/lang/RuntimeException", "java/lang/Exception"]).filter goodWord, (vx_atS RX6 317 "java/lang/IllegalArgumentException" ["java/lang/RuntimeException", "java/lang/Exception"]).filter goodWord]
theorem seX6_write : sgX6_write.flatten = wsX6_write := by simp only [sgX6_write, wsX6_write, List.flatten_cons, List.flatten_nil, List.append_assoc, List.append_nil, List.cons_append, List.nil_append]
set_option maxRecDepth 20000 in
theorem ggX6_write_X6_windowOf : GoodIn wsX6_write wsX6_windowOf := goodIn_ca (goodIn_s seX6_write _ [pq_1_4, pq_1_5, pq_1_6, pq_1_7, pq_3_0, pq_3_1, pq_3_2, pq_3_3, pq_3_4, pq_3_5, pq_3_6, pq_3_7, pq_3_8, pq_3_9, pq_3_10, pq_3_11, pq_3_12, pq_3_13] (by rfl) (by decide +kernel)) (goodIn_sub (fun _ h => List.mem_cons_of_mem _ (List.mem_append_left _ (List.mem_append_right _ h))) (by decide +kernel))
set_option maxRecDepth 20000 in
theorem gX6_write_X6_windowOf : GoodIn wsX6_write (wsV RX6 62 RX6 yX6_windowOf wsX6_windowOf) := goodIn_app (goodIn_s seX6_write _ [pq_1_0, pq_1_1, pq_1_2, pq_1_3] (by rfl) (by decide +kernel)) ggX6_write_X6_windowOf
set_option maxRecDepth 20000 in
theorem ggX6_write_X6_requireLetters : GoodIn wsX6_write wsX6_requireLetters := goodIn_ca (goodIn_s seX6_write _ [pq_1_10, pq_1_11, pq_1_12, pq_1_13, pq_1_3, pq_1_14, pq_1_15, pq_1_16] (by rfl) (by decide +kernel)) (goodIn_sub (fun _ h => List.mem_cons_of_mem _ (List.mem_append_right _ h)) (by decide +kernel))
set_option maxRecDepth 20000 in
theorem gX6_write_X6_requireLetters : GoodIn wsX6_write (va_wsS RX6 103 yX6_requireLetters wsX6_requireLetters) := goodIn_app (goodIn_s seX6_write _ [pq_1_8, pq_1_9, pq_1_3] (by rfl) (by decide +kernel)) ggX6_write_X6_requireLetters
set_option maxRecDepth 20000 in
theorem ggX6_write_X6_lowestLetter : GoodIn wsX6_write wsX6_lowestLetter := goodIn_s seX6_write _ [pq_1_19] (by rfl) (by decide +kernel)
set_option maxRecDepth 20000 in
theorem gX6_write_X6_lowestLetter : GoodIn wsX6_write (va_wsS RX6 107 yX6_lowestLetter wsX6_lowestLetter) := goodIn_app (goodIn_s seX6_write _ [pq_1_17, pq_1_18, pq_1_3] (by rfl) (by decide +kernel)) ggX6_write_X6_lowestLetter
set_option maxRecDepth 20000 in
theorem ggX6_write_X5_writeSign : GoodIn wsX6_write wsX5_writeSign := goodIn_s seX6_write _ [pq_2_0, pq_2_1, pq_2_2, pq_2_3, pq_2_4, pq_1_23, pq_2_5, pq_2_6, pq_2_7, pq_2_8, pq_2_9, pq_2_10, pq_2_11, pq_2_12, pq_4_0, pq_4_1, pq_4_2, pq_4_3, pq_4_4, pq_4_5] (by rfl) (by decide +kernel)
set_option maxRecDepth 20000 in
theorem gX6_write_X5_writeSign : GoodIn wsX6_write (wsV RX6 99 RX5 yX5_writeSign wsX5_writeSign) := goodIn_app (goodIn_s seX6_write _ [pq_1_20, pq_1_21, pq_1_22, pq_1_23] (by rfl) (by decide +kernel)) ggX6_write_X5_writeSign
set_option maxRecDepth 20000 in
theorem ggX6_write_X6_done : GoodIn wsX6_write wsX6_done := goodIn_s seX6_write _ [pq_2_16, pq_2_17, pq_3_0, pq_3_1, pq_3_2, pq_3_3, pq_3_4, pq_3_5, pq_3_6, pq_3_7, pq_3_8, pq_3_9, pq_3_10, pq_3_11, pq_3_12, pq_3_13] (by rfl) (by decide +kernel)
set_option maxRecDepth 20000 in
theorem gX6_write_X6_done : GoodIn wsX6_write (wsV RX6 77 RX6 yX6_done wsX6_done) := goodIn_app (goodIn_s seX6_write _ [pq_2_13, pq_2_14, pq_2_15, pq_1_3] (by rfl) (by decide +kernel)) ggX6_write_X6_done
def lb_sgX6_write : List (List UInt8) := [[42, 27, 182, 0, 62, 58, 4, 28, 29, 184, 0, 103, 28, 54, 5, 3], [54, 6, 21, 6, 29, 162, 0, 28, 25, 4, 21, 5, 184, 0, 107, 182], [0, 99, 153, 0, 15, 21, 5, 6, 108, 54, 5, 132, 6, 1, 167, 255], [228, 42, 21, 6, 182, 0, 77, 172]]
set_option maxRecDepth 100000 in
theorem lb_seX6_write : cX6_write.data.toList = lb_sgX6_write.flatten := by decide +kernel
theorem lb_lnX6_write : ∀ s ∈ lb_sgX6_write.dropLast, s.length = 16 := by decide +kernel
theorem lxX6_write (k j : Nat) {b : UInt8} (h : (lb_sgX6_write[k]?).bind (fun s => s[j]?) = some b) : lb_at cX6_write (16 * k + j) b := by
  unfold lb_at
  rw [lb_seX6_write]
  exact lb_flat 16 lb_sgX6_write k j b lb_lnX6_write h
set_option maxRecDepth 20000 in
theorem dX6_write_0 : decode cX6_write 0 = .ok (.aload_n 0, 1) := dc_42 (lxX6_write 0 0 rfl)
set_option maxRecDepth 20000 in
theorem dX6_write_1 : decode cX6_write 1 = .ok (.iload_n 1, 1) := dc_27 (lxX6_write 0 1 rfl)
set_option maxRecDepth 20000 in
theorem dX6_write_2 : decode cX6_write 2 = .ok (.invokevirtual 62, 3) := dc_182 0 62 (lxX6_write 0 2 rfl) (lxX6_write 0 3 rfl) (lxX6_write 0 4 rfl)
set_option maxRecDepth 20000 in
theorem dX6_write_5 : decode cX6_write 5 = .ok (.astore 4, 2) := dc_58 4 (lxX6_write 0 5 rfl) (lxX6_write 0 6 rfl)
set_option maxRecDepth 20000 in
theorem dX6_write_7 : decode cX6_write 7 = .ok (.iload_n 2, 1) := dc_28 (lxX6_write 0 7 rfl)
set_option maxRecDepth 20000 in
theorem dX6_write_8 : decode cX6_write 8 = .ok (.iload_n 3, 1) := dc_29 (lxX6_write 0 8 rfl)
set_option maxRecDepth 20000 in
theorem dX6_write_9 : decode cX6_write 9 = .ok (.invokestatic 103, 3) := dc_184 0 103 (lxX6_write 0 9 rfl) (lxX6_write 0 10 rfl) (lxX6_write 0 11 rfl)
set_option maxRecDepth 20000 in
theorem dX6_write_12 : decode cX6_write 12 = .ok (.iload_n 2, 1) := dc_28 (lxX6_write 0 12 rfl)
set_option maxRecDepth 20000 in
theorem dX6_write_13 : decode cX6_write 13 = .ok (.istore 5, 2) := dc_54 5 (lxX6_write 0 13 rfl) (lxX6_write 0 14 rfl)
set_option maxRecDepth 20000 in
theorem dX6_write_15 : decode cX6_write 15 = .ok (.iconst 0, 1) := dc_3 (lxX6_write 0 15 rfl)
set_option maxRecDepth 20000 in
theorem dX6_write_16 : decode cX6_write 16 = .ok (.istore 6, 2) := dc_54 6 (lxX6_write 1 0 rfl) (lxX6_write 1 1 rfl)
set_option maxRecDepth 20000 in
theorem dX6_write_18 : decode cX6_write 18 = .ok (.iload 6, 2) := dc_21 6 (lxX6_write 1 2 rfl) (lxX6_write 1 3 rfl)
set_option maxRecDepth 20000 in
theorem dX6_write_20 : decode cX6_write 20 = .ok (.iload_n 3, 1) := dc_29 (lxX6_write 1 4 rfl)
set_option maxRecDepth 20000 in
theorem dX6_write_21 : decode cX6_write 21 = .ok (.if_icmp .ge 28, 3) := dc_162 0 28 (lxX6_write 1 5 rfl) (lxX6_write 1 6 rfl) (lxX6_write 1 7 rfl)
set_option maxRecDepth 20000 in
theorem dX6_write_24 : decode cX6_write 24 = .ok (.aload 4, 2) := dc_25 4 (lxX6_write 1 8 rfl) (lxX6_write 1 9 rfl)
set_option maxRecDepth 20000 in
theorem dX6_write_26 : decode cX6_write 26 = .ok (.iload 5, 2) := dc_21 5 (lxX6_write 1 10 rfl) (lxX6_write 1 11 rfl)
set_option maxRecDepth 20000 in
theorem dX6_write_28 : decode cX6_write 28 = .ok (.invokestatic 107, 3) := dc_184 0 107 (lxX6_write 1 12 rfl) (lxX6_write 1 13 rfl) (lxX6_write 1 14 rfl)
set_option maxRecDepth 20000 in
theorem dX6_write_31 : decode cX6_write 31 = .ok (.invokevirtual 99, 3) := dc_182 0 99 (lxX6_write 1 15 rfl) (lxX6_write 2 0 rfl) (lxX6_write 2 1 rfl)
set_option maxRecDepth 20000 in
theorem dX6_write_34 : decode cX6_write 34 = .ok (.ifCond .eq 15, 3) := dc_153 0 15 (lxX6_write 2 2 rfl) (lxX6_write 2 3 rfl) (lxX6_write 2 4 rfl)
set_option maxRecDepth 20000 in
theorem dX6_write_37 : decode cX6_write 37 = .ok (.iload 5, 2) := dc_21 5 (lxX6_write 2 5 rfl) (lxX6_write 2 6 rfl)
set_option maxRecDepth 20000 in
theorem dX6_write_39 : decode cX6_write 39 = .ok (.iconst 3, 1) := dc_6 (lxX6_write 2 7 rfl)
set_option maxRecDepth 20000 in
theorem dX6_write_40 : decode cX6_write 40 = .ok (.idiv, 1) := dc_108 (lxX6_write 2 8 rfl)
set_option maxRecDepth 20000 in
theorem dX6_write_41 : decode cX6_write 41 = .ok (.istore 5, 2) := dc_54 5 (lxX6_write 2 9 rfl) (lxX6_write 2 10 rfl)
set_option maxRecDepth 20000 in
theorem dX6_write_43 : decode cX6_write 43 = .ok (.iinc 6 1, 3) := dc_132 6 1 (lxX6_write 2 11 rfl) (lxX6_write 2 12 rfl) (lxX6_write 2 13 rfl)
set_option maxRecDepth 20000 in
theorem dX6_write_46 : decode cX6_write 46 = .ok (.goto (-28), 3) := dc_167 255 228 (lxX6_write 2 14 rfl) (lxX6_write 2 15 rfl) (lxX6_write 3 0 rfl)
set_option maxRecDepth 20000 in
theorem dX6_write_49 : decode cX6_write 49 = .ok (.aload_n 0, 1) := dc_42 (lxX6_write 3 1 rfl)
set_option maxRecDepth 20000 in
theorem dX6_write_50 : decode cX6_write 50 = .ok (.iload 6, 2) := dc_21 6 (lxX6_write 3 2 rfl) (lxX6_write 3 3 rfl)
set_option maxRecDepth 20000 in
theorem dX6_write_52 : decode cX6_write 52 = .ok (.invokevirtual 77, 3) := dc_182 0 77 (lxX6_write 3 4 rfl) (lxX6_write 3 5 rfl) (lxX6_write 3 6 rfl)
set_option maxRecDepth 20000 in
theorem dX6_write_55 : decode cX6_write 55 = .ok (.ireturn, 1) := dc_172 (lxX6_write 3 7 rfl)
noncomputable def sgX6_get : List (List Cond) := [[.code yX6_get cX6_get 3 (some .int)], wsX6_get_r1, wsX6_get_r2, wsX60, wsX50, (vx_atS RX6 306 "java/lang/IndexOutOfBoundsException" ["java/lang/RuntimeException", "java/lang/Exception"]).filter goodWord]
theorem seX6_get : sgX6_get.flatten = wsX6_get := by simp only [sgX6_get, wsX6_get, List.flatten_cons, List.flatten_nil, List.append_assoc, List.append_nil, List.cons_append, List.nil_append]
set_option maxRecDepth 20000 in
theorem ggX6_get_X6_windowOf : GoodIn wsX6_get wsX6_windowOf := goodIn_ca (goodIn_s seX6_get _ [pq_1_4, pq_1_5, pq_1_6, pq_1_7, pq_3_0, pq_3_1, pq_3_2, pq_3_3, pq_3_4, pq_3_5, pq_3_6, pq_3_7, pq_3_8, pq_3_9, pq_3_10, pq_3_11, pq_3_12, pq_3_13] (by rfl) (by decide +kernel)) (goodIn_sub (fun _ h => List.mem_cons_of_mem _ (List.mem_append_right _ h)) (by decide +kernel))
set_option maxRecDepth 20000 in
theorem gX6_get_X6_windowOf : GoodIn wsX6_get (wsV RX6 62 RX6 yX6_windowOf wsX6_windowOf) := goodIn_app (goodIn_s seX6_get _ [pq_1_0, pq_1_1, pq_1_2, pq_1_3] (by rfl) (by decide +kernel)) ggX6_get_X6_windowOf
set_option maxRecDepth 20000 in
theorem ggX6_get_X5_size : GoodIn wsX6_get wsX5_size := goodIn_s seX6_get _ [pq_1_12, pq_1_13, pq_1_14, pq_4_0, pq_4_1, pq_4_2, pq_4_3, pq_4_4, pq_4_5] (by rfl) (by decide +kernel)
set_option maxRecDepth 20000 in
theorem gX6_get_X5_size : GoodIn wsX6_get (wsV RX6 73 RX5 yX5_size wsX5_size) := goodIn_app (goodIn_s seX6_get _ [pq_1_8, pq_1_9, pq_1_10, pq_1_11] (by rfl) (by decide +kernel)) ggX6_get_X5_size
set_option maxRecDepth 20000 in
theorem ggX6_get_X6_refused : GoodIn wsX6_get wsX6_refused := goodIn_s seX6_get _ [pq_1_18, pq_1_19, pq_3_0, pq_3_1, pq_3_2, pq_3_3, pq_3_4, pq_3_5, pq_3_6, pq_3_7, pq_3_8, pq_3_9, pq_3_10, pq_3_11, pq_3_12, pq_3_13] (by rfl) (by decide +kernel)
set_option maxRecDepth 20000 in
theorem gX6_get_X6_refused : GoodIn wsX6_get (wsV RX6 92 RX6 yX6_refused wsX6_refused) := goodIn_app (goodIn_s seX6_get _ [pq_1_15, pq_1_16, pq_1_17, pq_1_3] (by rfl) (by decide +kernel)) ggX6_get_X6_refused
set_option maxRecDepth 20000 in
theorem ggX6_get_X5_readSign : GoodIn wsX6_get wsX5_readSign := goodIn_s seX6_get _ [pq_1_23, pq_1_14, pq_2_0, pq_2_1, pq_2_2, pq_1_11, pq_2_3, pq_1_13, pq_2_4, pq_2_5, pq_2_6, pq_2_7, pq_2_8, pq_2_9, pq_2_10, pq_1_9, pq_1_10, pq_1_12, pq_4_0, pq_4_1, pq_4_2, pq_4_3, pq_4_4, pq_4_5] (by rfl) (by decide +kernel)
set_option maxRecDepth 20000 in
theorem gX6_get_X5_readSign : GoodIn wsX6_get (wsV RX6 110 RX5 yX5_readSign wsX5_readSign) := goodIn_app (goodIn_s seX6_get _ [pq_1_20, pq_1_21, pq_1_22, pq_1_11] (by rfl) (by decide +kernel)) ggX6_get_X5_readSign
set_option maxRecDepth 20000 in
theorem ggX6_get_X6_done : GoodIn wsX6_get wsX6_done := goodIn_s seX6_get _ [pq_2_14, pq_2_15, pq_3_0, pq_3_1, pq_3_2, pq_3_3, pq_3_4, pq_3_5, pq_3_6, pq_3_7, pq_3_8, pq_3_9, pq_3_10, pq_3_11, pq_3_12, pq_3_13] (by rfl) (by decide +kernel)
set_option maxRecDepth 20000 in
theorem gX6_get_X6_done : GoodIn wsX6_get (wsV RX6 77 RX6 yX6_done wsX6_done) := goodIn_app (goodIn_s seX6_get _ [pq_2_11, pq_2_12, pq_2_13, pq_1_3] (by rfl) (by decide +kernel)) ggX6_get_X6_done
def lb_sgX6_get : List (List UInt8) := [[42, 27, 182, 0, 62, 77, 44, 182, 0, 73, 154, 0, 8, 42, 182, 0], [92, 172, 42, 44, 182, 0, 110, 182, 0, 77, 172]]
set_option maxRecDepth 100000 in
theorem lb_seX6_get : cX6_get.data.toList = lb_sgX6_get.flatten := by decide +kernel
theorem lb_lnX6_get : ∀ s ∈ lb_sgX6_get.dropLast, s.length = 16 := by decide +kernel
theorem lxX6_get (k j : Nat) {b : UInt8} (h : (lb_sgX6_get[k]?).bind (fun s => s[j]?) = some b) : lb_at cX6_get (16 * k + j) b := by
  unfold lb_at
  rw [lb_seX6_get]
  exact lb_flat 16 lb_sgX6_get k j b lb_lnX6_get h
set_option maxRecDepth 20000 in
theorem dX6_get_0 : decode cX6_get 0 = .ok (.aload_n 0, 1) := dc_42 (lxX6_get 0 0 rfl)
set_option maxRecDepth 20000 in
theorem dX6_get_1 : decode cX6_get 1 = .ok (.iload_n 1, 1) := dc_27 (lxX6_get 0 1 rfl)
set_option maxRecDepth 20000 in
theorem dX6_get_2 : decode cX6_get 2 = .ok (.invokevirtual 62, 3) := dc_182 0 62 (lxX6_get 0 2 rfl) (lxX6_get 0 3 rfl) (lxX6_get 0 4 rfl)
set_option maxRecDepth 20000 in
theorem dX6_get_5 : decode cX6_get 5 = .ok (.astore_n 2, 1) := dc_77 (lxX6_get 0 5 rfl)
set_option maxRecDepth 20000 in
theorem dX6_get_6 : decode cX6_get 6 = .ok (.aload_n 2, 1) := dc_44 (lxX6_get 0 6 rfl)
set_option maxRecDepth 20000 in
theorem dX6_get_7 : decode cX6_get 7 = .ok (.invokevirtual 73, 3) := dc_182 0 73 (lxX6_get 0 7 rfl) (lxX6_get 0 8 rfl) (lxX6_get 0 9 rfl)
set_option maxRecDepth 20000 in
theorem dX6_get_10 : decode cX6_get 10 = .ok (.ifCond .ne 8, 3) := dc_154 0 8 (lxX6_get 0 10 rfl) (lxX6_get 0 11 rfl) (lxX6_get 0 12 rfl)
set_option maxRecDepth 20000 in
theorem dX6_get_13 : decode cX6_get 13 = .ok (.aload_n 0, 1) := dc_42 (lxX6_get 0 13 rfl)
set_option maxRecDepth 20000 in
theorem dX6_get_14 : decode cX6_get 14 = .ok (.invokevirtual 92, 3) := dc_182 0 92 (lxX6_get 0 14 rfl) (lxX6_get 0 15 rfl) (lxX6_get 1 0 rfl)
set_option maxRecDepth 20000 in
theorem dX6_get_17 : decode cX6_get 17 = .ok (.ireturn, 1) := dc_172 (lxX6_get 1 1 rfl)
set_option maxRecDepth 20000 in
theorem dX6_get_18 : decode cX6_get 18 = .ok (.aload_n 0, 1) := dc_42 (lxX6_get 1 2 rfl)
set_option maxRecDepth 20000 in
theorem dX6_get_19 : decode cX6_get 19 = .ok (.aload_n 2, 1) := dc_44 (lxX6_get 1 3 rfl)
set_option maxRecDepth 20000 in
theorem dX6_get_20 : decode cX6_get 20 = .ok (.invokevirtual 110, 3) := dc_182 0 110 (lxX6_get 1 4 rfl) (lxX6_get 1 5 rfl) (lxX6_get 1 6 rfl)
set_option maxRecDepth 20000 in
theorem dX6_get_23 : decode cX6_get 23 = .ok (.invokevirtual 77, 3) := dc_182 0 77 (lxX6_get 1 7 rfl) (lxX6_get 1 8 rfl) (lxX6_get 1 9 rfl)
set_option maxRecDepth 20000 in
theorem dX6_get_26 : decode cX6_get 26 = .ok (.ireturn, 1) := dc_172 (lxX6_get 1 10 rfl)
noncomputable def sgX6_read : List (List Cond) := [[.code yX6_read cX6_read 6 (some (.object "java/lang/String"))], wsX6_read_r1, wsX6_read_r2, wsX6_read_r3, wsX6_read_r4, wsX6_read_r5, wsX6_read_r6, wsX6_read_r7, wsX6_read_r8, wsX6_read_r9, wsX6_read_r10, wsJ40, wsX60, wsX50, wsJ00, (vx_atS RX6 306 "java/lang/IndexOutOfBoundsException" ["java/lang/RuntimeException", "java/lang/Exception"]).filter goodWord, (vx_atS RX6 317 "java/lang/IllegalArgumentException" ["java/lang/RuntimeException", "java/lang/Exception"]).filter goodWord]
theorem seX6_read : sgX6_read.flatten = wsX6_read := by simp only [sgX6_read, wsX6_read, List.flatten_cons, List.flatten_nil, List.append_assoc, List.append_nil, List.cons_append, List.nil_append]
set_option maxRecDepth 20000 in
theorem ggX6_read_X6_windowOf : GoodIn wsX6_read wsX6_windowOf := goodIn_ca (goodIn_s seX6_read _ [pq_1_7, pq_1_8, pq_1_9, pq_1_10, pq_12_0, pq_12_1, pq_12_2, pq_12_3, pq_12_4, pq_12_5, pq_12_6, pq_12_7, pq_12_8, pq_12_9, pq_12_10, pq_12_11, pq_12_12, pq_12_13] (by rfl) (by decide +kernel)) (goodIn_sub (fun _ h => List.mem_cons_of_mem _ (List.mem_append_left _ (List.mem_append_right _ h))) (by decide +kernel))
set_option maxRecDepth 20000 in
theorem gX6_read_X6_windowOf : GoodIn wsX6_read (wsV RX6 62 RX6 yX6_windowOf wsX6_windowOf) := goodIn_app (goodIn_s seX6_read _ [pq_1_3, pq_1_4, pq_1_5, pq_1_6] (by rfl) (by decide +kernel)) ggX6_read_X6_windowOf
set_option maxRecDepth 20000 in
theorem ggX6_read_X6_requireWithin : GoodIn wsX6_read wsX6_requireWithin := goodIn_ca (goodIn_s seX6_read _ [pq_1_13, pq_1_14, pq_1_15] (by rfl) (by decide +kernel)) (goodIn_sub (fun _ h => List.mem_cons_of_mem _ (List.mem_append_right _ h)) (by decide +kernel))
set_option maxRecDepth 20000 in
theorem gX6_read_X6_requireWithin : GoodIn wsX6_read (va_wsS RX6 66 yX6_requireWithin wsX6_requireWithin) := goodIn_app (goodIn_s seX6_read _ [pq_1_11, pq_1_12, pq_1_6] (by rfl) (by decide +kernel)) ggX6_read_X6_requireWithin
set_option maxRecDepth 20000 in
theorem ggX6_read_J4_init_da8c8 : GoodIn wsX6_read wsJ4_init_da8c8 := goodIn_s seX6_read _ [pq_1_18, pq_1_19, pq_1_20, pq_1_21, pq_1_22, pq_1_23, pq_2_0, pq_2_1, pq_2_2, pq_2_3, pq_2_4, pq_2_5, pq_2_6, pq_2_7, pq_2_8, pq_2_9, pq_2_10, pq_2_11, pq_2_12, pq_2_13, pq_11_0, pq_11_1, pq_11_2, pq_11_3] (by rfl) (by decide +kernel)
set_option maxRecDepth 20000 in
theorem gX6_read_J4_init_da8c8 : GoodIn wsX6_read (wsJ4_init_da8c8) := ggX6_read_J4_init_da8c8
set_option maxRecDepth 20000 in
theorem ggX6_read_X5_size : GoodIn wsX6_read wsX5_size := goodIn_s seX6_read _ [pq_2_18, pq_2_19, pq_2_20, pq_13_0, pq_13_1, pq_13_2, pq_13_3, pq_13_4, pq_13_5] (by rfl) (by decide +kernel)
set_option maxRecDepth 20000 in
theorem gX6_read_X5_size : GoodIn wsX6_read (wsV RX6 73 RX5 yX5_size wsX5_size) := goodIn_app (goodIn_s seX6_read _ [pq_2_14, pq_2_15, pq_2_16, pq_2_17] (by rfl) (by decide +kernel)) ggX6_read_X5_size
set_option maxRecDepth 20000 in
theorem ggX6_read_X5_readSign : GoodIn wsX6_read wsX5_readSign := goodIn_s seX6_read _ [pq_3_0, pq_2_20, pq_3_1, pq_3_2, pq_3_3, pq_2_17, pq_3_4, pq_2_19, pq_3_5, pq_3_6, pq_3_7, pq_3_8, pq_3_9, pq_3_10, pq_3_11, pq_2_15, pq_2_16, pq_2_18, pq_13_0, pq_13_1, pq_13_2, pq_13_3, pq_13_4, pq_13_5] (by rfl) (by decide +kernel)
set_option maxRecDepth 20000 in
theorem gX6_read_X5_readSign : GoodIn wsX6_read (wsV RX6 110 RX5 yX5_readSign wsX5_readSign) := goodIn_app (goodIn_s seX6_read _ [pq_2_21, pq_2_22, pq_2_23, pq_2_17] (by rfl) (by decide +kernel)) ggX6_read_X5_readSign
set_option maxRecDepth 20000 in
theorem ggX6_read_J4_append_cf468 : GoodIn wsX6_read wsJ4_append_cf468 := goodIn_s seX6_read _ [pq_3_15, pq_3_16, pq_3_17, pq_3_18, pq_3_19, pq_1_21, pq_3_20, pq_3_21, pq_2_4, pq_3_22, pq_3_23, pq_4_0, pq_4_1, pq_4_2, pq_2_5, pq_4_3, pq_4_4, pq_4_5, pq_4_6, pq_4_7, pq_4_8, pq_4_9, pq_4_10, pq_4_11, pq_4_12, pq_4_13, pq_4_14, pq_4_15, pq_4_16, pq_4_17, pq_4_18, pq_4_19, pq_4_20, pq_4_21, pq_4_22, pq_4_23, pq_5_0, pq_5_1, pq_5_2, pq_5_3, pq_5_4, pq_5_5, pq_5_6, pq_2_3, pq_5_7, pq_5_8, pq_5_9, pq_5_10, pq_5_11, pq_5_12, pq_5_13, pq_5_14, pq_5_15, pq_5_16, pq_5_17, pq_5_18, pq_2_2, pq_5_19, pq_5_20, pq_5_21, pq_5_22, pq_5_23, pq_6_0, pq_6_1, pq_6_2, pq_6_3, pq_2_6, pq_2_7, pq_2_8, pq_2_9, pq_2_10, pq_2_11, pq_2_12, pq_2_13, pq_6_4, pq_6_5, pq_6_6, pq_6_7, pq_6_8, pq_6_9, pq_6_10, pq_6_11, pq_6_12, pq_6_13, pq_6_14, pq_6_15, pq_6_16, pq_6_17, pq_6_18, pq_6_19, pq_6_20, pq_6_21, pq_6_22, pq_6_23, pq_7_0, pq_7_1, pq_7_2, pq_7_3, pq_7_4, pq_7_5, pq_7_6, pq_7_7, pq_7_8, pq_7_9, pq_7_10, pq_7_11, pq_7_12, pq_7_13, pq_7_14, pq_7_15, pq_7_16, pq_7_17, pq_7_18, pq_11_0, pq_11_1, pq_11_2, pq_11_3] (by rfl) (by decide +kernel)
set_option maxRecDepth 20000 in
theorem gX6_read_J4_append_cf468 : GoodIn wsX6_read (wsV RX6 116 RJ4 yJ4_append_cf468 wsJ4_append_cf468) := goodIn_app (goodIn_s seX6_read _ [pq_3_12, pq_3_13, pq_3_14, pq_1_2] (by rfl) (by decide +kernel)) ggX6_read_J4_append_cf468
set_option maxRecDepth 20000 in
theorem ggX6_read_J4_toString_0e30d : GoodIn wsX6_read wsJ4_toString_0e30d := goodIn_s seX6_read _ [pq_7_22, pq_7_23, pq_8_0, pq_6_18, pq_8_1, pq_8_2, pq_8_3, pq_8_4, pq_8_5, pq_8_6, pq_8_7, pq_2_0, pq_2_1, pq_8_8, pq_8_9, pq_8_10, pq_8_11, pq_8_12, pq_8_13, pq_8_14, pq_8_15, pq_1_21, pq_8_16, pq_2_4, pq_8_17, pq_8_18, pq_8_19, pq_8_20, pq_8_21, pq_1_2, pq_8_22, pq_8_23, pq_3_18, pq_9_0, pq_9_1, pq_3_21, pq_9_2, pq_5_15, pq_5_16, pq_5_17, pq_5_18, pq_2_2, pq_2_5, pq_9_3, pq_9_4, pq_4_23, pq_9_5, pq_5_1, pq_5_2, pq_5_3, pq_5_4, pq_5_5, pq_5_6, pq_9_6, pq_9_7, pq_9_8, pq_2_3, pq_5_7, pq_5_8, pq_4_15, pq_5_9, pq_5_10, pq_5_11, pq_5_12, pq_5_13, pq_9_9, pq_9_10, pq_9_11, pq_9_12, pq_1_1, pq_9_13, pq_9_14, pq_2_8, pq_9_15, pq_9_16, pq_9_17, pq_9_18, pq_6_10, pq_6_11, pq_6_12, pq_6_13, pq_6_14, pq_6_15, pq_6_16, pq_6_17, pq_6_19, pq_6_20, pq_6_21, pq_6_22, pq_6_23, pq_7_0, pq_9_19, pq_9_20, pq_9_21, pq_7_4, pq_7_5, pq_7_6, pq_2_10, pq_2_11, pq_2_12, pq_2_13, pq_9_22, pq_9_23, pq_10_0, pq_10_1, pq_14_0, pq_14_1, pq_14_2, pq_14_3, pq_11_0, pq_11_1, pq_11_2, pq_11_3] (by rfl) (by decide +kernel)
set_option maxRecDepth 20000 in
theorem gX6_read_J4_toString_0e30d : GoodIn wsX6_read (wsV RX6 120 RJ4 yJ4_toString_0e30d wsJ4_toString_0e30d) := goodIn_app (goodIn_s seX6_read _ [pq_7_19, pq_7_20, pq_7_21, pq_1_2] (by rfl) (by decide +kernel)) ggX6_read_J4_toString_0e30d
set_option maxRecDepth 20000 in
theorem ggX6_read_X6_done_ : GoodIn wsX6_read wsX6_done_ := goodIn_s seX6_read _ [pq_10_5, pq_10_6, pq_12_0, pq_12_1, pq_12_2, pq_12_3, pq_12_4, pq_12_5, pq_12_6, pq_12_7, pq_12_8, pq_12_9, pq_12_10, pq_12_11, pq_12_12, pq_12_13] (by rfl) (by decide +kernel)
set_option maxRecDepth 20000 in
theorem gX6_read_X6_done_ : GoodIn wsX6_read (wsV RX6 124 RX6 yX6_done_ wsX6_done_) := goodIn_app (goodIn_s seX6_read _ [pq_10_2, pq_10_3, pq_10_4, pq_1_6] (by rfl) (by decide +kernel)) ggX6_read_X6_done_
def lb_sgX6_read : List (List UInt8) := [[42, 27, 182, 0, 62, 78, 28, 3, 16, 40, 184, 0, 66, 187, 0, 113], [89, 183, 0, 115, 58, 4, 3, 54, 5, 21, 5, 28, 162, 0, 27, 45], [182, 0, 73, 158, 0, 20, 25, 4, 45, 182, 0, 110, 146, 182, 0, 116], [87, 132, 5, 1, 167, 255, 229, 42, 25, 4, 182, 0, 120, 182, 0, 124], [176]]
set_option maxRecDepth 100000 in
theorem lb_seX6_read : cX6_read.data.toList = lb_sgX6_read.flatten := by decide +kernel
theorem lb_lnX6_read : ∀ s ∈ lb_sgX6_read.dropLast, s.length = 16 := by decide +kernel
theorem lxX6_read (k j : Nat) {b : UInt8} (h : (lb_sgX6_read[k]?).bind (fun s => s[j]?) = some b) : lb_at cX6_read (16 * k + j) b := by
  unfold lb_at
  rw [lb_seX6_read]
  exact lb_flat 16 lb_sgX6_read k j b lb_lnX6_read h
set_option maxRecDepth 20000 in
theorem dX6_read_0 : decode cX6_read 0 = .ok (.aload_n 0, 1) := dc_42 (lxX6_read 0 0 rfl)
set_option maxRecDepth 20000 in
theorem dX6_read_1 : decode cX6_read 1 = .ok (.iload_n 1, 1) := dc_27 (lxX6_read 0 1 rfl)
set_option maxRecDepth 20000 in
theorem dX6_read_2 : decode cX6_read 2 = .ok (.invokevirtual 62, 3) := dc_182 0 62 (lxX6_read 0 2 rfl) (lxX6_read 0 3 rfl) (lxX6_read 0 4 rfl)
set_option maxRecDepth 20000 in
theorem dX6_read_5 : decode cX6_read 5 = .ok (.astore_n 3, 1) := dc_78 (lxX6_read 0 5 rfl)
set_option maxRecDepth 20000 in
theorem dX6_read_6 : decode cX6_read 6 = .ok (.iload_n 2, 1) := dc_28 (lxX6_read 0 6 rfl)
set_option maxRecDepth 20000 in
theorem dX6_read_7 : decode cX6_read 7 = .ok (.iconst 0, 1) := dc_3 (lxX6_read 0 7 rfl)
set_option maxRecDepth 20000 in
theorem dX6_read_8 : decode cX6_read 8 = .ok (.bipush 40, 2) := dc_16 40 (lxX6_read 0 8 rfl) (lxX6_read 0 9 rfl)
set_option maxRecDepth 20000 in
theorem dX6_read_10 : decode cX6_read 10 = .ok (.invokestatic 66, 3) := dc_184 0 66 (lxX6_read 0 10 rfl) (lxX6_read 0 11 rfl) (lxX6_read 0 12 rfl)
set_option maxRecDepth 20000 in
theorem dX6_read_13 : decode cX6_read 13 = .ok (.new 113, 3) := dc_187 0 113 (lxX6_read 0 13 rfl) (lxX6_read 0 14 rfl) (lxX6_read 0 15 rfl)
set_option maxRecDepth 20000 in
theorem dX6_read_16 : decode cX6_read 16 = .ok (.dup, 1) := dc_89 (lxX6_read 1 0 rfl)
set_option maxRecDepth 20000 in
theorem dX6_read_17 : decode cX6_read 17 = .ok (.invokespecial 115, 3) := dc_183 0 115 (lxX6_read 1 1 rfl) (lxX6_read 1 2 rfl) (lxX6_read 1 3 rfl)
set_option maxRecDepth 20000 in
theorem dX6_read_20 : decode cX6_read 20 = .ok (.astore 4, 2) := dc_58 4 (lxX6_read 1 4 rfl) (lxX6_read 1 5 rfl)
set_option maxRecDepth 20000 in
theorem dX6_read_22 : decode cX6_read 22 = .ok (.iconst 0, 1) := dc_3 (lxX6_read 1 6 rfl)
set_option maxRecDepth 20000 in
theorem dX6_read_23 : decode cX6_read 23 = .ok (.istore 5, 2) := dc_54 5 (lxX6_read 1 7 rfl) (lxX6_read 1 8 rfl)
set_option maxRecDepth 20000 in
theorem dX6_read_25 : decode cX6_read 25 = .ok (.iload 5, 2) := dc_21 5 (lxX6_read 1 9 rfl) (lxX6_read 1 10 rfl)
set_option maxRecDepth 20000 in
theorem dX6_read_27 : decode cX6_read 27 = .ok (.iload_n 2, 1) := dc_28 (lxX6_read 1 11 rfl)
set_option maxRecDepth 20000 in
theorem dX6_read_28 : decode cX6_read 28 = .ok (.if_icmp .ge 27, 3) := dc_162 0 27 (lxX6_read 1 12 rfl) (lxX6_read 1 13 rfl) (lxX6_read 1 14 rfl)
set_option maxRecDepth 20000 in
theorem dX6_read_31 : decode cX6_read 31 = .ok (.aload_n 3, 1) := dc_45 (lxX6_read 1 15 rfl)
set_option maxRecDepth 20000 in
theorem dX6_read_32 : decode cX6_read 32 = .ok (.invokevirtual 73, 3) := dc_182 0 73 (lxX6_read 2 0 rfl) (lxX6_read 2 1 rfl) (lxX6_read 2 2 rfl)
set_option maxRecDepth 20000 in
theorem dX6_read_35 : decode cX6_read 35 = .ok (.ifCond .le 20, 3) := dc_158 0 20 (lxX6_read 2 3 rfl) (lxX6_read 2 4 rfl) (lxX6_read 2 5 rfl)
set_option maxRecDepth 20000 in
theorem dX6_read_38 : decode cX6_read 38 = .ok (.aload 4, 2) := dc_25 4 (lxX6_read 2 6 rfl) (lxX6_read 2 7 rfl)
set_option maxRecDepth 20000 in
theorem dX6_read_40 : decode cX6_read 40 = .ok (.aload_n 3, 1) := dc_45 (lxX6_read 2 8 rfl)
set_option maxRecDepth 20000 in
theorem dX6_read_41 : decode cX6_read 41 = .ok (.invokevirtual 110, 3) := dc_182 0 110 (lxX6_read 2 9 rfl) (lxX6_read 2 10 rfl) (lxX6_read 2 11 rfl)
set_option maxRecDepth 20000 in
theorem dX6_read_44 : decode cX6_read 44 = .ok (.i2c, 1) := dc_146 (lxX6_read 2 12 rfl)
set_option maxRecDepth 20000 in
theorem dX6_read_45 : decode cX6_read 45 = .ok (.invokevirtual 116, 3) := dc_182 0 116 (lxX6_read 2 13 rfl) (lxX6_read 2 14 rfl) (lxX6_read 2 15 rfl)
set_option maxRecDepth 20000 in
theorem dX6_read_48 : decode cX6_read 48 = .ok (.pop, 1) := dc_87 (lxX6_read 3 0 rfl)
set_option maxRecDepth 20000 in
theorem dX6_read_49 : decode cX6_read 49 = .ok (.iinc 5 1, 3) := dc_132 5 1 (lxX6_read 3 1 rfl) (lxX6_read 3 2 rfl) (lxX6_read 3 3 rfl)
set_option maxRecDepth 20000 in
theorem dX6_read_52 : decode cX6_read 52 = .ok (.goto (-27), 3) := dc_167 255 229 (lxX6_read 3 4 rfl) (lxX6_read 3 5 rfl) (lxX6_read 3 6 rfl)
set_option maxRecDepth 20000 in
theorem dX6_read_55 : decode cX6_read 55 = .ok (.aload_n 0, 1) := dc_42 (lxX6_read 3 7 rfl)
set_option maxRecDepth 20000 in
theorem dX6_read_56 : decode cX6_read 56 = .ok (.aload 4, 2) := dc_25 4 (lxX6_read 3 8 rfl) (lxX6_read 3 9 rfl)
set_option maxRecDepth 20000 in
theorem dX6_read_58 : decode cX6_read 58 = .ok (.invokevirtual 120, 3) := dc_182 0 120 (lxX6_read 3 10 rfl) (lxX6_read 3 11 rfl) (lxX6_read 3 12 rfl)
set_option maxRecDepth 20000 in
theorem dX6_read_61 : decode cX6_read 61 = .ok (.invokevirtual 124, 3) := dc_182 0 124 (lxX6_read 3 13 rfl) (lxX6_read 3 14 rfl) (lxX6_read 3 15 rfl)
set_option maxRecDepth 20000 in
theorem dX6_read_64 : decode cX6_read 64 = .ok (.areturn, 1) := dc_176 (lxX6_read 4 0 rfl)
noncomputable def sgX6_pour : List (List Cond) := [[.code yX6_pour cX6_pour 7 (some .int)], wsX6_pour_r1, wsX6_pour_r2, wsX6_pour_r3, wsX60, wsX50, (vx_atS RX6 306 "java/lang/IndexOutOfBoundsException" ["java/lang/RuntimeException", "java/lang/Exception"]).filter goodWord, (vx_atS RX6 317 "java/lang/IllegalArgumentException" ["java/lang/RuntimeException", "java/lang/Exception"]).filter goodWord]
theorem seX6_pour : sgX6_pour.flatten = wsX6_pour := by simp only [sgX6_pour, wsX6_pour, List.flatten_cons, List.flatten_nil, List.append_assoc, List.append_nil, List.cons_append, List.nil_append]
set_option maxRecDepth 20000 in
theorem ggX6_pour_X6_windowOf : GoodIn wsX6_pour wsX6_windowOf := goodIn_ca (goodIn_s seX6_pour _ [pq_1_4, pq_1_5, pq_1_6, pq_1_7, pq_4_0, pq_4_1, pq_4_2, pq_4_3, pq_4_4, pq_4_5, pq_4_6, pq_4_7, pq_4_8, pq_4_9, pq_4_10, pq_4_11, pq_4_12, pq_4_13] (by rfl) (by decide +kernel)) (goodIn_sub (fun _ h => List.mem_cons_of_mem _ (List.mem_append_left _ (List.mem_append_right _ h))) (by decide +kernel))
set_option maxRecDepth 20000 in
theorem gX6_pour_X6_windowOf : GoodIn wsX6_pour (wsV RX6 62 RX6 yX6_windowOf wsX6_windowOf) := goodIn_app (goodIn_s seX6_pour _ [pq_1_0, pq_1_1, pq_1_2, pq_1_3] (by rfl) (by decide +kernel)) ggX6_pour_X6_windowOf
set_option maxRecDepth 20000 in
theorem ggX6_pour_X6_require : GoodIn wsX6_pour wsX6_require := goodIn_ca (goodIn_s seX6_pour _ [pq_1_10, pq_1_11, pq_1_12] (by rfl) (by decide +kernel)) (goodIn_sub (fun _ h => List.mem_cons_of_mem _ (List.mem_append_right _ h)) (by decide +kernel))
set_option maxRecDepth 20000 in
theorem gX6_pour_X6_require : GoodIn wsX6_pour (va_wsS RX6 127 yX6_require wsX6_require) := goodIn_app (goodIn_s seX6_pour _ [pq_1_8, pq_1_9, pq_1_3] (by rfl) (by decide +kernel)) ggX6_pour_X6_require
set_option maxRecDepth 20000 in
theorem ggX6_pour_X6_requireWithin : GoodIn wsX6_pour wsX6_requireWithin := goodIn_ca (goodIn_s seX6_pour _ [pq_1_15, pq_1_11, pq_1_12] (by rfl) (by decide +kernel)) (goodIn_sub (fun _ h => List.mem_cons_of_mem _ (List.mem_append_right _ h)) (by decide +kernel))
set_option maxRecDepth 20000 in
theorem gX6_pour_X6_requireWithin : GoodIn wsX6_pour (va_wsS RX6 66 yX6_requireWithin wsX6_requireWithin) := goodIn_app (goodIn_s seX6_pour _ [pq_1_13, pq_1_14, pq_1_3] (by rfl) (by decide +kernel)) ggX6_pour_X6_requireWithin
set_option maxRecDepth 20000 in
theorem ggX6_pour_X5_size : GoodIn wsX6_pour wsX5_size := goodIn_s seX6_pour _ [pq_1_20, pq_1_21, pq_1_22, pq_5_0, pq_5_1, pq_5_2, pq_5_3, pq_5_4, pq_5_5] (by rfl) (by decide +kernel)
set_option maxRecDepth 20000 in
theorem gX6_pour_X5_size : GoodIn wsX6_pour (wsV RX6 73 RX5 yX5_size wsX5_size) := goodIn_app (goodIn_s seX6_pour _ [pq_1_16, pq_1_17, pq_1_18, pq_1_19] (by rfl) (by decide +kernel)) ggX6_pour_X5_size
set_option maxRecDepth 20000 in
theorem ggX6_pour_X5_readSign : GoodIn wsX6_pour wsX5_readSign := goodIn_s seX6_pour _ [pq_2_2, pq_1_22, pq_2_3, pq_2_4, pq_2_5, pq_1_19, pq_2_6, pq_1_21, pq_2_7, pq_2_8, pq_2_9, pq_2_10, pq_2_11, pq_2_12, pq_2_13, pq_1_17, pq_1_18, pq_1_20, pq_5_0, pq_5_1, pq_5_2, pq_5_3, pq_5_4, pq_5_5] (by rfl) (by decide +kernel)
set_option maxRecDepth 20000 in
theorem gX6_pour_X5_readSign : GoodIn wsX6_pour (wsV RX6 110 RX5 yX5_readSign wsX5_readSign) := goodIn_app (goodIn_s seX6_pour _ [pq_1_23, pq_2_0, pq_2_1, pq_1_19] (by rfl) (by decide +kernel)) ggX6_pour_X5_readSign
set_option maxRecDepth 20000 in
theorem ggX6_pour_X5_writeSign : GoodIn wsX6_pour wsX5_writeSign := goodIn_s seX6_pour _ [pq_2_17, pq_1_22, pq_2_13, pq_1_17, pq_1_18, pq_1_19, pq_1_20, pq_1_21, pq_2_18, pq_2_19, pq_2_20, pq_2_21, pq_2_11, pq_2_12, pq_5_0, pq_5_1, pq_5_2, pq_5_3, pq_5_4, pq_5_5] (by rfl) (by decide +kernel)
set_option maxRecDepth 20000 in
theorem gX6_pour_X5_writeSign : GoodIn wsX6_pour (wsV RX6 99 RX5 yX5_writeSign wsX5_writeSign) := goodIn_app (goodIn_s seX6_pour _ [pq_2_14, pq_2_15, pq_2_16, pq_1_19] (by rfl) (by decide +kernel)) ggX6_pour_X5_writeSign
set_option maxRecDepth 20000 in
theorem ggX6_pour_X6_done : GoodIn wsX6_pour wsX6_done := goodIn_s seX6_pour _ [pq_3_1, pq_3_2, pq_4_0, pq_4_1, pq_4_2, pq_4_3, pq_4_4, pq_4_5, pq_4_6, pq_4_7, pq_4_8, pq_4_9, pq_4_10, pq_4_11, pq_4_12, pq_4_13] (by rfl) (by decide +kernel)
set_option maxRecDepth 20000 in
theorem gX6_pour_X6_done : GoodIn wsX6_pour (wsV RX6 77 RX6 yX6_done wsX6_done) := goodIn_app (goodIn_s seX6_pour _ [pq_2_22, pq_2_23, pq_3_0, pq_1_3] (by rfl) (by decide +kernel)) ggX6_pour_X6_done
def lb_sgX6_pour : List (List UInt8) := [[42, 27, 182, 0, 62, 58, 4, 42, 28, 182, 0, 62, 58, 5, 27, 28], [159, 0, 7, 4, 167, 0, 4, 3, 184, 0, 127, 29, 3, 16, 40, 184], [0, 66, 3, 54, 6, 21, 6, 29, 162, 0, 36, 25, 4, 182, 0, 73], [158, 0, 28, 25, 5, 182, 0, 73, 158, 0, 20, 25, 5, 25, 4, 182], [0, 110, 182, 0, 99, 87, 132, 6, 1, 167, 255, 220, 42, 21, 6, 182], [0, 77, 172]]
set_option maxRecDepth 100000 in
theorem lb_seX6_pour : cX6_pour.data.toList = lb_sgX6_pour.flatten := by decide +kernel
theorem lb_lnX6_pour : ∀ s ∈ lb_sgX6_pour.dropLast, s.length = 16 := by decide +kernel
theorem lxX6_pour (k j : Nat) {b : UInt8} (h : (lb_sgX6_pour[k]?).bind (fun s => s[j]?) = some b) : lb_at cX6_pour (16 * k + j) b := by
  unfold lb_at
  rw [lb_seX6_pour]
  exact lb_flat 16 lb_sgX6_pour k j b lb_lnX6_pour h
set_option maxRecDepth 20000 in
theorem dX6_pour_0 : decode cX6_pour 0 = .ok (.aload_n 0, 1) := dc_42 (lxX6_pour 0 0 rfl)
set_option maxRecDepth 20000 in
theorem dX6_pour_1 : decode cX6_pour 1 = .ok (.iload_n 1, 1) := dc_27 (lxX6_pour 0 1 rfl)
set_option maxRecDepth 20000 in
theorem dX6_pour_2 : decode cX6_pour 2 = .ok (.invokevirtual 62, 3) := dc_182 0 62 (lxX6_pour 0 2 rfl) (lxX6_pour 0 3 rfl) (lxX6_pour 0 4 rfl)
set_option maxRecDepth 20000 in
theorem dX6_pour_5 : decode cX6_pour 5 = .ok (.astore 4, 2) := dc_58 4 (lxX6_pour 0 5 rfl) (lxX6_pour 0 6 rfl)
set_option maxRecDepth 20000 in
theorem dX6_pour_7 : decode cX6_pour 7 = .ok (.aload_n 0, 1) := dc_42 (lxX6_pour 0 7 rfl)
set_option maxRecDepth 20000 in
theorem dX6_pour_8 : decode cX6_pour 8 = .ok (.iload_n 2, 1) := dc_28 (lxX6_pour 0 8 rfl)
set_option maxRecDepth 20000 in
theorem dX6_pour_9 : decode cX6_pour 9 = .ok (.invokevirtual 62, 3) := dc_182 0 62 (lxX6_pour 0 9 rfl) (lxX6_pour 0 10 rfl) (lxX6_pour 0 11 rfl)
set_option maxRecDepth 20000 in
theorem dX6_pour_12 : decode cX6_pour 12 = .ok (.astore 5, 2) := dc_58 5 (lxX6_pour 0 12 rfl) (lxX6_pour 0 13 rfl)
set_option maxRecDepth 20000 in
theorem dX6_pour_14 : decode cX6_pour 14 = .ok (.iload_n 1, 1) := dc_27 (lxX6_pour 0 14 rfl)
set_option maxRecDepth 20000 in
theorem dX6_pour_15 : decode cX6_pour 15 = .ok (.iload_n 2, 1) := dc_28 (lxX6_pour 0 15 rfl)
set_option maxRecDepth 20000 in
theorem dX6_pour_16 : decode cX6_pour 16 = .ok (.if_icmp .eq 7, 3) := dc_159 0 7 (lxX6_pour 1 0 rfl) (lxX6_pour 1 1 rfl) (lxX6_pour 1 2 rfl)
set_option maxRecDepth 20000 in
theorem dX6_pour_19 : decode cX6_pour 19 = .ok (.iconst 1, 1) := dc_4 (lxX6_pour 1 3 rfl)
set_option maxRecDepth 20000 in
theorem dX6_pour_20 : decode cX6_pour 20 = .ok (.goto 4, 3) := dc_167 0 4 (lxX6_pour 1 4 rfl) (lxX6_pour 1 5 rfl) (lxX6_pour 1 6 rfl)
set_option maxRecDepth 20000 in
theorem dX6_pour_23 : decode cX6_pour 23 = .ok (.iconst 0, 1) := dc_3 (lxX6_pour 1 7 rfl)
set_option maxRecDepth 20000 in
theorem dX6_pour_24 : decode cX6_pour 24 = .ok (.invokestatic 127, 3) := dc_184 0 127 (lxX6_pour 1 8 rfl) (lxX6_pour 1 9 rfl) (lxX6_pour 1 10 rfl)
set_option maxRecDepth 20000 in
theorem dX6_pour_27 : decode cX6_pour 27 = .ok (.iload_n 3, 1) := dc_29 (lxX6_pour 1 11 rfl)
set_option maxRecDepth 20000 in
theorem dX6_pour_28 : decode cX6_pour 28 = .ok (.iconst 0, 1) := dc_3 (lxX6_pour 1 12 rfl)
set_option maxRecDepth 20000 in
theorem dX6_pour_29 : decode cX6_pour 29 = .ok (.bipush 40, 2) := dc_16 40 (lxX6_pour 1 13 rfl) (lxX6_pour 1 14 rfl)
set_option maxRecDepth 20000 in
theorem dX6_pour_31 : decode cX6_pour 31 = .ok (.invokestatic 66, 3) := dc_184 0 66 (lxX6_pour 1 15 rfl) (lxX6_pour 2 0 rfl) (lxX6_pour 2 1 rfl)
set_option maxRecDepth 20000 in
theorem dX6_pour_34 : decode cX6_pour 34 = .ok (.iconst 0, 1) := dc_3 (lxX6_pour 2 2 rfl)
set_option maxRecDepth 20000 in
theorem dX6_pour_35 : decode cX6_pour 35 = .ok (.istore 6, 2) := dc_54 6 (lxX6_pour 2 3 rfl) (lxX6_pour 2 4 rfl)
set_option maxRecDepth 20000 in
theorem dX6_pour_37 : decode cX6_pour 37 = .ok (.iload 6, 2) := dc_21 6 (lxX6_pour 2 5 rfl) (lxX6_pour 2 6 rfl)
set_option maxRecDepth 20000 in
theorem dX6_pour_39 : decode cX6_pour 39 = .ok (.iload_n 3, 1) := dc_29 (lxX6_pour 2 7 rfl)
set_option maxRecDepth 20000 in
theorem dX6_pour_40 : decode cX6_pour 40 = .ok (.if_icmp .ge 36, 3) := dc_162 0 36 (lxX6_pour 2 8 rfl) (lxX6_pour 2 9 rfl) (lxX6_pour 2 10 rfl)
set_option maxRecDepth 20000 in
theorem dX6_pour_43 : decode cX6_pour 43 = .ok (.aload 4, 2) := dc_25 4 (lxX6_pour 2 11 rfl) (lxX6_pour 2 12 rfl)
set_option maxRecDepth 20000 in
theorem dX6_pour_45 : decode cX6_pour 45 = .ok (.invokevirtual 73, 3) := dc_182 0 73 (lxX6_pour 2 13 rfl) (lxX6_pour 2 14 rfl) (lxX6_pour 2 15 rfl)
set_option maxRecDepth 20000 in
theorem dX6_pour_48 : decode cX6_pour 48 = .ok (.ifCond .le 28, 3) := dc_158 0 28 (lxX6_pour 3 0 rfl) (lxX6_pour 3 1 rfl) (lxX6_pour 3 2 rfl)
set_option maxRecDepth 20000 in
theorem dX6_pour_51 : decode cX6_pour 51 = .ok (.aload 5, 2) := dc_25 5 (lxX6_pour 3 3 rfl) (lxX6_pour 3 4 rfl)
set_option maxRecDepth 20000 in
theorem dX6_pour_53 : decode cX6_pour 53 = .ok (.invokevirtual 73, 3) := dc_182 0 73 (lxX6_pour 3 5 rfl) (lxX6_pour 3 6 rfl) (lxX6_pour 3 7 rfl)
set_option maxRecDepth 20000 in
theorem dX6_pour_56 : decode cX6_pour 56 = .ok (.ifCond .le 20, 3) := dc_158 0 20 (lxX6_pour 3 8 rfl) (lxX6_pour 3 9 rfl) (lxX6_pour 3 10 rfl)
set_option maxRecDepth 20000 in
theorem dX6_pour_59 : decode cX6_pour 59 = .ok (.aload 5, 2) := dc_25 5 (lxX6_pour 3 11 rfl) (lxX6_pour 3 12 rfl)
set_option maxRecDepth 20000 in
theorem dX6_pour_61 : decode cX6_pour 61 = .ok (.aload 4, 2) := dc_25 4 (lxX6_pour 3 13 rfl) (lxX6_pour 3 14 rfl)
set_option maxRecDepth 20000 in
theorem dX6_pour_63 : decode cX6_pour 63 = .ok (.invokevirtual 110, 3) := dc_182 0 110 (lxX6_pour 3 15 rfl) (lxX6_pour 4 0 rfl) (lxX6_pour 4 1 rfl)
set_option maxRecDepth 20000 in
theorem dX6_pour_66 : decode cX6_pour 66 = .ok (.invokevirtual 99, 3) := dc_182 0 99 (lxX6_pour 4 2 rfl) (lxX6_pour 4 3 rfl) (lxX6_pour 4 4 rfl)
set_option maxRecDepth 20000 in
theorem dX6_pour_69 : decode cX6_pour 69 = .ok (.pop, 1) := dc_87 (lxX6_pour 4 5 rfl)
set_option maxRecDepth 20000 in
theorem dX6_pour_70 : decode cX6_pour 70 = .ok (.iinc 6 1, 3) := dc_132 6 1 (lxX6_pour 4 6 rfl) (lxX6_pour 4 7 rfl) (lxX6_pour 4 8 rfl)
set_option maxRecDepth 20000 in
theorem dX6_pour_73 : decode cX6_pour 73 = .ok (.goto (-36), 3) := dc_167 255 220 (lxX6_pour 4 9 rfl) (lxX6_pour 4 10 rfl) (lxX6_pour 4 11 rfl)
set_option maxRecDepth 20000 in
theorem dX6_pour_76 : decode cX6_pour 76 = .ok (.aload_n 0, 1) := dc_42 (lxX6_pour 4 12 rfl)
set_option maxRecDepth 20000 in
theorem dX6_pour_77 : decode cX6_pour 77 = .ok (.iload 6, 2) := dc_21 6 (lxX6_pour 4 13 rfl) (lxX6_pour 4 14 rfl)
set_option maxRecDepth 20000 in
theorem dX6_pour_79 : decode cX6_pour 79 = .ok (.invokevirtual 77, 3) := dc_182 0 77 (lxX6_pour 4 15 rfl) (lxX6_pour 5 0 rfl) (lxX6_pour 5 1 rfl)
set_option maxRecDepth 20000 in
theorem dX6_pour_82 : decode cX6_pour 82 = .ok (.ireturn, 1) := dc_172 (lxX6_pour 5 2 rfl)
noncomputable def sgX6_mark : List (List Cond) := [[.code yX6_mark cX6_mark 3 (some .int)], [.methodLink RX6 62 yX6_windowOf, .instanceMethod yX6_windowOf, .selects RX6 yX6_windowOf yX6_windowOf, .initialized RX6, .code yX6_windowOf cX6_windowOf 2 (some (.object "Sashwords$Window")), .classLink RX6 302 "java/lang/IndexOutOfBoundsException", .initialized "java/lang/IndexOutOfBoundsException", .fieldLink RX6 11 "Sashwords" "windows" "[LSashwords$Window;", .methodLink RX6 131 yX5_setMark, .instanceMethod yX5_setMark, .selects RX5 yX5_setMark yX5_setMark, .initialized RX5, .code yX5_setMark cX5_setMark 1 none, .fieldLink RX5 31 "Sashwords$Window" "position" "I", .fieldLink RX5 28 "Sashwords$Window" "mark" "I", .methodLink RX6 77 yX6_done, .instanceMethod yX6_done, .selects RX6 yX6_done yX6_done, .code yX6_done cX6_done 2 (some .int), .fieldLink RX6 328 "Sashwords" "actsDone" "I"], wsX50, wsX60, (vx_atS RX6 306 "java/lang/IndexOutOfBoundsException" ["java/lang/RuntimeException", "java/lang/Exception"]).filter goodWord]
theorem seX6_mark : sgX6_mark.flatten = wsX6_mark := by simp only [sgX6_mark, wsX6_mark, List.flatten_cons, List.flatten_nil, List.append_assoc, List.append_nil, List.cons_append, List.nil_append]
set_option maxRecDepth 20000 in
theorem ggX6_mark_X6_windowOf : GoodIn wsX6_mark wsX6_windowOf := goodIn_ca (goodIn_s seX6_mark _ [pq_1_4, pq_1_5, pq_1_6, pq_1_7, pq_3_0, pq_3_1, pq_3_2, pq_3_3, pq_3_4, pq_3_5, pq_3_6, pq_3_7, pq_3_8, pq_3_9, pq_3_10, pq_3_11, pq_3_12, pq_3_13] (by rfl) (by decide +kernel)) (goodIn_sub (fun _ h => List.mem_cons_of_mem _ (List.mem_append_right _ h)) (by decide +kernel))
set_option maxRecDepth 20000 in
theorem gX6_mark_X6_windowOf : GoodIn wsX6_mark (wsV RX6 62 RX6 yX6_windowOf wsX6_windowOf) := goodIn_app (goodIn_s seX6_mark _ [pq_1_0, pq_1_1, pq_1_2, pq_1_3] (by rfl) (by decide +kernel)) ggX6_mark_X6_windowOf
set_option maxRecDepth 20000 in
theorem ggX6_mark_X5_setMark : GoodIn wsX6_mark wsX5_setMark := goodIn_s seX6_mark _ [pq_1_12, pq_1_13, pq_1_14, pq_2_0, pq_2_1, pq_2_2, pq_2_3, pq_2_4, pq_2_5] (by rfl) (by decide +kernel)
set_option maxRecDepth 20000 in
theorem gX6_mark_X5_setMark : GoodIn wsX6_mark (wsV RX6 131 RX5 yX5_setMark wsX5_setMark) := goodIn_app (goodIn_s seX6_mark _ [pq_1_8, pq_1_9, pq_1_10, pq_1_11] (by rfl) (by decide +kernel)) ggX6_mark_X5_setMark
set_option maxRecDepth 20000 in
theorem ggX6_mark_X6_done : GoodIn wsX6_mark wsX6_done := goodIn_s seX6_mark _ [pq_1_18, pq_1_19, pq_3_0, pq_3_1, pq_3_2, pq_3_3, pq_3_4, pq_3_5, pq_3_6, pq_3_7, pq_3_8, pq_3_9, pq_3_10, pq_3_11, pq_3_12, pq_3_13] (by rfl) (by decide +kernel)
set_option maxRecDepth 20000 in
theorem gX6_mark_X6_done : GoodIn wsX6_mark (wsV RX6 77 RX6 yX6_done wsX6_done) := goodIn_app (goodIn_s seX6_mark _ [pq_1_15, pq_1_16, pq_1_17, pq_1_3] (by rfl) (by decide +kernel)) ggX6_mark_X6_done
def lb_sgX6_mark : List (List UInt8) := [[42, 27, 182, 0, 62, 77, 44, 182, 0, 131, 42, 44, 180, 0, 134, 182], [0, 77, 172]]
set_option maxRecDepth 100000 in
theorem lb_seX6_mark : cX6_mark.data.toList = lb_sgX6_mark.flatten := by decide +kernel
theorem lb_lnX6_mark : ∀ s ∈ lb_sgX6_mark.dropLast, s.length = 16 := by decide +kernel
theorem lxX6_mark (k j : Nat) {b : UInt8} (h : (lb_sgX6_mark[k]?).bind (fun s => s[j]?) = some b) : lb_at cX6_mark (16 * k + j) b := by
  unfold lb_at
  rw [lb_seX6_mark]
  exact lb_flat 16 lb_sgX6_mark k j b lb_lnX6_mark h
set_option maxRecDepth 20000 in
theorem dX6_mark_0 : decode cX6_mark 0 = .ok (.aload_n 0, 1) := dc_42 (lxX6_mark 0 0 rfl)
set_option maxRecDepth 20000 in
theorem dX6_mark_1 : decode cX6_mark 1 = .ok (.iload_n 1, 1) := dc_27 (lxX6_mark 0 1 rfl)
set_option maxRecDepth 20000 in
theorem dX6_mark_2 : decode cX6_mark 2 = .ok (.invokevirtual 62, 3) := dc_182 0 62 (lxX6_mark 0 2 rfl) (lxX6_mark 0 3 rfl) (lxX6_mark 0 4 rfl)
set_option maxRecDepth 20000 in
theorem dX6_mark_5 : decode cX6_mark 5 = .ok (.astore_n 2, 1) := dc_77 (lxX6_mark 0 5 rfl)
set_option maxRecDepth 20000 in
theorem dX6_mark_6 : decode cX6_mark 6 = .ok (.aload_n 2, 1) := dc_44 (lxX6_mark 0 6 rfl)
set_option maxRecDepth 20000 in
theorem dX6_mark_7 : decode cX6_mark 7 = .ok (.invokevirtual 131, 3) := dc_182 0 131 (lxX6_mark 0 7 rfl) (lxX6_mark 0 8 rfl) (lxX6_mark 0 9 rfl)
set_option maxRecDepth 20000 in
theorem dX6_mark_10 : decode cX6_mark 10 = .ok (.aload_n 0, 1) := dc_42 (lxX6_mark 0 10 rfl)
set_option maxRecDepth 20000 in
theorem dX6_mark_11 : decode cX6_mark 11 = .ok (.aload_n 2, 1) := dc_44 (lxX6_mark 0 11 rfl)
set_option maxRecDepth 20000 in
theorem dX6_mark_12 : decode cX6_mark 12 = .ok (.getfield 134, 3) := dc_180 0 134 (lxX6_mark 0 12 rfl) (lxX6_mark 0 13 rfl) (lxX6_mark 0 14 rfl)
set_option maxRecDepth 20000 in
theorem dX6_mark_15 : decode cX6_mark 15 = .ok (.invokevirtual 77, 3) := dc_182 0 77 (lxX6_mark 0 15 rfl) (lxX6_mark 1 0 rfl) (lxX6_mark 1 1 rfl)
set_option maxRecDepth 20000 in
theorem dX6_mark_18 : decode cX6_mark 18 = .ok (.ireturn, 1) := dc_172 (lxX6_mark 1 2 rfl)
noncomputable def sgX6_reset : List (List Cond) := [[.code yX6_reset cX6_reset 3 (some .int)], wsX6_reset_r1, wsX6_reset_r2, wsX50, wsX60, (vx_atS RX6 306 "java/lang/IndexOutOfBoundsException" ["java/lang/RuntimeException", "java/lang/Exception"]).filter goodWord]
theorem seX6_reset : sgX6_reset.flatten = wsX6_reset := by simp only [sgX6_reset, wsX6_reset, List.flatten_cons, List.flatten_nil, List.append_assoc, List.append_nil, List.cons_append, List.nil_append]
set_option maxRecDepth 20000 in
theorem ggX6_reset_X6_windowOf : GoodIn wsX6_reset wsX6_windowOf := goodIn_ca (goodIn_s seX6_reset _ [pq_1_4, pq_1_5, pq_1_6, pq_1_7, pq_4_0, pq_4_1, pq_4_2, pq_4_3, pq_4_4, pq_4_5, pq_4_6, pq_4_7, pq_4_8, pq_4_9, pq_4_10, pq_4_11, pq_4_12, pq_4_13] (by rfl) (by decide +kernel)) (goodIn_sub (fun _ h => List.mem_cons_of_mem _ (List.mem_append_right _ h)) (by decide +kernel))
set_option maxRecDepth 20000 in
theorem gX6_reset_X6_windowOf : GoodIn wsX6_reset (wsV RX6 62 RX6 yX6_windowOf wsX6_windowOf) := goodIn_app (goodIn_s seX6_reset _ [pq_1_0, pq_1_1, pq_1_2, pq_1_3] (by rfl) (by decide +kernel)) ggX6_reset_X6_windowOf
set_option maxRecDepth 20000 in
theorem ggX6_reset_X6_refused : GoodIn wsX6_reset wsX6_refused := goodIn_s seX6_reset _ [pq_1_11, pq_1_12, pq_4_0, pq_4_1, pq_4_2, pq_4_3, pq_4_4, pq_4_5, pq_4_6, pq_4_7, pq_4_8, pq_4_9, pq_4_10, pq_4_11, pq_4_12, pq_4_13] (by rfl) (by decide +kernel)
set_option maxRecDepth 20000 in
theorem gX6_reset_X6_refused : GoodIn wsX6_reset (wsV RX6 92 RX6 yX6_refused wsX6_refused) := goodIn_app (goodIn_s seX6_reset _ [pq_1_8, pq_1_9, pq_1_10, pq_1_3] (by rfl) (by decide +kernel)) ggX6_reset_X6_refused
set_option maxRecDepth 20000 in
theorem ggX6_reset_X5_goToMark : GoodIn wsX6_reset wsX5_goToMark := goodIn_s seX6_reset _ [pq_1_17, pq_1_18, pq_1_19, pq_3_0, pq_3_1, pq_3_2, pq_3_3, pq_3_4, pq_3_5] (by rfl) (by decide +kernel)
set_option maxRecDepth 20000 in
theorem gX6_reset_X5_goToMark : GoodIn wsX6_reset (wsV RX6 141 RX5 yX5_goToMark wsX5_goToMark) := goodIn_app (goodIn_s seX6_reset _ [pq_1_13, pq_1_14, pq_1_15, pq_1_16] (by rfl) (by decide +kernel)) ggX6_reset_X5_goToMark
set_option maxRecDepth 20000 in
theorem ggX6_reset_X6_done : GoodIn wsX6_reset wsX6_done := goodIn_s seX6_reset _ [pq_1_23, pq_2_0, pq_4_0, pq_4_1, pq_4_2, pq_4_3, pq_4_4, pq_4_5, pq_4_6, pq_4_7, pq_4_8, pq_4_9, pq_4_10, pq_4_11, pq_4_12, pq_4_13] (by rfl) (by decide +kernel)
set_option maxRecDepth 20000 in
theorem gX6_reset_X6_done : GoodIn wsX6_reset (wsV RX6 77 RX6 yX6_done wsX6_done) := goodIn_app (goodIn_s seX6_reset _ [pq_1_20, pq_1_21, pq_1_22, pq_1_3] (by rfl) (by decide +kernel)) ggX6_reset_X6_done
def lb_sgX6_reset : List (List UInt8) := [[42, 27, 182, 0, 62, 77, 44, 180, 0, 138, 16, 247, 160, 0, 8, 42], [182, 0, 92, 172, 44, 182, 0, 141, 42, 44, 180, 0, 134, 182, 0, 77], [172]]
set_option maxRecDepth 100000 in
theorem lb_seX6_reset : cX6_reset.data.toList = lb_sgX6_reset.flatten := by decide +kernel
theorem lb_lnX6_reset : ∀ s ∈ lb_sgX6_reset.dropLast, s.length = 16 := by decide +kernel
theorem lxX6_reset (k j : Nat) {b : UInt8} (h : (lb_sgX6_reset[k]?).bind (fun s => s[j]?) = some b) : lb_at cX6_reset (16 * k + j) b := by
  unfold lb_at
  rw [lb_seX6_reset]
  exact lb_flat 16 lb_sgX6_reset k j b lb_lnX6_reset h
set_option maxRecDepth 20000 in
theorem dX6_reset_0 : decode cX6_reset 0 = .ok (.aload_n 0, 1) := dc_42 (lxX6_reset 0 0 rfl)
set_option maxRecDepth 20000 in
theorem dX6_reset_1 : decode cX6_reset 1 = .ok (.iload_n 1, 1) := dc_27 (lxX6_reset 0 1 rfl)
set_option maxRecDepth 20000 in
theorem dX6_reset_2 : decode cX6_reset 2 = .ok (.invokevirtual 62, 3) := dc_182 0 62 (lxX6_reset 0 2 rfl) (lxX6_reset 0 3 rfl) (lxX6_reset 0 4 rfl)
set_option maxRecDepth 20000 in
theorem dX6_reset_5 : decode cX6_reset 5 = .ok (.astore_n 2, 1) := dc_77 (lxX6_reset 0 5 rfl)
set_option maxRecDepth 20000 in
theorem dX6_reset_6 : decode cX6_reset 6 = .ok (.aload_n 2, 1) := dc_44 (lxX6_reset 0 6 rfl)
set_option maxRecDepth 20000 in
theorem dX6_reset_7 : decode cX6_reset 7 = .ok (.getfield 138, 3) := dc_180 0 138 (lxX6_reset 0 7 rfl) (lxX6_reset 0 8 rfl) (lxX6_reset 0 9 rfl)
set_option maxRecDepth 20000 in
theorem dX6_reset_10 : decode cX6_reset 10 = .ok (.bipush (-9), 2) := dc_16 247 (lxX6_reset 0 10 rfl) (lxX6_reset 0 11 rfl)
set_option maxRecDepth 20000 in
theorem dX6_reset_12 : decode cX6_reset 12 = .ok (.if_icmp .ne 8, 3) := dc_160 0 8 (lxX6_reset 0 12 rfl) (lxX6_reset 0 13 rfl) (lxX6_reset 0 14 rfl)
set_option maxRecDepth 20000 in
theorem dX6_reset_15 : decode cX6_reset 15 = .ok (.aload_n 0, 1) := dc_42 (lxX6_reset 0 15 rfl)
set_option maxRecDepth 20000 in
theorem dX6_reset_16 : decode cX6_reset 16 = .ok (.invokevirtual 92, 3) := dc_182 0 92 (lxX6_reset 1 0 rfl) (lxX6_reset 1 1 rfl) (lxX6_reset 1 2 rfl)
set_option maxRecDepth 20000 in
theorem dX6_reset_19 : decode cX6_reset 19 = .ok (.ireturn, 1) := dc_172 (lxX6_reset 1 3 rfl)
set_option maxRecDepth 20000 in
theorem dX6_reset_20 : decode cX6_reset 20 = .ok (.aload_n 2, 1) := dc_44 (lxX6_reset 1 4 rfl)
set_option maxRecDepth 20000 in
theorem dX6_reset_21 : decode cX6_reset 21 = .ok (.invokevirtual 141, 3) := dc_182 0 141 (lxX6_reset 1 5 rfl) (lxX6_reset 1 6 rfl) (lxX6_reset 1 7 rfl)
set_option maxRecDepth 20000 in
theorem dX6_reset_24 : decode cX6_reset 24 = .ok (.aload_n 0, 1) := dc_42 (lxX6_reset 1 8 rfl)
set_option maxRecDepth 20000 in
theorem dX6_reset_25 : decode cX6_reset 25 = .ok (.aload_n 2, 1) := dc_44 (lxX6_reset 1 9 rfl)
set_option maxRecDepth 20000 in
theorem dX6_reset_26 : decode cX6_reset 26 = .ok (.getfield 134, 3) := dc_180 0 134 (lxX6_reset 1 10 rfl) (lxX6_reset 1 11 rfl) (lxX6_reset 1 12 rfl)
set_option maxRecDepth 20000 in
theorem dX6_reset_29 : decode cX6_reset 29 = .ok (.invokevirtual 77, 3) := dc_182 0 77 (lxX6_reset 1 13 rfl) (lxX6_reset 1 14 rfl) (lxX6_reset 1 15 rfl)
set_option maxRecDepth 20000 in
theorem dX6_reset_32 : decode cX6_reset 32 = .ok (.ireturn, 1) := dc_172 (lxX6_reset 2 0 rfl)
noncomputable def sgX6_rewind : List (List Cond) := [[.code yX6_rewind cX6_rewind 3 (some .int)], wsX6_rewind_r1, wsX6_rewind_r2, wsX50, wsX60, (vx_atS RX6 306 "java/lang/IndexOutOfBoundsException" ["java/lang/RuntimeException", "java/lang/Exception"]).filter goodWord]
theorem seX6_rewind : sgX6_rewind.flatten = wsX6_rewind := by simp only [sgX6_rewind, wsX6_rewind, List.flatten_cons, List.flatten_nil, List.append_assoc, List.append_nil, List.cons_append, List.nil_append]
set_option maxRecDepth 20000 in
theorem ggX6_rewind_X6_windowOf : GoodIn wsX6_rewind wsX6_windowOf := goodIn_ca (goodIn_s seX6_rewind _ [pq_1_4, pq_1_5, pq_1_6, pq_1_7, pq_4_0, pq_4_1, pq_4_2, pq_4_3, pq_4_4, pq_4_5, pq_4_6, pq_4_7, pq_4_8, pq_4_9, pq_4_10, pq_4_11, pq_4_12, pq_4_13] (by rfl) (by decide +kernel)) (goodIn_sub (fun _ h => List.mem_cons_of_mem _ (List.mem_append_right _ h)) (by decide +kernel))
set_option maxRecDepth 20000 in
theorem gX6_rewind_X6_windowOf : GoodIn wsX6_rewind (wsV RX6 62 RX6 yX6_windowOf wsX6_windowOf) := goodIn_app (goodIn_s seX6_rewind _ [pq_1_0, pq_1_1, pq_1_2, pq_1_3] (by rfl) (by decide +kernel)) ggX6_rewind_X6_windowOf
set_option maxRecDepth 20000 in
theorem ggX6_rewind_X5_goTo : GoodIn wsX6_rewind wsX5_goTo := goodIn_s seX6_rewind _ [pq_1_12, pq_1_13, pq_1_14, pq_1_15, pq_3_0, pq_3_1, pq_3_2, pq_3_3, pq_3_4, pq_3_5] (by rfl) (by decide +kernel)
set_option maxRecDepth 20000 in
theorem gX6_rewind_X5_goTo : GoodIn wsX6_rewind (wsV RX6 147 RX5 yX5_goTo wsX5_goTo) := goodIn_app (goodIn_s seX6_rewind _ [pq_1_8, pq_1_9, pq_1_10, pq_1_11] (by rfl) (by decide +kernel)) ggX6_rewind_X5_goTo
set_option maxRecDepth 20000 in
theorem ggX6_rewind_X5_size : GoodIn wsX6_rewind wsX5_size := goodIn_s seX6_rewind _ [pq_1_19, pq_1_14, pq_1_13, pq_3_0, pq_3_1, pq_3_2, pq_3_3, pq_3_4, pq_3_5] (by rfl) (by decide +kernel)
set_option maxRecDepth 20000 in
theorem gX6_rewind_X5_size : GoodIn wsX6_rewind (wsV RX6 73 RX5 yX5_size wsX5_size) := goodIn_app (goodIn_s seX6_rewind _ [pq_1_16, pq_1_17, pq_1_18, pq_1_11] (by rfl) (by decide +kernel)) ggX6_rewind_X5_size
set_option maxRecDepth 20000 in
theorem ggX6_rewind_X6_done : GoodIn wsX6_rewind wsX6_done := goodIn_s seX6_rewind _ [pq_1_23, pq_2_0, pq_4_0, pq_4_1, pq_4_2, pq_4_3, pq_4_4, pq_4_5, pq_4_6, pq_4_7, pq_4_8, pq_4_9, pq_4_10, pq_4_11, pq_4_12, pq_4_13] (by rfl) (by decide +kernel)
set_option maxRecDepth 20000 in
theorem gX6_rewind_X6_done : GoodIn wsX6_rewind (wsV RX6 77 RX6 yX6_done wsX6_done) := goodIn_app (goodIn_s seX6_rewind _ [pq_1_20, pq_1_21, pq_1_22, pq_1_3] (by rfl) (by decide +kernel)) ggX6_rewind_X6_done
def lb_sgX6_rewind : List (List UInt8) := [[42, 27, 182, 0, 62, 77, 44, 3, 44, 180, 0, 144, 182, 0, 147, 42], [44, 182, 0, 73, 182, 0, 77, 172]]
set_option maxRecDepth 100000 in
theorem lb_seX6_rewind : cX6_rewind.data.toList = lb_sgX6_rewind.flatten := by decide +kernel
theorem lb_lnX6_rewind : ∀ s ∈ lb_sgX6_rewind.dropLast, s.length = 16 := by decide +kernel
theorem lxX6_rewind (k j : Nat) {b : UInt8} (h : (lb_sgX6_rewind[k]?).bind (fun s => s[j]?) = some b) : lb_at cX6_rewind (16 * k + j) b := by
  unfold lb_at
  rw [lb_seX6_rewind]
  exact lb_flat 16 lb_sgX6_rewind k j b lb_lnX6_rewind h
set_option maxRecDepth 20000 in
theorem dX6_rewind_0 : decode cX6_rewind 0 = .ok (.aload_n 0, 1) := dc_42 (lxX6_rewind 0 0 rfl)
set_option maxRecDepth 20000 in
theorem dX6_rewind_1 : decode cX6_rewind 1 = .ok (.iload_n 1, 1) := dc_27 (lxX6_rewind 0 1 rfl)
set_option maxRecDepth 20000 in
theorem dX6_rewind_2 : decode cX6_rewind 2 = .ok (.invokevirtual 62, 3) := dc_182 0 62 (lxX6_rewind 0 2 rfl) (lxX6_rewind 0 3 rfl) (lxX6_rewind 0 4 rfl)
set_option maxRecDepth 20000 in
theorem dX6_rewind_5 : decode cX6_rewind 5 = .ok (.astore_n 2, 1) := dc_77 (lxX6_rewind 0 5 rfl)
set_option maxRecDepth 20000 in
theorem dX6_rewind_6 : decode cX6_rewind 6 = .ok (.aload_n 2, 1) := dc_44 (lxX6_rewind 0 6 rfl)
set_option maxRecDepth 20000 in
theorem dX6_rewind_7 : decode cX6_rewind 7 = .ok (.iconst 0, 1) := dc_3 (lxX6_rewind 0 7 rfl)
set_option maxRecDepth 20000 in
theorem dX6_rewind_8 : decode cX6_rewind 8 = .ok (.aload_n 2, 1) := dc_44 (lxX6_rewind 0 8 rfl)
set_option maxRecDepth 20000 in
theorem dX6_rewind_9 : decode cX6_rewind 9 = .ok (.getfield 144, 3) := dc_180 0 144 (lxX6_rewind 0 9 rfl) (lxX6_rewind 0 10 rfl) (lxX6_rewind 0 11 rfl)
set_option maxRecDepth 20000 in
theorem dX6_rewind_12 : decode cX6_rewind 12 = .ok (.invokevirtual 147, 3) := dc_182 0 147 (lxX6_rewind 0 12 rfl) (lxX6_rewind 0 13 rfl) (lxX6_rewind 0 14 rfl)
set_option maxRecDepth 20000 in
theorem dX6_rewind_15 : decode cX6_rewind 15 = .ok (.aload_n 0, 1) := dc_42 (lxX6_rewind 0 15 rfl)
set_option maxRecDepth 20000 in
theorem dX6_rewind_16 : decode cX6_rewind 16 = .ok (.aload_n 2, 1) := dc_44 (lxX6_rewind 1 0 rfl)
set_option maxRecDepth 20000 in
theorem dX6_rewind_17 : decode cX6_rewind 17 = .ok (.invokevirtual 73, 3) := dc_182 0 73 (lxX6_rewind 1 1 rfl) (lxX6_rewind 1 2 rfl) (lxX6_rewind 1 3 rfl)
set_option maxRecDepth 20000 in
theorem dX6_rewind_20 : decode cX6_rewind 20 = .ok (.invokevirtual 77, 3) := dc_182 0 77 (lxX6_rewind 1 4 rfl) (lxX6_rewind 1 5 rfl) (lxX6_rewind 1 6 rfl)
set_option maxRecDepth 20000 in
theorem dX6_rewind_23 : decode cX6_rewind 23 = .ok (.ireturn, 1) := dc_172 (lxX6_rewind 1 7 rfl)
noncomputable def sgX6_flip : List (List Cond) := [[.code yX6_flip cX6_flip 3 (some .int)], wsX6_flip_r1, wsX6_flip_r2, wsX50, wsX60, (vx_atS RX6 306 "java/lang/IndexOutOfBoundsException" ["java/lang/RuntimeException", "java/lang/Exception"]).filter goodWord]
theorem seX6_flip : sgX6_flip.flatten = wsX6_flip := by simp only [sgX6_flip, wsX6_flip, List.flatten_cons, List.flatten_nil, List.append_assoc, List.append_nil, List.cons_append, List.nil_append]
set_option maxRecDepth 20000 in
theorem ggX6_flip_X6_windowOf : GoodIn wsX6_flip wsX6_windowOf := goodIn_ca (goodIn_s seX6_flip _ [pq_1_4, pq_1_5, pq_1_6, pq_1_7, pq_4_0, pq_4_1, pq_4_2, pq_4_3, pq_4_4, pq_4_5, pq_4_6, pq_4_7, pq_4_8, pq_4_9, pq_4_10, pq_4_11, pq_4_12, pq_4_13] (by rfl) (by decide +kernel)) (goodIn_sub (fun _ h => List.mem_cons_of_mem _ (List.mem_append_right _ h)) (by decide +kernel))
set_option maxRecDepth 20000 in
theorem gX6_flip_X6_windowOf : GoodIn wsX6_flip (wsV RX6 62 RX6 yX6_windowOf wsX6_windowOf) := goodIn_app (goodIn_s seX6_flip _ [pq_1_0, pq_1_1, pq_1_2, pq_1_3] (by rfl) (by decide +kernel)) ggX6_flip_X6_windowOf
set_option maxRecDepth 20000 in
theorem ggX6_flip_X5_goTo : GoodIn wsX6_flip wsX5_goTo := goodIn_s seX6_flip _ [pq_1_12, pq_1_13, pq_1_14, pq_1_15, pq_3_0, pq_3_1, pq_3_2, pq_3_3, pq_3_4, pq_3_5] (by rfl) (by decide +kernel)
set_option maxRecDepth 20000 in
theorem gX6_flip_X5_goTo : GoodIn wsX6_flip (wsV RX6 147 RX5 yX5_goTo wsX5_goTo) := goodIn_app (goodIn_s seX6_flip _ [pq_1_8, pq_1_9, pq_1_10, pq_1_11] (by rfl) (by decide +kernel)) ggX6_flip_X5_goTo
set_option maxRecDepth 20000 in
theorem ggX6_flip_X5_size : GoodIn wsX6_flip wsX5_size := goodIn_s seX6_flip _ [pq_1_19, pq_1_14, pq_1_13, pq_3_0, pq_3_1, pq_3_2, pq_3_3, pq_3_4, pq_3_5] (by rfl) (by decide +kernel)
set_option maxRecDepth 20000 in
theorem gX6_flip_X5_size : GoodIn wsX6_flip (wsV RX6 73 RX5 yX5_size wsX5_size) := goodIn_app (goodIn_s seX6_flip _ [pq_1_16, pq_1_17, pq_1_18, pq_1_11] (by rfl) (by decide +kernel)) ggX6_flip_X5_size
set_option maxRecDepth 20000 in
theorem ggX6_flip_X6_done : GoodIn wsX6_flip wsX6_done := goodIn_s seX6_flip _ [pq_1_23, pq_2_0, pq_4_0, pq_4_1, pq_4_2, pq_4_3, pq_4_4, pq_4_5, pq_4_6, pq_4_7, pq_4_8, pq_4_9, pq_4_10, pq_4_11, pq_4_12, pq_4_13] (by rfl) (by decide +kernel)
set_option maxRecDepth 20000 in
theorem gX6_flip_X6_done : GoodIn wsX6_flip (wsV RX6 77 RX6 yX6_done wsX6_done) := goodIn_app (goodIn_s seX6_flip _ [pq_1_20, pq_1_21, pq_1_22, pq_1_3] (by rfl) (by decide +kernel)) ggX6_flip_X6_done
def lb_sgX6_flip : List (List UInt8) := [[42, 27, 182, 0, 62, 77, 44, 3, 44, 180, 0, 134, 182, 0, 147, 42], [44, 182, 0, 73, 182, 0, 77, 172]]
set_option maxRecDepth 100000 in
theorem lb_seX6_flip : cX6_flip.data.toList = lb_sgX6_flip.flatten := by decide +kernel
theorem lb_lnX6_flip : ∀ s ∈ lb_sgX6_flip.dropLast, s.length = 16 := by decide +kernel
theorem lxX6_flip (k j : Nat) {b : UInt8} (h : (lb_sgX6_flip[k]?).bind (fun s => s[j]?) = some b) : lb_at cX6_flip (16 * k + j) b := by
  unfold lb_at
  rw [lb_seX6_flip]
  exact lb_flat 16 lb_sgX6_flip k j b lb_lnX6_flip h
set_option maxRecDepth 20000 in
theorem dX6_flip_0 : decode cX6_flip 0 = .ok (.aload_n 0, 1) := dc_42 (lxX6_flip 0 0 rfl)
set_option maxRecDepth 20000 in
theorem dX6_flip_1 : decode cX6_flip 1 = .ok (.iload_n 1, 1) := dc_27 (lxX6_flip 0 1 rfl)
set_option maxRecDepth 20000 in
theorem dX6_flip_2 : decode cX6_flip 2 = .ok (.invokevirtual 62, 3) := dc_182 0 62 (lxX6_flip 0 2 rfl) (lxX6_flip 0 3 rfl) (lxX6_flip 0 4 rfl)
set_option maxRecDepth 20000 in
theorem dX6_flip_5 : decode cX6_flip 5 = .ok (.astore_n 2, 1) := dc_77 (lxX6_flip 0 5 rfl)
set_option maxRecDepth 20000 in
theorem dX6_flip_6 : decode cX6_flip 6 = .ok (.aload_n 2, 1) := dc_44 (lxX6_flip 0 6 rfl)
set_option maxRecDepth 20000 in
theorem dX6_flip_7 : decode cX6_flip 7 = .ok (.iconst 0, 1) := dc_3 (lxX6_flip 0 7 rfl)
set_option maxRecDepth 20000 in
theorem dX6_flip_8 : decode cX6_flip 8 = .ok (.aload_n 2, 1) := dc_44 (lxX6_flip 0 8 rfl)
set_option maxRecDepth 20000 in
theorem dX6_flip_9 : decode cX6_flip 9 = .ok (.getfield 134, 3) := dc_180 0 134 (lxX6_flip 0 9 rfl) (lxX6_flip 0 10 rfl) (lxX6_flip 0 11 rfl)
set_option maxRecDepth 20000 in
theorem dX6_flip_12 : decode cX6_flip 12 = .ok (.invokevirtual 147, 3) := dc_182 0 147 (lxX6_flip 0 12 rfl) (lxX6_flip 0 13 rfl) (lxX6_flip 0 14 rfl)
set_option maxRecDepth 20000 in
theorem dX6_flip_15 : decode cX6_flip 15 = .ok (.aload_n 0, 1) := dc_42 (lxX6_flip 0 15 rfl)
set_option maxRecDepth 20000 in
theorem dX6_flip_16 : decode cX6_flip 16 = .ok (.aload_n 2, 1) := dc_44 (lxX6_flip 1 0 rfl)
set_option maxRecDepth 20000 in
theorem dX6_flip_17 : decode cX6_flip 17 = .ok (.invokevirtual 73, 3) := dc_182 0 73 (lxX6_flip 1 1 rfl) (lxX6_flip 1 2 rfl) (lxX6_flip 1 3 rfl)
set_option maxRecDepth 20000 in
theorem dX6_flip_20 : decode cX6_flip 20 = .ok (.invokevirtual 77, 3) := dc_182 0 77 (lxX6_flip 1 4 rfl) (lxX6_flip 1 5 rfl) (lxX6_flip 1 6 rfl)
set_option maxRecDepth 20000 in
theorem dX6_flip_23 : decode cX6_flip 23 = .ok (.ireturn, 1) := dc_172 (lxX6_flip 1 7 rfl)
noncomputable def sgX6_compact : List (List Cond) := [[.code yX6_compact cX6_compact 3 (some .int)], wsX6_compact_r1, wsX6_compact_r2, wsX50, wsX60, (vx_atS RX6 306 "java/lang/IndexOutOfBoundsException" ["java/lang/RuntimeException", "java/lang/Exception"]).filter goodWord]
theorem seX6_compact : sgX6_compact.flatten = wsX6_compact := by simp only [sgX6_compact, wsX6_compact, List.flatten_cons, List.flatten_nil, List.append_assoc, List.append_nil, List.cons_append, List.nil_append]
set_option maxRecDepth 20000 in
theorem ggX6_compact_X6_windowOf : GoodIn wsX6_compact wsX6_windowOf := goodIn_ca (goodIn_s seX6_compact _ [pq_1_4, pq_1_5, pq_1_6, pq_1_7, pq_4_0, pq_4_1, pq_4_2, pq_4_3, pq_4_4, pq_4_5, pq_4_6, pq_4_7, pq_4_8, pq_4_9, pq_4_10, pq_4_11, pq_4_12, pq_4_13] (by rfl) (by decide +kernel)) (goodIn_sub (fun _ h => List.mem_cons_of_mem _ (List.mem_append_right _ h)) (by decide +kernel))
set_option maxRecDepth 20000 in
theorem gX6_compact_X6_windowOf : GoodIn wsX6_compact (wsV RX6 62 RX6 yX6_windowOf wsX6_windowOf) := goodIn_app (goodIn_s seX6_compact _ [pq_1_0, pq_1_1, pq_1_2, pq_1_3] (by rfl) (by decide +kernel)) ggX6_compact_X6_windowOf
set_option maxRecDepth 20000 in
theorem ggX6_compact_X5_moveTextToFront : GoodIn wsX6_compact wsX5_moveTextToFront := goodIn_s seX6_compact _ [pq_1_12, pq_1_13, pq_1_14, pq_1_15, pq_1_16, pq_1_11, pq_1_17, pq_1_18, pq_1_19, pq_1_20, pq_1_21, pq_1_22, pq_1_23, pq_2_0, pq_2_1, pq_2_2, pq_2_3, pq_2_4, pq_2_5, pq_2_6, pq_2_7, pq_2_8, pq_2_9, pq_2_10, pq_2_11, pq_2_12, pq_2_13, pq_2_14, pq_3_0, pq_3_1, pq_3_2, pq_3_3, pq_3_4, pq_3_5] (by rfl) (by decide +kernel)
set_option maxRecDepth 20000 in
theorem gX6_compact_X5_moveTextToFront : GoodIn wsX6_compact (wsV RX6 150 RX5 yX5_moveTextToFront wsX5_moveTextToFront) := goodIn_app (goodIn_s seX6_compact _ [pq_1_8, pq_1_9, pq_1_10, pq_1_11] (by rfl) (by decide +kernel)) ggX6_compact_X5_moveTextToFront
set_option maxRecDepth 20000 in
theorem ggX6_compact_X6_done : GoodIn wsX6_compact wsX6_done := goodIn_s seX6_compact _ [pq_2_18, pq_2_19, pq_4_0, pq_4_1, pq_4_2, pq_4_3, pq_4_4, pq_4_5, pq_4_6, pq_4_7, pq_4_8, pq_4_9, pq_4_10, pq_4_11, pq_4_12, pq_4_13] (by rfl) (by decide +kernel)
set_option maxRecDepth 20000 in
theorem gX6_compact_X6_done : GoodIn wsX6_compact (wsV RX6 77 RX6 yX6_done wsX6_done) := goodIn_app (goodIn_s seX6_compact _ [pq_2_15, pq_2_16, pq_2_17, pq_1_3] (by rfl) (by decide +kernel)) ggX6_compact_X6_done
def lb_sgX6_compact : List (List UInt8) := [[42, 27, 182, 0, 62, 77, 44, 182, 0, 150, 42, 44, 180, 0, 134, 182], [0, 77, 172]]
set_option maxRecDepth 100000 in
theorem lb_seX6_compact : cX6_compact.data.toList = lb_sgX6_compact.flatten := by decide +kernel
theorem lb_lnX6_compact : ∀ s ∈ lb_sgX6_compact.dropLast, s.length = 16 := by decide +kernel
theorem lxX6_compact (k j : Nat) {b : UInt8} (h : (lb_sgX6_compact[k]?).bind (fun s => s[j]?) = some b) : lb_at cX6_compact (16 * k + j) b := by
  unfold lb_at
  rw [lb_seX6_compact]
  exact lb_flat 16 lb_sgX6_compact k j b lb_lnX6_compact h
set_option maxRecDepth 20000 in
theorem dX6_compact_0 : decode cX6_compact 0 = .ok (.aload_n 0, 1) := dc_42 (lxX6_compact 0 0 rfl)
set_option maxRecDepth 20000 in
theorem dX6_compact_1 : decode cX6_compact 1 = .ok (.iload_n 1, 1) := dc_27 (lxX6_compact 0 1 rfl)
set_option maxRecDepth 20000 in
theorem dX6_compact_2 : decode cX6_compact 2 = .ok (.invokevirtual 62, 3) := dc_182 0 62 (lxX6_compact 0 2 rfl) (lxX6_compact 0 3 rfl) (lxX6_compact 0 4 rfl)
set_option maxRecDepth 20000 in
theorem dX6_compact_5 : decode cX6_compact 5 = .ok (.astore_n 2, 1) := dc_77 (lxX6_compact 0 5 rfl)
set_option maxRecDepth 20000 in
theorem dX6_compact_6 : decode cX6_compact 6 = .ok (.aload_n 2, 1) := dc_44 (lxX6_compact 0 6 rfl)
set_option maxRecDepth 20000 in
theorem dX6_compact_7 : decode cX6_compact 7 = .ok (.invokevirtual 150, 3) := dc_182 0 150 (lxX6_compact 0 7 rfl) (lxX6_compact 0 8 rfl) (lxX6_compact 0 9 rfl)
set_option maxRecDepth 20000 in
theorem dX6_compact_10 : decode cX6_compact 10 = .ok (.aload_n 0, 1) := dc_42 (lxX6_compact 0 10 rfl)
set_option maxRecDepth 20000 in
theorem dX6_compact_11 : decode cX6_compact 11 = .ok (.aload_n 2, 1) := dc_44 (lxX6_compact 0 11 rfl)
set_option maxRecDepth 20000 in
theorem dX6_compact_12 : decode cX6_compact 12 = .ok (.getfield 134, 3) := dc_180 0 134 (lxX6_compact 0 12 rfl) (lxX6_compact 0 13 rfl) (lxX6_compact 0 14 rfl)
set_option maxRecDepth 20000 in
theorem dX6_compact_15 : decode cX6_compact 15 = .ok (.invokevirtual 77, 3) := dc_182 0 77 (lxX6_compact 0 15 rfl) (lxX6_compact 1 0 rfl) (lxX6_compact 1 1 rfl)
set_option maxRecDepth 20000 in
theorem dX6_compact_18 : decode cX6_compact 18 = .ok (.ireturn, 1) := dc_172 (lxX6_compact 1 2 rfl)
noncomputable def sgX6_open : List (List Cond) := [[.code yX6_open cX6_open 3 (some .int)], wsX6_open_r1, wsX6_open_r2, wsX50, wsX60, (vx_atS RX6 306 "java/lang/IndexOutOfBoundsException" ["java/lang/RuntimeException", "java/lang/Exception"]).filter goodWord]
theorem seX6_open : sgX6_open.flatten = wsX6_open := by simp only [sgX6_open, wsX6_open, List.flatten_cons, List.flatten_nil, List.append_assoc, List.append_nil, List.cons_append, List.nil_append]
set_option maxRecDepth 20000 in
theorem ggX6_open_X6_windowOf : GoodIn wsX6_open wsX6_windowOf := goodIn_ca (goodIn_s seX6_open _ [pq_1_4, pq_1_5, pq_1_6, pq_1_7, pq_4_0, pq_4_1, pq_4_2, pq_4_3, pq_4_4, pq_4_5, pq_4_6, pq_4_7, pq_4_8, pq_4_9, pq_4_10, pq_4_11, pq_4_12, pq_4_13] (by rfl) (by decide +kernel)) (goodIn_sub (fun _ h => List.mem_cons_of_mem _ (List.mem_append_right _ h)) (by decide +kernel))
set_option maxRecDepth 20000 in
theorem gX6_open_X6_windowOf : GoodIn wsX6_open (wsV RX6 62 RX6 yX6_windowOf wsX6_windowOf) := goodIn_app (goodIn_s seX6_open _ [pq_1_0, pq_1_1, pq_1_2, pq_1_3] (by rfl) (by decide +kernel)) ggX6_open_X6_windowOf
set_option maxRecDepth 20000 in
theorem ggX6_open_X5_goTo : GoodIn wsX6_open wsX5_goTo := goodIn_s seX6_open _ [pq_1_12, pq_1_13, pq_1_14, pq_1_15, pq_3_0, pq_3_1, pq_3_2, pq_3_3, pq_3_4, pq_3_5] (by rfl) (by decide +kernel)
set_option maxRecDepth 20000 in
theorem gX6_open_X5_goTo : GoodIn wsX6_open (wsV RX6 147 RX5 yX5_goTo wsX5_goTo) := goodIn_app (goodIn_s seX6_open _ [pq_1_8, pq_1_9, pq_1_10, pq_1_11] (by rfl) (by decide +kernel)) ggX6_open_X5_goTo
set_option maxRecDepth 20000 in
theorem ggX6_open_X5_size : GoodIn wsX6_open wsX5_size := goodIn_s seX6_open _ [pq_1_19, pq_1_14, pq_1_13, pq_3_0, pq_3_1, pq_3_2, pq_3_3, pq_3_4, pq_3_5] (by rfl) (by decide +kernel)
set_option maxRecDepth 20000 in
theorem gX6_open_X5_size : GoodIn wsX6_open (wsV RX6 73 RX5 yX5_size wsX5_size) := goodIn_app (goodIn_s seX6_open _ [pq_1_16, pq_1_17, pq_1_18, pq_1_11] (by rfl) (by decide +kernel)) ggX6_open_X5_size
set_option maxRecDepth 20000 in
theorem ggX6_open_X6_done : GoodIn wsX6_open wsX6_done := goodIn_s seX6_open _ [pq_1_23, pq_2_0, pq_4_0, pq_4_1, pq_4_2, pq_4_3, pq_4_4, pq_4_5, pq_4_6, pq_4_7, pq_4_8, pq_4_9, pq_4_10, pq_4_11, pq_4_12, pq_4_13] (by rfl) (by decide +kernel)
set_option maxRecDepth 20000 in
theorem gX6_open_X6_done : GoodIn wsX6_open (wsV RX6 77 RX6 yX6_done wsX6_done) := goodIn_app (goodIn_s seX6_open _ [pq_1_20, pq_1_21, pq_1_22, pq_1_3] (by rfl) (by decide +kernel)) ggX6_open_X6_done
def lb_sgX6_open : List (List UInt8) := [[42, 27, 182, 0, 62, 77, 44, 3, 44, 180, 0, 153, 182, 0, 147, 42], [44, 182, 0, 73, 182, 0, 77, 172]]
set_option maxRecDepth 100000 in
theorem lb_seX6_open : cX6_open.data.toList = lb_sgX6_open.flatten := by decide +kernel
theorem lb_lnX6_open : ∀ s ∈ lb_sgX6_open.dropLast, s.length = 16 := by decide +kernel
theorem lxX6_open (k j : Nat) {b : UInt8} (h : (lb_sgX6_open[k]?).bind (fun s => s[j]?) = some b) : lb_at cX6_open (16 * k + j) b := by
  unfold lb_at
  rw [lb_seX6_open]
  exact lb_flat 16 lb_sgX6_open k j b lb_lnX6_open h
set_option maxRecDepth 20000 in
theorem dX6_open_0 : decode cX6_open 0 = .ok (.aload_n 0, 1) := dc_42 (lxX6_open 0 0 rfl)
set_option maxRecDepth 20000 in
theorem dX6_open_1 : decode cX6_open 1 = .ok (.iload_n 1, 1) := dc_27 (lxX6_open 0 1 rfl)
set_option maxRecDepth 20000 in
theorem dX6_open_2 : decode cX6_open 2 = .ok (.invokevirtual 62, 3) := dc_182 0 62 (lxX6_open 0 2 rfl) (lxX6_open 0 3 rfl) (lxX6_open 0 4 rfl)
set_option maxRecDepth 20000 in
theorem dX6_open_5 : decode cX6_open 5 = .ok (.astore_n 2, 1) := dc_77 (lxX6_open 0 5 rfl)
set_option maxRecDepth 20000 in
theorem dX6_open_6 : decode cX6_open 6 = .ok (.aload_n 2, 1) := dc_44 (lxX6_open 0 6 rfl)
set_option maxRecDepth 20000 in
theorem dX6_open_7 : decode cX6_open 7 = .ok (.iconst 0, 1) := dc_3 (lxX6_open 0 7 rfl)
set_option maxRecDepth 20000 in
theorem dX6_open_8 : decode cX6_open 8 = .ok (.aload_n 2, 1) := dc_44 (lxX6_open 0 8 rfl)
set_option maxRecDepth 20000 in
theorem dX6_open_9 : decode cX6_open 9 = .ok (.getfield 153, 3) := dc_180 0 153 (lxX6_open 0 9 rfl) (lxX6_open 0 10 rfl) (lxX6_open 0 11 rfl)
set_option maxRecDepth 20000 in
theorem dX6_open_12 : decode cX6_open 12 = .ok (.invokevirtual 147, 3) := dc_182 0 147 (lxX6_open 0 12 rfl) (lxX6_open 0 13 rfl) (lxX6_open 0 14 rfl)
set_option maxRecDepth 20000 in
theorem dX6_open_15 : decode cX6_open 15 = .ok (.aload_n 0, 1) := dc_42 (lxX6_open 0 15 rfl)
set_option maxRecDepth 20000 in
theorem dX6_open_16 : decode cX6_open 16 = .ok (.aload_n 2, 1) := dc_44 (lxX6_open 1 0 rfl)
set_option maxRecDepth 20000 in
theorem dX6_open_17 : decode cX6_open 17 = .ok (.invokevirtual 73, 3) := dc_182 0 73 (lxX6_open 1 1 rfl) (lxX6_open 1 2 rfl) (lxX6_open 1 3 rfl)
set_option maxRecDepth 20000 in
theorem dX6_open_20 : decode cX6_open 20 = .ok (.invokevirtual 77, 3) := dc_182 0 77 (lxX6_open 1 4 rfl) (lxX6_open 1 5 rfl) (lxX6_open 1 6 rfl)
set_option maxRecDepth 20000 in
theorem dX6_open_23 : decode cX6_open 23 = .ok (.ireturn, 1) := dc_172 (lxX6_open 1 7 rfl)
noncomputable def sgX6_keep : List (List Cond) := [[.code yX6_keep cX6_keep 2 (some .int)], wsX6_keep_r1, wsX6_keep_r2, wsX6_keep_r3, wsX60, wsX20, wsX50, (vx_atS RX6 306 "java/lang/IndexOutOfBoundsException" ["java/lang/RuntimeException", "java/lang/Exception"]).filter goodWord]
theorem seX6_keep : sgX6_keep.flatten = wsX6_keep := by simp only [sgX6_keep, wsX6_keep, List.flatten_cons, List.flatten_nil, List.append_assoc, List.append_nil, List.cons_append, List.nil_append]
set_option maxRecDepth 20000 in
theorem ggX6_keep_X6_sourceOf : GoodIn wsX6_keep wsX6_sourceOf := goodIn_ca (goodIn_s seX6_keep _ [pq_1_5, pq_1_6, pq_1_7, pq_1_8, pq_1_9, pq_1_0, pq_4_0, pq_4_1, pq_4_2, pq_4_3, pq_4_4, pq_4_5, pq_4_6, pq_4_7, pq_4_8, pq_4_9, pq_4_10, pq_4_11, pq_4_12, pq_4_13] (by rfl) (by decide +kernel)) (goodIn_sub (fun _ h => List.mem_cons_of_mem _ (List.mem_append_right _ h)) (by decide +kernel))
set_option maxRecDepth 20000 in
theorem gX6_keep_X6_sourceOf : GoodIn wsX6_keep (wsV RX6 156 RX6 yX6_sourceOf wsX6_sourceOf) := goodIn_app (goodIn_s seX6_keep _ [pq_1_1, pq_1_2, pq_1_3, pq_1_4] (by rfl) (by decide +kernel)) ggX6_keep_X6_sourceOf
set_option maxRecDepth 20000 in
theorem ggX6_keep_X2_becomeText : GoodIn wsX6_keep wsX2_becomeText := goodIn_s seX6_keep _ [pq_1_14, pq_1_15, pq_1_16, pq_1_17, pq_1_13, pq_1_18, pq_1_19, pq_1_20, pq_1_21, pq_1_22, pq_1_23, pq_2_0, pq_2_1, pq_2_2, pq_2_3, pq_2_4, pq_2_5, pq_2_6, pq_2_7, pq_2_8, pq_2_9, pq_2_10, pq_2_11, pq_2_12, pq_2_13, pq_2_14, pq_2_15, pq_2_16, pq_2_17, pq_2_18, pq_2_19, pq_2_20, pq_2_21, pq_2_22, pq_2_23, pq_3_0, pq_3_1, pq_3_2, pq_3_3, pq_3_4, pq_3_5, pq_5_0, pq_5_1, pq_6_0, pq_6_1, pq_6_2, pq_6_3, pq_6_4, pq_6_5] (by rfl) (by decide +kernel)
set_option maxRecDepth 20000 in
theorem gX6_keep_X2_becomeText : GoodIn wsX6_keep (wsV RX6 160 RX2 yX2_becomeText wsX2_becomeText) := goodIn_app (goodIn_s seX6_keep _ [pq_1_10, pq_1_11, pq_1_12, pq_1_13] (by rfl) (by decide +kernel)) ggX6_keep_X2_becomeText
set_option maxRecDepth 20000 in
theorem ggX6_keep_X2_size : GoodIn wsX6_keep wsX2_size := goodIn_s seX6_keep _ [pq_2_4, pq_1_19, pq_5_0, pq_5_1] (by rfl) (by decide +kernel)
set_option maxRecDepth 20000 in
theorem gX6_keep_X2_size : GoodIn wsX6_keep (wsV RX6 164 RX2 yX2_size wsX2_size) := goodIn_app (goodIn_s seX6_keep _ [pq_3_6, pq_2_3, pq_3_7, pq_1_13] (by rfl) (by decide +kernel)) ggX6_keep_X2_size
set_option maxRecDepth 20000 in
theorem ggX6_keep_X6_done : GoodIn wsX6_keep wsX6_done := goodIn_s seX6_keep _ [pq_3_11, pq_3_12, pq_4_0, pq_4_1, pq_4_2, pq_4_3, pq_4_4, pq_4_5, pq_4_6, pq_4_7, pq_4_8, pq_4_9, pq_4_10, pq_4_11, pq_4_12, pq_4_13] (by rfl) (by decide +kernel)
set_option maxRecDepth 20000 in
theorem gX6_keep_X6_done : GoodIn wsX6_keep (wsV RX6 77 RX6 yX6_done wsX6_done) := goodIn_app (goodIn_s seX6_keep _ [pq_3_8, pq_3_9, pq_3_10, pq_1_4] (by rfl) (by decide +kernel)) ggX6_keep_X6_done
def lb_sgX6_keep : List (List UInt8) := [[42, 180, 0, 24, 42, 27, 182, 0, 156, 182, 0, 160, 42, 42, 180, 0], [24, 182, 0, 164, 182, 0, 77, 172]]
set_option maxRecDepth 100000 in
theorem lb_seX6_keep : cX6_keep.data.toList = lb_sgX6_keep.flatten := by decide +kernel
theorem lb_lnX6_keep : ∀ s ∈ lb_sgX6_keep.dropLast, s.length = 16 := by decide +kernel
theorem lxX6_keep (k j : Nat) {b : UInt8} (h : (lb_sgX6_keep[k]?).bind (fun s => s[j]?) = some b) : lb_at cX6_keep (16 * k + j) b := by
  unfold lb_at
  rw [lb_seX6_keep]
  exact lb_flat 16 lb_sgX6_keep k j b lb_lnX6_keep h
set_option maxRecDepth 20000 in
theorem dX6_keep_0 : decode cX6_keep 0 = .ok (.aload_n 0, 1) := dc_42 (lxX6_keep 0 0 rfl)
set_option maxRecDepth 20000 in
theorem dX6_keep_1 : decode cX6_keep 1 = .ok (.getfield 24, 3) := dc_180 0 24 (lxX6_keep 0 1 rfl) (lxX6_keep 0 2 rfl) (lxX6_keep 0 3 rfl)
set_option maxRecDepth 20000 in
theorem dX6_keep_4 : decode cX6_keep 4 = .ok (.aload_n 0, 1) := dc_42 (lxX6_keep 0 4 rfl)
set_option maxRecDepth 20000 in
theorem dX6_keep_5 : decode cX6_keep 5 = .ok (.iload_n 1, 1) := dc_27 (lxX6_keep 0 5 rfl)
set_option maxRecDepth 20000 in
theorem dX6_keep_6 : decode cX6_keep 6 = .ok (.invokevirtual 156, 3) := dc_182 0 156 (lxX6_keep 0 6 rfl) (lxX6_keep 0 7 rfl) (lxX6_keep 0 8 rfl)
set_option maxRecDepth 20000 in
theorem dX6_keep_9 : decode cX6_keep 9 = .ok (.invokevirtual 160, 3) := dc_182 0 160 (lxX6_keep 0 9 rfl) (lxX6_keep 0 10 rfl) (lxX6_keep 0 11 rfl)
set_option maxRecDepth 20000 in
theorem dX6_keep_12 : decode cX6_keep 12 = .ok (.aload_n 0, 1) := dc_42 (lxX6_keep 0 12 rfl)
set_option maxRecDepth 20000 in
theorem dX6_keep_13 : decode cX6_keep 13 = .ok (.aload_n 0, 1) := dc_42 (lxX6_keep 0 13 rfl)
set_option maxRecDepth 20000 in
theorem dX6_keep_14 : decode cX6_keep 14 = .ok (.getfield 24, 3) := dc_180 0 24 (lxX6_keep 0 14 rfl) (lxX6_keep 0 15 rfl) (lxX6_keep 1 0 rfl)
set_option maxRecDepth 20000 in
theorem dX6_keep_17 : decode cX6_keep 17 = .ok (.invokevirtual 164, 3) := dc_182 0 164 (lxX6_keep 1 1 rfl) (lxX6_keep 1 2 rfl) (lxX6_keep 1 3 rfl)
set_option maxRecDepth 20000 in
theorem dX6_keep_20 : decode cX6_keep 20 = .ok (.invokevirtual 77, 3) := dc_182 0 77 (lxX6_keep 1 4 rfl) (lxX6_keep 1 5 rfl) (lxX6_keep 1 6 rfl)
set_option maxRecDepth 20000 in
theorem dX6_keep_23 : decode cX6_keep 23 = .ok (.ireturn, 1) := dc_172 (lxX6_keep 1 7 rfl)
noncomputable def sgX6_load : List (List Cond) := [[.code yX6_load cX6_load 2 (some .int)], wsX6_load_r1, wsX6_load_r2, wsX6_load_r3, wsX60, wsX20, wsX50, (vx_atS RX6 306 "java/lang/IndexOutOfBoundsException" ["java/lang/RuntimeException", "java/lang/Exception"]).filter goodWord]
theorem seX6_load : sgX6_load.flatten = wsX6_load := by simp only [sgX6_load, wsX6_load, List.flatten_cons, List.flatten_nil, List.append_assoc, List.append_nil, List.cons_append, List.nil_append]
set_option maxRecDepth 20000 in
theorem ggX6_load_X6_sourceOf : GoodIn wsX6_load wsX6_sourceOf := goodIn_ca (goodIn_s seX6_load _ [pq_1_5, pq_1_6, pq_1_7, pq_1_8, pq_1_0, pq_1_9, pq_4_0, pq_4_1, pq_4_2, pq_4_3, pq_4_4, pq_4_5, pq_4_6, pq_4_7, pq_4_8, pq_4_9, pq_4_10, pq_4_11, pq_4_12, pq_4_13] (by rfl) (by decide +kernel)) (goodIn_sub (fun _ h => List.mem_cons_of_mem _ (List.mem_append_right _ h)) (by decide +kernel))
set_option maxRecDepth 20000 in
theorem gX6_load_X6_sourceOf : GoodIn wsX6_load (wsV RX6 156 RX6 yX6_sourceOf wsX6_sourceOf) := goodIn_app (goodIn_s seX6_load _ [pq_1_1, pq_1_2, pq_1_3, pq_1_4] (by rfl) (by decide +kernel)) ggX6_load_X6_sourceOf
set_option maxRecDepth 20000 in
theorem ggX6_load_X2_becomeText : GoodIn wsX6_load wsX2_becomeText := goodIn_s seX6_load _ [pq_1_14, pq_1_15, pq_1_16, pq_1_17, pq_1_13, pq_1_18, pq_1_19, pq_1_20, pq_1_21, pq_1_22, pq_1_23, pq_2_0, pq_2_1, pq_2_2, pq_2_3, pq_2_4, pq_2_5, pq_2_6, pq_2_7, pq_2_8, pq_2_9, pq_2_10, pq_2_11, pq_2_12, pq_2_13, pq_2_14, pq_2_15, pq_2_16, pq_2_17, pq_2_18, pq_2_19, pq_2_20, pq_2_21, pq_2_22, pq_2_23, pq_3_0, pq_3_1, pq_3_2, pq_3_3, pq_3_4, pq_3_5, pq_5_0, pq_5_1, pq_6_0, pq_6_1, pq_6_2, pq_6_3, pq_6_4, pq_6_5] (by rfl) (by decide +kernel)
set_option maxRecDepth 20000 in
theorem gX6_load_X2_becomeText : GoodIn wsX6_load (wsV RX6 160 RX2 yX2_becomeText wsX2_becomeText) := goodIn_app (goodIn_s seX6_load _ [pq_1_10, pq_1_11, pq_1_12, pq_1_13] (by rfl) (by decide +kernel)) ggX6_load_X2_becomeText
set_option maxRecDepth 20000 in
theorem ggX6_load_X2_size : GoodIn wsX6_load wsX2_size := goodIn_s seX6_load _ [pq_2_4, pq_1_19, pq_5_0, pq_5_1] (by rfl) (by decide +kernel)
set_option maxRecDepth 20000 in
theorem gX6_load_X2_size : GoodIn wsX6_load (wsV RX6 164 RX2 yX2_size wsX2_size) := goodIn_app (goodIn_s seX6_load _ [pq_3_6, pq_2_3, pq_3_7, pq_1_13] (by rfl) (by decide +kernel)) ggX6_load_X2_size
set_option maxRecDepth 20000 in
theorem ggX6_load_X6_done : GoodIn wsX6_load wsX6_done := goodIn_s seX6_load _ [pq_3_11, pq_3_12, pq_4_0, pq_4_1, pq_4_2, pq_4_3, pq_4_4, pq_4_5, pq_4_6, pq_4_7, pq_4_8, pq_4_9, pq_4_10, pq_4_11, pq_4_12, pq_4_13] (by rfl) (by decide +kernel)
set_option maxRecDepth 20000 in
theorem gX6_load_X6_done : GoodIn wsX6_load (wsV RX6 77 RX6 yX6_done wsX6_done) := goodIn_app (goodIn_s seX6_load _ [pq_3_8, pq_3_9, pq_3_10, pq_1_4] (by rfl) (by decide +kernel)) ggX6_load_X6_done
def lb_sgX6_load : List (List UInt8) := [[42, 180, 0, 20, 42, 27, 182, 0, 156, 182, 0, 160, 42, 42, 180, 0], [20, 182, 0, 164, 182, 0, 77, 172]]
set_option maxRecDepth 100000 in
theorem lb_seX6_load : cX6_load.data.toList = lb_sgX6_load.flatten := by decide +kernel
theorem lb_lnX6_load : ∀ s ∈ lb_sgX6_load.dropLast, s.length = 16 := by decide +kernel
theorem lxX6_load (k j : Nat) {b : UInt8} (h : (lb_sgX6_load[k]?).bind (fun s => s[j]?) = some b) : lb_at cX6_load (16 * k + j) b := by
  unfold lb_at
  rw [lb_seX6_load]
  exact lb_flat 16 lb_sgX6_load k j b lb_lnX6_load h
set_option maxRecDepth 20000 in
theorem dX6_load_0 : decode cX6_load 0 = .ok (.aload_n 0, 1) := dc_42 (lxX6_load 0 0 rfl)
set_option maxRecDepth 20000 in
theorem dX6_load_1 : decode cX6_load 1 = .ok (.getfield 20, 3) := dc_180 0 20 (lxX6_load 0 1 rfl) (lxX6_load 0 2 rfl) (lxX6_load 0 3 rfl)
set_option maxRecDepth 20000 in
theorem dX6_load_4 : decode cX6_load 4 = .ok (.aload_n 0, 1) := dc_42 (lxX6_load 0 4 rfl)
set_option maxRecDepth 20000 in
theorem dX6_load_5 : decode cX6_load 5 = .ok (.iload_n 1, 1) := dc_27 (lxX6_load 0 5 rfl)
set_option maxRecDepth 20000 in
theorem dX6_load_6 : decode cX6_load 6 = .ok (.invokevirtual 156, 3) := dc_182 0 156 (lxX6_load 0 6 rfl) (lxX6_load 0 7 rfl) (lxX6_load 0 8 rfl)
set_option maxRecDepth 20000 in
theorem dX6_load_9 : decode cX6_load 9 = .ok (.invokevirtual 160, 3) := dc_182 0 160 (lxX6_load 0 9 rfl) (lxX6_load 0 10 rfl) (lxX6_load 0 11 rfl)
set_option maxRecDepth 20000 in
theorem dX6_load_12 : decode cX6_load 12 = .ok (.aload_n 0, 1) := dc_42 (lxX6_load 0 12 rfl)
set_option maxRecDepth 20000 in
theorem dX6_load_13 : decode cX6_load 13 = .ok (.aload_n 0, 1) := dc_42 (lxX6_load 0 13 rfl)
set_option maxRecDepth 20000 in
theorem dX6_load_14 : decode cX6_load 14 = .ok (.getfield 20, 3) := dc_180 0 20 (lxX6_load 0 14 rfl) (lxX6_load 0 15 rfl) (lxX6_load 1 0 rfl)
set_option maxRecDepth 20000 in
theorem dX6_load_17 : decode cX6_load 17 = .ok (.invokevirtual 164, 3) := dc_182 0 164 (lxX6_load 1 1 rfl) (lxX6_load 1 2 rfl) (lxX6_load 1 3 rfl)
set_option maxRecDepth 20000 in
theorem dX6_load_20 : decode cX6_load 20 = .ok (.invokevirtual 77, 3) := dc_182 0 77 (lxX6_load 1 4 rfl) (lxX6_load 1 5 rfl) (lxX6_load 1 6 rfl)
set_option maxRecDepth 20000 in
theorem dX6_load_23 : decode cX6_load 23 = .ok (.ireturn, 1) := dc_172 (lxX6_load 1 7 rfl)
noncomputable def sgX6_build : List (List Cond) := [[.code yX6_build cX6_build 3 (some .int)], wsX6_build_r1, wsX6_build_r2, wsX6_build_r3, wsX60, wsX20, wsX50, (vx_atS RX6 306 "java/lang/IndexOutOfBoundsException" ["java/lang/RuntimeException", "java/lang/Exception"]).filter goodWord, (vx_atS RX6 327 "java/lang/IllegalStateException" ["java/lang/RuntimeException", "java/lang/Exception"]).filter goodWord]
theorem seX6_build : sgX6_build.flatten = wsX6_build := by simp only [sgX6_build, wsX6_build, List.flatten_cons, List.flatten_nil, List.append_assoc, List.append_nil, List.cons_append, List.nil_append]
set_option maxRecDepth 20000 in
theorem ggX6_build_X6_sourceOf : GoodIn wsX6_build wsX6_sourceOf := goodIn_ca (goodIn_s seX6_build _ [pq_1_5, pq_1_6, pq_1_7, pq_1_8, pq_1_0, pq_1_9, pq_4_0, pq_4_1, pq_4_2, pq_4_3, pq_4_4, pq_4_5, pq_4_6, pq_4_7, pq_4_8, pq_4_9, pq_4_10, pq_4_11, pq_4_12, pq_4_13] (by rfl) (by decide +kernel)) (goodIn_sub (fun _ h => List.mem_cons_of_mem _ (List.mem_append_left _ (List.mem_append_right _ h))) (by decide +kernel))
set_option maxRecDepth 20000 in
theorem gX6_build_X6_sourceOf : GoodIn wsX6_build (wsV RX6 156 RX6 yX6_sourceOf wsX6_sourceOf) := goodIn_app (goodIn_s seX6_build _ [pq_1_1, pq_1_2, pq_1_3, pq_1_4] (by rfl) (by decide +kernel)) ggX6_build_X6_sourceOf
set_option maxRecDepth 20000 in
theorem ggX6_build_X2_size : GoodIn wsX6_build wsX2_size := goodIn_s seX6_build _ [pq_1_14, pq_1_15, pq_5_0, pq_5_1] (by rfl) (by decide +kernel)
set_option maxRecDepth 20000 in
theorem gX6_build_X2_size : GoodIn wsX6_build (wsV RX6 164 RX2 yX2_size wsX2_size) := goodIn_app (goodIn_s seX6_build _ [pq_1_10, pq_1_11, pq_1_12, pq_1_13] (by rfl) (by decide +kernel)) ggX6_build_X2_size
set_option maxRecDepth 20000 in
theorem gX6_build_X2_size_u165X2 : GoodIn wsX6_build (va_wsU RX6 165 RX2 "Sashwords$Text" ⟨"Sashwords$Text", "size", "()I"⟩ yX2_size wsX2_size) := goodIn_app (goodIn_s seX6_build _ [pq_1_16, pq_1_17, pq_1_18, pq_1_11, pq_1_13] (by rfl) (by decide +kernel)) ggX6_build_X2_size
set_option maxRecDepth 20000 in
theorem ggX6_build_X5_size : GoodIn wsX6_build wsX5_size := goodIn_s seX6_build _ [pq_1_22, pq_1_23, pq_2_0, pq_6_0, pq_6_1, pq_6_2, pq_6_3, pq_6_4, pq_6_5] (by rfl) (by decide +kernel)
set_option maxRecDepth 20000 in
theorem gX6_build_X5_size_u165X5 : GoodIn wsX6_build (va_wsU RX6 165 RX5 "Sashwords$Text" ⟨"Sashwords$Text", "size", "()I"⟩ yX5_size wsX5_size) := goodIn_app (goodIn_s seX6_build _ [pq_1_16, pq_1_17, pq_1_19, pq_1_20, pq_1_21] (by rfl) (by decide +kernel)) ggX6_build_X5_size
set_option maxRecDepth 20000 in
theorem ggX6_build_X6_requireRoom : GoodIn wsX6_build wsX6_requireRoom := goodIn_ca (goodIn_s seX6_build _ [pq_2_3, pq_2_4, pq_2_5] (by rfl) (by decide +kernel)) (goodIn_sub (fun _ h => List.mem_cons_of_mem _ (List.mem_append_right _ h)) (by decide +kernel))
set_option maxRecDepth 20000 in
theorem gX6_build_X6_requireRoom : GoodIn wsX6_build (va_wsS RX6 168 yX6_requireRoom wsX6_requireRoom) := goodIn_app (goodIn_s seX6_build _ [pq_2_1, pq_2_2, pq_1_4] (by rfl) (by decide +kernel)) ggX6_build_X6_requireRoom
set_option maxRecDepth 20000 in
theorem ggX6_build_X2_append : GoodIn wsX6_build wsX2_append := goodIn_s seX6_build _ [pq_2_9, pq_2_10, pq_1_17, pq_1_18, pq_1_11, pq_1_13, pq_1_14, pq_1_15, pq_1_19, pq_1_20, pq_1_21, pq_1_22, pq_1_23, pq_2_0, pq_2_11, pq_2_12, pq_2_13, pq_2_14, pq_2_15, pq_2_16, pq_2_17, pq_2_18, pq_2_19, pq_2_20, pq_2_21, pq_2_22, pq_2_23, pq_3_0, pq_3_1, pq_3_2, pq_3_3, pq_3_4, pq_3_5, pq_5_0, pq_5_1, pq_6_0, pq_6_1, pq_6_2, pq_6_3, pq_6_4, pq_6_5] (by rfl) (by decide +kernel)
set_option maxRecDepth 20000 in
theorem gX6_build_X2_append : GoodIn wsX6_build (wsV RX6 171 RX2 yX2_append wsX2_append) := goodIn_app (goodIn_s seX6_build _ [pq_2_6, pq_2_7, pq_2_8, pq_1_13] (by rfl) (by decide +kernel)) ggX6_build_X2_append
set_option maxRecDepth 20000 in
theorem ggX6_build_X6_done : GoodIn wsX6_build wsX6_done := goodIn_s seX6_build _ [pq_3_9, pq_3_10, pq_4_0, pq_4_1, pq_4_2, pq_4_3, pq_4_4, pq_4_5, pq_4_6, pq_4_7, pq_4_8, pq_4_9, pq_4_10, pq_4_11, pq_4_12, pq_4_13] (by rfl) (by decide +kernel)
set_option maxRecDepth 20000 in
theorem gX6_build_X6_done : GoodIn wsX6_build (wsV RX6 77 RX6 yX6_done wsX6_done) := goodIn_app (goodIn_s seX6_build _ [pq_3_6, pq_3_7, pq_3_8, pq_1_4] (by rfl) (by decide +kernel)) ggX6_build_X6_done
def lb_sgX6_build : List (List UInt8) := [[42, 27, 182, 0, 156, 77, 42, 180, 0, 20, 182, 0, 164, 44, 182, 0], [165, 96, 16, 80, 184, 0, 168, 42, 180, 0, 20, 44, 182, 0, 171, 42], [42, 180, 0, 20, 182, 0, 164, 182, 0, 77, 172]]
set_option maxRecDepth 100000 in
theorem lb_seX6_build : cX6_build.data.toList = lb_sgX6_build.flatten := by decide +kernel
theorem lb_lnX6_build : ∀ s ∈ lb_sgX6_build.dropLast, s.length = 16 := by decide +kernel
theorem lxX6_build (k j : Nat) {b : UInt8} (h : (lb_sgX6_build[k]?).bind (fun s => s[j]?) = some b) : lb_at cX6_build (16 * k + j) b := by
  unfold lb_at
  rw [lb_seX6_build]
  exact lb_flat 16 lb_sgX6_build k j b lb_lnX6_build h
set_option maxRecDepth 20000 in
theorem dX6_build_0 : decode cX6_build 0 = .ok (.aload_n 0, 1) := dc_42 (lxX6_build 0 0 rfl)
set_option maxRecDepth 20000 in
theorem dX6_build_1 : decode cX6_build 1 = .ok (.iload_n 1, 1) := dc_27 (lxX6_build 0 1 rfl)
set_option maxRecDepth 20000 in
theorem dX6_build_2 : decode cX6_build 2 = .ok (.invokevirtual 156, 3) := dc_182 0 156 (lxX6_build 0 2 rfl) (lxX6_build 0 3 rfl) (lxX6_build 0 4 rfl)
set_option maxRecDepth 20000 in
theorem dX6_build_5 : decode cX6_build 5 = .ok (.astore_n 2, 1) := dc_77 (lxX6_build 0 5 rfl)
set_option maxRecDepth 20000 in
theorem dX6_build_6 : decode cX6_build 6 = .ok (.aload_n 0, 1) := dc_42 (lxX6_build 0 6 rfl)
set_option maxRecDepth 20000 in
theorem dX6_build_7 : decode cX6_build 7 = .ok (.getfield 20, 3) := dc_180 0 20 (lxX6_build 0 7 rfl) (lxX6_build 0 8 rfl) (lxX6_build 0 9 rfl)
set_option maxRecDepth 20000 in
theorem dX6_build_10 : decode cX6_build 10 = .ok (.invokevirtual 164, 3) := dc_182 0 164 (lxX6_build 0 10 rfl) (lxX6_build 0 11 rfl) (lxX6_build 0 12 rfl)
set_option maxRecDepth 20000 in
theorem dX6_build_13 : decode cX6_build 13 = .ok (.aload_n 2, 1) := dc_44 (lxX6_build 0 13 rfl)
set_option maxRecDepth 20000 in
theorem dX6_build_14 : decode cX6_build 14 = .ok (.invokevirtual 165, 3) := dc_182 0 165 (lxX6_build 0 14 rfl) (lxX6_build 0 15 rfl) (lxX6_build 1 0 rfl)
set_option maxRecDepth 20000 in
theorem dX6_build_17 : decode cX6_build 17 = .ok (.iadd, 1) := dc_96 (lxX6_build 1 1 rfl)
set_option maxRecDepth 20000 in
theorem dX6_build_18 : decode cX6_build 18 = .ok (.bipush 80, 2) := dc_16 80 (lxX6_build 1 2 rfl) (lxX6_build 1 3 rfl)
set_option maxRecDepth 20000 in
theorem dX6_build_20 : decode cX6_build 20 = .ok (.invokestatic 168, 3) := dc_184 0 168 (lxX6_build 1 4 rfl) (lxX6_build 1 5 rfl) (lxX6_build 1 6 rfl)
set_option maxRecDepth 20000 in
theorem dX6_build_23 : decode cX6_build 23 = .ok (.aload_n 0, 1) := dc_42 (lxX6_build 1 7 rfl)
set_option maxRecDepth 20000 in
theorem dX6_build_24 : decode cX6_build 24 = .ok (.getfield 20, 3) := dc_180 0 20 (lxX6_build 1 8 rfl) (lxX6_build 1 9 rfl) (lxX6_build 1 10 rfl)
set_option maxRecDepth 20000 in
theorem dX6_build_27 : decode cX6_build 27 = .ok (.aload_n 2, 1) := dc_44 (lxX6_build 1 11 rfl)
set_option maxRecDepth 20000 in
theorem dX6_build_28 : decode cX6_build 28 = .ok (.invokevirtual 171, 3) := dc_182 0 171 (lxX6_build 1 12 rfl) (lxX6_build 1 13 rfl) (lxX6_build 1 14 rfl)
set_option maxRecDepth 20000 in
theorem dX6_build_31 : decode cX6_build 31 = .ok (.aload_n 0, 1) := dc_42 (lxX6_build 1 15 rfl)
set_option maxRecDepth 20000 in
theorem dX6_build_32 : decode cX6_build 32 = .ok (.aload_n 0, 1) := dc_42 (lxX6_build 2 0 rfl)
set_option maxRecDepth 20000 in
theorem dX6_build_33 : decode cX6_build 33 = .ok (.getfield 20, 3) := dc_180 0 20 (lxX6_build 2 1 rfl) (lxX6_build 2 2 rfl) (lxX6_build 2 3 rfl)
set_option maxRecDepth 20000 in
theorem dX6_build_36 : decode cX6_build 36 = .ok (.invokevirtual 164, 3) := dc_182 0 164 (lxX6_build 2 4 rfl) (lxX6_build 2 5 rfl) (lxX6_build 2 6 rfl)
set_option maxRecDepth 20000 in
theorem dX6_build_39 : decode cX6_build 39 = .ok (.invokevirtual 77, 3) := dc_182 0 77 (lxX6_build 2 7 rfl) (lxX6_build 2 8 rfl) (lxX6_build 2 9 rfl)
set_option maxRecDepth 20000 in
theorem dX6_build_42 : decode cX6_build 42 = .ok (.ireturn, 1) := dc_172 (lxX6_build 2 10 rfl)
noncomputable def sgX6_turn : List (List Cond) := [[.code yX6_turn cX6_turn 1 (some .int)], wsX6_turn_r1, wsX6_turn_r2, wsX60, wsX20]
theorem seX6_turn : sgX6_turn.flatten = wsX6_turn := by simp only [sgX6_turn, wsX6_turn, List.flatten_cons, List.flatten_nil, List.append_assoc, List.append_nil, List.cons_append, List.nil_append]
set_option maxRecDepth 20000 in
theorem ggX6_turn_X2_turnRound : GoodIn wsX6_turn wsX2_turnRound := goodIn_s seX6_turn _ [pq_1_5, pq_1_6, pq_1_7, pq_1_8, pq_1_9, pq_1_4, pq_1_10, pq_1_11, pq_1_12, pq_1_13, pq_1_14, pq_1_15, pq_4_0, pq_4_1] (by rfl) (by decide +kernel)
set_option maxRecDepth 20000 in
theorem gX6_turn_X2_turnRound : GoodIn wsX6_turn (wsV RX6 173 RX2 yX2_turnRound wsX2_turnRound) := goodIn_app (goodIn_s seX6_turn _ [pq_1_1, pq_1_2, pq_1_3, pq_1_4] (by rfl) (by decide +kernel)) ggX6_turn_X2_turnRound
set_option maxRecDepth 20000 in
theorem ggX6_turn_X2_size : GoodIn wsX6_turn wsX2_size := goodIn_s seX6_turn _ [pq_1_19, pq_1_6, pq_4_0, pq_4_1] (by rfl) (by decide +kernel)
set_option maxRecDepth 20000 in
theorem gX6_turn_X2_size : GoodIn wsX6_turn (wsV RX6 164 RX2 yX2_size wsX2_size) := goodIn_app (goodIn_s seX6_turn _ [pq_1_16, pq_1_17, pq_1_18, pq_1_4] (by rfl) (by decide +kernel)) ggX6_turn_X2_size
set_option maxRecDepth 20000 in
theorem ggX6_turn_X6_done : GoodIn wsX6_turn wsX6_done := goodIn_s seX6_turn _ [pq_2_0, pq_2_1, pq_3_0, pq_3_1, pq_3_2, pq_3_3, pq_3_4, pq_3_5, pq_3_6, pq_3_7, pq_3_8, pq_3_9, pq_3_10, pq_3_11, pq_3_12, pq_3_13] (by rfl) (by decide +kernel)
set_option maxRecDepth 20000 in
theorem gX6_turn_X6_done : GoodIn wsX6_turn (wsV RX6 77 RX6 yX6_done wsX6_done) := goodIn_app (goodIn_s seX6_turn _ [pq_1_20, pq_1_21, pq_1_22, pq_1_23] (by rfl) (by decide +kernel)) ggX6_turn_X6_done
def lb_sgX6_turn : List (List UInt8) := [[42, 180, 0, 20, 182, 0, 173, 42, 42, 180, 0, 20, 182, 0, 164, 182], [0, 77, 172]]
set_option maxRecDepth 100000 in
theorem lb_seX6_turn : cX6_turn.data.toList = lb_sgX6_turn.flatten := by decide +kernel
theorem lb_lnX6_turn : ∀ s ∈ lb_sgX6_turn.dropLast, s.length = 16 := by decide +kernel
theorem lxX6_turn (k j : Nat) {b : UInt8} (h : (lb_sgX6_turn[k]?).bind (fun s => s[j]?) = some b) : lb_at cX6_turn (16 * k + j) b := by
  unfold lb_at
  rw [lb_seX6_turn]
  exact lb_flat 16 lb_sgX6_turn k j b lb_lnX6_turn h
set_option maxRecDepth 20000 in
theorem dX6_turn_0 : decode cX6_turn 0 = .ok (.aload_n 0, 1) := dc_42 (lxX6_turn 0 0 rfl)
set_option maxRecDepth 20000 in
theorem dX6_turn_1 : decode cX6_turn 1 = .ok (.getfield 20, 3) := dc_180 0 20 (lxX6_turn 0 1 rfl) (lxX6_turn 0 2 rfl) (lxX6_turn 0 3 rfl)
set_option maxRecDepth 20000 in
theorem dX6_turn_4 : decode cX6_turn 4 = .ok (.invokevirtual 173, 3) := dc_182 0 173 (lxX6_turn 0 4 rfl) (lxX6_turn 0 5 rfl) (lxX6_turn 0 6 rfl)
set_option maxRecDepth 20000 in
theorem dX6_turn_7 : decode cX6_turn 7 = .ok (.aload_n 0, 1) := dc_42 (lxX6_turn 0 7 rfl)
set_option maxRecDepth 20000 in
theorem dX6_turn_8 : decode cX6_turn 8 = .ok (.aload_n 0, 1) := dc_42 (lxX6_turn 0 8 rfl)
set_option maxRecDepth 20000 in
theorem dX6_turn_9 : decode cX6_turn 9 = .ok (.getfield 20, 3) := dc_180 0 20 (lxX6_turn 0 9 rfl) (lxX6_turn 0 10 rfl) (lxX6_turn 0 11 rfl)
set_option maxRecDepth 20000 in
theorem dX6_turn_12 : decode cX6_turn 12 = .ok (.invokevirtual 164, 3) := dc_182 0 164 (lxX6_turn 0 12 rfl) (lxX6_turn 0 13 rfl) (lxX6_turn 0 14 rfl)
set_option maxRecDepth 20000 in
theorem dX6_turn_15 : decode cX6_turn 15 = .ok (.invokevirtual 77, 3) := dc_182 0 77 (lxX6_turn 0 15 rfl) (lxX6_turn 1 0 rfl) (lxX6_turn 1 1 rfl)
set_option maxRecDepth 20000 in
theorem dX6_turn_18 : decode cX6_turn 18 = .ok (.ireturn, 1) := dc_172 (lxX6_turn 1 2 rfl)
noncomputable def sgX6_change : List (List Cond) := [[.code yX6_change cX6_change 3 (some .int)], wsX6_change_r1, wsX6_change_r2, wsX60, wsX20, (vx_atS RX6 306 "java/lang/IndexOutOfBoundsException" ["java/lang/RuntimeException", "java/lang/Exception"]).filter goodWord, (vx_atS RX6 317 "java/lang/IllegalArgumentException" ["java/lang/RuntimeException", "java/lang/Exception"]).filter goodWord]
theorem seX6_change : sgX6_change.flatten = wsX6_change := by simp only [sgX6_change, wsX6_change, List.flatten_cons, List.flatten_nil, List.append_assoc, List.append_nil, List.cons_append, List.nil_append]
set_option maxRecDepth 20000 in
theorem ggX6_change_X2_size : GoodIn wsX6_change wsX2_size := goodIn_s seX6_change _ [pq_1_5, pq_1_6, pq_4_0, pq_4_1] (by rfl) (by decide +kernel)
set_option maxRecDepth 20000 in
theorem gX6_change_X2_size : GoodIn wsX6_change (wsV RX6 164 RX2 yX2_size wsX2_size) := goodIn_app (goodIn_s seX6_change _ [pq_1_1, pq_1_2, pq_1_3, pq_1_4] (by rfl) (by decide +kernel)) ggX6_change_X2_size
set_option maxRecDepth 20000 in
theorem ggX6_change_X6_requirePlace : GoodIn wsX6_change wsX6_requirePlace := goodIn_ca (goodIn_s seX6_change _ [pq_1_10, pq_1_11, pq_1_12] (by rfl) (by decide +kernel)) (goodIn_sub (fun _ h => List.mem_cons_of_mem _ (List.mem_append_left _ (List.mem_append_right _ h))) (by decide +kernel))
set_option maxRecDepth 20000 in
theorem gX6_change_X6_requirePlace : GoodIn wsX6_change (va_wsS RX6 176 yX6_requirePlace wsX6_requirePlace) := goodIn_app (goodIn_s seX6_change _ [pq_1_7, pq_1_8, pq_1_9] (by rfl) (by decide +kernel)) ggX6_change_X6_requirePlace
set_option maxRecDepth 20000 in
theorem ggX6_change_X6_requireWithin : GoodIn wsX6_change wsX6_requireWithin := goodIn_ca (goodIn_s seX6_change _ [pq_1_15, pq_1_16, pq_1_17] (by rfl) (by decide +kernel)) (goodIn_sub (fun _ h => List.mem_cons_of_mem _ (List.mem_append_right _ h)) (by decide +kernel))
set_option maxRecDepth 20000 in
theorem gX6_change_X6_requireWithin : GoodIn wsX6_change (va_wsS RX6 66 yX6_requireWithin wsX6_requireWithin) := goodIn_app (goodIn_s seX6_change _ [pq_1_13, pq_1_14, pq_1_9] (by rfl) (by decide +kernel)) ggX6_change_X6_requireWithin
set_option maxRecDepth 20000 in
theorem ggX6_change_X2_exchange : GoodIn wsX6_change wsX2_exchange := goodIn_s seX6_change _ [pq_1_21, pq_1_22, pq_1_23, pq_2_0, pq_2_1, pq_1_4, pq_2_2, pq_1_6, pq_4_0, pq_4_1] (by rfl) (by decide +kernel)
set_option maxRecDepth 20000 in
theorem gX6_change_X2_exchange : GoodIn wsX6_change (wsV RX6 179 RX2 yX2_exchange wsX2_exchange) := goodIn_app (goodIn_s seX6_change _ [pq_1_18, pq_1_19, pq_1_20, pq_1_4] (by rfl) (by decide +kernel)) ggX6_change_X2_exchange
set_option maxRecDepth 20000 in
theorem ggX6_change_X6_done : GoodIn wsX6_change wsX6_done := goodIn_s seX6_change _ [pq_2_6, pq_2_7, pq_3_0, pq_3_1, pq_3_2, pq_3_3, pq_3_4, pq_3_5, pq_3_6, pq_3_7, pq_3_8, pq_3_9, pq_3_10, pq_3_11, pq_3_12, pq_3_13] (by rfl) (by decide +kernel)
set_option maxRecDepth 20000 in
theorem gX6_change_X6_done : GoodIn wsX6_change (wsV RX6 77 RX6 yX6_done wsX6_done) := goodIn_app (goodIn_s seX6_change _ [pq_2_3, pq_2_4, pq_2_5, pq_1_9] (by rfl) (by decide +kernel)) ggX6_change_X6_done
def lb_sgX6_change : List (List UInt8) := [[27, 42, 180, 0, 20, 182, 0, 164, 184, 0, 176, 28, 3, 17, 0, 255], [184, 0, 66, 42, 42, 180, 0, 20, 27, 28, 182, 0, 179, 182, 0, 77], [172]]
set_option maxRecDepth 100000 in
theorem lb_seX6_change : cX6_change.data.toList = lb_sgX6_change.flatten := by decide +kernel
theorem lb_lnX6_change : ∀ s ∈ lb_sgX6_change.dropLast, s.length = 16 := by decide +kernel
theorem lxX6_change (k j : Nat) {b : UInt8} (h : (lb_sgX6_change[k]?).bind (fun s => s[j]?) = some b) : lb_at cX6_change (16 * k + j) b := by
  unfold lb_at
  rw [lb_seX6_change]
  exact lb_flat 16 lb_sgX6_change k j b lb_lnX6_change h
set_option maxRecDepth 20000 in
theorem dX6_change_0 : decode cX6_change 0 = .ok (.iload_n 1, 1) := dc_27 (lxX6_change 0 0 rfl)
set_option maxRecDepth 20000 in
theorem dX6_change_1 : decode cX6_change 1 = .ok (.aload_n 0, 1) := dc_42 (lxX6_change 0 1 rfl)
set_option maxRecDepth 20000 in
theorem dX6_change_2 : decode cX6_change 2 = .ok (.getfield 20, 3) := dc_180 0 20 (lxX6_change 0 2 rfl) (lxX6_change 0 3 rfl) (lxX6_change 0 4 rfl)
set_option maxRecDepth 20000 in
theorem dX6_change_5 : decode cX6_change 5 = .ok (.invokevirtual 164, 3) := dc_182 0 164 (lxX6_change 0 5 rfl) (lxX6_change 0 6 rfl) (lxX6_change 0 7 rfl)
set_option maxRecDepth 20000 in
theorem dX6_change_8 : decode cX6_change 8 = .ok (.invokestatic 176, 3) := dc_184 0 176 (lxX6_change 0 8 rfl) (lxX6_change 0 9 rfl) (lxX6_change 0 10 rfl)
set_option maxRecDepth 20000 in
theorem dX6_change_11 : decode cX6_change 11 = .ok (.iload_n 2, 1) := dc_28 (lxX6_change 0 11 rfl)
set_option maxRecDepth 20000 in
theorem dX6_change_12 : decode cX6_change 12 = .ok (.iconst 0, 1) := dc_3 (lxX6_change 0 12 rfl)
set_option maxRecDepth 20000 in
theorem dX6_change_13 : decode cX6_change 13 = .ok (.sipush 255, 3) := dc_17 0 255 (lxX6_change 0 13 rfl) (lxX6_change 0 14 rfl) (lxX6_change 0 15 rfl)
set_option maxRecDepth 20000 in
theorem dX6_change_16 : decode cX6_change 16 = .ok (.invokestatic 66, 3) := dc_184 0 66 (lxX6_change 1 0 rfl) (lxX6_change 1 1 rfl) (lxX6_change 1 2 rfl)
set_option maxRecDepth 20000 in
theorem dX6_change_19 : decode cX6_change 19 = .ok (.aload_n 0, 1) := dc_42 (lxX6_change 1 3 rfl)
set_option maxRecDepth 20000 in
theorem dX6_change_20 : decode cX6_change 20 = .ok (.aload_n 0, 1) := dc_42 (lxX6_change 1 4 rfl)
set_option maxRecDepth 20000 in
theorem dX6_change_21 : decode cX6_change 21 = .ok (.getfield 20, 3) := dc_180 0 20 (lxX6_change 1 5 rfl) (lxX6_change 1 6 rfl) (lxX6_change 1 7 rfl)
set_option maxRecDepth 20000 in
theorem dX6_change_24 : decode cX6_change 24 = .ok (.iload_n 1, 1) := dc_27 (lxX6_change 1 8 rfl)
set_option maxRecDepth 20000 in
theorem dX6_change_25 : decode cX6_change 25 = .ok (.iload_n 2, 1) := dc_28 (lxX6_change 1 9 rfl)
set_option maxRecDepth 20000 in
theorem dX6_change_26 : decode cX6_change 26 = .ok (.invokevirtual 179, 3) := dc_182 0 179 (lxX6_change 1 10 rfl) (lxX6_change 1 11 rfl) (lxX6_change 1 12 rfl)
set_option maxRecDepth 20000 in
theorem dX6_change_29 : decode cX6_change 29 = .ok (.invokevirtual 77, 3) := dc_182 0 77 (lxX6_change 1 13 rfl) (lxX6_change 1 14 rfl) (lxX6_change 1 15 rfl)
set_option maxRecDepth 20000 in
theorem dX6_change_32 : decode cX6_change 32 = .ok (.ireturn, 1) := dc_172 (lxX6_change 2 0 rfl)
noncomputable def sgX6_pipe : List (List Cond) := [[.code yX6_pipe cX6_pipe 3 (some .int)], wsX6_pipe_r1, wsX6_pipe_r2, wsX60, wsX10, wsX20, (vx_atS RX6 317 "java/lang/IllegalArgumentException" ["java/lang/RuntimeException", "java/lang/Exception"]).filter goodWord]
theorem seX6_pipe : sgX6_pipe.flatten = wsX6_pipe := by simp only [sgX6_pipe, wsX6_pipe, List.flatten_cons, List.flatten_nil, List.append_assoc, List.append_nil, List.cons_append, List.nil_append]
set_option maxRecDepth 20000 in
theorem ggX6_pipe_X6_requireWithin : GoodIn wsX6_pipe wsX6_requireWithin := goodIn_ca (goodIn_s seX6_pipe _ [pq_1_4, pq_1_5, pq_1_6] (by rfl) (by decide +kernel)) (goodIn_sub (fun _ h => List.mem_cons_of_mem _ (List.mem_append_right _ h)) (by decide +kernel))
set_option maxRecDepth 20000 in
theorem gX6_pipe_X6_requireWithin : GoodIn wsX6_pipe (va_wsS RX6 66 yX6_requireWithin wsX6_requireWithin) := goodIn_app (goodIn_s seX6_pipe _ [pq_1_1, pq_1_2, pq_1_3] (by rfl) (by decide +kernel)) ggX6_pipe_X6_requireWithin
set_option maxRecDepth 20000 in
theorem ggX6_pipe_X2_size : GoodIn wsX6_pipe wsX2_size := goodIn_s seX6_pipe _ [pq_1_11, pq_1_12, pq_5_0, pq_5_1] (by rfl) (by decide +kernel)
set_option maxRecDepth 20000 in
theorem gX6_pipe_X2_size : GoodIn wsX6_pipe (wsV RX6 164 RX2 yX2_size wsX2_size) := goodIn_app (goodIn_s seX6_pipe _ [pq_1_7, pq_1_8, pq_1_9, pq_1_10] (by rfl) (by decide +kernel)) ggX6_pipe_X2_size
set_option maxRecDepth 20000 in
theorem ggX6_pipe_X1_makeNew : GoodIn wsX6_pipe wsX1_makeNew := goodIn_s seX6_pipe _ [pq_1_17, pq_1_18, pq_1_19, pq_1_20, pq_1_21, pq_1_22, pq_1_23, pq_2_0, pq_1_10, pq_2_1, pq_1_12, pq_4_0, pq_4_1, pq_4_2, pq_4_3, pq_5_0, pq_5_1] (by rfl) (by decide +kernel)
set_option maxRecDepth 20000 in
theorem gX6_pipe_X1_makeNew : GoodIn wsX6_pipe (wsV RX6 186 RX1 yX1_makeNew wsX1_makeNew) := goodIn_app (goodIn_s seX6_pipe _ [pq_1_13, pq_1_14, pq_1_15, pq_1_16] (by rfl) (by decide +kernel)) ggX6_pipe_X1_makeNew
set_option maxRecDepth 20000 in
theorem ggX6_pipe_X6_done : GoodIn wsX6_pipe wsX6_done := goodIn_s seX6_pipe _ [pq_2_5, pq_2_6, pq_3_0, pq_3_1, pq_3_2, pq_3_3, pq_3_4, pq_3_5, pq_3_6, pq_3_7, pq_3_8, pq_3_9, pq_3_10, pq_3_11, pq_3_12, pq_3_13] (by rfl) (by decide +kernel)
set_option maxRecDepth 20000 in
theorem gX6_pipe_X6_done : GoodIn wsX6_pipe (wsV RX6 77 RX6 yX6_done wsX6_done) := goodIn_app (goodIn_s seX6_pipe _ [pq_2_2, pq_2_3, pq_2_4, pq_1_3] (by rfl) (by decide +kernel)) ggX6_pipe_X6_done
def lb_sgX6_pipe : List (List UInt8) := [[27, 4, 16, 8, 184, 0, 66, 42, 180, 0, 30, 180, 0, 183, 182, 0], [164, 61, 42, 180, 0, 30, 27, 182, 0, 186, 42, 28, 182, 0, 77, 172]]
set_option maxRecDepth 100000 in
theorem lb_seX6_pipe : cX6_pipe.data.toList = lb_sgX6_pipe.flatten := by decide +kernel
theorem lb_lnX6_pipe : ∀ s ∈ lb_sgX6_pipe.dropLast, s.length = 16 := by decide +kernel
theorem lxX6_pipe (k j : Nat) {b : UInt8} (h : (lb_sgX6_pipe[k]?).bind (fun s => s[j]?) = some b) : lb_at cX6_pipe (16 * k + j) b := by
  unfold lb_at
  rw [lb_seX6_pipe]
  exact lb_flat 16 lb_sgX6_pipe k j b lb_lnX6_pipe h
set_option maxRecDepth 20000 in
theorem dX6_pipe_0 : decode cX6_pipe 0 = .ok (.iload_n 1, 1) := dc_27 (lxX6_pipe 0 0 rfl)
set_option maxRecDepth 20000 in
theorem dX6_pipe_1 : decode cX6_pipe 1 = .ok (.iconst 1, 1) := dc_4 (lxX6_pipe 0 1 rfl)
set_option maxRecDepth 20000 in
theorem dX6_pipe_2 : decode cX6_pipe 2 = .ok (.bipush 8, 2) := dc_16 8 (lxX6_pipe 0 2 rfl) (lxX6_pipe 0 3 rfl)
set_option maxRecDepth 20000 in
theorem dX6_pipe_4 : decode cX6_pipe 4 = .ok (.invokestatic 66, 3) := dc_184 0 66 (lxX6_pipe 0 4 rfl) (lxX6_pipe 0 5 rfl) (lxX6_pipe 0 6 rfl)
set_option maxRecDepth 20000 in
theorem dX6_pipe_7 : decode cX6_pipe 7 = .ok (.aload_n 0, 1) := dc_42 (lxX6_pipe 0 7 rfl)
set_option maxRecDepth 20000 in
theorem dX6_pipe_8 : decode cX6_pipe 8 = .ok (.getfield 30, 3) := dc_180 0 30 (lxX6_pipe 0 8 rfl) (lxX6_pipe 0 9 rfl) (lxX6_pipe 0 10 rfl)
set_option maxRecDepth 20000 in
theorem dX6_pipe_11 : decode cX6_pipe 11 = .ok (.getfield 183, 3) := dc_180 0 183 (lxX6_pipe 0 11 rfl) (lxX6_pipe 0 12 rfl) (lxX6_pipe 0 13 rfl)
set_option maxRecDepth 20000 in
theorem dX6_pipe_14 : decode cX6_pipe 14 = .ok (.invokevirtual 164, 3) := dc_182 0 164 (lxX6_pipe 0 14 rfl) (lxX6_pipe 0 15 rfl) (lxX6_pipe 1 0 rfl)
set_option maxRecDepth 20000 in
theorem dX6_pipe_17 : decode cX6_pipe 17 = .ok (.istore_n 2, 1) := dc_61 (lxX6_pipe 1 1 rfl)
set_option maxRecDepth 20000 in
theorem dX6_pipe_18 : decode cX6_pipe 18 = .ok (.aload_n 0, 1) := dc_42 (lxX6_pipe 1 2 rfl)
set_option maxRecDepth 20000 in
theorem dX6_pipe_19 : decode cX6_pipe 19 = .ok (.getfield 30, 3) := dc_180 0 30 (lxX6_pipe 1 3 rfl) (lxX6_pipe 1 4 rfl) (lxX6_pipe 1 5 rfl)
set_option maxRecDepth 20000 in
theorem dX6_pipe_22 : decode cX6_pipe 22 = .ok (.iload_n 1, 1) := dc_27 (lxX6_pipe 1 6 rfl)
set_option maxRecDepth 20000 in
theorem dX6_pipe_23 : decode cX6_pipe 23 = .ok (.invokevirtual 186, 3) := dc_182 0 186 (lxX6_pipe 1 7 rfl) (lxX6_pipe 1 8 rfl) (lxX6_pipe 1 9 rfl)
set_option maxRecDepth 20000 in
theorem dX6_pipe_26 : decode cX6_pipe 26 = .ok (.aload_n 0, 1) := dc_42 (lxX6_pipe 1 10 rfl)
set_option maxRecDepth 20000 in
theorem dX6_pipe_27 : decode cX6_pipe 27 = .ok (.iload_n 2, 1) := dc_28 (lxX6_pipe 1 11 rfl)
set_option maxRecDepth 20000 in
theorem dX6_pipe_28 : decode cX6_pipe 28 = .ok (.invokevirtual 77, 3) := dc_182 0 77 (lxX6_pipe 1 12 rfl) (lxX6_pipe 1 13 rfl) (lxX6_pipe 1 14 rfl)
set_option maxRecDepth 20000 in
theorem dX6_pipe_31 : decode cX6_pipe 31 = .ok (.ireturn, 1) := dc_172 (lxX6_pipe 1 15 rfl)
noncomputable def sgX6_feed : List (List Cond) := [[.code yX6_feed cX6_feed 5 (some .int)], wsX6_feed_r1, wsX6_feed_r2, wsX60, wsX10, wsX20, (vx_atS RX6 317 "java/lang/IllegalArgumentException" ["java/lang/RuntimeException", "java/lang/Exception"]).filter goodWord]
theorem seX6_feed : sgX6_feed.flatten = wsX6_feed := by simp only [sgX6_feed, wsX6_feed, List.flatten_cons, List.flatten_nil, List.append_assoc, List.append_nil, List.cons_append, List.nil_append]
set_option maxRecDepth 20000 in
theorem ggX6_feed_X6_requireLetters : GoodIn wsX6_feed wsX6_requireLetters := goodIn_ca (goodIn_s seX6_feed _ [pq_1_4, pq_1_5, pq_1_6, pq_1_7, pq_1_3, pq_1_8, pq_1_9, pq_1_10] (by rfl) (by decide +kernel)) (goodIn_sub (fun _ h => List.mem_cons_of_mem _ (List.mem_append_right _ h)) (by decide +kernel))
set_option maxRecDepth 20000 in
theorem gX6_feed_X6_requireLetters : GoodIn wsX6_feed (va_wsS RX6 103 yX6_requireLetters wsX6_requireLetters) := goodIn_app (goodIn_s seX6_feed _ [pq_1_1, pq_1_2, pq_1_3] (by rfl) (by decide +kernel)) ggX6_feed_X6_requireLetters
set_option maxRecDepth 20000 in
theorem ggX6_feed_X6_lowestLetter : GoodIn wsX6_feed wsX6_lowestLetter := goodIn_s seX6_feed _ [pq_1_13] (by rfl) (by decide +kernel)
set_option maxRecDepth 20000 in
theorem gX6_feed_X6_lowestLetter : GoodIn wsX6_feed (va_wsS RX6 107 yX6_lowestLetter wsX6_lowestLetter) := goodIn_app (goodIn_s seX6_feed _ [pq_1_11, pq_1_12, pq_1_3] (by rfl) (by decide +kernel)) ggX6_feed_X6_lowestLetter
set_option maxRecDepth 20000 in
theorem ggX6_feed_X1_takeIn : GoodIn wsX6_feed wsX1_takeIn := goodIn_s seX6_feed _ [pq_1_18, pq_1_19, pq_1_20, pq_1_21, pq_1_22, pq_1_23, pq_2_0, pq_2_1, pq_2_2, pq_2_3, pq_2_4, pq_2_5, pq_2_6, pq_2_7, pq_2_8, pq_2_9, pq_2_10, pq_2_11, pq_2_12, pq_4_0, pq_4_1, pq_4_2, pq_4_3, pq_5_0, pq_5_1] (by rfl) (by decide +kernel)
set_option maxRecDepth 20000 in
theorem gX6_feed_X1_takeIn : GoodIn wsX6_feed (wsV RX6 189 RX1 yX1_takeIn wsX1_takeIn) := goodIn_app (goodIn_s seX6_feed _ [pq_1_14, pq_1_15, pq_1_16, pq_1_17] (by rfl) (by decide +kernel)) ggX6_feed_X1_takeIn
set_option maxRecDepth 20000 in
theorem ggX6_feed_X6_done : GoodIn wsX6_feed wsX6_done := goodIn_s seX6_feed _ [pq_2_16, pq_2_17, pq_3_0, pq_3_1, pq_3_2, pq_3_3, pq_3_4, pq_3_5, pq_3_6, pq_3_7, pq_3_8, pq_3_9, pq_3_10, pq_3_11, pq_3_12, pq_3_13] (by rfl) (by decide +kernel)
set_option maxRecDepth 20000 in
theorem gX6_feed_X6_done : GoodIn wsX6_feed (wsV RX6 77 RX6 yX6_done wsX6_done) := goodIn_app (goodIn_s seX6_feed _ [pq_2_13, pq_2_14, pq_2_15, pq_1_3] (by rfl) (by decide +kernel)) ggX6_feed_X6_done
def lb_sgX6_feed : List (List UInt8) := [[27, 28, 184, 0, 103, 27, 62, 3, 54, 4, 21, 4, 28, 162, 0, 27], [42, 180, 0, 30, 29, 184, 0, 107, 182, 0, 189, 153, 0, 13, 29, 6], [108, 62, 132, 4, 1, 167, 255, 229, 42, 21, 4, 182, 0, 77, 172]]
set_option maxRecDepth 100000 in
theorem lb_seX6_feed : cX6_feed.data.toList = lb_sgX6_feed.flatten := by decide +kernel
theorem lb_lnX6_feed : ∀ s ∈ lb_sgX6_feed.dropLast, s.length = 16 := by decide +kernel
theorem lxX6_feed (k j : Nat) {b : UInt8} (h : (lb_sgX6_feed[k]?).bind (fun s => s[j]?) = some b) : lb_at cX6_feed (16 * k + j) b := by
  unfold lb_at
  rw [lb_seX6_feed]
  exact lb_flat 16 lb_sgX6_feed k j b lb_lnX6_feed h
set_option maxRecDepth 20000 in
theorem dX6_feed_0 : decode cX6_feed 0 = .ok (.iload_n 1, 1) := dc_27 (lxX6_feed 0 0 rfl)
set_option maxRecDepth 20000 in
theorem dX6_feed_1 : decode cX6_feed 1 = .ok (.iload_n 2, 1) := dc_28 (lxX6_feed 0 1 rfl)
set_option maxRecDepth 20000 in
theorem dX6_feed_2 : decode cX6_feed 2 = .ok (.invokestatic 103, 3) := dc_184 0 103 (lxX6_feed 0 2 rfl) (lxX6_feed 0 3 rfl) (lxX6_feed 0 4 rfl)
set_option maxRecDepth 20000 in
theorem dX6_feed_5 : decode cX6_feed 5 = .ok (.iload_n 1, 1) := dc_27 (lxX6_feed 0 5 rfl)
set_option maxRecDepth 20000 in
theorem dX6_feed_6 : decode cX6_feed 6 = .ok (.istore_n 3, 1) := dc_62 (lxX6_feed 0 6 rfl)
set_option maxRecDepth 20000 in
theorem dX6_feed_7 : decode cX6_feed 7 = .ok (.iconst 0, 1) := dc_3 (lxX6_feed 0 7 rfl)
set_option maxRecDepth 20000 in
theorem dX6_feed_8 : decode cX6_feed 8 = .ok (.istore 4, 2) := dc_54 4 (lxX6_feed 0 8 rfl) (lxX6_feed 0 9 rfl)
set_option maxRecDepth 20000 in
theorem dX6_feed_10 : decode cX6_feed 10 = .ok (.iload 4, 2) := dc_21 4 (lxX6_feed 0 10 rfl) (lxX6_feed 0 11 rfl)
set_option maxRecDepth 20000 in
theorem dX6_feed_12 : decode cX6_feed 12 = .ok (.iload_n 2, 1) := dc_28 (lxX6_feed 0 12 rfl)
set_option maxRecDepth 20000 in
theorem dX6_feed_13 : decode cX6_feed 13 = .ok (.if_icmp .ge 27, 3) := dc_162 0 27 (lxX6_feed 0 13 rfl) (lxX6_feed 0 14 rfl) (lxX6_feed 0 15 rfl)
set_option maxRecDepth 20000 in
theorem dX6_feed_16 : decode cX6_feed 16 = .ok (.aload_n 0, 1) := dc_42 (lxX6_feed 1 0 rfl)
set_option maxRecDepth 20000 in
theorem dX6_feed_17 : decode cX6_feed 17 = .ok (.getfield 30, 3) := dc_180 0 30 (lxX6_feed 1 1 rfl) (lxX6_feed 1 2 rfl) (lxX6_feed 1 3 rfl)
set_option maxRecDepth 20000 in
theorem dX6_feed_20 : decode cX6_feed 20 = .ok (.iload_n 3, 1) := dc_29 (lxX6_feed 1 4 rfl)
set_option maxRecDepth 20000 in
theorem dX6_feed_21 : decode cX6_feed 21 = .ok (.invokestatic 107, 3) := dc_184 0 107 (lxX6_feed 1 5 rfl) (lxX6_feed 1 6 rfl) (lxX6_feed 1 7 rfl)
set_option maxRecDepth 20000 in
theorem dX6_feed_24 : decode cX6_feed 24 = .ok (.invokevirtual 189, 3) := dc_182 0 189 (lxX6_feed 1 8 rfl) (lxX6_feed 1 9 rfl) (lxX6_feed 1 10 rfl)
set_option maxRecDepth 20000 in
theorem dX6_feed_27 : decode cX6_feed 27 = .ok (.ifCond .eq 13, 3) := dc_153 0 13 (lxX6_feed 1 11 rfl) (lxX6_feed 1 12 rfl) (lxX6_feed 1 13 rfl)
set_option maxRecDepth 20000 in
theorem dX6_feed_30 : decode cX6_feed 30 = .ok (.iload_n 3, 1) := dc_29 (lxX6_feed 1 14 rfl)
set_option maxRecDepth 20000 in
theorem dX6_feed_31 : decode cX6_feed 31 = .ok (.iconst 3, 1) := dc_6 (lxX6_feed 1 15 rfl)
set_option maxRecDepth 20000 in
theorem dX6_feed_32 : decode cX6_feed 32 = .ok (.idiv, 1) := dc_108 (lxX6_feed 2 0 rfl)
set_option maxRecDepth 20000 in
theorem dX6_feed_33 : decode cX6_feed 33 = .ok (.istore_n 3, 1) := dc_62 (lxX6_feed 2 1 rfl)
set_option maxRecDepth 20000 in
theorem dX6_feed_34 : decode cX6_feed 34 = .ok (.iinc 4 1, 3) := dc_132 4 1 (lxX6_feed 2 2 rfl) (lxX6_feed 2 3 rfl) (lxX6_feed 2 4 rfl)
set_option maxRecDepth 20000 in
theorem dX6_feed_37 : decode cX6_feed 37 = .ok (.goto (-27), 3) := dc_167 255 229 (lxX6_feed 2 5 rfl) (lxX6_feed 2 6 rfl) (lxX6_feed 2 7 rfl)
set_option maxRecDepth 20000 in
theorem dX6_feed_40 : decode cX6_feed 40 = .ok (.aload_n 0, 1) := dc_42 (lxX6_feed 2 8 rfl)
set_option maxRecDepth 20000 in
theorem dX6_feed_41 : decode cX6_feed 41 = .ok (.iload 4, 2) := dc_21 4 (lxX6_feed 2 9 rfl) (lxX6_feed 2 10 rfl)
set_option maxRecDepth 20000 in
theorem dX6_feed_43 : decode cX6_feed 43 = .ok (.invokevirtual 77, 3) := dc_182 0 77 (lxX6_feed 2 11 rfl) (lxX6_feed 2 12 rfl) (lxX6_feed 2 13 rfl)
set_option maxRecDepth 20000 in
theorem dX6_feed_46 : decode cX6_feed 46 = .ok (.ireturn, 1) := dc_172 (lxX6_feed 2 14 rfl)
noncomputable def sgX6_drain : List (List Cond) := [[.code yX6_drain cX6_drain 3 (some (.object "java/lang/String"))], wsX6_drain_r1, wsX6_drain_r2, wsX6_drain_r3, wsX6_drain_r4, wsX6_drain_r5, wsX6_drain_r6, wsX6_drain_r7, wsX6_drain_r8, wsX6_drain_r9, wsX6_drain_r10, wsJ40, wsX60, wsX10, wsX20, wsJ00, (vx_atS RX6 317 "java/lang/IllegalArgumentException" ["java/lang/RuntimeException", "java/lang/Exception"]).filter goodWord]
theorem seX6_drain : sgX6_drain.flatten = wsX6_drain := by simp only [sgX6_drain, wsX6_drain, List.flatten_cons, List.flatten_nil, List.append_assoc, List.append_nil, List.cons_append, List.nil_append]
set_option maxRecDepth 20000 in
theorem ggX6_drain_X6_requireWithin : GoodIn wsX6_drain wsX6_requireWithin := goodIn_ca (goodIn_s seX6_drain _ [pq_1_6, pq_1_7, pq_1_8] (by rfl) (by decide +kernel)) (goodIn_sub (fun _ h => List.mem_cons_of_mem _ (List.mem_append_right _ h)) (by decide +kernel))
set_option maxRecDepth 20000 in
theorem gX6_drain_X6_requireWithin : GoodIn wsX6_drain (va_wsS RX6 66 yX6_requireWithin wsX6_requireWithin) := goodIn_app (goodIn_s seX6_drain _ [pq_1_3, pq_1_4, pq_1_5] (by rfl) (by decide +kernel)) ggX6_drain_X6_requireWithin
set_option maxRecDepth 20000 in
theorem ggX6_drain_J4_init_da8c8 : GoodIn wsX6_drain wsJ4_init_da8c8 := goodIn_s seX6_drain _ [pq_1_11, pq_1_12, pq_1_13, pq_1_14, pq_1_15, pq_1_16, pq_1_17, pq_1_18, pq_1_19, pq_1_20, pq_1_21, pq_1_22, pq_1_23, pq_2_0, pq_2_1, pq_2_2, pq_2_3, pq_2_4, pq_2_5, pq_2_6, pq_11_0, pq_11_1, pq_11_2, pq_11_3] (by rfl) (by decide +kernel)
set_option maxRecDepth 20000 in
theorem gX6_drain_J4_init_da8c8 : GoodIn wsX6_drain (wsJ4_init_da8c8) := ggX6_drain_J4_init_da8c8
set_option maxRecDepth 20000 in
theorem ggX6_drain_X6_letOut : GoodIn wsX6_drain wsX6_letOut := goodIn_s seX6_drain _ [pq_2_10, pq_2_11, pq_2_12, pq_2_13, pq_2_14, pq_2_15, pq_2_16, pq_2_17, pq_2_18, pq_2_19, pq_2_20, pq_2_21, pq_2_22, pq_2_23, pq_3_0, pq_3_1, pq_3_2, pq_3_3, pq_3_4, pq_3_5, pq_3_6, pq_3_7, pq_3_8, pq_3_9, pq_3_10, pq_3_11, pq_3_12, pq_3_13, pq_3_14, pq_3_15, pq_3_16, pq_3_17, pq_3_18, pq_3_19, pq_3_20, pq_3_21, pq_3_22, pq_3_23, pq_4_0, pq_1_2, pq_4_1, pq_4_2, pq_4_3, pq_4_4, pq_4_5, pq_1_14, pq_4_6, pq_4_7, pq_1_21, pq_4_8, pq_4_9, pq_4_10, pq_4_11, pq_4_12, pq_1_22, pq_4_13, pq_4_14, pq_4_15, pq_4_16, pq_4_17, pq_4_18, pq_4_19, pq_4_20, pq_4_21, pq_4_22, pq_4_23, pq_5_0, pq_5_1, pq_5_2, pq_5_3, pq_5_4, pq_5_5, pq_5_6, pq_5_7, pq_5_8, pq_5_9, pq_5_10, pq_5_11, pq_5_12, pq_5_13, pq_1_20, pq_5_14, pq_5_15, pq_5_16, pq_5_17, pq_5_18, pq_5_19, pq_5_20, pq_5_21, pq_5_22, pq_5_23, pq_6_0, pq_6_1, pq_1_19, pq_6_2, pq_6_3, pq_6_4, pq_6_5, pq_6_6, pq_6_7, pq_6_8, pq_6_9, pq_6_10, pq_1_23, pq_2_0, pq_2_1, pq_2_2, pq_2_3, pq_2_4, pq_2_5, pq_2_6, pq_6_11, pq_6_12, pq_6_13, pq_6_14, pq_6_15, pq_6_16, pq_6_17, pq_6_18, pq_6_19, pq_6_20, pq_6_21, pq_6_22, pq_6_23, pq_7_0, pq_7_1, pq_7_2, pq_7_3, pq_7_4, pq_7_5, pq_7_6, pq_7_7, pq_7_8, pq_7_9, pq_7_10, pq_7_11, pq_7_12, pq_7_13, pq_7_14, pq_7_15, pq_7_16, pq_7_17, pq_7_18, pq_7_19, pq_7_20, pq_7_21, pq_7_22, pq_7_23, pq_8_0, pq_8_1, pq_12_0, pq_12_1, pq_12_2, pq_12_3, pq_12_4, pq_12_5, pq_12_6, pq_12_7, pq_12_8, pq_12_9, pq_12_10, pq_12_11, pq_12_12, pq_12_13, pq_13_0, pq_13_1, pq_13_2, pq_13_3, pq_14_0, pq_14_1, pq_11_0, pq_11_1, pq_11_2, pq_11_3] (by rfl) (by decide +kernel)
set_option maxRecDepth 20000 in
theorem gX6_drain_X6_letOut : GoodIn wsX6_drain (wsV RX6 192 RX6 yX6_letOut wsX6_letOut) := goodIn_app (goodIn_s seX6_drain _ [pq_2_7, pq_2_8, pq_2_9, pq_1_5] (by rfl) (by decide +kernel)) ggX6_drain_X6_letOut
set_option maxRecDepth 20000 in
theorem ggX6_drain_J4_toString_0e30d : GoodIn wsX6_drain wsJ4_toString_0e30d := goodIn_s seX6_drain _ [pq_8_5, pq_8_6, pq_8_7, pq_7_1, pq_8_8, pq_8_9, pq_8_10, pq_8_11, pq_8_12, pq_8_13, pq_8_14, pq_1_17, pq_1_18, pq_8_15, pq_8_16, pq_8_17, pq_8_18, pq_8_19, pq_8_20, pq_8_21, pq_8_22, pq_1_14, pq_8_23, pq_1_21, pq_9_0, pq_9_1, pq_9_2, pq_9_3, pq_9_4, pq_1_2, pq_9_5, pq_9_6, pq_4_4, pq_9_7, pq_9_8, pq_4_7, pq_9_9, pq_5_22, pq_5_23, pq_6_0, pq_6_1, pq_1_19, pq_1_22, pq_9_10, pq_9_11, pq_5_6, pq_9_12, pq_5_8, pq_5_9, pq_5_10, pq_5_11, pq_5_12, pq_5_13, pq_9_13, pq_9_14, pq_9_15, pq_1_20, pq_5_14, pq_5_15, pq_3_7, pq_5_16, pq_5_17, pq_5_18, pq_5_19, pq_5_20, pq_9_16, pq_9_17, pq_9_18, pq_9_19, pq_1_1, pq_9_20, pq_9_21, pq_2_1, pq_9_22, pq_9_23, pq_10_0, pq_10_1, pq_6_17, pq_6_18, pq_6_19, pq_6_20, pq_6_21, pq_6_22, pq_6_23, pq_7_0, pq_7_2, pq_7_3, pq_7_4, pq_7_5, pq_7_6, pq_7_7, pq_10_2, pq_10_3, pq_10_4, pq_7_11, pq_7_12, pq_7_13, pq_2_3, pq_2_4, pq_2_5, pq_2_6, pq_10_5, pq_10_6, pq_10_7, pq_10_8, pq_15_0, pq_15_1, pq_15_2, pq_15_3, pq_11_0, pq_11_1, pq_11_2, pq_11_3] (by rfl) (by decide +kernel)
set_option maxRecDepth 20000 in
theorem gX6_drain_J4_toString_0e30d : GoodIn wsX6_drain (wsV RX6 120 RJ4 yJ4_toString_0e30d wsJ4_toString_0e30d) := goodIn_app (goodIn_s seX6_drain _ [pq_8_2, pq_8_3, pq_8_4, pq_1_2] (by rfl) (by decide +kernel)) ggX6_drain_J4_toString_0e30d
set_option maxRecDepth 20000 in
theorem ggX6_drain_X6_done_ : GoodIn wsX6_drain wsX6_done_ := goodIn_s seX6_drain _ [pq_10_12, pq_10_13, pq_12_0, pq_12_1, pq_12_2, pq_12_3, pq_12_4, pq_12_5, pq_12_6, pq_12_7, pq_12_8, pq_12_9, pq_12_10, pq_12_11, pq_12_12, pq_12_13] (by rfl) (by decide +kernel)
set_option maxRecDepth 20000 in
theorem gX6_drain_X6_done_ : GoodIn wsX6_drain (wsV RX6 124 RX6 yX6_done_ wsX6_done_) := goodIn_app (goodIn_s seX6_drain _ [pq_10_9, pq_10_10, pq_10_11, pq_1_5] (by rfl) (by decide +kernel)) ggX6_drain_X6_done_
def lb_sgX6_drain : List (List UInt8) := [[27, 3, 16, 8, 184, 0, 66, 187, 0, 113, 89, 183, 0, 115, 77, 42], [27, 44, 182, 0, 192, 42, 44, 182, 0, 120, 182, 0, 124, 176]]
set_option maxRecDepth 100000 in
theorem lb_seX6_drain : cX6_drain.data.toList = lb_sgX6_drain.flatten := by decide +kernel
theorem lb_lnX6_drain : ∀ s ∈ lb_sgX6_drain.dropLast, s.length = 16 := by decide +kernel
theorem lxX6_drain (k j : Nat) {b : UInt8} (h : (lb_sgX6_drain[k]?).bind (fun s => s[j]?) = some b) : lb_at cX6_drain (16 * k + j) b := by
  unfold lb_at
  rw [lb_seX6_drain]
  exact lb_flat 16 lb_sgX6_drain k j b lb_lnX6_drain h
set_option maxRecDepth 20000 in
theorem dX6_drain_0 : decode cX6_drain 0 = .ok (.iload_n 1, 1) := dc_27 (lxX6_drain 0 0 rfl)
set_option maxRecDepth 20000 in
theorem dX6_drain_1 : decode cX6_drain 1 = .ok (.iconst 0, 1) := dc_3 (lxX6_drain 0 1 rfl)
set_option maxRecDepth 20000 in
theorem dX6_drain_2 : decode cX6_drain 2 = .ok (.bipush 8, 2) := dc_16 8 (lxX6_drain 0 2 rfl) (lxX6_drain 0 3 rfl)
set_option maxRecDepth 20000 in
theorem dX6_drain_4 : decode cX6_drain 4 = .ok (.invokestatic 66, 3) := dc_184 0 66 (lxX6_drain 0 4 rfl) (lxX6_drain 0 5 rfl) (lxX6_drain 0 6 rfl)
set_option maxRecDepth 20000 in
theorem dX6_drain_7 : decode cX6_drain 7 = .ok (.new 113, 3) := dc_187 0 113 (lxX6_drain 0 7 rfl) (lxX6_drain 0 8 rfl) (lxX6_drain 0 9 rfl)
set_option maxRecDepth 20000 in
theorem dX6_drain_10 : decode cX6_drain 10 = .ok (.dup, 1) := dc_89 (lxX6_drain 0 10 rfl)
set_option maxRecDepth 20000 in
theorem dX6_drain_11 : decode cX6_drain 11 = .ok (.invokespecial 115, 3) := dc_183 0 115 (lxX6_drain 0 11 rfl) (lxX6_drain 0 12 rfl) (lxX6_drain 0 13 rfl)
set_option maxRecDepth 20000 in
theorem dX6_drain_14 : decode cX6_drain 14 = .ok (.astore_n 2, 1) := dc_77 (lxX6_drain 0 14 rfl)
set_option maxRecDepth 20000 in
theorem dX6_drain_15 : decode cX6_drain 15 = .ok (.aload_n 0, 1) := dc_42 (lxX6_drain 0 15 rfl)
set_option maxRecDepth 20000 in
theorem dX6_drain_16 : decode cX6_drain 16 = .ok (.iload_n 1, 1) := dc_27 (lxX6_drain 1 0 rfl)
set_option maxRecDepth 20000 in
theorem dX6_drain_17 : decode cX6_drain 17 = .ok (.aload_n 2, 1) := dc_44 (lxX6_drain 1 1 rfl)
set_option maxRecDepth 20000 in
theorem dX6_drain_18 : decode cX6_drain 18 = .ok (.invokevirtual 192, 3) := dc_182 0 192 (lxX6_drain 1 2 rfl) (lxX6_drain 1 3 rfl) (lxX6_drain 1 4 rfl)
set_option maxRecDepth 20000 in
theorem dX6_drain_21 : decode cX6_drain 21 = .ok (.aload_n 0, 1) := dc_42 (lxX6_drain 1 5 rfl)
set_option maxRecDepth 20000 in
theorem dX6_drain_22 : decode cX6_drain 22 = .ok (.aload_n 2, 1) := dc_44 (lxX6_drain 1 6 rfl)
set_option maxRecDepth 20000 in
theorem dX6_drain_23 : decode cX6_drain 23 = .ok (.invokevirtual 120, 3) := dc_182 0 120 (lxX6_drain 1 7 rfl) (lxX6_drain 1 8 rfl) (lxX6_drain 1 9 rfl)
set_option maxRecDepth 20000 in
theorem dX6_drain_26 : decode cX6_drain 26 = .ok (.invokevirtual 124, 3) := dc_182 0 124 (lxX6_drain 1 10 rfl) (lxX6_drain 1 11 rfl) (lxX6_drain 1 12 rfl)
set_option maxRecDepth 20000 in
theorem dX6_drain_29 : decode cX6_drain 29 = .ok (.areturn, 1) := dc_176 (lxX6_drain 1 13 rfl)
noncomputable def sgX6_pump : List (List Cond) := [[.code yX6_pump cX6_pump 8 (some (.object "java/lang/String"))], wsX6_pump_r1, wsX6_pump_r2, wsX6_pump_r3, wsX6_pump_r4, wsX6_pump_r5, wsX6_pump_r6, wsX6_pump_r7, wsX6_pump_r8, wsX6_pump_r9, wsX6_pump_r10, wsX6_pump_r11, wsX6_pump_r12, wsX60, wsX10, wsJ40, wsX20, wsX50, wsJ00, (vx_atS RX6 306 "java/lang/IndexOutOfBoundsException" ["java/lang/RuntimeException", "java/lang/Exception"]).filter goodWord, (vx_atS RX6 317 "java/lang/IllegalArgumentException" ["java/lang/RuntimeException", "java/lang/Exception"]).filter goodWord, (vx_atS RX6 327 "java/lang/IllegalStateException" ["java/lang/RuntimeException", "java/lang/Exception"]).filter goodWord]
theorem seX6_pump : sgX6_pump.flatten = wsX6_pump := by simp only [sgX6_pump, wsX6_pump, List.flatten_cons, List.flatten_nil, List.append_assoc, List.append_nil, List.cons_append, List.nil_append]
set_option maxRecDepth 20000 in
theorem ggX6_pump_X6_sourceOf : GoodIn wsX6_pump wsX6_sourceOf := goodIn_ca (goodIn_s seX6_pump _ [pq_1_9, pq_1_10, pq_1_11, pq_1_12, pq_1_13, pq_1_14, pq_13_0, pq_13_1, pq_13_2, pq_13_3, pq_13_4, pq_13_5, pq_13_6, pq_13_7, pq_13_8, pq_13_9, pq_13_10, pq_13_11, pq_13_12, pq_13_13] (by rfl) (by decide +kernel)) (goodIn_sub (fun _ h => List.mem_cons_of_mem _ (List.mem_append_left _ (List.mem_append_left _ (List.mem_append_right _ h)))) (by decide +kernel))
set_option maxRecDepth 20000 in
theorem gX6_pump_X6_sourceOf : GoodIn wsX6_pump (wsV RX6 156 RX6 yX6_sourceOf wsX6_sourceOf) := goodIn_app (goodIn_s seX6_pump _ [pq_1_5, pq_1_6, pq_1_7, pq_1_8] (by rfl) (by decide +kernel)) ggX6_pump_X6_sourceOf
set_option maxRecDepth 20000 in
theorem ggX6_pump_X6_requireWithin : GoodIn wsX6_pump wsX6_requireWithin := goodIn_ca (goodIn_s seX6_pump _ [pq_1_17, pq_1_18, pq_1_19] (by rfl) (by decide +kernel)) (goodIn_sub (fun _ h => List.mem_cons_of_mem _ (List.mem_append_left _ (List.mem_append_right _ h))) (by decide +kernel))
set_option maxRecDepth 20000 in
theorem gX6_pump_X6_requireWithin : GoodIn wsX6_pump (va_wsS RX6 66 yX6_requireWithin wsX6_requireWithin) := goodIn_app (goodIn_s seX6_pump _ [pq_1_15, pq_1_16, pq_1_8] (by rfl) (by decide +kernel)) ggX6_pump_X6_requireWithin
set_option maxRecDepth 20000 in
theorem ggX6_pump_X2_size : GoodIn wsX6_pump wsX2_size := goodIn_s seX6_pump _ [pq_2_0, pq_2_1, pq_16_0, pq_16_1] (by rfl) (by decide +kernel)
set_option maxRecDepth 20000 in
theorem gX6_pump_X2_size : GoodIn wsX6_pump (wsV RX6 164 RX2 yX2_size wsX2_size) := goodIn_app (goodIn_s seX6_pump _ [pq_1_20, pq_1_21, pq_1_22, pq_1_23] (by rfl) (by decide +kernel)) ggX6_pump_X2_size
set_option maxRecDepth 20000 in
theorem gX6_pump_X2_size_u165X2 : GoodIn wsX6_pump (va_wsU RX6 165 RX2 "Sashwords$Text" ⟨"Sashwords$Text", "size", "()I"⟩ yX2_size wsX2_size) := goodIn_app (goodIn_s seX6_pump _ [pq_2_2, pq_2_3, pq_2_4, pq_1_21, pq_1_23] (by rfl) (by decide +kernel)) ggX6_pump_X2_size
set_option maxRecDepth 20000 in
theorem ggX6_pump_X5_size : GoodIn wsX6_pump wsX5_size := goodIn_s seX6_pump _ [pq_2_8, pq_2_9, pq_2_10, pq_17_0, pq_17_1, pq_17_2, pq_17_3, pq_17_4, pq_17_5] (by rfl) (by decide +kernel)
set_option maxRecDepth 20000 in
theorem gX6_pump_X5_size_u165X5 : GoodIn wsX6_pump (va_wsU RX6 165 RX5 "Sashwords$Text" ⟨"Sashwords$Text", "size", "()I"⟩ yX5_size wsX5_size) := goodIn_app (goodIn_s seX6_pump _ [pq_2_2, pq_2_3, pq_2_5, pq_2_6, pq_2_7] (by rfl) (by decide +kernel)) ggX6_pump_X5_size
set_option maxRecDepth 20000 in
theorem ggX6_pump_X6_requireRoom : GoodIn wsX6_pump wsX6_requireRoom := goodIn_ca (goodIn_s seX6_pump _ [pq_2_13, pq_2_14, pq_2_15] (by rfl) (by decide +kernel)) (goodIn_sub (fun _ h => List.mem_cons_of_mem _ (List.mem_append_right _ h)) (by decide +kernel))
set_option maxRecDepth 20000 in
theorem gX6_pump_X6_requireRoom : GoodIn wsX6_pump (va_wsS RX6 168 yX6_requireRoom wsX6_requireRoom) := goodIn_app (goodIn_s seX6_pump _ [pq_2_11, pq_2_12, pq_1_8] (by rfl) (by decide +kernel)) ggX6_pump_X6_requireRoom
set_option maxRecDepth 20000 in
theorem ggX6_pump_J4_init_da8c8 : GoodIn wsX6_pump wsJ4_init_da8c8 := goodIn_s seX6_pump _ [pq_2_18, pq_2_19, pq_2_20, pq_2_21, pq_2_22, pq_2_23, pq_3_0, pq_3_1, pq_3_2, pq_3_3, pq_3_4, pq_3_5, pq_3_6, pq_3_7, pq_3_8, pq_3_9, pq_3_10, pq_3_11, pq_3_12, pq_3_13, pq_15_0, pq_15_1, pq_15_2, pq_15_3] (by rfl) (by decide +kernel)
set_option maxRecDepth 20000 in
theorem gX6_pump_J4_init_da8c8 : GoodIn wsX6_pump (wsJ4_init_da8c8) := ggX6_pump_J4_init_da8c8
set_option maxRecDepth 20000 in
theorem ggX6_pump_X6_letIn : GoodIn wsX6_pump wsX6_letIn := goodIn_s seX6_pump _ [pq_3_17, pq_1_0, pq_2_2, pq_2_3, pq_2_4, pq_1_21, pq_1_23, pq_2_0, pq_2_1, pq_2_5, pq_2_6, pq_2_7, pq_2_8, pq_2_9, pq_2_10, pq_3_18, pq_3_19, pq_3_20, pq_3_21, pq_3_22, pq_3_23, pq_4_0, pq_4_1, pq_4_2, pq_4_3, pq_4_4, pq_4_5, pq_4_6, pq_4_7, pq_4_8, pq_4_9, pq_4_10, pq_4_11, pq_4_12, pq_4_13, pq_4_14, pq_4_15, pq_4_16, pq_4_17, pq_1_22, pq_4_18, pq_4_19, pq_4_20, pq_4_21, pq_4_22, pq_4_23, pq_5_0, pq_5_1, pq_13_0, pq_13_1, pq_13_2, pq_13_3, pq_13_4, pq_13_5, pq_13_6, pq_13_7, pq_13_8, pq_13_9, pq_13_10, pq_13_11, pq_13_12, pq_13_13, pq_16_0, pq_16_1, pq_17_0, pq_17_1, pq_17_2, pq_17_3, pq_17_4, pq_17_5, pq_14_0, pq_14_1, pq_14_2, pq_14_3] (by rfl) (by decide +kernel)
set_option maxRecDepth 20000 in
theorem gX6_pump_X6_letIn : GoodIn wsX6_pump (wsV RX6 199 RX6 yX6_letIn wsX6_letIn) := goodIn_app (goodIn_s seX6_pump _ [pq_3_14, pq_3_15, pq_3_16, pq_1_8] (by rfl) (by decide +kernel)) ggX6_pump_X6_letIn
set_option maxRecDepth 20000 in
theorem ggX6_pump_X6_letOut : GoodIn wsX6_pump wsX6_letOut := goodIn_s seX6_pump _ [pq_5_5, pq_1_0, pq_1_20, pq_1_21, pq_1_22, pq_1_23, pq_2_0, pq_2_1, pq_5_6, pq_5_7, pq_5_8, pq_4_12, pq_5_9, pq_4_14, pq_5_10, pq_5_11, pq_5_12, pq_5_13, pq_5_14, pq_5_15, pq_5_16, pq_5_17, pq_5_18, pq_5_19, pq_3_21, pq_5_20, pq_3_22, pq_3_23, pq_5_21, pq_5_22, pq_5_23, pq_6_0, pq_4_22, pq_4_23, pq_5_0, pq_5_1, pq_6_1, pq_6_2, pq_6_3, pq_1_3, pq_6_4, pq_6_5, pq_6_6, pq_6_7, pq_6_8, pq_2_21, pq_6_9, pq_6_10, pq_3_4, pq_6_11, pq_6_12, pq_6_13, pq_6_14, pq_6_15, pq_3_5, pq_6_16, pq_6_17, pq_6_18, pq_6_19, pq_6_20, pq_6_21, pq_6_22, pq_6_23, pq_7_0, pq_7_1, pq_7_2, pq_7_3, pq_7_4, pq_7_5, pq_7_6, pq_7_7, pq_7_8, pq_7_9, pq_7_10, pq_7_11, pq_7_12, pq_7_13, pq_7_14, pq_7_15, pq_7_16, pq_3_3, pq_7_17, pq_7_18, pq_7_19, pq_7_20, pq_7_21, pq_7_22, pq_7_23, pq_8_0, pq_8_1, pq_8_2, pq_8_3, pq_8_4, pq_3_2, pq_8_5, pq_8_6, pq_8_7, pq_8_8, pq_8_9, pq_8_10, pq_8_11, pq_8_12, pq_8_13, pq_3_6, pq_3_7, pq_3_8, pq_3_9, pq_3_10, pq_3_11, pq_3_12, pq_3_13, pq_8_14, pq_8_15, pq_8_16, pq_8_17, pq_8_18, pq_8_19, pq_8_20, pq_8_21, pq_8_22, pq_8_23, pq_9_0, pq_9_1, pq_9_2, pq_9_3, pq_9_4, pq_9_5, pq_9_6, pq_9_7, pq_9_8, pq_9_9, pq_9_10, pq_9_11, pq_9_12, pq_9_13, pq_9_14, pq_9_15, pq_9_16, pq_9_17, pq_9_18, pq_9_19, pq_9_20, pq_9_21, pq_9_22, pq_9_23, pq_10_0, pq_10_1, pq_10_2, pq_10_3, pq_10_4, pq_13_0, pq_13_1, pq_13_2, pq_13_3, pq_13_4, pq_13_5, pq_13_6, pq_13_7, pq_13_8, pq_13_9, pq_13_10, pq_13_11, pq_13_12, pq_13_13, pq_14_0, pq_14_1, pq_14_2, pq_14_3, pq_16_0, pq_16_1, pq_15_0, pq_15_1, pq_15_2, pq_15_3] (by rfl) (by decide +kernel)
set_option maxRecDepth 20000 in
theorem gX6_pump_X6_letOut : GoodIn wsX6_pump (wsV RX6 192 RX6 yX6_letOut wsX6_letOut) := goodIn_app (goodIn_s seX6_pump _ [pq_5_2, pq_5_3, pq_5_4, pq_1_8] (by rfl) (by decide +kernel)) ggX6_pump_X6_letOut
set_option maxRecDepth 20000 in
theorem ggX6_pump_J4_toString_0e30d : GoodIn wsX6_pump wsJ4_toString_0e30d := goodIn_s seX6_pump _ [pq_10_8, pq_10_9, pq_10_10, pq_9_4, pq_10_11, pq_10_12, pq_10_13, pq_10_14, pq_10_15, pq_10_16, pq_10_17, pq_3_0, pq_3_1, pq_10_18, pq_10_19, pq_10_20, pq_10_21, pq_10_22, pq_10_23, pq_11_0, pq_11_1, pq_2_21, pq_11_2, pq_3_4, pq_11_3, pq_11_4, pq_11_5, pq_11_6, pq_11_7, pq_1_3, pq_11_8, pq_11_9, pq_6_7, pq_11_10, pq_11_11, pq_6_10, pq_11_12, pq_8_1, pq_8_2, pq_8_3, pq_8_4, pq_3_2, pq_3_5, pq_11_13, pq_11_14, pq_7_9, pq_11_15, pq_7_11, pq_7_12, pq_7_13, pq_7_14, pq_7_15, pq_7_16, pq_11_16, pq_11_17, pq_11_18, pq_3_3, pq_7_17, pq_7_18, pq_5_17, pq_7_19, pq_7_20, pq_7_21, pq_7_22, pq_7_23, pq_11_19, pq_11_20, pq_11_21, pq_11_22, pq_1_2, pq_11_23, pq_12_0, pq_3_8, pq_12_1, pq_12_2, pq_12_3, pq_12_4, pq_8_20, pq_8_21, pq_8_22, pq_8_23, pq_9_0, pq_9_1, pq_9_2, pq_9_3, pq_9_5, pq_9_6, pq_9_7, pq_9_8, pq_9_9, pq_9_10, pq_12_5, pq_12_6, pq_12_7, pq_9_14, pq_9_15, pq_9_16, pq_3_10, pq_3_11, pq_3_12, pq_3_13, pq_12_8, pq_12_9, pq_12_10, pq_12_11, pq_18_0, pq_18_1, pq_18_2, pq_18_3, pq_15_0, pq_15_1, pq_15_2, pq_15_3] (by rfl) (by decide +kernel)
set_option maxRecDepth 20000 in
theorem gX6_pump_J4_toString_0e30d : GoodIn wsX6_pump (wsV RX6 120 RJ4 yJ4_toString_0e30d wsJ4_toString_0e30d) := goodIn_app (goodIn_s seX6_pump _ [pq_10_5, pq_10_6, pq_10_7, pq_1_3] (by rfl) (by decide +kernel)) ggX6_pump_J4_toString_0e30d
set_option maxRecDepth 20000 in
theorem ggX6_pump_X6_done_ : GoodIn wsX6_pump wsX6_done_ := goodIn_s seX6_pump _ [pq_12_15, pq_12_16, pq_13_0, pq_13_1, pq_13_2, pq_13_3, pq_13_4, pq_13_5, pq_13_6, pq_13_7, pq_13_8, pq_13_9, pq_13_10, pq_13_11, pq_13_12, pq_13_13] (by rfl) (by decide +kernel)
set_option maxRecDepth 20000 in
theorem gX6_pump_X6_done_ : GoodIn wsX6_pump (wsV RX6 124 RX6 yX6_done_ wsX6_done_) := goodIn_app (goodIn_s seX6_pump _ [pq_12_12, pq_12_13, pq_12_14, pq_1_8] (by rfl) (by decide +kernel)) ggX6_pump_X6_done_
def lb_sgX6_pump : List (List UInt8) := [[42, 27, 182, 0, 156, 58, 4, 28, 4, 16, 8, 184, 0, 66, 29, 4], [16, 8, 184, 0, 66, 42, 180, 0, 30, 180, 0, 196, 182, 0, 164, 25], [4, 182, 0, 165, 96, 17, 0, 160, 184, 0, 168, 187, 0, 113, 89, 183], [0, 115, 58, 5, 3, 54, 6, 25, 4, 182, 0, 165, 42, 180, 0, 30], [180, 0, 183, 182, 0, 164, 96, 54, 7, 21, 7, 158, 0, 66, 21, 6], [25, 4, 182, 0, 165, 161, 0, 19, 42, 180, 0, 30, 180, 0, 183, 182], [0, 164, 154, 0, 6, 167, 0, 40, 21, 6, 42, 25, 4, 21, 6, 28], [182, 0, 199, 96, 54, 6, 42, 29, 25, 5, 182, 0, 192, 42, 89, 180], [0, 203, 4, 96, 181, 0, 203, 132, 7, 255, 167, 255, 191, 42, 25, 5], [182, 0, 120, 182, 0, 124, 176]]
set_option maxRecDepth 100000 in
theorem lb_seX6_pump : cX6_pump.data.toList = lb_sgX6_pump.flatten := by decide +kernel
theorem lb_lnX6_pump : ∀ s ∈ lb_sgX6_pump.dropLast, s.length = 16 := by decide +kernel
theorem lxX6_pump (k j : Nat) {b : UInt8} (h : (lb_sgX6_pump[k]?).bind (fun s => s[j]?) = some b) : lb_at cX6_pump (16 * k + j) b := by
  unfold lb_at
  rw [lb_seX6_pump]
  exact lb_flat 16 lb_sgX6_pump k j b lb_lnX6_pump h
set_option maxRecDepth 20000 in
theorem dX6_pump_0 : decode cX6_pump 0 = .ok (.aload_n 0, 1) := dc_42 (lxX6_pump 0 0 rfl)
set_option maxRecDepth 20000 in
theorem dX6_pump_1 : decode cX6_pump 1 = .ok (.iload_n 1, 1) := dc_27 (lxX6_pump 0 1 rfl)
set_option maxRecDepth 20000 in
theorem dX6_pump_2 : decode cX6_pump 2 = .ok (.invokevirtual 156, 3) := dc_182 0 156 (lxX6_pump 0 2 rfl) (lxX6_pump 0 3 rfl) (lxX6_pump 0 4 rfl)
set_option maxRecDepth 20000 in
theorem dX6_pump_5 : decode cX6_pump 5 = .ok (.astore 4, 2) := dc_58 4 (lxX6_pump 0 5 rfl) (lxX6_pump 0 6 rfl)
set_option maxRecDepth 20000 in
theorem dX6_pump_7 : decode cX6_pump 7 = .ok (.iload_n 2, 1) := dc_28 (lxX6_pump 0 7 rfl)
set_option maxRecDepth 20000 in
theorem dX6_pump_8 : decode cX6_pump 8 = .ok (.iconst 1, 1) := dc_4 (lxX6_pump 0 8 rfl)
set_option maxRecDepth 20000 in
theorem dX6_pump_9 : decode cX6_pump 9 = .ok (.bipush 8, 2) := dc_16 8 (lxX6_pump 0 9 rfl) (lxX6_pump 0 10 rfl)
set_option maxRecDepth 20000 in
theorem dX6_pump_11 : decode cX6_pump 11 = .ok (.invokestatic 66, 3) := dc_184 0 66 (lxX6_pump 0 11 rfl) (lxX6_pump 0 12 rfl) (lxX6_pump 0 13 rfl)
set_option maxRecDepth 20000 in
theorem dX6_pump_14 : decode cX6_pump 14 = .ok (.iload_n 3, 1) := dc_29 (lxX6_pump 0 14 rfl)
set_option maxRecDepth 20000 in
theorem dX6_pump_15 : decode cX6_pump 15 = .ok (.iconst 1, 1) := dc_4 (lxX6_pump 0 15 rfl)
set_option maxRecDepth 20000 in
theorem dX6_pump_16 : decode cX6_pump 16 = .ok (.bipush 8, 2) := dc_16 8 (lxX6_pump 1 0 rfl) (lxX6_pump 1 1 rfl)
set_option maxRecDepth 20000 in
theorem dX6_pump_18 : decode cX6_pump 18 = .ok (.invokestatic 66, 3) := dc_184 0 66 (lxX6_pump 1 2 rfl) (lxX6_pump 1 3 rfl) (lxX6_pump 1 4 rfl)
set_option maxRecDepth 20000 in
theorem dX6_pump_21 : decode cX6_pump 21 = .ok (.aload_n 0, 1) := dc_42 (lxX6_pump 1 5 rfl)
set_option maxRecDepth 20000 in
theorem dX6_pump_22 : decode cX6_pump 22 = .ok (.getfield 30, 3) := dc_180 0 30 (lxX6_pump 1 6 rfl) (lxX6_pump 1 7 rfl) (lxX6_pump 1 8 rfl)
set_option maxRecDepth 20000 in
theorem dX6_pump_25 : decode cX6_pump 25 = .ok (.getfield 196, 3) := dc_180 0 196 (lxX6_pump 1 9 rfl) (lxX6_pump 1 10 rfl) (lxX6_pump 1 11 rfl)
set_option maxRecDepth 20000 in
theorem dX6_pump_28 : decode cX6_pump 28 = .ok (.invokevirtual 164, 3) := dc_182 0 164 (lxX6_pump 1 12 rfl) (lxX6_pump 1 13 rfl) (lxX6_pump 1 14 rfl)
set_option maxRecDepth 20000 in
theorem dX6_pump_31 : decode cX6_pump 31 = .ok (.aload 4, 2) := dc_25 4 (lxX6_pump 1 15 rfl) (lxX6_pump 2 0 rfl)
set_option maxRecDepth 20000 in
theorem dX6_pump_33 : decode cX6_pump 33 = .ok (.invokevirtual 165, 3) := dc_182 0 165 (lxX6_pump 2 1 rfl) (lxX6_pump 2 2 rfl) (lxX6_pump 2 3 rfl)
set_option maxRecDepth 20000 in
theorem dX6_pump_36 : decode cX6_pump 36 = .ok (.iadd, 1) := dc_96 (lxX6_pump 2 4 rfl)
set_option maxRecDepth 20000 in
theorem dX6_pump_37 : decode cX6_pump 37 = .ok (.sipush 160, 3) := dc_17 0 160 (lxX6_pump 2 5 rfl) (lxX6_pump 2 6 rfl) (lxX6_pump 2 7 rfl)
set_option maxRecDepth 20000 in
theorem dX6_pump_40 : decode cX6_pump 40 = .ok (.invokestatic 168, 3) := dc_184 0 168 (lxX6_pump 2 8 rfl) (lxX6_pump 2 9 rfl) (lxX6_pump 2 10 rfl)
set_option maxRecDepth 20000 in
theorem dX6_pump_43 : decode cX6_pump 43 = .ok (.new 113, 3) := dc_187 0 113 (lxX6_pump 2 11 rfl) (lxX6_pump 2 12 rfl) (lxX6_pump 2 13 rfl)
set_option maxRecDepth 20000 in
theorem dX6_pump_46 : decode cX6_pump 46 = .ok (.dup, 1) := dc_89 (lxX6_pump 2 14 rfl)
set_option maxRecDepth 20000 in
theorem dX6_pump_47 : decode cX6_pump 47 = .ok (.invokespecial 115, 3) := dc_183 0 115 (lxX6_pump 2 15 rfl) (lxX6_pump 3 0 rfl) (lxX6_pump 3 1 rfl)
set_option maxRecDepth 20000 in
theorem dX6_pump_50 : decode cX6_pump 50 = .ok (.astore 5, 2) := dc_58 5 (lxX6_pump 3 2 rfl) (lxX6_pump 3 3 rfl)
set_option maxRecDepth 20000 in
theorem dX6_pump_52 : decode cX6_pump 52 = .ok (.iconst 0, 1) := dc_3 (lxX6_pump 3 4 rfl)
set_option maxRecDepth 20000 in
theorem dX6_pump_53 : decode cX6_pump 53 = .ok (.istore 6, 2) := dc_54 6 (lxX6_pump 3 5 rfl) (lxX6_pump 3 6 rfl)
set_option maxRecDepth 20000 in
theorem dX6_pump_55 : decode cX6_pump 55 = .ok (.aload 4, 2) := dc_25 4 (lxX6_pump 3 7 rfl) (lxX6_pump 3 8 rfl)
set_option maxRecDepth 20000 in
theorem dX6_pump_57 : decode cX6_pump 57 = .ok (.invokevirtual 165, 3) := dc_182 0 165 (lxX6_pump 3 9 rfl) (lxX6_pump 3 10 rfl) (lxX6_pump 3 11 rfl)
set_option maxRecDepth 20000 in
theorem dX6_pump_60 : decode cX6_pump 60 = .ok (.aload_n 0, 1) := dc_42 (lxX6_pump 3 12 rfl)
set_option maxRecDepth 20000 in
theorem dX6_pump_61 : decode cX6_pump 61 = .ok (.getfield 30, 3) := dc_180 0 30 (lxX6_pump 3 13 rfl) (lxX6_pump 3 14 rfl) (lxX6_pump 3 15 rfl)
set_option maxRecDepth 20000 in
theorem dX6_pump_64 : decode cX6_pump 64 = .ok (.getfield 183, 3) := dc_180 0 183 (lxX6_pump 4 0 rfl) (lxX6_pump 4 1 rfl) (lxX6_pump 4 2 rfl)
set_option maxRecDepth 20000 in
theorem dX6_pump_67 : decode cX6_pump 67 = .ok (.invokevirtual 164, 3) := dc_182 0 164 (lxX6_pump 4 3 rfl) (lxX6_pump 4 4 rfl) (lxX6_pump 4 5 rfl)
set_option maxRecDepth 20000 in
theorem dX6_pump_70 : decode cX6_pump 70 = .ok (.iadd, 1) := dc_96 (lxX6_pump 4 6 rfl)
set_option maxRecDepth 20000 in
theorem dX6_pump_71 : decode cX6_pump 71 = .ok (.istore 7, 2) := dc_54 7 (lxX6_pump 4 7 rfl) (lxX6_pump 4 8 rfl)
set_option maxRecDepth 20000 in
theorem dX6_pump_73 : decode cX6_pump 73 = .ok (.iload 7, 2) := dc_21 7 (lxX6_pump 4 9 rfl) (lxX6_pump 4 10 rfl)
set_option maxRecDepth 20000 in
theorem dX6_pump_75 : decode cX6_pump 75 = .ok (.ifCond .le 66, 3) := dc_158 0 66 (lxX6_pump 4 11 rfl) (lxX6_pump 4 12 rfl) (lxX6_pump 4 13 rfl)
set_option maxRecDepth 20000 in
theorem dX6_pump_78 : decode cX6_pump 78 = .ok (.iload 6, 2) := dc_21 6 (lxX6_pump 4 14 rfl) (lxX6_pump 4 15 rfl)
set_option maxRecDepth 20000 in
theorem dX6_pump_80 : decode cX6_pump 80 = .ok (.aload 4, 2) := dc_25 4 (lxX6_pump 5 0 rfl) (lxX6_pump 5 1 rfl)
set_option maxRecDepth 20000 in
theorem dX6_pump_82 : decode cX6_pump 82 = .ok (.invokevirtual 165, 3) := dc_182 0 165 (lxX6_pump 5 2 rfl) (lxX6_pump 5 3 rfl) (lxX6_pump 5 4 rfl)
set_option maxRecDepth 20000 in
theorem dX6_pump_85 : decode cX6_pump 85 = .ok (.if_icmp .lt 19, 3) := dc_161 0 19 (lxX6_pump 5 5 rfl) (lxX6_pump 5 6 rfl) (lxX6_pump 5 7 rfl)
set_option maxRecDepth 20000 in
theorem dX6_pump_88 : decode cX6_pump 88 = .ok (.aload_n 0, 1) := dc_42 (lxX6_pump 5 8 rfl)
set_option maxRecDepth 20000 in
theorem dX6_pump_89 : decode cX6_pump 89 = .ok (.getfield 30, 3) := dc_180 0 30 (lxX6_pump 5 9 rfl) (lxX6_pump 5 10 rfl) (lxX6_pump 5 11 rfl)
set_option maxRecDepth 20000 in
theorem dX6_pump_92 : decode cX6_pump 92 = .ok (.getfield 183, 3) := dc_180 0 183 (lxX6_pump 5 12 rfl) (lxX6_pump 5 13 rfl) (lxX6_pump 5 14 rfl)
set_option maxRecDepth 20000 in
theorem dX6_pump_95 : decode cX6_pump 95 = .ok (.invokevirtual 164, 3) := dc_182 0 164 (lxX6_pump 5 15 rfl) (lxX6_pump 6 0 rfl) (lxX6_pump 6 1 rfl)
set_option maxRecDepth 20000 in
theorem dX6_pump_98 : decode cX6_pump 98 = .ok (.ifCond .ne 6, 3) := dc_154 0 6 (lxX6_pump 6 2 rfl) (lxX6_pump 6 3 rfl) (lxX6_pump 6 4 rfl)
set_option maxRecDepth 20000 in
theorem dX6_pump_101 : decode cX6_pump 101 = .ok (.goto 40, 3) := dc_167 0 40 (lxX6_pump 6 5 rfl) (lxX6_pump 6 6 rfl) (lxX6_pump 6 7 rfl)
set_option maxRecDepth 20000 in
theorem dX6_pump_104 : decode cX6_pump 104 = .ok (.iload 6, 2) := dc_21 6 (lxX6_pump 6 8 rfl) (lxX6_pump 6 9 rfl)
set_option maxRecDepth 20000 in
theorem dX6_pump_106 : decode cX6_pump 106 = .ok (.aload_n 0, 1) := dc_42 (lxX6_pump 6 10 rfl)
set_option maxRecDepth 20000 in
theorem dX6_pump_107 : decode cX6_pump 107 = .ok (.aload 4, 2) := dc_25 4 (lxX6_pump 6 11 rfl) (lxX6_pump 6 12 rfl)
set_option maxRecDepth 20000 in
theorem dX6_pump_109 : decode cX6_pump 109 = .ok (.iload 6, 2) := dc_21 6 (lxX6_pump 6 13 rfl) (lxX6_pump 6 14 rfl)
set_option maxRecDepth 20000 in
theorem dX6_pump_111 : decode cX6_pump 111 = .ok (.iload_n 2, 1) := dc_28 (lxX6_pump 6 15 rfl)
set_option maxRecDepth 20000 in
theorem dX6_pump_112 : decode cX6_pump 112 = .ok (.invokevirtual 199, 3) := dc_182 0 199 (lxX6_pump 7 0 rfl) (lxX6_pump 7 1 rfl) (lxX6_pump 7 2 rfl)
set_option maxRecDepth 20000 in
theorem dX6_pump_115 : decode cX6_pump 115 = .ok (.iadd, 1) := dc_96 (lxX6_pump 7 3 rfl)
set_option maxRecDepth 20000 in
theorem dX6_pump_116 : decode cX6_pump 116 = .ok (.istore 6, 2) := dc_54 6 (lxX6_pump 7 4 rfl) (lxX6_pump 7 5 rfl)
set_option maxRecDepth 20000 in
theorem dX6_pump_118 : decode cX6_pump 118 = .ok (.aload_n 0, 1) := dc_42 (lxX6_pump 7 6 rfl)
set_option maxRecDepth 20000 in
theorem dX6_pump_119 : decode cX6_pump 119 = .ok (.iload_n 3, 1) := dc_29 (lxX6_pump 7 7 rfl)
set_option maxRecDepth 20000 in
theorem dX6_pump_120 : decode cX6_pump 120 = .ok (.aload 5, 2) := dc_25 5 (lxX6_pump 7 8 rfl) (lxX6_pump 7 9 rfl)
set_option maxRecDepth 20000 in
theorem dX6_pump_122 : decode cX6_pump 122 = .ok (.invokevirtual 192, 3) := dc_182 0 192 (lxX6_pump 7 10 rfl) (lxX6_pump 7 11 rfl) (lxX6_pump 7 12 rfl)
set_option maxRecDepth 20000 in
theorem dX6_pump_125 : decode cX6_pump 125 = .ok (.aload_n 0, 1) := dc_42 (lxX6_pump 7 13 rfl)
set_option maxRecDepth 20000 in
theorem dX6_pump_126 : decode cX6_pump 126 = .ok (.dup, 1) := dc_89 (lxX6_pump 7 14 rfl)
set_option maxRecDepth 20000 in
theorem dX6_pump_127 : decode cX6_pump 127 = .ok (.getfield 203, 3) := dc_180 0 203 (lxX6_pump 7 15 rfl) (lxX6_pump 8 0 rfl) (lxX6_pump 8 1 rfl)
set_option maxRecDepth 20000 in
theorem dX6_pump_130 : decode cX6_pump 130 = .ok (.iconst 1, 1) := dc_4 (lxX6_pump 8 2 rfl)
set_option maxRecDepth 20000 in
theorem dX6_pump_131 : decode cX6_pump 131 = .ok (.iadd, 1) := dc_96 (lxX6_pump 8 3 rfl)
set_option maxRecDepth 20000 in
theorem dX6_pump_132 : decode cX6_pump 132 = .ok (.putfield 203, 3) := dc_181 0 203 (lxX6_pump 8 4 rfl) (lxX6_pump 8 5 rfl) (lxX6_pump 8 6 rfl)
set_option maxRecDepth 20000 in
theorem dX6_pump_135 : decode cX6_pump 135 = .ok (.iinc 7 (-1), 3) := dc_132 7 255 (lxX6_pump 8 7 rfl) (lxX6_pump 8 8 rfl) (lxX6_pump 8 9 rfl)
set_option maxRecDepth 20000 in
theorem dX6_pump_138 : decode cX6_pump 138 = .ok (.goto (-65), 3) := dc_167 255 191 (lxX6_pump 8 10 rfl) (lxX6_pump 8 11 rfl) (lxX6_pump 8 12 rfl)
set_option maxRecDepth 20000 in
theorem dX6_pump_141 : decode cX6_pump 141 = .ok (.aload_n 0, 1) := dc_42 (lxX6_pump 8 13 rfl)
set_option maxRecDepth 20000 in
theorem dX6_pump_142 : decode cX6_pump 142 = .ok (.aload 5, 2) := dc_25 5 (lxX6_pump 8 14 rfl) (lxX6_pump 8 15 rfl)
set_option maxRecDepth 20000 in
theorem dX6_pump_144 : decode cX6_pump 144 = .ok (.invokevirtual 120, 3) := dc_182 0 120 (lxX6_pump 9 0 rfl) (lxX6_pump 9 1 rfl) (lxX6_pump 9 2 rfl)
set_option maxRecDepth 20000 in
theorem dX6_pump_147 : decode cX6_pump 147 = .ok (.invokevirtual 124, 3) := dc_182 0 124 (lxX6_pump 9 3 rfl) (lxX6_pump 9 4 rfl) (lxX6_pump 9 5 rfl)
set_option maxRecDepth 20000 in
theorem dX6_pump_150 : decode cX6_pump 150 = .ok (.areturn, 1) := dc_176 (lxX6_pump 9 6 rfl)
noncomputable def sgX6_left : List (List Cond) := [[.code yX6_left cX6_left 4 (some .int)], [.methodLink RX6 62 yX6_windowOf, .instanceMethod yX6_windowOf, .selects RX6 yX6_windowOf yX6_windowOf, .initialized RX6, .code yX6_windowOf cX6_windowOf 2 (some (.object "Sashwords$Window")), .classLink RX6 302 "java/lang/IndexOutOfBoundsException", .initialized "java/lang/IndexOutOfBoundsException", .fieldLink RX6 11 "Sashwords" "windows" "[LSashwords$Window;", .methodLink RX6 66 yX6_requireWithin, .static yX6_requireWithin, .code yX6_requireWithin cX6_requireWithin 3 none, .classLink RX6 313 "java/lang/IllegalArgumentException", .initialized "java/lang/IllegalArgumentException", .methodLink RX6 73 yX5_size, .instanceMethod yX5_size, .selects RX5 yX5_size yX5_size, .initialized RX5, .code yX5_size cX5_size 1 (some .int), .fieldLink RX5 25 "Sashwords$Window" "limit" "I", .fieldLink RX5 31 "Sashwords$Window" "position" "I"], wsX60, wsX50, (vx_atS RX6 306 "java/lang/IndexOutOfBoundsException" ["java/lang/RuntimeException", "java/lang/Exception"]).filter goodWord, (vx_atS RX6 317 "java/lang/IllegalArgumentException" ["java/lang/RuntimeException", "java/lang/Exception"]).filter goodWord]
theorem seX6_left : sgX6_left.flatten = wsX6_left := by simp only [sgX6_left, wsX6_left, List.flatten_cons, List.flatten_nil, List.append_assoc, List.append_nil, List.cons_append, List.nil_append]
set_option maxRecDepth 20000 in
theorem ggX6_left_X6_windowOf : GoodIn wsX6_left wsX6_windowOf := goodIn_ca (goodIn_s seX6_left _ [pq_1_4, pq_1_5, pq_1_6, pq_1_7, pq_2_0, pq_2_1, pq_2_2, pq_2_3, pq_2_4, pq_2_5, pq_2_6, pq_2_7, pq_2_8, pq_2_9, pq_2_10, pq_2_11, pq_2_12, pq_2_13] (by rfl) (by decide +kernel)) (goodIn_sub (fun _ h => List.mem_cons_of_mem _ (List.mem_append_left _ (List.mem_append_right _ h))) (by decide +kernel))
set_option maxRecDepth 20000 in
theorem gX6_left_X6_windowOf : GoodIn wsX6_left (wsV RX6 62 RX6 yX6_windowOf wsX6_windowOf) := goodIn_app (goodIn_s seX6_left _ [pq_1_0, pq_1_1, pq_1_2, pq_1_3] (by rfl) (by decide +kernel)) ggX6_left_X6_windowOf
set_option maxRecDepth 20000 in
theorem ggX6_left_X6_requireWithin : GoodIn wsX6_left wsX6_requireWithin := goodIn_ca (goodIn_s seX6_left _ [pq_1_10, pq_1_11, pq_1_12] (by rfl) (by decide +kernel)) (goodIn_sub (fun _ h => List.mem_cons_of_mem _ (List.mem_append_right _ h)) (by decide +kernel))
set_option maxRecDepth 20000 in
theorem gX6_left_X6_requireWithin : GoodIn wsX6_left (va_wsS RX6 66 yX6_requireWithin wsX6_requireWithin) := goodIn_app (goodIn_s seX6_left _ [pq_1_8, pq_1_9, pq_1_3] (by rfl) (by decide +kernel)) ggX6_left_X6_requireWithin
set_option maxRecDepth 20000 in
theorem ggX6_left_X5_size : GoodIn wsX6_left wsX5_size := goodIn_s seX6_left _ [pq_1_17, pq_1_18, pq_1_19, pq_3_0, pq_3_1, pq_3_2, pq_3_3, pq_3_4, pq_3_5] (by rfl) (by decide +kernel)
set_option maxRecDepth 20000 in
theorem gX6_left_X5_size : GoodIn wsX6_left (wsV RX6 73 RX5 yX5_size wsX5_size) := goodIn_app (goodIn_s seX6_left _ [pq_1_13, pq_1_14, pq_1_15, pq_1_16] (by rfl) (by decide +kernel)) ggX6_left_X5_size
def lb_sgX6_left : List (List UInt8) := [[42, 27, 182, 0, 62, 78, 28, 3, 4, 184, 0, 66, 45, 182, 0, 73], [172]]
set_option maxRecDepth 100000 in
theorem lb_seX6_left : cX6_left.data.toList = lb_sgX6_left.flatten := by decide +kernel
theorem lb_lnX6_left : ∀ s ∈ lb_sgX6_left.dropLast, s.length = 16 := by decide +kernel
theorem lxX6_left (k j : Nat) {b : UInt8} (h : (lb_sgX6_left[k]?).bind (fun s => s[j]?) = some b) : lb_at cX6_left (16 * k + j) b := by
  unfold lb_at
  rw [lb_seX6_left]
  exact lb_flat 16 lb_sgX6_left k j b lb_lnX6_left h
set_option maxRecDepth 20000 in
theorem dX6_left_0 : decode cX6_left 0 = .ok (.aload_n 0, 1) := dc_42 (lxX6_left 0 0 rfl)
set_option maxRecDepth 20000 in
theorem dX6_left_1 : decode cX6_left 1 = .ok (.iload_n 1, 1) := dc_27 (lxX6_left 0 1 rfl)
set_option maxRecDepth 20000 in
theorem dX6_left_2 : decode cX6_left 2 = .ok (.invokevirtual 62, 3) := dc_182 0 62 (lxX6_left 0 2 rfl) (lxX6_left 0 3 rfl) (lxX6_left 0 4 rfl)
set_option maxRecDepth 20000 in
theorem dX6_left_5 : decode cX6_left 5 = .ok (.astore_n 3, 1) := dc_78 (lxX6_left 0 5 rfl)
set_option maxRecDepth 20000 in
theorem dX6_left_6 : decode cX6_left 6 = .ok (.iload_n 2, 1) := dc_28 (lxX6_left 0 6 rfl)
set_option maxRecDepth 20000 in
theorem dX6_left_7 : decode cX6_left 7 = .ok (.iconst 0, 1) := dc_3 (lxX6_left 0 7 rfl)
set_option maxRecDepth 20000 in
theorem dX6_left_8 : decode cX6_left 8 = .ok (.iconst 1, 1) := dc_4 (lxX6_left 0 8 rfl)
set_option maxRecDepth 20000 in
theorem dX6_left_9 : decode cX6_left 9 = .ok (.invokestatic 66, 3) := dc_184 0 66 (lxX6_left 0 9 rfl) (lxX6_left 0 10 rfl) (lxX6_left 0 11 rfl)
set_option maxRecDepth 20000 in
theorem dX6_left_12 : decode cX6_left 12 = .ok (.aload_n 3, 1) := dc_45 (lxX6_left 0 12 rfl)
set_option maxRecDepth 20000 in
theorem dX6_left_13 : decode cX6_left 13 = .ok (.invokevirtual 73, 3) := dc_182 0 73 (lxX6_left 0 13 rfl) (lxX6_left 0 14 rfl) (lxX6_left 0 15 rfl)
set_option maxRecDepth 20000 in
theorem dX6_left_16 : decode cX6_left 16 = .ok (.ireturn, 1) := dc_172 (lxX6_left 1 0 rfl)
noncomputable def sgX6_position : List (List Cond) := [[.code yX6_position cX6_position 2 (some .int)], [.methodLink RX6 62 yX6_windowOf, .instanceMethod yX6_windowOf, .selects RX6 yX6_windowOf yX6_windowOf, .initialized RX6, .code yX6_windowOf cX6_windowOf 2 (some (.object "Sashwords$Window")), .classLink RX6 302 "java/lang/IndexOutOfBoundsException", .initialized "java/lang/IndexOutOfBoundsException", .fieldLink RX6 11 "Sashwords" "windows" "[LSashwords$Window;"], wsX50, wsX60, (vx_atS RX6 306 "java/lang/IndexOutOfBoundsException" ["java/lang/RuntimeException", "java/lang/Exception"]).filter goodWord]
theorem seX6_position : sgX6_position.flatten = wsX6_position := by simp only [sgX6_position, wsX6_position, List.flatten_cons, List.flatten_nil, List.append_assoc, List.append_nil, List.cons_append, List.nil_append]
set_option maxRecDepth 20000 in
theorem ggX6_position_X6_windowOf : GoodIn wsX6_position wsX6_windowOf := goodIn_ca (goodIn_s seX6_position _ [pq_1_4, pq_1_5, pq_1_6, pq_1_7, pq_3_0, pq_3_1, pq_3_2, pq_3_3, pq_3_4, pq_3_5, pq_3_6, pq_3_7, pq_3_8, pq_3_9, pq_3_10, pq_3_11, pq_3_12, pq_3_13] (by rfl) (by decide +kernel)) (goodIn_sub (fun _ h => List.mem_cons_of_mem _ (List.mem_append_right _ h)) (by decide +kernel))
set_option maxRecDepth 20000 in
theorem gX6_position_X6_windowOf : GoodIn wsX6_position (wsV RX6 62 RX6 yX6_windowOf wsX6_windowOf) := goodIn_app (goodIn_s seX6_position _ [pq_1_0, pq_1_1, pq_1_2, pq_1_3] (by rfl) (by decide +kernel)) ggX6_position_X6_windowOf
set_option maxRecDepth 20000 in
theorem dX6_position_0 : decode cX6_position 0 = .ok (.aload_n 0, 1) := dc_42 rfl
set_option maxRecDepth 20000 in
theorem dX6_position_1 : decode cX6_position 1 = .ok (.iload_n 1, 1) := dc_27 rfl
set_option maxRecDepth 20000 in
theorem dX6_position_2 : decode cX6_position 2 = .ok (.invokevirtual 62, 3) := dc_182 0 62 rfl rfl rfl
set_option maxRecDepth 20000 in
theorem dX6_position_5 : decode cX6_position 5 = .ok (.getfield 134, 3) := dc_180 0 134 rfl rfl rfl
set_option maxRecDepth 20000 in
theorem dX6_position_8 : decode cX6_position 8 = .ok (.ireturn, 1) := dc_172 rfl
noncomputable def sgX6_limit : List (List Cond) := [[.code yX6_limit cX6_limit 2 (some .int)], [.methodLink RX6 62 yX6_windowOf, .instanceMethod yX6_windowOf, .selects RX6 yX6_windowOf yX6_windowOf, .initialized RX6, .code yX6_windowOf cX6_windowOf 2 (some (.object "Sashwords$Window")), .classLink RX6 302 "java/lang/IndexOutOfBoundsException", .initialized "java/lang/IndexOutOfBoundsException", .fieldLink RX6 11 "Sashwords" "windows" "[LSashwords$Window;"], wsX50, wsX60, (vx_atS RX6 306 "java/lang/IndexOutOfBoundsException" ["java/lang/RuntimeException", "java/lang/Exception"]).filter goodWord]
theorem seX6_limit : sgX6_limit.flatten = wsX6_limit := by simp only [sgX6_limit, wsX6_limit, List.flatten_cons, List.flatten_nil, List.append_assoc, List.append_nil, List.cons_append, List.nil_append]
set_option maxRecDepth 20000 in
theorem ggX6_limit_X6_windowOf : GoodIn wsX6_limit wsX6_windowOf := goodIn_ca (goodIn_s seX6_limit _ [pq_1_4, pq_1_5, pq_1_6, pq_1_7, pq_3_0, pq_3_1, pq_3_2, pq_3_3, pq_3_4, pq_3_5, pq_3_6, pq_3_7, pq_3_8, pq_3_9, pq_3_10, pq_3_11, pq_3_12, pq_3_13] (by rfl) (by decide +kernel)) (goodIn_sub (fun _ h => List.mem_cons_of_mem _ (List.mem_append_right _ h)) (by decide +kernel))
set_option maxRecDepth 20000 in
theorem gX6_limit_X6_windowOf : GoodIn wsX6_limit (wsV RX6 62 RX6 yX6_windowOf wsX6_windowOf) := goodIn_app (goodIn_s seX6_limit _ [pq_1_0, pq_1_1, pq_1_2, pq_1_3] (by rfl) (by decide +kernel)) ggX6_limit_X6_windowOf
set_option maxRecDepth 20000 in
theorem dX6_limit_0 : decode cX6_limit 0 = .ok (.aload_n 0, 1) := dc_42 rfl
set_option maxRecDepth 20000 in
theorem dX6_limit_1 : decode cX6_limit 1 = .ok (.iload_n 1, 1) := dc_27 rfl
set_option maxRecDepth 20000 in
theorem dX6_limit_2 : decode cX6_limit 2 = .ok (.invokevirtual 62, 3) := dc_182 0 62 rfl rfl rfl
set_option maxRecDepth 20000 in
theorem dX6_limit_5 : decode cX6_limit 5 = .ok (.getfield 144, 3) := dc_180 0 144 rfl rfl rfl
set_option maxRecDepth 20000 in
theorem dX6_limit_8 : decode cX6_limit 8 = .ok (.ireturn, 1) := dc_172 rfl
noncomputable def sgX6_capacity : List (List Cond) := [[.code yX6_capacity cX6_capacity 2 (some .int)], [.methodLink RX6 62 yX6_windowOf, .instanceMethod yX6_windowOf, .selects RX6 yX6_windowOf yX6_windowOf, .initialized RX6, .code yX6_windowOf cX6_windowOf 2 (some (.object "Sashwords$Window")), .classLink RX6 302 "java/lang/IndexOutOfBoundsException", .initialized "java/lang/IndexOutOfBoundsException", .fieldLink RX6 11 "Sashwords" "windows" "[LSashwords$Window;"], wsX50, wsX60, (vx_atS RX6 306 "java/lang/IndexOutOfBoundsException" ["java/lang/RuntimeException", "java/lang/Exception"]).filter goodWord]
theorem seX6_capacity : sgX6_capacity.flatten = wsX6_capacity := by simp only [sgX6_capacity, wsX6_capacity, List.flatten_cons, List.flatten_nil, List.append_assoc, List.append_nil, List.cons_append, List.nil_append]
set_option maxRecDepth 20000 in
theorem ggX6_capacity_X6_windowOf : GoodIn wsX6_capacity wsX6_windowOf := goodIn_ca (goodIn_s seX6_capacity _ [pq_1_4, pq_1_5, pq_1_6, pq_1_7, pq_3_0, pq_3_1, pq_3_2, pq_3_3, pq_3_4, pq_3_5, pq_3_6, pq_3_7, pq_3_8, pq_3_9, pq_3_10, pq_3_11, pq_3_12, pq_3_13] (by rfl) (by decide +kernel)) (goodIn_sub (fun _ h => List.mem_cons_of_mem _ (List.mem_append_right _ h)) (by decide +kernel))
set_option maxRecDepth 20000 in
theorem gX6_capacity_X6_windowOf : GoodIn wsX6_capacity (wsV RX6 62 RX6 yX6_windowOf wsX6_windowOf) := goodIn_app (goodIn_s seX6_capacity _ [pq_1_0, pq_1_1, pq_1_2, pq_1_3] (by rfl) (by decide +kernel)) ggX6_capacity_X6_windowOf
set_option maxRecDepth 20000 in
theorem dX6_capacity_0 : decode cX6_capacity 0 = .ok (.aload_n 0, 1) := dc_42 rfl
set_option maxRecDepth 20000 in
theorem dX6_capacity_1 : decode cX6_capacity 1 = .ok (.iload_n 1, 1) := dc_27 rfl
set_option maxRecDepth 20000 in
theorem dX6_capacity_2 : decode cX6_capacity 2 = .ok (.invokevirtual 62, 3) := dc_182 0 62 rfl rfl rfl
set_option maxRecDepth 20000 in
theorem dX6_capacity_5 : decode cX6_capacity 5 = .ok (.getfield 153, 3) := dc_180 0 153 rfl rfl rfl
set_option maxRecDepth 20000 in
theorem dX6_capacity_8 : decode cX6_capacity 8 = .ok (.ireturn, 1) := dc_172 rfl
noncomputable def sgX6_marked : List (List Cond) := [[.code yX6_marked cX6_marked 2 (some .int)], [.methodLink RX6 62 yX6_windowOf, .instanceMethod yX6_windowOf, .selects RX6 yX6_windowOf yX6_windowOf, .initialized RX6, .code yX6_windowOf cX6_windowOf 2 (some (.object "Sashwords$Window")), .classLink RX6 302 "java/lang/IndexOutOfBoundsException", .initialized "java/lang/IndexOutOfBoundsException", .fieldLink RX6 11 "Sashwords" "windows" "[LSashwords$Window;"], wsX50, wsX60, (vx_atS RX6 306 "java/lang/IndexOutOfBoundsException" ["java/lang/RuntimeException", "java/lang/Exception"]).filter goodWord]
theorem seX6_marked : sgX6_marked.flatten = wsX6_marked := by simp only [sgX6_marked, wsX6_marked, List.flatten_cons, List.flatten_nil, List.append_assoc, List.append_nil, List.cons_append, List.nil_append]
set_option maxRecDepth 20000 in
theorem ggX6_marked_X6_windowOf : GoodIn wsX6_marked wsX6_windowOf := goodIn_ca (goodIn_s seX6_marked _ [pq_1_4, pq_1_5, pq_1_6, pq_1_7, pq_3_0, pq_3_1, pq_3_2, pq_3_3, pq_3_4, pq_3_5, pq_3_6, pq_3_7, pq_3_8, pq_3_9, pq_3_10, pq_3_11, pq_3_12, pq_3_13] (by rfl) (by decide +kernel)) (goodIn_sub (fun _ h => List.mem_cons_of_mem _ (List.mem_append_right _ h)) (by decide +kernel))
set_option maxRecDepth 20000 in
theorem gX6_marked_X6_windowOf : GoodIn wsX6_marked (wsV RX6 62 RX6 yX6_windowOf wsX6_windowOf) := goodIn_app (goodIn_s seX6_marked _ [pq_1_0, pq_1_1, pq_1_2, pq_1_3] (by rfl) (by decide +kernel)) ggX6_marked_X6_windowOf
set_option maxRecDepth 20000 in
theorem dX6_marked_0 : decode cX6_marked 0 = .ok (.aload_n 0, 1) := dc_42 rfl
set_option maxRecDepth 20000 in
theorem dX6_marked_1 : decode cX6_marked 1 = .ok (.iload_n 1, 1) := dc_27 rfl
set_option maxRecDepth 20000 in
theorem dX6_marked_2 : decode cX6_marked 2 = .ok (.invokevirtual 62, 3) := dc_182 0 62 rfl rfl rfl
set_option maxRecDepth 20000 in
theorem dX6_marked_5 : decode cX6_marked 5 = .ok (.getfield 138, 3) := dc_180 0 138 rfl rfl rfl
set_option maxRecDepth 20000 in
theorem dX6_marked_8 : decode cX6_marked 8 = .ok (.ireturn, 1) := dc_172 rfl
noncomputable def sgX6_sign : List (List Cond) := [[.code yX6_sign cX6_sign 3 (some .int)], [.methodLink RX6 62 yX6_windowOf, .instanceMethod yX6_windowOf, .selects RX6 yX6_windowOf yX6_windowOf, .initialized RX6, .code yX6_windowOf cX6_windowOf 2 (some (.object "Sashwords$Window")), .classLink RX6 302 "java/lang/IndexOutOfBoundsException", .initialized "java/lang/IndexOutOfBoundsException", .fieldLink RX6 11 "Sashwords" "windows" "[LSashwords$Window;", .methodLink RX6 206 yX5_at, .instanceMethod yX5_at, .selects RX5 yX5_at yX5_at, .initialized RX5, .code yX5_at cX5_at 2 (some .int), .fieldLink RX5 25 "Sashwords$Window" "limit" "I", .fieldLink RX5 31 "Sashwords$Window" "position" "I", .methodLink RX5 34 yX5_atPlace, .instanceMethod yX5_atPlace, .selects RX5 yX5_atPlace yX5_atPlace, .code yX5_atPlace cX5_atPlace 3 (some .int), .fieldLink RX5 38 "Sashwords$Window" "start" "I", .fieldLink RX5 15 "Sashwords$Window" "row" "[C"], wsX60, wsX50, (vx_atS RX6 306 "java/lang/IndexOutOfBoundsException" ["java/lang/RuntimeException", "java/lang/Exception"]).filter goodWord]
theorem seX6_sign : sgX6_sign.flatten = wsX6_sign := by simp only [sgX6_sign, wsX6_sign, List.flatten_cons, List.flatten_nil, List.append_assoc, List.append_nil, List.cons_append, List.nil_append]
set_option maxRecDepth 20000 in
theorem ggX6_sign_X6_windowOf : GoodIn wsX6_sign wsX6_windowOf := goodIn_ca (goodIn_s seX6_sign _ [pq_1_4, pq_1_5, pq_1_6, pq_1_7, pq_2_0, pq_2_1, pq_2_2, pq_2_3, pq_2_4, pq_2_5, pq_2_6, pq_2_7, pq_2_8, pq_2_9, pq_2_10, pq_2_11, pq_2_12, pq_2_13] (by rfl) (by decide +kernel)) (goodIn_sub (fun _ h => List.mem_cons_of_mem _ (List.mem_append_right _ h)) (by decide +kernel))
set_option maxRecDepth 20000 in
theorem gX6_sign_X6_windowOf : GoodIn wsX6_sign (wsV RX6 62 RX6 yX6_windowOf wsX6_windowOf) := goodIn_app (goodIn_s seX6_sign _ [pq_1_0, pq_1_1, pq_1_2, pq_1_3] (by rfl) (by decide +kernel)) ggX6_sign_X6_windowOf
set_option maxRecDepth 20000 in
theorem ggX6_sign_X5_at : GoodIn wsX6_sign wsX5_at := goodIn_s seX6_sign _ [pq_1_12, pq_1_13, pq_1_14, pq_1_15, pq_1_16, pq_1_17, pq_1_11, pq_1_18, pq_1_19, pq_1_20, pq_3_0, pq_3_1, pq_3_2, pq_3_3, pq_3_4, pq_3_5] (by rfl) (by decide +kernel)
set_option maxRecDepth 20000 in
theorem gX6_sign_X5_at : GoodIn wsX6_sign (wsV RX6 206 RX5 yX5_at wsX5_at) := goodIn_app (goodIn_s seX6_sign _ [pq_1_8, pq_1_9, pq_1_10, pq_1_11] (by rfl) (by decide +kernel)) ggX6_sign_X5_at
set_option maxRecDepth 20000 in
theorem dX6_sign_0 : decode cX6_sign 0 = .ok (.aload_n 0, 1) := dc_42 rfl
set_option maxRecDepth 20000 in
theorem dX6_sign_1 : decode cX6_sign 1 = .ok (.iload_n 1, 1) := dc_27 rfl
set_option maxRecDepth 20000 in
theorem dX6_sign_2 : decode cX6_sign 2 = .ok (.invokevirtual 62, 3) := dc_182 0 62 rfl rfl rfl
set_option maxRecDepth 20000 in
theorem dX6_sign_5 : decode cX6_sign 5 = .ok (.iload_n 2, 1) := dc_28 rfl
set_option maxRecDepth 20000 in
theorem dX6_sign_6 : decode cX6_sign 6 = .ok (.invokevirtual 206, 3) := dc_182 0 206 rfl rfl rfl
set_option maxRecDepth 20000 in
theorem dX6_sign_9 : decode cX6_sign 9 = .ok (.ireturn, 1) := dc_172 rfl
noncomputable def sgX6_look : List (List Cond) := [[.code yX6_look cX6_look 3 (some .int)], [.methodLink RX6 62 yX6_windowOf, .instanceMethod yX6_windowOf, .selects RX6 yX6_windowOf yX6_windowOf, .initialized RX6, .code yX6_windowOf cX6_windowOf 2 (some (.object "Sashwords$Window")), .classLink RX6 302 "java/lang/IndexOutOfBoundsException", .initialized "java/lang/IndexOutOfBoundsException", .fieldLink RX6 11 "Sashwords" "windows" "[LSashwords$Window;", .methodLink RX6 209 yX5_atPlace, .instanceMethod yX5_atPlace, .selects RX5 yX5_atPlace yX5_atPlace, .initialized RX5, .code yX5_atPlace cX5_atPlace 3 (some .int), .fieldLink RX5 25 "Sashwords$Window" "limit" "I", .fieldLink RX5 38 "Sashwords$Window" "start" "I", .fieldLink RX5 15 "Sashwords$Window" "row" "[C"], wsX60, wsX50, (vx_atS RX6 306 "java/lang/IndexOutOfBoundsException" ["java/lang/RuntimeException", "java/lang/Exception"]).filter goodWord]
theorem seX6_look : sgX6_look.flatten = wsX6_look := by simp only [sgX6_look, wsX6_look, List.flatten_cons, List.flatten_nil, List.append_assoc, List.append_nil, List.cons_append, List.nil_append]
set_option maxRecDepth 20000 in
theorem ggX6_look_X6_windowOf : GoodIn wsX6_look wsX6_windowOf := goodIn_ca (goodIn_s seX6_look _ [pq_1_4, pq_1_5, pq_1_6, pq_1_7, pq_2_0, pq_2_1, pq_2_2, pq_2_3, pq_2_4, pq_2_5, pq_2_6, pq_2_7, pq_2_8, pq_2_9, pq_2_10, pq_2_11, pq_2_12, pq_2_13] (by rfl) (by decide +kernel)) (goodIn_sub (fun _ h => List.mem_cons_of_mem _ (List.mem_append_right _ h)) (by decide +kernel))
set_option maxRecDepth 20000 in
theorem gX6_look_X6_windowOf : GoodIn wsX6_look (wsV RX6 62 RX6 yX6_windowOf wsX6_windowOf) := goodIn_app (goodIn_s seX6_look _ [pq_1_0, pq_1_1, pq_1_2, pq_1_3] (by rfl) (by decide +kernel)) ggX6_look_X6_windowOf
set_option maxRecDepth 20000 in
theorem ggX6_look_X5_atPlace : GoodIn wsX6_look wsX5_atPlace := goodIn_s seX6_look _ [pq_1_12, pq_1_13, pq_1_14, pq_1_15, pq_3_0, pq_3_1, pq_3_2, pq_3_3, pq_3_4, pq_3_5] (by rfl) (by decide +kernel)
set_option maxRecDepth 20000 in
theorem gX6_look_X5_atPlace : GoodIn wsX6_look (wsV RX6 209 RX5 yX5_atPlace wsX5_atPlace) := goodIn_app (goodIn_s seX6_look _ [pq_1_8, pq_1_9, pq_1_10, pq_1_11] (by rfl) (by decide +kernel)) ggX6_look_X5_atPlace
set_option maxRecDepth 20000 in
theorem dX6_look_0 : decode cX6_look 0 = .ok (.aload_n 0, 1) := dc_42 rfl
set_option maxRecDepth 20000 in
theorem dX6_look_1 : decode cX6_look 1 = .ok (.iload_n 1, 1) := dc_27 rfl
set_option maxRecDepth 20000 in
theorem dX6_look_2 : decode cX6_look 2 = .ok (.invokevirtual 62, 3) := dc_182 0 62 rfl rfl rfl
set_option maxRecDepth 20000 in
theorem dX6_look_5 : decode cX6_look 5 = .ok (.iload_n 2, 1) := dc_28 rfl
set_option maxRecDepth 20000 in
theorem dX6_look_6 : decode cX6_look 6 = .ok (.invokevirtual 209, 3) := dc_182 0 209 rfl rfl rfl
set_option maxRecDepth 20000 in
theorem dX6_look_9 : decode cX6_look 9 = .ok (.ireturn, 1) := dc_172 rfl
noncomputable def sgX6_text : List (List Cond) := [[.code yX6_text cX6_text 4 (some (.object "java/lang/String"))], wsX6_text_r1, wsX6_text_r2, wsX6_text_r3, wsX6_text_r4, wsX6_text_r5, wsX6_text_r6, wsX6_text_r7, wsX6_text_r8, wsX6_text_r9, wsX6_text_r10, wsX6_text_r11, wsX6_text_r12, wsX60, wsX50, wsX20, wsJ40, wsJ00, (vx_atS RX6 306 "java/lang/IndexOutOfBoundsException" ["java/lang/RuntimeException", "java/lang/Exception"]).filter goodWord, (vx_atS RX6 317 "java/lang/IllegalArgumentException" ["java/lang/RuntimeException", "java/lang/Exception"]).filter goodWord]
theorem seX6_text : sgX6_text.flatten = wsX6_text := by simp only [sgX6_text, wsX6_text, List.flatten_cons, List.flatten_nil, List.append_assoc, List.append_nil, List.cons_append, List.nil_append]
set_option maxRecDepth 20000 in
theorem ggX6_text_X6_windowOf : GoodIn wsX6_text wsX6_windowOf := goodIn_ca (goodIn_s seX6_text _ [pq_1_5, pq_1_6, pq_1_7, pq_1_8, pq_13_0, pq_13_1, pq_13_2, pq_13_3, pq_13_4, pq_13_5, pq_13_6, pq_13_7, pq_13_8, pq_13_9, pq_13_10, pq_13_11, pq_13_12, pq_13_13] (by rfl) (by decide +kernel)) (goodIn_sub (fun _ h => List.mem_cons_of_mem _ (List.mem_append_left _ (List.mem_append_right _ h))) (by decide +kernel))
set_option maxRecDepth 20000 in
theorem gX6_text_X6_windowOf : GoodIn wsX6_text (wsV RX6 62 RX6 yX6_windowOf wsX6_windowOf) := goodIn_app (goodIn_s seX6_text _ [pq_1_1, pq_1_2, pq_1_3, pq_1_4] (by rfl) (by decide +kernel)) ggX6_text_X6_windowOf
set_option maxRecDepth 20000 in
theorem ggX6_text_X6_requireWithin : GoodIn wsX6_text wsX6_requireWithin := goodIn_ca (goodIn_s seX6_text _ [pq_1_11, pq_1_12, pq_1_13] (by rfl) (by decide +kernel)) (goodIn_sub (fun _ h => List.mem_cons_of_mem _ (List.mem_append_right _ h)) (by decide +kernel))
set_option maxRecDepth 20000 in
theorem gX6_text_X6_requireWithin : GoodIn wsX6_text (va_wsS RX6 66 yX6_requireWithin wsX6_requireWithin) := goodIn_app (goodIn_s seX6_text _ [pq_1_9, pq_1_10, pq_1_4] (by rfl) (by decide +kernel)) ggX6_text_X6_requireWithin
set_option maxRecDepth 20000 in
theorem ggX6_text_X6_copyText : GoodIn wsX6_text wsX6_copyText := goodIn_s seX6_text _ [pq_1_17, pq_1_18, pq_1_19, pq_1_20, pq_1_21, pq_1_22, pq_1_23, pq_2_0, pq_2_1, pq_2_2, pq_2_3, pq_2_4, pq_2_5, pq_2_6, pq_2_7, pq_2_8, pq_2_9, pq_2_10, pq_2_11, pq_2_12, pq_2_13, pq_2_14, pq_2_15, pq_2_16, pq_2_17, pq_2_18, pq_2_19, pq_2_20, pq_2_21, pq_2_22, pq_2_23, pq_3_0, pq_3_1, pq_3_2, pq_3_3, pq_3_4, pq_3_5, pq_3_6, pq_3_7, pq_3_8, pq_3_9, pq_3_10, pq_3_11, pq_3_12, pq_3_13, pq_3_14, pq_3_15, pq_3_16, pq_3_17, pq_3_18, pq_3_19, pq_3_20, pq_3_21, pq_3_22, pq_3_23, pq_4_0, pq_4_1, pq_4_2, pq_4_3, pq_4_4, pq_4_5, pq_4_6, pq_4_7, pq_14_0, pq_14_1, pq_14_2, pq_14_3, pq_14_4, pq_14_5, pq_13_0, pq_13_1, pq_13_2, pq_13_3, pq_13_4, pq_13_5, pq_13_6, pq_13_7, pq_13_8, pq_13_9, pq_13_10, pq_13_11, pq_13_12, pq_13_13, pq_15_0, pq_15_1] (by rfl) (by decide +kernel)
set_option maxRecDepth 20000 in
theorem gX6_text_X6_copyText : GoodIn wsX6_text (wsV RX6 212 RX6 yX6_copyText wsX6_copyText) := goodIn_app (goodIn_s seX6_text _ [pq_1_14, pq_1_15, pq_1_16, pq_1_4] (by rfl) (by decide +kernel)) ggX6_text_X6_copyText
set_option maxRecDepth 20000 in
theorem ggX6_text_X6_spelled : GoodIn wsX6_text wsX6_spelled := goodIn_s seX6_text _ [pq_4_10, pq_4_11, pq_4_12, pq_4_13, pq_4_14, pq_4_15, pq_4_16, pq_4_17, pq_4_18, pq_4_19, pq_4_20, pq_4_21, pq_4_22, pq_4_23, pq_5_0, pq_5_1, pq_5_2, pq_5_3, pq_5_4, pq_5_5, pq_5_6, pq_5_7, pq_5_8, pq_5_9, pq_5_10, pq_5_11, pq_5_12, pq_2_6, pq_2_7, pq_2_8, pq_1_22, pq_2_9, pq_2_0, pq_2_10, pq_2_11, pq_2_12, pq_2_13, pq_2_14, pq_2_15, pq_5_13, pq_2_17, pq_2_18, pq_2_19, pq_2_20, pq_2_21, pq_2_22, pq_2_23, pq_3_0, pq_3_1, pq_3_2, pq_3_3, pq_3_4, pq_3_5, pq_3_6, pq_5_14, pq_5_15, pq_5_16, pq_5_17, pq_5_18, pq_5_19, pq_5_20, pq_5_21, pq_5_22, pq_5_23, pq_6_0, pq_6_1, pq_6_2, pq_6_3, pq_6_4, pq_6_5, pq_6_6, pq_6_7, pq_6_8, pq_6_9, pq_6_10, pq_6_11, pq_6_12, pq_6_13, pq_6_14, pq_6_15, pq_6_16, pq_6_17, pq_6_18, pq_6_19, pq_6_20, pq_6_21, pq_6_22, pq_6_23, pq_7_0, pq_7_1, pq_7_2, pq_7_3, pq_7_4, pq_7_5, pq_7_6, pq_7_7, pq_7_8, pq_7_9, pq_7_10, pq_7_11, pq_7_12, pq_7_13, pq_7_14, pq_7_15, pq_7_16, pq_7_17, pq_7_18, pq_7_19, pq_7_20, pq_7_21, pq_7_22, pq_7_23, pq_8_0, pq_8_1, pq_8_2, pq_8_3, pq_8_4, pq_8_5, pq_8_6, pq_8_7, pq_8_8, pq_8_9, pq_8_10, pq_8_11, pq_8_12, pq_8_13, pq_8_14, pq_8_15, pq_8_16, pq_8_17, pq_8_18, pq_8_19, pq_8_20, pq_8_21, pq_8_22, pq_8_23, pq_9_0, pq_9_1, pq_9_2, pq_9_3, pq_9_4, pq_9_5, pq_9_6, pq_9_7, pq_9_8, pq_9_9, pq_9_10, pq_9_11, pq_9_12, pq_9_13, pq_9_14, pq_9_15, pq_9_16, pq_9_17, pq_9_18, pq_9_19, pq_9_20, pq_9_21, pq_9_22, pq_9_23, pq_10_0, pq_10_1, pq_10_2, pq_10_3, pq_10_4, pq_10_5, pq_10_6, pq_10_7, pq_10_8, pq_10_9, pq_10_10, pq_10_11, pq_10_12, pq_10_13, pq_10_14, pq_10_15, pq_10_16, pq_10_17, pq_10_18, pq_10_19, pq_10_20, pq_10_21, pq_10_22, pq_10_23, pq_11_0, pq_11_1, pq_11_2, pq_11_3, pq_11_4, pq_11_5, pq_11_6, pq_11_7, pq_11_8, pq_11_9, pq_11_10, pq_11_11, pq_11_12, pq_11_13, pq_11_14, pq_11_15, pq_11_16, pq_11_17, pq_11_18, pq_11_19, pq_11_20, pq_11_21, pq_11_22, pq_11_23, pq_12_0, pq_12_1, pq_12_2, pq_12_3, pq_16_0, pq_16_1, pq_16_2, pq_16_3, pq_15_0, pq_15_1, pq_14_0, pq_14_1, pq_14_2, pq_14_3, pq_14_4, pq_14_5, pq_17_0, pq_17_1, pq_17_2, pq_17_3] (by rfl) (by decide +kernel)
set_option maxRecDepth 20000 in
theorem gX6_text_X6_spelled : GoodIn wsX6_text (va_wsS RX6 216 yX6_spelled wsX6_spelled) := goodIn_app (goodIn_s seX6_text _ [pq_4_8, pq_4_9, pq_1_4] (by rfl) (by decide +kernel)) ggX6_text_X6_spelled
def lb_sgX6_text : List (List UInt8) := [[42, 27, 182, 0, 62, 78, 28, 3, 6, 184, 0, 66, 42, 45, 28, 42], [180, 0, 39, 182, 0, 212, 42, 180, 0, 39, 184, 0, 216, 176]]
set_option maxRecDepth 100000 in
theorem lb_seX6_text : cX6_text.data.toList = lb_sgX6_text.flatten := by decide +kernel
theorem lb_lnX6_text : ∀ s ∈ lb_sgX6_text.dropLast, s.length = 16 := by decide +kernel
theorem lxX6_text (k j : Nat) {b : UInt8} (h : (lb_sgX6_text[k]?).bind (fun s => s[j]?) = some b) : lb_at cX6_text (16 * k + j) b := by
  unfold lb_at
  rw [lb_seX6_text]
  exact lb_flat 16 lb_sgX6_text k j b lb_lnX6_text h
set_option maxRecDepth 20000 in
theorem dX6_text_0 : decode cX6_text 0 = .ok (.aload_n 0, 1) := dc_42 (lxX6_text 0 0 rfl)
set_option maxRecDepth 20000 in
theorem dX6_text_1 : decode cX6_text 1 = .ok (.iload_n 1, 1) := dc_27 (lxX6_text 0 1 rfl)
set_option maxRecDepth 20000 in
theorem dX6_text_2 : decode cX6_text 2 = .ok (.invokevirtual 62, 3) := dc_182 0 62 (lxX6_text 0 2 rfl) (lxX6_text 0 3 rfl) (lxX6_text 0 4 rfl)
set_option maxRecDepth 20000 in
theorem dX6_text_5 : decode cX6_text 5 = .ok (.astore_n 3, 1) := dc_78 (lxX6_text 0 5 rfl)
set_option maxRecDepth 20000 in
theorem dX6_text_6 : decode cX6_text 6 = .ok (.iload_n 2, 1) := dc_28 (lxX6_text 0 6 rfl)
set_option maxRecDepth 20000 in
theorem dX6_text_7 : decode cX6_text 7 = .ok (.iconst 0, 1) := dc_3 (lxX6_text 0 7 rfl)
set_option maxRecDepth 20000 in
theorem dX6_text_8 : decode cX6_text 8 = .ok (.iconst 3, 1) := dc_6 (lxX6_text 0 8 rfl)
set_option maxRecDepth 20000 in
theorem dX6_text_9 : decode cX6_text 9 = .ok (.invokestatic 66, 3) := dc_184 0 66 (lxX6_text 0 9 rfl) (lxX6_text 0 10 rfl) (lxX6_text 0 11 rfl)
set_option maxRecDepth 20000 in
theorem dX6_text_12 : decode cX6_text 12 = .ok (.aload_n 0, 1) := dc_42 (lxX6_text 0 12 rfl)
set_option maxRecDepth 20000 in
theorem dX6_text_13 : decode cX6_text 13 = .ok (.aload_n 3, 1) := dc_45 (lxX6_text 0 13 rfl)
set_option maxRecDepth 20000 in
theorem dX6_text_14 : decode cX6_text 14 = .ok (.iload_n 2, 1) := dc_28 (lxX6_text 0 14 rfl)
set_option maxRecDepth 20000 in
theorem dX6_text_15 : decode cX6_text 15 = .ok (.aload_n 0, 1) := dc_42 (lxX6_text 0 15 rfl)
set_option maxRecDepth 20000 in
theorem dX6_text_16 : decode cX6_text 16 = .ok (.getfield 39, 3) := dc_180 0 39 (lxX6_text 1 0 rfl) (lxX6_text 1 1 rfl) (lxX6_text 1 2 rfl)
set_option maxRecDepth 20000 in
theorem dX6_text_19 : decode cX6_text 19 = .ok (.invokevirtual 212, 3) := dc_182 0 212 (lxX6_text 1 3 rfl) (lxX6_text 1 4 rfl) (lxX6_text 1 5 rfl)
set_option maxRecDepth 20000 in
theorem dX6_text_22 : decode cX6_text 22 = .ok (.aload_n 0, 1) := dc_42 (lxX6_text 1 6 rfl)
set_option maxRecDepth 20000 in
theorem dX6_text_23 : decode cX6_text 23 = .ok (.getfield 39, 3) := dc_180 0 39 (lxX6_text 1 7 rfl) (lxX6_text 1 8 rfl) (lxX6_text 1 9 rfl)
set_option maxRecDepth 20000 in
theorem dX6_text_26 : decode cX6_text 26 = .ok (.invokestatic 216, 3) := dc_184 0 216 (lxX6_text 1 10 rfl) (lxX6_text 1 11 rfl) (lxX6_text 1 12 rfl)
set_option maxRecDepth 20000 in
theorem dX6_text_29 : decode cX6_text 29 = .ok (.areturn, 1) := dc_176 (lxX6_text 1 13 rfl)
noncomputable def sgX6_inner : List (List Cond) := [[.code yX6_inner cX6_inner 8 (some (.object "java/lang/String"))], wsX6_inner_r1, wsX6_inner_r2, wsX6_inner_r3, wsX6_inner_r4, wsX6_inner_r5, wsX6_inner_r6, wsX6_inner_r7, wsX6_inner_r8, wsX6_inner_r9, wsX6_inner_r10, wsX6_inner_r11, wsX60, wsX50, wsJ40, wsX20, wsJ00, (vx_atS RX6 306 "java/lang/IndexOutOfBoundsException" ["java/lang/RuntimeException", "java/lang/Exception"]).filter goodWord, (vx_atS RX6 317 "java/lang/IllegalArgumentException" ["java/lang/RuntimeException", "java/lang/Exception"]).filter goodWord]
theorem seX6_inner : sgX6_inner.flatten = wsX6_inner := by simp only [sgX6_inner, wsX6_inner, List.flatten_cons, List.flatten_nil, List.append_assoc, List.append_nil, List.cons_append, List.nil_append]
set_option maxRecDepth 20000 in
theorem ggX6_inner_X6_windowOf : GoodIn wsX6_inner wsX6_windowOf := goodIn_ca (goodIn_s seX6_inner _ [pq_1_5, pq_1_6, pq_1_7, pq_1_8, pq_12_0, pq_12_1, pq_12_2, pq_12_3, pq_12_4, pq_12_5, pq_12_6, pq_12_7, pq_12_8, pq_12_9, pq_12_10, pq_12_11, pq_12_12, pq_12_13] (by rfl) (by decide +kernel)) (goodIn_sub (fun _ h => List.mem_cons_of_mem _ (List.mem_append_left _ (List.mem_append_right _ h))) (by decide +kernel))
set_option maxRecDepth 20000 in
theorem gX6_inner_X6_windowOf : GoodIn wsX6_inner (wsV RX6 62 RX6 yX6_windowOf wsX6_windowOf) := goodIn_app (goodIn_s seX6_inner _ [pq_1_1, pq_1_2, pq_1_3, pq_1_4] (by rfl) (by decide +kernel)) ggX6_inner_X6_windowOf
set_option maxRecDepth 20000 in
theorem ggX6_inner_X5_size : GoodIn wsX6_inner wsX5_size := goodIn_s seX6_inner _ [pq_1_13, pq_1_14, pq_1_15, pq_13_0, pq_13_1, pq_13_2, pq_13_3, pq_13_4, pq_13_5] (by rfl) (by decide +kernel)
set_option maxRecDepth 20000 in
theorem gX6_inner_X5_size : GoodIn wsX6_inner (wsV RX6 73 RX5 yX5_size wsX5_size) := goodIn_app (goodIn_s seX6_inner _ [pq_1_9, pq_1_10, pq_1_11, pq_1_12] (by rfl) (by decide +kernel)) ggX6_inner_X5_size
set_option maxRecDepth 20000 in
theorem ggX6_inner_X6_isStretch : GoodIn wsX6_inner wsX6_isStretch := goodIn_s seX6_inner _ [pq_1_18] (by rfl) (by decide +kernel)
set_option maxRecDepth 20000 in
theorem gX6_inner_X6_isStretch : GoodIn wsX6_inner (va_wsS RX6 88 yX6_isStretch wsX6_isStretch) := goodIn_app (goodIn_s seX6_inner _ [pq_1_16, pq_1_17, pq_1_4] (by rfl) (by decide +kernel)) ggX6_inner_X6_isStretch
set_option maxRecDepth 20000 in
theorem ggX6_inner_X6_require : GoodIn wsX6_inner wsX6_require := goodIn_ca (goodIn_s seX6_inner _ [pq_1_21, pq_1_22, pq_1_23] (by rfl) (by decide +kernel)) (goodIn_sub (fun _ h => List.mem_cons_of_mem _ (List.mem_append_right _ h)) (by decide +kernel))
set_option maxRecDepth 20000 in
theorem gX6_inner_X6_require : GoodIn wsX6_inner (va_wsS RX6 127 yX6_require wsX6_require) := goodIn_app (goodIn_s seX6_inner _ [pq_1_19, pq_1_20, pq_1_4] (by rfl) (by decide +kernel)) ggX6_inner_X6_require
set_option maxRecDepth 20000 in
theorem ggX6_inner_X6_requireWithin : GoodIn wsX6_inner wsX6_requireWithin := goodIn_ca (goodIn_s seX6_inner _ [pq_2_2, pq_1_22, pq_1_23] (by rfl) (by decide +kernel)) (goodIn_sub (fun _ h => List.mem_cons_of_mem _ (List.mem_append_right _ h)) (by decide +kernel))
set_option maxRecDepth 20000 in
theorem gX6_inner_X6_requireWithin : GoodIn wsX6_inner (va_wsS RX6 66 yX6_requireWithin wsX6_requireWithin) := goodIn_app (goodIn_s seX6_inner _ [pq_2_0, pq_2_1, pq_1_4] (by rfl) (by decide +kernel)) ggX6_inner_X6_requireWithin
set_option maxRecDepth 20000 in
theorem ggX6_inner_X5_becomePart : GoodIn wsX6_inner wsX5_becomePart := goodIn_s seX6_inner _ [pq_2_6, pq_1_15, pq_2_7, pq_2_8, pq_2_9, pq_1_14, pq_2_10, pq_13_0, pq_13_1, pq_13_2, pq_13_3, pq_13_4, pq_13_5] (by rfl) (by decide +kernel)
set_option maxRecDepth 20000 in
theorem gX6_inner_X5_becomePart : GoodIn wsX6_inner (wsV RX6 95 RX5 yX5_becomePart wsX5_becomePart) := goodIn_app (goodIn_s seX6_inner _ [pq_2_3, pq_2_4, pq_2_5, pq_1_12] (by rfl) (by decide +kernel)) ggX6_inner_X5_becomePart
set_option maxRecDepth 20000 in
theorem ggX6_inner_X6_spelled : GoodIn wsX6_inner wsX6_spelled := goodIn_s seX6_inner _ [pq_2_13, pq_2_14, pq_2_15, pq_2_16, pq_2_17, pq_2_18, pq_2_19, pq_2_20, pq_2_21, pq_2_22, pq_2_23, pq_3_0, pq_3_1, pq_3_2, pq_3_3, pq_3_4, pq_3_5, pq_3_6, pq_3_7, pq_3_8, pq_3_9, pq_3_10, pq_3_11, pq_3_12, pq_3_13, pq_3_14, pq_3_15, pq_3_16, pq_3_17, pq_3_18, pq_3_19, pq_3_20, pq_3_21, pq_3_22, pq_1_10, pq_1_12, pq_1_13, pq_1_14, pq_1_15, pq_3_23, pq_4_0, pq_4_1, pq_4_2, pq_4_3, pq_4_4, pq_4_5, pq_4_6, pq_4_7, pq_4_8, pq_4_9, pq_4_10, pq_4_11, pq_2_8, pq_2_7, pq_4_12, pq_4_13, pq_4_14, pq_4_15, pq_4_16, pq_4_17, pq_4_18, pq_4_19, pq_4_20, pq_4_21, pq_4_22, pq_4_23, pq_5_0, pq_5_1, pq_5_2, pq_5_3, pq_5_4, pq_5_5, pq_5_6, pq_5_7, pq_5_8, pq_5_9, pq_5_10, pq_5_11, pq_5_12, pq_5_13, pq_5_14, pq_5_15, pq_5_16, pq_5_17, pq_5_18, pq_5_19, pq_5_20, pq_5_21, pq_5_22, pq_5_23, pq_6_0, pq_6_1, pq_6_2, pq_6_3, pq_6_4, pq_6_5, pq_6_6, pq_6_7, pq_6_8, pq_6_9, pq_6_10, pq_6_11, pq_6_12, pq_6_13, pq_6_14, pq_6_15, pq_6_16, pq_6_17, pq_6_18, pq_6_19, pq_6_20, pq_6_21, pq_6_22, pq_6_23, pq_7_0, pq_7_1, pq_7_2, pq_7_3, pq_7_4, pq_7_5, pq_7_6, pq_7_7, pq_7_8, pq_7_9, pq_7_10, pq_7_11, pq_7_12, pq_7_13, pq_7_14, pq_7_15, pq_7_16, pq_7_17, pq_7_18, pq_7_19, pq_7_20, pq_7_21, pq_7_22, pq_7_23, pq_8_0, pq_8_1, pq_8_2, pq_8_3, pq_8_4, pq_8_5, pq_8_6, pq_8_7, pq_8_8, pq_8_9, pq_8_10, pq_8_11, pq_8_12, pq_8_13, pq_8_14, pq_8_15, pq_8_16, pq_8_17, pq_8_18, pq_8_19, pq_8_20, pq_8_21, pq_8_22, pq_8_23, pq_9_0, pq_9_1, pq_9_2, pq_9_3, pq_9_4, pq_9_5, pq_9_6, pq_9_7, pq_9_8, pq_9_9, pq_9_10, pq_9_11, pq_9_12, pq_9_13, pq_9_14, pq_9_15, pq_9_16, pq_9_17, pq_9_18, pq_9_19, pq_9_20, pq_9_21, pq_9_22, pq_9_23, pq_10_0, pq_10_1, pq_10_2, pq_10_3, pq_10_4, pq_10_5, pq_10_6, pq_10_7, pq_10_8, pq_10_9, pq_10_10, pq_10_11, pq_10_12, pq_10_13, pq_10_14, pq_10_15, pq_10_16, pq_10_17, pq_10_18, pq_10_19, pq_10_20, pq_10_21, pq_10_22, pq_10_23, pq_11_0, pq_11_1, pq_14_0, pq_14_1, pq_14_2, pq_14_3, pq_15_0, pq_15_1, pq_13_0, pq_13_1, pq_13_2, pq_13_3, pq_13_4, pq_13_5, pq_16_0, pq_16_1, pq_16_2, pq_16_3] (by rfl) (by decide +kernel)
set_option maxRecDepth 20000 in
theorem gX6_inner_X6_spelled : GoodIn wsX6_inner (va_wsS RX6 216 yX6_spelled wsX6_spelled) := goodIn_app (goodIn_s seX6_inner _ [pq_2_11, pq_2_12, pq_1_4] (by rfl) (by decide +kernel)) ggX6_inner_X6_spelled
set_option maxRecDepth 20000 in
theorem ggX6_inner_X5_becomeSlice : GoodIn wsX6_inner wsX5_becomeSlice := goodIn_s seX6_inner _ [pq_11_5, pq_2_7, pq_2_8, pq_1_15, pq_2_9, pq_11_6, pq_1_10, pq_1_11, pq_1_12, pq_1_13, pq_1_14, pq_11_7, pq_11_8, pq_11_9, pq_11_10, pq_2_10, pq_13_0, pq_13_1, pq_13_2, pq_13_3, pq_13_4, pq_13_5] (by rfl) (by decide +kernel)
set_option maxRecDepth 20000 in
theorem gX6_inner_X5_becomeSlice : GoodIn wsX6_inner (wsV RX6 81 RX5 yX5_becomeSlice wsX5_becomeSlice) := goodIn_app (goodIn_s seX6_inner _ [pq_11_2, pq_11_3, pq_11_4, pq_1_12] (by rfl) (by decide +kernel)) ggX6_inner_X5_becomeSlice
def lb_sgX6_inner : List (List UInt8) := [[42, 27, 182, 0, 62, 58, 7, 28, 29, 25, 7, 182, 0, 73, 184, 0], [88, 153, 0, 20, 21, 4, 21, 5, 29, 28, 100, 184, 0, 88, 153, 0], [7, 4, 167, 0, 4, 3, 184, 0, 127, 21, 6, 3, 5, 184, 0, 66], [21, 6, 4, 160, 0, 28, 42, 180, 0, 35, 25, 7, 28, 21, 4, 96], [28, 21, 5, 96, 182, 0, 95, 42, 180, 0, 35, 184, 0, 216, 176, 42], [180, 0, 35, 25, 7, 28, 29, 182, 0, 95, 21, 6, 5, 160, 0, 14], [42, 180, 0, 35, 42, 180, 0, 35, 182, 0, 81, 42, 180, 0, 35, 42], [180, 0, 35, 21, 4, 21, 5, 182, 0, 95, 42, 180, 0, 35, 184, 0], [216, 176]]
set_option maxRecDepth 100000 in
theorem lb_seX6_inner : cX6_inner.data.toList = lb_sgX6_inner.flatten := by decide +kernel
theorem lb_lnX6_inner : ∀ s ∈ lb_sgX6_inner.dropLast, s.length = 16 := by decide +kernel
theorem lxX6_inner (k j : Nat) {b : UInt8} (h : (lb_sgX6_inner[k]?).bind (fun s => s[j]?) = some b) : lb_at cX6_inner (16 * k + j) b := by
  unfold lb_at
  rw [lb_seX6_inner]
  exact lb_flat 16 lb_sgX6_inner k j b lb_lnX6_inner h
set_option maxRecDepth 20000 in
theorem dX6_inner_0 : decode cX6_inner 0 = .ok (.aload_n 0, 1) := dc_42 (lxX6_inner 0 0 rfl)
set_option maxRecDepth 20000 in
theorem dX6_inner_1 : decode cX6_inner 1 = .ok (.iload_n 1, 1) := dc_27 (lxX6_inner 0 1 rfl)
set_option maxRecDepth 20000 in
theorem dX6_inner_2 : decode cX6_inner 2 = .ok (.invokevirtual 62, 3) := dc_182 0 62 (lxX6_inner 0 2 rfl) (lxX6_inner 0 3 rfl) (lxX6_inner 0 4 rfl)
set_option maxRecDepth 20000 in
theorem dX6_inner_5 : decode cX6_inner 5 = .ok (.astore 7, 2) := dc_58 7 (lxX6_inner 0 5 rfl) (lxX6_inner 0 6 rfl)
set_option maxRecDepth 20000 in
theorem dX6_inner_7 : decode cX6_inner 7 = .ok (.iload_n 2, 1) := dc_28 (lxX6_inner 0 7 rfl)
set_option maxRecDepth 20000 in
theorem dX6_inner_8 : decode cX6_inner 8 = .ok (.iload_n 3, 1) := dc_29 (lxX6_inner 0 8 rfl)
set_option maxRecDepth 20000 in
theorem dX6_inner_9 : decode cX6_inner 9 = .ok (.aload 7, 2) := dc_25 7 (lxX6_inner 0 9 rfl) (lxX6_inner 0 10 rfl)
set_option maxRecDepth 20000 in
theorem dX6_inner_11 : decode cX6_inner 11 = .ok (.invokevirtual 73, 3) := dc_182 0 73 (lxX6_inner 0 11 rfl) (lxX6_inner 0 12 rfl) (lxX6_inner 0 13 rfl)
set_option maxRecDepth 20000 in
theorem dX6_inner_14 : decode cX6_inner 14 = .ok (.invokestatic 88, 3) := dc_184 0 88 (lxX6_inner 0 14 rfl) (lxX6_inner 0 15 rfl) (lxX6_inner 1 0 rfl)
set_option maxRecDepth 20000 in
theorem dX6_inner_17 : decode cX6_inner 17 = .ok (.ifCond .eq 20, 3) := dc_153 0 20 (lxX6_inner 1 1 rfl) (lxX6_inner 1 2 rfl) (lxX6_inner 1 3 rfl)
set_option maxRecDepth 20000 in
theorem dX6_inner_20 : decode cX6_inner 20 = .ok (.iload 4, 2) := dc_21 4 (lxX6_inner 1 4 rfl) (lxX6_inner 1 5 rfl)
set_option maxRecDepth 20000 in
theorem dX6_inner_22 : decode cX6_inner 22 = .ok (.iload 5, 2) := dc_21 5 (lxX6_inner 1 6 rfl) (lxX6_inner 1 7 rfl)
set_option maxRecDepth 20000 in
theorem dX6_inner_24 : decode cX6_inner 24 = .ok (.iload_n 3, 1) := dc_29 (lxX6_inner 1 8 rfl)
set_option maxRecDepth 20000 in
theorem dX6_inner_25 : decode cX6_inner 25 = .ok (.iload_n 2, 1) := dc_28 (lxX6_inner 1 9 rfl)
set_option maxRecDepth 20000 in
theorem dX6_inner_26 : decode cX6_inner 26 = .ok (.isub, 1) := dc_100 (lxX6_inner 1 10 rfl)
set_option maxRecDepth 20000 in
theorem dX6_inner_27 : decode cX6_inner 27 = .ok (.invokestatic 88, 3) := dc_184 0 88 (lxX6_inner 1 11 rfl) (lxX6_inner 1 12 rfl) (lxX6_inner 1 13 rfl)
set_option maxRecDepth 20000 in
theorem dX6_inner_30 : decode cX6_inner 30 = .ok (.ifCond .eq 7, 3) := dc_153 0 7 (lxX6_inner 1 14 rfl) (lxX6_inner 1 15 rfl) (lxX6_inner 2 0 rfl)
set_option maxRecDepth 20000 in
theorem dX6_inner_33 : decode cX6_inner 33 = .ok (.iconst 1, 1) := dc_4 (lxX6_inner 2 1 rfl)
set_option maxRecDepth 20000 in
theorem dX6_inner_34 : decode cX6_inner 34 = .ok (.goto 4, 3) := dc_167 0 4 (lxX6_inner 2 2 rfl) (lxX6_inner 2 3 rfl) (lxX6_inner 2 4 rfl)
set_option maxRecDepth 20000 in
theorem dX6_inner_37 : decode cX6_inner 37 = .ok (.iconst 0, 1) := dc_3 (lxX6_inner 2 5 rfl)
set_option maxRecDepth 20000 in
theorem dX6_inner_38 : decode cX6_inner 38 = .ok (.invokestatic 127, 3) := dc_184 0 127 (lxX6_inner 2 6 rfl) (lxX6_inner 2 7 rfl) (lxX6_inner 2 8 rfl)
set_option maxRecDepth 20000 in
theorem dX6_inner_41 : decode cX6_inner 41 = .ok (.iload 6, 2) := dc_21 6 (lxX6_inner 2 9 rfl) (lxX6_inner 2 10 rfl)
set_option maxRecDepth 20000 in
theorem dX6_inner_43 : decode cX6_inner 43 = .ok (.iconst 0, 1) := dc_3 (lxX6_inner 2 11 rfl)
set_option maxRecDepth 20000 in
theorem dX6_inner_44 : decode cX6_inner 44 = .ok (.iconst 2, 1) := dc_5 (lxX6_inner 2 12 rfl)
set_option maxRecDepth 20000 in
theorem dX6_inner_45 : decode cX6_inner 45 = .ok (.invokestatic 66, 3) := dc_184 0 66 (lxX6_inner 2 13 rfl) (lxX6_inner 2 14 rfl) (lxX6_inner 2 15 rfl)
set_option maxRecDepth 20000 in
theorem dX6_inner_48 : decode cX6_inner 48 = .ok (.iload 6, 2) := dc_21 6 (lxX6_inner 3 0 rfl) (lxX6_inner 3 1 rfl)
set_option maxRecDepth 20000 in
theorem dX6_inner_50 : decode cX6_inner 50 = .ok (.iconst 1, 1) := dc_4 (lxX6_inner 3 2 rfl)
set_option maxRecDepth 20000 in
theorem dX6_inner_51 : decode cX6_inner 51 = .ok (.if_icmp .ne 28, 3) := dc_160 0 28 (lxX6_inner 3 3 rfl) (lxX6_inner 3 4 rfl) (lxX6_inner 3 5 rfl)
set_option maxRecDepth 20000 in
theorem dX6_inner_54 : decode cX6_inner 54 = .ok (.aload_n 0, 1) := dc_42 (lxX6_inner 3 6 rfl)
set_option maxRecDepth 20000 in
theorem dX6_inner_55 : decode cX6_inner 55 = .ok (.getfield 35, 3) := dc_180 0 35 (lxX6_inner 3 7 rfl) (lxX6_inner 3 8 rfl) (lxX6_inner 3 9 rfl)
set_option maxRecDepth 20000 in
theorem dX6_inner_58 : decode cX6_inner 58 = .ok (.aload 7, 2) := dc_25 7 (lxX6_inner 3 10 rfl) (lxX6_inner 3 11 rfl)
set_option maxRecDepth 20000 in
theorem dX6_inner_60 : decode cX6_inner 60 = .ok (.iload_n 2, 1) := dc_28 (lxX6_inner 3 12 rfl)
set_option maxRecDepth 20000 in
theorem dX6_inner_61 : decode cX6_inner 61 = .ok (.iload 4, 2) := dc_21 4 (lxX6_inner 3 13 rfl) (lxX6_inner 3 14 rfl)
set_option maxRecDepth 20000 in
theorem dX6_inner_63 : decode cX6_inner 63 = .ok (.iadd, 1) := dc_96 (lxX6_inner 3 15 rfl)
set_option maxRecDepth 20000 in
theorem dX6_inner_64 : decode cX6_inner 64 = .ok (.iload_n 2, 1) := dc_28 (lxX6_inner 4 0 rfl)
set_option maxRecDepth 20000 in
theorem dX6_inner_65 : decode cX6_inner 65 = .ok (.iload 5, 2) := dc_21 5 (lxX6_inner 4 1 rfl) (lxX6_inner 4 2 rfl)
set_option maxRecDepth 20000 in
theorem dX6_inner_67 : decode cX6_inner 67 = .ok (.iadd, 1) := dc_96 (lxX6_inner 4 3 rfl)
set_option maxRecDepth 20000 in
theorem dX6_inner_68 : decode cX6_inner 68 = .ok (.invokevirtual 95, 3) := dc_182 0 95 (lxX6_inner 4 4 rfl) (lxX6_inner 4 5 rfl) (lxX6_inner 4 6 rfl)
set_option maxRecDepth 20000 in
theorem dX6_inner_71 : decode cX6_inner 71 = .ok (.aload_n 0, 1) := dc_42 (lxX6_inner 4 7 rfl)
set_option maxRecDepth 20000 in
theorem dX6_inner_72 : decode cX6_inner 72 = .ok (.getfield 35, 3) := dc_180 0 35 (lxX6_inner 4 8 rfl) (lxX6_inner 4 9 rfl) (lxX6_inner 4 10 rfl)
set_option maxRecDepth 20000 in
theorem dX6_inner_75 : decode cX6_inner 75 = .ok (.invokestatic 216, 3) := dc_184 0 216 (lxX6_inner 4 11 rfl) (lxX6_inner 4 12 rfl) (lxX6_inner 4 13 rfl)
set_option maxRecDepth 20000 in
theorem dX6_inner_78 : decode cX6_inner 78 = .ok (.areturn, 1) := dc_176 (lxX6_inner 4 14 rfl)
set_option maxRecDepth 20000 in
theorem dX6_inner_79 : decode cX6_inner 79 = .ok (.aload_n 0, 1) := dc_42 (lxX6_inner 4 15 rfl)
set_option maxRecDepth 20000 in
theorem dX6_inner_80 : decode cX6_inner 80 = .ok (.getfield 35, 3) := dc_180 0 35 (lxX6_inner 5 0 rfl) (lxX6_inner 5 1 rfl) (lxX6_inner 5 2 rfl)
set_option maxRecDepth 20000 in
theorem dX6_inner_83 : decode cX6_inner 83 = .ok (.aload 7, 2) := dc_25 7 (lxX6_inner 5 3 rfl) (lxX6_inner 5 4 rfl)
set_option maxRecDepth 20000 in
theorem dX6_inner_85 : decode cX6_inner 85 = .ok (.iload_n 2, 1) := dc_28 (lxX6_inner 5 5 rfl)
set_option maxRecDepth 20000 in
theorem dX6_inner_86 : decode cX6_inner 86 = .ok (.iload_n 3, 1) := dc_29 (lxX6_inner 5 6 rfl)
set_option maxRecDepth 20000 in
theorem dX6_inner_87 : decode cX6_inner 87 = .ok (.invokevirtual 95, 3) := dc_182 0 95 (lxX6_inner 5 7 rfl) (lxX6_inner 5 8 rfl) (lxX6_inner 5 9 rfl)
set_option maxRecDepth 20000 in
theorem dX6_inner_90 : decode cX6_inner 90 = .ok (.iload 6, 2) := dc_21 6 (lxX6_inner 5 10 rfl) (lxX6_inner 5 11 rfl)
set_option maxRecDepth 20000 in
theorem dX6_inner_92 : decode cX6_inner 92 = .ok (.iconst 2, 1) := dc_5 (lxX6_inner 5 12 rfl)
set_option maxRecDepth 20000 in
theorem dX6_inner_93 : decode cX6_inner 93 = .ok (.if_icmp .ne 14, 3) := dc_160 0 14 (lxX6_inner 5 13 rfl) (lxX6_inner 5 14 rfl) (lxX6_inner 5 15 rfl)
set_option maxRecDepth 20000 in
theorem dX6_inner_96 : decode cX6_inner 96 = .ok (.aload_n 0, 1) := dc_42 (lxX6_inner 6 0 rfl)
set_option maxRecDepth 20000 in
theorem dX6_inner_97 : decode cX6_inner 97 = .ok (.getfield 35, 3) := dc_180 0 35 (lxX6_inner 6 1 rfl) (lxX6_inner 6 2 rfl) (lxX6_inner 6 3 rfl)
set_option maxRecDepth 20000 in
theorem dX6_inner_100 : decode cX6_inner 100 = .ok (.aload_n 0, 1) := dc_42 (lxX6_inner 6 4 rfl)
set_option maxRecDepth 20000 in
theorem dX6_inner_101 : decode cX6_inner 101 = .ok (.getfield 35, 3) := dc_180 0 35 (lxX6_inner 6 5 rfl) (lxX6_inner 6 6 rfl) (lxX6_inner 6 7 rfl)
set_option maxRecDepth 20000 in
theorem dX6_inner_104 : decode cX6_inner 104 = .ok (.invokevirtual 81, 3) := dc_182 0 81 (lxX6_inner 6 8 rfl) (lxX6_inner 6 9 rfl) (lxX6_inner 6 10 rfl)
set_option maxRecDepth 20000 in
theorem dX6_inner_107 : decode cX6_inner 107 = .ok (.aload_n 0, 1) := dc_42 (lxX6_inner 6 11 rfl)
set_option maxRecDepth 20000 in
theorem dX6_inner_108 : decode cX6_inner 108 = .ok (.getfield 35, 3) := dc_180 0 35 (lxX6_inner 6 12 rfl) (lxX6_inner 6 13 rfl) (lxX6_inner 6 14 rfl)
set_option maxRecDepth 20000 in
theorem dX6_inner_111 : decode cX6_inner 111 = .ok (.aload_n 0, 1) := dc_42 (lxX6_inner 6 15 rfl)
set_option maxRecDepth 20000 in
theorem dX6_inner_112 : decode cX6_inner 112 = .ok (.getfield 35, 3) := dc_180 0 35 (lxX6_inner 7 0 rfl) (lxX6_inner 7 1 rfl) (lxX6_inner 7 2 rfl)
set_option maxRecDepth 20000 in
theorem dX6_inner_115 : decode cX6_inner 115 = .ok (.iload 4, 2) := dc_21 4 (lxX6_inner 7 3 rfl) (lxX6_inner 7 4 rfl)
set_option maxRecDepth 20000 in
theorem dX6_inner_117 : decode cX6_inner 117 = .ok (.iload 5, 2) := dc_21 5 (lxX6_inner 7 5 rfl) (lxX6_inner 7 6 rfl)
set_option maxRecDepth 20000 in
theorem dX6_inner_119 : decode cX6_inner 119 = .ok (.invokevirtual 95, 3) := dc_182 0 95 (lxX6_inner 7 7 rfl) (lxX6_inner 7 8 rfl) (lxX6_inner 7 9 rfl)
set_option maxRecDepth 20000 in
theorem dX6_inner_122 : decode cX6_inner 122 = .ok (.aload_n 0, 1) := dc_42 (lxX6_inner 7 10 rfl)
set_option maxRecDepth 20000 in
theorem dX6_inner_123 : decode cX6_inner 123 = .ok (.getfield 35, 3) := dc_180 0 35 (lxX6_inner 7 11 rfl) (lxX6_inner 7 12 rfl) (lxX6_inner 7 13 rfl)
set_option maxRecDepth 20000 in
theorem dX6_inner_126 : decode cX6_inner 126 = .ok (.invokestatic 216, 3) := dc_184 0 216 (lxX6_inner 7 14 rfl) (lxX6_inner 7 15 rfl) (lxX6_inner 8 0 rfl)
set_option maxRecDepth 20000 in
theorem dX6_inner_129 : decode cX6_inner 129 = .ok (.areturn, 1) := dc_176 (lxX6_inner 8 1 rfl)
noncomputable def sgX6_first : List (List Cond) := [[.code yX6_first cX6_first 3 (some .int)], wsX6_first_r1, wsX6_first_r2, wsX6_first_r3, wsX60, wsX30, wsX00, wsX20, wsX50, (vx_atS RX6 306 "java/lang/IndexOutOfBoundsException" ["java/lang/RuntimeException", "java/lang/Exception"]).filter goodWord]
theorem seX6_first : sgX6_first.flatten = wsX6_first := by simp only [sgX6_first, wsX6_first, List.flatten_cons, List.flatten_nil, List.append_assoc, List.append_nil, List.cons_append, List.nil_append]
set_option maxRecDepth 20000 in
theorem ggX6_first_X6_sourceOf : GoodIn wsX6_first wsX6_sourceOf := goodIn_ca (goodIn_s seX6_first _ [pq_1_5, pq_1_6, pq_1_7, pq_1_8, pq_1_9, pq_1_10, pq_4_0, pq_4_1, pq_4_2, pq_4_3, pq_4_4, pq_4_5, pq_4_6, pq_4_7, pq_4_8, pq_4_9, pq_4_10, pq_4_11, pq_4_12, pq_4_13] (by rfl) (by decide +kernel)) (goodIn_sub (fun _ h => List.mem_cons_of_mem _ (List.mem_append_right _ h)) (by decide +kernel))
set_option maxRecDepth 20000 in
theorem gX6_first_X6_sourceOf : GoodIn wsX6_first (wsV RX6 156 RX6 yX6_sourceOf wsX6_sourceOf) := goodIn_app (goodIn_s seX6_first _ [pq_1_1, pq_1_2, pq_1_3, pq_1_4] (by rfl) (by decide +kernel)) ggX6_first_X6_sourceOf
set_option maxRecDepth 20000 in
theorem ggX6_first_X3_seek : GoodIn wsX6_first wsX3_seek := goodIn_s seX6_first _ [pq_1_15, pq_1_16, pq_1_17, pq_1_18, pq_1_19, pq_1_20, pq_1_21, pq_1_22, pq_1_23, pq_2_0, pq_2_1, pq_2_2, pq_2_3, pq_2_4, pq_2_5, pq_2_6, pq_2_7, pq_2_8, pq_2_9, pq_2_10, pq_2_11, pq_2_12, pq_2_13, pq_2_14, pq_2_15, pq_2_16, pq_2_17, pq_2_18, pq_2_19, pq_2_20, pq_2_21, pq_2_22, pq_2_23, pq_3_0, pq_3_1, pq_3_2, pq_3_3, pq_3_4, pq_3_5, pq_3_6, pq_3_7, pq_3_8, pq_3_9, pq_3_10, pq_3_11, pq_3_12, pq_3_13, pq_3_14, pq_3_15, pq_1_14, pq_3_16, pq_3_17, pq_3_18, pq_3_19, pq_5_0, pq_5_1, pq_5_2, pq_6_0, pq_6_1, pq_6_2, pq_7_0, pq_7_1, pq_8_0, pq_8_1, pq_8_2, pq_8_3, pq_8_4, pq_8_5] (by rfl) (by decide +kernel)
set_option maxRecDepth 20000 in
theorem gX6_first_X3_seek : GoodIn wsX6_first (wsV RX6 220 RX3 yX3_seek wsX3_seek) := goodIn_app (goodIn_s seX6_first _ [pq_1_11, pq_1_12, pq_1_13, pq_1_14] (by rfl) (by decide +kernel)) ggX6_first_X3_seek
set_option maxRecDepth 20000 in
theorem ggX6_first_X3_foundAt : GoodIn wsX6_first wsX3_foundAt := goodIn_s seX6_first _ [pq_3_23, pq_1_16, pq_3_17, pq_5_0, pq_5_1, pq_5_2] (by rfl) (by decide +kernel)
set_option maxRecDepth 20000 in
theorem gX6_first_X3_foundAt : GoodIn wsX6_first (wsV RX6 224 RX3 yX3_foundAt wsX3_foundAt) := goodIn_app (goodIn_s seX6_first _ [pq_3_20, pq_3_21, pq_3_22, pq_1_14] (by rfl) (by decide +kernel)) ggX6_first_X3_foundAt
def lb_sgX6_first : List (List UInt8) := [[42, 180, 0, 48, 42, 27, 182, 0, 156, 42, 28, 182, 0, 156, 182, 0], [220, 42, 180, 0, 48, 3, 182, 0, 224, 172]]
set_option maxRecDepth 100000 in
theorem lb_seX6_first : cX6_first.data.toList = lb_sgX6_first.flatten := by decide +kernel
theorem lb_lnX6_first : ∀ s ∈ lb_sgX6_first.dropLast, s.length = 16 := by decide +kernel
theorem lxX6_first (k j : Nat) {b : UInt8} (h : (lb_sgX6_first[k]?).bind (fun s => s[j]?) = some b) : lb_at cX6_first (16 * k + j) b := by
  unfold lb_at
  rw [lb_seX6_first]
  exact lb_flat 16 lb_sgX6_first k j b lb_lnX6_first h
set_option maxRecDepth 20000 in
theorem dX6_first_0 : decode cX6_first 0 = .ok (.aload_n 0, 1) := dc_42 (lxX6_first 0 0 rfl)
set_option maxRecDepth 20000 in
theorem dX6_first_1 : decode cX6_first 1 = .ok (.getfield 48, 3) := dc_180 0 48 (lxX6_first 0 1 rfl) (lxX6_first 0 2 rfl) (lxX6_first 0 3 rfl)
set_option maxRecDepth 20000 in
theorem dX6_first_4 : decode cX6_first 4 = .ok (.aload_n 0, 1) := dc_42 (lxX6_first 0 4 rfl)
set_option maxRecDepth 20000 in
theorem dX6_first_5 : decode cX6_first 5 = .ok (.iload_n 1, 1) := dc_27 (lxX6_first 0 5 rfl)
set_option maxRecDepth 20000 in
theorem dX6_first_6 : decode cX6_first 6 = .ok (.invokevirtual 156, 3) := dc_182 0 156 (lxX6_first 0 6 rfl) (lxX6_first 0 7 rfl) (lxX6_first 0 8 rfl)
set_option maxRecDepth 20000 in
theorem dX6_first_9 : decode cX6_first 9 = .ok (.aload_n 0, 1) := dc_42 (lxX6_first 0 9 rfl)
set_option maxRecDepth 20000 in
theorem dX6_first_10 : decode cX6_first 10 = .ok (.iload_n 2, 1) := dc_28 (lxX6_first 0 10 rfl)
set_option maxRecDepth 20000 in
theorem dX6_first_11 : decode cX6_first 11 = .ok (.invokevirtual 156, 3) := dc_182 0 156 (lxX6_first 0 11 rfl) (lxX6_first 0 12 rfl) (lxX6_first 0 13 rfl)
set_option maxRecDepth 20000 in
theorem dX6_first_14 : decode cX6_first 14 = .ok (.invokevirtual 220, 3) := dc_182 0 220 (lxX6_first 0 14 rfl) (lxX6_first 0 15 rfl) (lxX6_first 1 0 rfl)
set_option maxRecDepth 20000 in
theorem dX6_first_17 : decode cX6_first 17 = .ok (.aload_n 0, 1) := dc_42 (lxX6_first 1 1 rfl)
set_option maxRecDepth 20000 in
theorem dX6_first_18 : decode cX6_first 18 = .ok (.getfield 48, 3) := dc_180 0 48 (lxX6_first 1 2 rfl) (lxX6_first 1 3 rfl) (lxX6_first 1 4 rfl)
set_option maxRecDepth 20000 in
theorem dX6_first_21 : decode cX6_first 21 = .ok (.iconst 0, 1) := dc_3 (lxX6_first 1 5 rfl)
set_option maxRecDepth 20000 in
theorem dX6_first_22 : decode cX6_first 22 = .ok (.invokevirtual 224, 3) := dc_182 0 224 (lxX6_first 1 6 rfl) (lxX6_first 1 7 rfl) (lxX6_first 1 8 rfl)
set_option maxRecDepth 20000 in
theorem dX6_first_25 : decode cX6_first 25 = .ok (.ireturn, 1) := dc_172 (lxX6_first 1 9 rfl)
noncomputable def sgX6_last : List (List Cond) := [[.code yX6_last cX6_last 3 (some .int)], wsX6_last_r1, wsX6_last_r2, wsX6_last_r3, wsX60, wsX30, wsX00, wsX20, wsX50, (vx_atS RX6 306 "java/lang/IndexOutOfBoundsException" ["java/lang/RuntimeException", "java/lang/Exception"]).filter goodWord]
theorem seX6_last : sgX6_last.flatten = wsX6_last := by simp only [sgX6_last, wsX6_last, List.flatten_cons, List.flatten_nil, List.append_assoc, List.append_nil, List.cons_append, List.nil_append]
set_option maxRecDepth 20000 in
theorem ggX6_last_X6_sourceOf : GoodIn wsX6_last wsX6_sourceOf := goodIn_ca (goodIn_s seX6_last _ [pq_1_5, pq_1_6, pq_1_7, pq_1_8, pq_1_9, pq_1_10, pq_4_0, pq_4_1, pq_4_2, pq_4_3, pq_4_4, pq_4_5, pq_4_6, pq_4_7, pq_4_8, pq_4_9, pq_4_10, pq_4_11, pq_4_12, pq_4_13] (by rfl) (by decide +kernel)) (goodIn_sub (fun _ h => List.mem_cons_of_mem _ (List.mem_append_right _ h)) (by decide +kernel))
set_option maxRecDepth 20000 in
theorem gX6_last_X6_sourceOf : GoodIn wsX6_last (wsV RX6 156 RX6 yX6_sourceOf wsX6_sourceOf) := goodIn_app (goodIn_s seX6_last _ [pq_1_1, pq_1_2, pq_1_3, pq_1_4] (by rfl) (by decide +kernel)) ggX6_last_X6_sourceOf
set_option maxRecDepth 20000 in
theorem ggX6_last_X3_seek : GoodIn wsX6_last wsX3_seek := goodIn_s seX6_last _ [pq_1_15, pq_1_16, pq_1_17, pq_1_18, pq_1_19, pq_1_20, pq_1_21, pq_1_22, pq_1_23, pq_2_0, pq_2_1, pq_2_2, pq_2_3, pq_2_4, pq_2_5, pq_2_6, pq_2_7, pq_2_8, pq_2_9, pq_2_10, pq_2_11, pq_2_12, pq_2_13, pq_2_14, pq_2_15, pq_2_16, pq_2_17, pq_2_18, pq_2_19, pq_2_20, pq_2_21, pq_2_22, pq_2_23, pq_3_0, pq_3_1, pq_3_2, pq_3_3, pq_3_4, pq_3_5, pq_3_6, pq_3_7, pq_3_8, pq_3_9, pq_3_10, pq_3_11, pq_3_12, pq_3_13, pq_3_14, pq_3_15, pq_1_14, pq_3_16, pq_3_17, pq_3_18, pq_3_19, pq_5_0, pq_5_1, pq_5_2, pq_6_0, pq_6_1, pq_6_2, pq_7_0, pq_7_1, pq_8_0, pq_8_1, pq_8_2, pq_8_3, pq_8_4, pq_8_5] (by rfl) (by decide +kernel)
set_option maxRecDepth 20000 in
theorem gX6_last_X3_seek : GoodIn wsX6_last (wsV RX6 220 RX3 yX3_seek wsX3_seek) := goodIn_app (goodIn_s seX6_last _ [pq_1_11, pq_1_12, pq_1_13, pq_1_14] (by rfl) (by decide +kernel)) ggX6_last_X3_seek
set_option maxRecDepth 20000 in
theorem ggX6_last_X3_foundAt : GoodIn wsX6_last wsX3_foundAt := goodIn_s seX6_last _ [pq_3_23, pq_1_16, pq_3_17, pq_5_0, pq_5_1, pq_5_2] (by rfl) (by decide +kernel)
set_option maxRecDepth 20000 in
theorem gX6_last_X3_foundAt : GoodIn wsX6_last (wsV RX6 224 RX3 yX3_foundAt wsX3_foundAt) := goodIn_app (goodIn_s seX6_last _ [pq_3_20, pq_3_21, pq_3_22, pq_1_14] (by rfl) (by decide +kernel)) ggX6_last_X3_foundAt
def lb_sgX6_last : List (List UInt8) := [[42, 180, 0, 48, 42, 27, 182, 0, 156, 42, 28, 182, 0, 156, 182, 0], [220, 42, 180, 0, 48, 42, 180, 0, 48, 180, 0, 227, 4, 100, 182, 0], [224, 172]]
set_option maxRecDepth 100000 in
theorem lb_seX6_last : cX6_last.data.toList = lb_sgX6_last.flatten := by decide +kernel
theorem lb_lnX6_last : ∀ s ∈ lb_sgX6_last.dropLast, s.length = 16 := by decide +kernel
theorem lxX6_last (k j : Nat) {b : UInt8} (h : (lb_sgX6_last[k]?).bind (fun s => s[j]?) = some b) : lb_at cX6_last (16 * k + j) b := by
  unfold lb_at
  rw [lb_seX6_last]
  exact lb_flat 16 lb_sgX6_last k j b lb_lnX6_last h
set_option maxRecDepth 20000 in
theorem dX6_last_0 : decode cX6_last 0 = .ok (.aload_n 0, 1) := dc_42 (lxX6_last 0 0 rfl)
set_option maxRecDepth 20000 in
theorem dX6_last_1 : decode cX6_last 1 = .ok (.getfield 48, 3) := dc_180 0 48 (lxX6_last 0 1 rfl) (lxX6_last 0 2 rfl) (lxX6_last 0 3 rfl)
set_option maxRecDepth 20000 in
theorem dX6_last_4 : decode cX6_last 4 = .ok (.aload_n 0, 1) := dc_42 (lxX6_last 0 4 rfl)
set_option maxRecDepth 20000 in
theorem dX6_last_5 : decode cX6_last 5 = .ok (.iload_n 1, 1) := dc_27 (lxX6_last 0 5 rfl)
set_option maxRecDepth 20000 in
theorem dX6_last_6 : decode cX6_last 6 = .ok (.invokevirtual 156, 3) := dc_182 0 156 (lxX6_last 0 6 rfl) (lxX6_last 0 7 rfl) (lxX6_last 0 8 rfl)
set_option maxRecDepth 20000 in
theorem dX6_last_9 : decode cX6_last 9 = .ok (.aload_n 0, 1) := dc_42 (lxX6_last 0 9 rfl)
set_option maxRecDepth 20000 in
theorem dX6_last_10 : decode cX6_last 10 = .ok (.iload_n 2, 1) := dc_28 (lxX6_last 0 10 rfl)
set_option maxRecDepth 20000 in
theorem dX6_last_11 : decode cX6_last 11 = .ok (.invokevirtual 156, 3) := dc_182 0 156 (lxX6_last 0 11 rfl) (lxX6_last 0 12 rfl) (lxX6_last 0 13 rfl)
set_option maxRecDepth 20000 in
theorem dX6_last_14 : decode cX6_last 14 = .ok (.invokevirtual 220, 3) := dc_182 0 220 (lxX6_last 0 14 rfl) (lxX6_last 0 15 rfl) (lxX6_last 1 0 rfl)
set_option maxRecDepth 20000 in
theorem dX6_last_17 : decode cX6_last 17 = .ok (.aload_n 0, 1) := dc_42 (lxX6_last 1 1 rfl)
set_option maxRecDepth 20000 in
theorem dX6_last_18 : decode cX6_last 18 = .ok (.getfield 48, 3) := dc_180 0 48 (lxX6_last 1 2 rfl) (lxX6_last 1 3 rfl) (lxX6_last 1 4 rfl)
set_option maxRecDepth 20000 in
theorem dX6_last_21 : decode cX6_last 21 = .ok (.aload_n 0, 1) := dc_42 (lxX6_last 1 5 rfl)
set_option maxRecDepth 20000 in
theorem dX6_last_22 : decode cX6_last 22 = .ok (.getfield 48, 3) := dc_180 0 48 (lxX6_last 1 6 rfl) (lxX6_last 1 7 rfl) (lxX6_last 1 8 rfl)
set_option maxRecDepth 20000 in
theorem dX6_last_25 : decode cX6_last 25 = .ok (.getfield 227, 3) := dc_180 0 227 (lxX6_last 1 9 rfl) (lxX6_last 1 10 rfl) (lxX6_last 1 11 rfl)
set_option maxRecDepth 20000 in
theorem dX6_last_28 : decode cX6_last 28 = .ok (.iconst 1, 1) := dc_4 (lxX6_last 1 12 rfl)
set_option maxRecDepth 20000 in
theorem dX6_last_29 : decode cX6_last 29 = .ok (.isub, 1) := dc_100 (lxX6_last 1 13 rfl)
set_option maxRecDepth 20000 in
theorem dX6_last_30 : decode cX6_last 30 = .ok (.invokevirtual 224, 3) := dc_182 0 224 (lxX6_last 1 14 rfl) (lxX6_last 1 15 rfl) (lxX6_last 2 0 rfl)
set_option maxRecDepth 20000 in
theorem dX6_last_33 : decode cX6_last 33 = .ok (.ireturn, 1) := dc_172 (lxX6_last 2 1 rfl)
noncomputable def sgX6_count : List (List Cond) := [[.code yX6_count cX6_count 3 (some .int)], wsX6_count_r1, wsX6_count_r2, wsX6_count_r3, wsX60, wsX30, wsX00, wsX20, wsX50, (vx_atS RX6 306 "java/lang/IndexOutOfBoundsException" ["java/lang/RuntimeException", "java/lang/Exception"]).filter goodWord]
theorem seX6_count : sgX6_count.flatten = wsX6_count := by simp only [sgX6_count, wsX6_count, List.flatten_cons, List.flatten_nil, List.append_assoc, List.append_nil, List.cons_append, List.nil_append]
set_option maxRecDepth 20000 in
theorem ggX6_count_X6_sourceOf : GoodIn wsX6_count wsX6_sourceOf := goodIn_ca (goodIn_s seX6_count _ [pq_1_5, pq_1_6, pq_1_7, pq_1_8, pq_1_9, pq_1_10, pq_4_0, pq_4_1, pq_4_2, pq_4_3, pq_4_4, pq_4_5, pq_4_6, pq_4_7, pq_4_8, pq_4_9, pq_4_10, pq_4_11, pq_4_12, pq_4_13] (by rfl) (by decide +kernel)) (goodIn_sub (fun _ h => List.mem_cons_of_mem _ (List.mem_append_right _ h)) (by decide +kernel))
set_option maxRecDepth 20000 in
theorem gX6_count_X6_sourceOf : GoodIn wsX6_count (wsV RX6 156 RX6 yX6_sourceOf wsX6_sourceOf) := goodIn_app (goodIn_s seX6_count _ [pq_1_1, pq_1_2, pq_1_3, pq_1_4] (by rfl) (by decide +kernel)) ggX6_count_X6_sourceOf
set_option maxRecDepth 20000 in
theorem ggX6_count_X3_seek : GoodIn wsX6_count wsX3_seek := goodIn_s seX6_count _ [pq_1_15, pq_1_16, pq_1_17, pq_1_18, pq_1_19, pq_1_20, pq_1_21, pq_1_22, pq_1_23, pq_2_0, pq_2_1, pq_2_2, pq_2_3, pq_2_4, pq_2_5, pq_2_6, pq_2_7, pq_2_8, pq_2_9, pq_2_10, pq_2_11, pq_2_12, pq_2_13, pq_2_14, pq_2_15, pq_2_16, pq_2_17, pq_2_18, pq_2_19, pq_2_20, pq_2_21, pq_2_22, pq_2_23, pq_3_0, pq_3_1, pq_3_2, pq_3_3, pq_3_4, pq_3_5, pq_3_6, pq_3_7, pq_3_8, pq_3_9, pq_3_10, pq_3_11, pq_3_12, pq_3_13, pq_3_14, pq_3_15, pq_1_14, pq_3_16, pq_3_17, pq_3_18, pq_3_19, pq_5_0, pq_5_1, pq_5_2, pq_6_0, pq_6_1, pq_6_2, pq_7_0, pq_7_1, pq_8_0, pq_8_1, pq_8_2, pq_8_3, pq_8_4, pq_8_5] (by rfl) (by decide +kernel)
set_option maxRecDepth 20000 in
theorem gX6_count_X3_seek : GoodIn wsX6_count (wsV RX6 220 RX3 yX3_seek wsX3_seek) := goodIn_app (goodIn_s seX6_count _ [pq_1_11, pq_1_12, pq_1_13, pq_1_14] (by rfl) (by decide +kernel)) ggX6_count_X3_seek
def lb_sgX6_count : List (List UInt8) := [[42, 180, 0, 48, 42, 27, 182, 0, 156, 42, 28, 182, 0, 156, 182, 0], [220, 42, 180, 0, 48, 180, 0, 227, 172]]
set_option maxRecDepth 100000 in
theorem lb_seX6_count : cX6_count.data.toList = lb_sgX6_count.flatten := by decide +kernel
theorem lb_lnX6_count : ∀ s ∈ lb_sgX6_count.dropLast, s.length = 16 := by decide +kernel
theorem lxX6_count (k j : Nat) {b : UInt8} (h : (lb_sgX6_count[k]?).bind (fun s => s[j]?) = some b) : lb_at cX6_count (16 * k + j) b := by
  unfold lb_at
  rw [lb_seX6_count]
  exact lb_flat 16 lb_sgX6_count k j b lb_lnX6_count h
set_option maxRecDepth 20000 in
theorem dX6_count_0 : decode cX6_count 0 = .ok (.aload_n 0, 1) := dc_42 (lxX6_count 0 0 rfl)
set_option maxRecDepth 20000 in
theorem dX6_count_1 : decode cX6_count 1 = .ok (.getfield 48, 3) := dc_180 0 48 (lxX6_count 0 1 rfl) (lxX6_count 0 2 rfl) (lxX6_count 0 3 rfl)
set_option maxRecDepth 20000 in
theorem dX6_count_4 : decode cX6_count 4 = .ok (.aload_n 0, 1) := dc_42 (lxX6_count 0 4 rfl)
set_option maxRecDepth 20000 in
theorem dX6_count_5 : decode cX6_count 5 = .ok (.iload_n 1, 1) := dc_27 (lxX6_count 0 5 rfl)
set_option maxRecDepth 20000 in
theorem dX6_count_6 : decode cX6_count 6 = .ok (.invokevirtual 156, 3) := dc_182 0 156 (lxX6_count 0 6 rfl) (lxX6_count 0 7 rfl) (lxX6_count 0 8 rfl)
set_option maxRecDepth 20000 in
theorem dX6_count_9 : decode cX6_count 9 = .ok (.aload_n 0, 1) := dc_42 (lxX6_count 0 9 rfl)
set_option maxRecDepth 20000 in
theorem dX6_count_10 : decode cX6_count 10 = .ok (.iload_n 2, 1) := dc_28 (lxX6_count 0 10 rfl)
set_option maxRecDepth 20000 in
theorem dX6_count_11 : decode cX6_count 11 = .ok (.invokevirtual 156, 3) := dc_182 0 156 (lxX6_count 0 11 rfl) (lxX6_count 0 12 rfl) (lxX6_count 0 13 rfl)
set_option maxRecDepth 20000 in
theorem dX6_count_14 : decode cX6_count 14 = .ok (.invokevirtual 220, 3) := dc_182 0 220 (lxX6_count 0 14 rfl) (lxX6_count 0 15 rfl) (lxX6_count 1 0 rfl)
set_option maxRecDepth 20000 in
theorem dX6_count_17 : decode cX6_count 17 = .ok (.aload_n 0, 1) := dc_42 (lxX6_count 1 1 rfl)
set_option maxRecDepth 20000 in
theorem dX6_count_18 : decode cX6_count 18 = .ok (.getfield 48, 3) := dc_180 0 48 (lxX6_count 1 2 rfl) (lxX6_count 1 3 rfl) (lxX6_count 1 4 rfl)
set_option maxRecDepth 20000 in
theorem dX6_count_21 : decode cX6_count 21 = .ok (.getfield 227, 3) := dc_180 0 227 (lxX6_count 1 5 rfl) (lxX6_count 1 6 rfl) (lxX6_count 1 7 rfl)
set_option maxRecDepth 20000 in
theorem dX6_count_24 : decode cX6_count 24 = .ok (.ireturn, 1) := dc_172 (lxX6_count 1 8 rfl)
noncomputable def sgX6_place : List (List Cond) := [[.code yX6_place cX6_place 6 (some .int)], wsX6_place_r1, wsX6_place_r2, wsX6_place_r3, wsX6_place_r4, wsX60, wsX30, wsX00, wsX20, wsX50, (vx_atS RX6 306 "java/lang/IndexOutOfBoundsException" ["java/lang/RuntimeException", "java/lang/Exception"]).filter goodWord, (vx_atS RX6 317 "java/lang/IllegalArgumentException" ["java/lang/RuntimeException", "java/lang/Exception"]).filter goodWord]
theorem seX6_place : sgX6_place.flatten = wsX6_place := by simp only [sgX6_place, wsX6_place, List.flatten_cons, List.flatten_nil, List.append_assoc, List.append_nil, List.cons_append, List.nil_append]
set_option maxRecDepth 20000 in
theorem ggX6_place_X6_sourceOf : GoodIn wsX6_place wsX6_sourceOf := goodIn_ca (goodIn_s seX6_place _ [pq_1_5, pq_1_6, pq_1_7, pq_1_8, pq_1_9, pq_1_10, pq_5_0, pq_5_1, pq_5_2, pq_5_3, pq_5_4, pq_5_5, pq_5_6, pq_5_7, pq_5_8, pq_5_9, pq_5_10, pq_5_11, pq_5_12, pq_5_13] (by rfl) (by decide +kernel)) (goodIn_sub (fun _ h => List.mem_cons_of_mem _ (List.mem_append_left _ (List.mem_append_right _ h))) (by decide +kernel))
set_option maxRecDepth 20000 in
theorem gX6_place_X6_sourceOf : GoodIn wsX6_place (wsV RX6 156 RX6 yX6_sourceOf wsX6_sourceOf) := goodIn_app (goodIn_s seX6_place _ [pq_1_1, pq_1_2, pq_1_3, pq_1_4] (by rfl) (by decide +kernel)) ggX6_place_X6_sourceOf
set_option maxRecDepth 20000 in
theorem ggX6_place_X6_requireWithin : GoodIn wsX6_place wsX6_requireWithin := goodIn_ca (goodIn_s seX6_place _ [pq_1_13, pq_1_14, pq_1_15] (by rfl) (by decide +kernel)) (goodIn_sub (fun _ h => List.mem_cons_of_mem _ (List.mem_append_right _ h)) (by decide +kernel))
set_option maxRecDepth 20000 in
theorem gX6_place_X6_requireWithin : GoodIn wsX6_place (va_wsS RX6 66 yX6_requireWithin wsX6_requireWithin) := goodIn_app (goodIn_s seX6_place _ [pq_1_11, pq_1_12, pq_1_4] (by rfl) (by decide +kernel)) ggX6_place_X6_requireWithin
set_option maxRecDepth 20000 in
theorem ggX6_place_X3_seek : GoodIn wsX6_place wsX3_seek := goodIn_s seX6_place _ [pq_1_20, pq_1_21, pq_1_22, pq_1_23, pq_2_0, pq_2_1, pq_2_2, pq_2_3, pq_2_4, pq_2_5, pq_2_6, pq_2_7, pq_2_8, pq_2_9, pq_2_10, pq_2_11, pq_2_12, pq_2_13, pq_2_14, pq_2_15, pq_2_16, pq_2_17, pq_2_18, pq_2_19, pq_2_20, pq_2_21, pq_2_22, pq_2_23, pq_3_0, pq_3_1, pq_3_2, pq_3_3, pq_3_4, pq_3_5, pq_3_6, pq_3_7, pq_3_8, pq_3_9, pq_3_10, pq_3_11, pq_3_12, pq_3_13, pq_3_14, pq_3_15, pq_3_16, pq_3_17, pq_3_18, pq_3_19, pq_3_20, pq_1_19, pq_3_21, pq_3_22, pq_3_23, pq_4_0, pq_6_0, pq_6_1, pq_6_2, pq_7_0, pq_7_1, pq_7_2, pq_8_0, pq_8_1, pq_9_0, pq_9_1, pq_9_2, pq_9_3, pq_9_4, pq_9_5] (by rfl) (by decide +kernel)
set_option maxRecDepth 20000 in
theorem gX6_place_X3_seek : GoodIn wsX6_place (wsV RX6 220 RX3 yX3_seek wsX3_seek) := goodIn_app (goodIn_s seX6_place _ [pq_1_16, pq_1_17, pq_1_18, pq_1_19] (by rfl) (by decide +kernel)) ggX6_place_X3_seek
set_option maxRecDepth 20000 in
theorem ggX6_place_X3_foundAt : GoodIn wsX6_place wsX3_foundAt := goodIn_s seX6_place _ [pq_4_4, pq_1_21, pq_3_22, pq_6_0, pq_6_1, pq_6_2] (by rfl) (by decide +kernel)
set_option maxRecDepth 20000 in
theorem gX6_place_X3_foundAt : GoodIn wsX6_place (wsV RX6 224 RX3 yX3_foundAt wsX3_foundAt) := goodIn_app (goodIn_s seX6_place _ [pq_4_1, pq_4_2, pq_4_3, pq_1_19] (by rfl) (by decide +kernel)) ggX6_place_X3_foundAt
def lb_sgX6_place : List (List UInt8) := [[42, 27, 182, 0, 156, 58, 4, 42, 28, 182, 0, 156, 58, 5, 29, 3], [16, 80, 184, 0, 66, 42, 180, 0, 48, 25, 4, 25, 5, 182, 0, 220], [42, 180, 0, 48, 29, 182, 0, 224, 172]]
set_option maxRecDepth 100000 in
theorem lb_seX6_place : cX6_place.data.toList = lb_sgX6_place.flatten := by decide +kernel
theorem lb_lnX6_place : ∀ s ∈ lb_sgX6_place.dropLast, s.length = 16 := by decide +kernel
theorem lxX6_place (k j : Nat) {b : UInt8} (h : (lb_sgX6_place[k]?).bind (fun s => s[j]?) = some b) : lb_at cX6_place (16 * k + j) b := by
  unfold lb_at
  rw [lb_seX6_place]
  exact lb_flat 16 lb_sgX6_place k j b lb_lnX6_place h
set_option maxRecDepth 20000 in
theorem dX6_place_0 : decode cX6_place 0 = .ok (.aload_n 0, 1) := dc_42 (lxX6_place 0 0 rfl)
set_option maxRecDepth 20000 in
theorem dX6_place_1 : decode cX6_place 1 = .ok (.iload_n 1, 1) := dc_27 (lxX6_place 0 1 rfl)
set_option maxRecDepth 20000 in
theorem dX6_place_2 : decode cX6_place 2 = .ok (.invokevirtual 156, 3) := dc_182 0 156 (lxX6_place 0 2 rfl) (lxX6_place 0 3 rfl) (lxX6_place 0 4 rfl)
set_option maxRecDepth 20000 in
theorem dX6_place_5 : decode cX6_place 5 = .ok (.astore 4, 2) := dc_58 4 (lxX6_place 0 5 rfl) (lxX6_place 0 6 rfl)
set_option maxRecDepth 20000 in
theorem dX6_place_7 : decode cX6_place 7 = .ok (.aload_n 0, 1) := dc_42 (lxX6_place 0 7 rfl)
set_option maxRecDepth 20000 in
theorem dX6_place_8 : decode cX6_place 8 = .ok (.iload_n 2, 1) := dc_28 (lxX6_place 0 8 rfl)
set_option maxRecDepth 20000 in
theorem dX6_place_9 : decode cX6_place 9 = .ok (.invokevirtual 156, 3) := dc_182 0 156 (lxX6_place 0 9 rfl) (lxX6_place 0 10 rfl) (lxX6_place 0 11 rfl)
set_option maxRecDepth 20000 in
theorem dX6_place_12 : decode cX6_place 12 = .ok (.astore 5, 2) := dc_58 5 (lxX6_place 0 12 rfl) (lxX6_place 0 13 rfl)
set_option maxRecDepth 20000 in
theorem dX6_place_14 : decode cX6_place 14 = .ok (.iload_n 3, 1) := dc_29 (lxX6_place 0 14 rfl)
set_option maxRecDepth 20000 in
theorem dX6_place_15 : decode cX6_place 15 = .ok (.iconst 0, 1) := dc_3 (lxX6_place 0 15 rfl)
set_option maxRecDepth 20000 in
theorem dX6_place_16 : decode cX6_place 16 = .ok (.bipush 80, 2) := dc_16 80 (lxX6_place 1 0 rfl) (lxX6_place 1 1 rfl)
set_option maxRecDepth 20000 in
theorem dX6_place_18 : decode cX6_place 18 = .ok (.invokestatic 66, 3) := dc_184 0 66 (lxX6_place 1 2 rfl) (lxX6_place 1 3 rfl) (lxX6_place 1 4 rfl)
set_option maxRecDepth 20000 in
theorem dX6_place_21 : decode cX6_place 21 = .ok (.aload_n 0, 1) := dc_42 (lxX6_place 1 5 rfl)
set_option maxRecDepth 20000 in
theorem dX6_place_22 : decode cX6_place 22 = .ok (.getfield 48, 3) := dc_180 0 48 (lxX6_place 1 6 rfl) (lxX6_place 1 7 rfl) (lxX6_place 1 8 rfl)
set_option maxRecDepth 20000 in
theorem dX6_place_25 : decode cX6_place 25 = .ok (.aload 4, 2) := dc_25 4 (lxX6_place 1 9 rfl) (lxX6_place 1 10 rfl)
set_option maxRecDepth 20000 in
theorem dX6_place_27 : decode cX6_place 27 = .ok (.aload 5, 2) := dc_25 5 (lxX6_place 1 11 rfl) (lxX6_place 1 12 rfl)
set_option maxRecDepth 20000 in
theorem dX6_place_29 : decode cX6_place 29 = .ok (.invokevirtual 220, 3) := dc_182 0 220 (lxX6_place 1 13 rfl) (lxX6_place 1 14 rfl) (lxX6_place 1 15 rfl)
set_option maxRecDepth 20000 in
theorem dX6_place_32 : decode cX6_place 32 = .ok (.aload_n 0, 1) := dc_42 (lxX6_place 2 0 rfl)
set_option maxRecDepth 20000 in
theorem dX6_place_33 : decode cX6_place 33 = .ok (.getfield 48, 3) := dc_180 0 48 (lxX6_place 2 1 rfl) (lxX6_place 2 2 rfl) (lxX6_place 2 3 rfl)
set_option maxRecDepth 20000 in
theorem dX6_place_36 : decode cX6_place 36 = .ok (.iload_n 3, 1) := dc_29 (lxX6_place 2 4 rfl)
set_option maxRecDepth 20000 in
theorem dX6_place_37 : decode cX6_place 37 = .ok (.invokevirtual 224, 3) := dc_182 0 224 (lxX6_place 2 5 rfl) (lxX6_place 2 6 rfl) (lxX6_place 2 7 rfl)
set_option maxRecDepth 20000 in
theorem dX6_place_40 : decode cX6_place 40 = .ok (.ireturn, 1) := dc_172 (lxX6_place 2 8 rfl)
noncomputable def sgX6_border : List (List Cond) := [[.code yX6_border cX6_border 2 (some .int)], wsX6_border_r1, wsX6_border_r2, wsX6_border_r3, wsX60, wsX00, wsX20, wsX50, (vx_atS RX6 306 "java/lang/IndexOutOfBoundsException" ["java/lang/RuntimeException", "java/lang/Exception"]).filter goodWord]
theorem seX6_border : sgX6_border.flatten = wsX6_border := by simp only [sgX6_border, wsX6_border, List.flatten_cons, List.flatten_nil, List.append_assoc, List.append_nil, List.cons_append, List.nil_append]
set_option maxRecDepth 20000 in
theorem ggX6_border_X6_sourceOf : GoodIn wsX6_border wsX6_sourceOf := goodIn_ca (goodIn_s seX6_border _ [pq_1_4, pq_1_5, pq_1_6, pq_1_7, pq_1_8, pq_1_9, pq_4_0, pq_4_1, pq_4_2, pq_4_3, pq_4_4, pq_4_5, pq_4_6, pq_4_7, pq_4_8, pq_4_9, pq_4_10, pq_4_11, pq_4_12, pq_4_13] (by rfl) (by decide +kernel)) (goodIn_sub (fun _ h => List.mem_cons_of_mem _ (List.mem_append_right _ h)) (by decide +kernel))
set_option maxRecDepth 20000 in
theorem gX6_border_X6_sourceOf : GoodIn wsX6_border (wsV RX6 156 RX6 yX6_sourceOf wsX6_sourceOf) := goodIn_app (goodIn_s seX6_border _ [pq_1_0, pq_1_1, pq_1_2, pq_1_3] (by rfl) (by decide +kernel)) ggX6_border_X6_sourceOf
set_option maxRecDepth 20000 in
theorem ggX6_border_X6_greatestBorder : GoodIn wsX6_border wsX6_greatestBorder := goodIn_s seX6_border _ [pq_1_13, pq_1_14, pq_1_15, pq_1_16, pq_1_17, pq_1_18, pq_1_19, pq_1_20, pq_1_21, pq_1_22, pq_1_23, pq_2_0, pq_2_1, pq_2_2, pq_2_3, pq_2_4, pq_2_5, pq_2_6, pq_2_7, pq_2_8, pq_2_9, pq_2_10, pq_2_11, pq_2_12, pq_2_13, pq_2_14, pq_2_15, pq_2_16, pq_2_17, pq_2_18, pq_2_19, pq_2_20, pq_2_21, pq_2_22, pq_2_23, pq_3_0, pq_3_1, pq_3_2, pq_3_3, pq_3_4, pq_3_5, pq_3_6, pq_3_7, pq_3_8, pq_3_9, pq_3_10, pq_4_0, pq_4_1, pq_4_2, pq_4_3, pq_4_4, pq_4_5, pq_4_6, pq_4_7, pq_4_8, pq_4_9, pq_4_10, pq_4_11, pq_4_12, pq_4_13, pq_5_0, pq_5_1, pq_5_2, pq_6_0, pq_6_1, pq_7_0, pq_7_1, pq_7_2, pq_7_3, pq_7_4, pq_7_5] (by rfl) (by decide +kernel)
set_option maxRecDepth 20000 in
theorem gX6_border_X6_greatestBorder : GoodIn wsX6_border (wsV RX6 230 RX6 yX6_greatestBorder wsX6_greatestBorder) := goodIn_app (goodIn_s seX6_border _ [pq_1_10, pq_1_11, pq_1_12, pq_1_3] (by rfl) (by decide +kernel)) ggX6_border_X6_greatestBorder
set_option maxRecDepth 20000 in
theorem dX6_border_0 : decode cX6_border 0 = .ok (.aload_n 0, 1) := dc_42 rfl
set_option maxRecDepth 20000 in
theorem dX6_border_1 : decode cX6_border 1 = .ok (.aload_n 0, 1) := dc_42 rfl
set_option maxRecDepth 20000 in
theorem dX6_border_2 : decode cX6_border 2 = .ok (.iload_n 1, 1) := dc_27 rfl
set_option maxRecDepth 20000 in
theorem dX6_border_3 : decode cX6_border 3 = .ok (.invokevirtual 156, 3) := dc_182 0 156 rfl rfl rfl
set_option maxRecDepth 20000 in
theorem dX6_border_6 : decode cX6_border 6 = .ok (.invokevirtual 230, 3) := dc_182 0 230 rfl rfl rfl
set_option maxRecDepth 20000 in
theorem dX6_border_9 : decode cX6_border 9 = .ok (.ireturn, 1) := dc_172 rfl
noncomputable def sgX6_borders : List (List Cond) := [[.code yX6_borders cX6_borders 5 (some (.object "java/lang/String"))], wsX6_borders_r1, wsX6_borders_r2, wsX6_borders_r3, wsX6_borders_r4, wsX6_borders_r5, wsX6_borders_r6, wsX6_borders_r7, wsX6_borders_r8, wsX6_borders_r9, wsX6_borders_r10, wsX6_borders_r11, wsX6_borders_r12, wsX60, wsJ40, wsX00, wsX20, wsX50, wsJ00, (vx_atS RX6 306 "java/lang/IndexOutOfBoundsException" ["java/lang/RuntimeException", "java/lang/Exception"]).filter goodWord]
theorem seX6_borders : sgX6_borders.flatten = wsX6_borders := by simp only [sgX6_borders, wsX6_borders, List.flatten_cons, List.flatten_nil, List.append_assoc, List.append_nil, List.cons_append, List.nil_append]
set_option maxRecDepth 20000 in
theorem ggX6_borders_X6_sourceOf : GoodIn wsX6_borders wsX6_sourceOf := goodIn_ca (goodIn_s seX6_borders _ [pq_1_8, pq_1_9, pq_1_10, pq_1_11, pq_1_12, pq_1_13, pq_13_0, pq_13_1, pq_13_2, pq_13_3, pq_13_4, pq_13_5, pq_13_6, pq_13_7, pq_13_8, pq_13_9, pq_13_10, pq_13_11, pq_13_12, pq_13_13] (by rfl) (by decide +kernel)) (goodIn_sub (fun _ h => List.mem_cons_of_mem _ (List.mem_append_right _ h)) (by decide +kernel))
set_option maxRecDepth 20000 in
theorem gX6_borders_X6_sourceOf : GoodIn wsX6_borders (wsV RX6 156 RX6 yX6_sourceOf wsX6_sourceOf) := goodIn_app (goodIn_s seX6_borders _ [pq_1_4, pq_1_5, pq_1_6, pq_1_7] (by rfl) (by decide +kernel)) ggX6_borders_X6_sourceOf
set_option maxRecDepth 20000 in
theorem ggX6_borders_X0_measure : GoodIn wsX6_borders wsX0_measure := goodIn_s seX6_borders _ [pq_1_18, pq_1_19, pq_1_20, pq_1_21, pq_1_22, pq_1_23, pq_2_0, pq_2_1, pq_2_2, pq_2_3, pq_2_4, pq_2_5, pq_2_6, pq_2_7, pq_2_8, pq_2_9, pq_2_10, pq_2_11, pq_2_12, pq_2_13, pq_2_14, pq_2_15, pq_2_16, pq_2_17, pq_2_18, pq_2_19, pq_2_20, pq_2_21, pq_2_22, pq_2_23, pq_3_0, pq_3_1, pq_3_2, pq_1_17, pq_3_3, pq_3_4, pq_3_5, pq_3_6, pq_3_7, pq_15_0, pq_15_1, pq_15_2, pq_16_0, pq_16_1, pq_17_0, pq_17_1, pq_17_2, pq_17_3, pq_17_4, pq_17_5] (by rfl) (by decide +kernel)
set_option maxRecDepth 20000 in
theorem gX6_borders_X0_measure : GoodIn wsX6_borders (wsV RX6 234 RX0 yX0_measure wsX0_measure) := goodIn_app (goodIn_s seX6_borders _ [pq_1_14, pq_1_15, pq_1_16, pq_1_17] (by rfl) (by decide +kernel)) ggX6_borders_X0_measure
set_option maxRecDepth 20000 in
theorem ggX6_borders_J4_init_da8c8 : GoodIn wsX6_borders wsJ4_init_da8c8 := goodIn_s seX6_borders _ [pq_3_10, pq_3_11, pq_3_12, pq_3_13, pq_3_14, pq_3_15, pq_3_16, pq_3_17, pq_3_18, pq_3_19, pq_3_20, pq_3_21, pq_3_22, pq_3_23, pq_4_0, pq_4_1, pq_4_2, pq_4_3, pq_4_4, pq_4_5, pq_14_0, pq_14_1, pq_14_2, pq_14_3] (by rfl) (by decide +kernel)
set_option maxRecDepth 20000 in
theorem gX6_borders_J4_init_da8c8 : GoodIn wsX6_borders (wsJ4_init_da8c8) := ggX6_borders_J4_init_da8c8
set_option maxRecDepth 20000 in
theorem ggX6_borders_X2_size : GoodIn wsX6_borders wsX2_size := goodIn_s seX6_borders _ [pq_2_1, pq_2_2, pq_16_0, pq_16_1] (by rfl) (by decide +kernel)
set_option maxRecDepth 20000 in
theorem gX6_borders_X2_size_u165X2 : GoodIn wsX6_borders (va_wsU RX6 165 RX2 "Sashwords$Text" ⟨"Sashwords$Text", "size", "()I"⟩ yX2_size wsX2_size) := goodIn_app (goodIn_s seX6_borders _ [pq_4_6, pq_1_21, pq_1_22, pq_1_23, pq_2_0] (by rfl) (by decide +kernel)) ggX6_borders_X2_size
set_option maxRecDepth 20000 in
theorem ggX6_borders_X5_size : GoodIn wsX6_borders wsX5_size := goodIn_s seX6_borders _ [pq_2_6, pq_2_7, pq_2_8, pq_17_0, pq_17_1, pq_17_2, pq_17_3, pq_17_4, pq_17_5] (by rfl) (by decide +kernel)
set_option maxRecDepth 20000 in
theorem gX6_borders_X5_size_u165X5 : GoodIn wsX6_borders (va_wsU RX6 165 RX5 "Sashwords$Text" ⟨"Sashwords$Text", "size", "()I"⟩ yX5_size wsX5_size) := goodIn_app (goodIn_s seX6_borders _ [pq_4_6, pq_1_21, pq_2_3, pq_2_4, pq_2_5] (by rfl) (by decide +kernel)) ggX6_borders_X5_size
set_option maxRecDepth 20000 in
theorem ggX6_borders_X0_greatestOf : GoodIn wsX6_borders wsX0_greatestOf := goodIn_s seX6_borders _ [pq_3_7, pq_1_19, pq_15_0, pq_15_1, pq_15_2] (by rfl) (by decide +kernel)
set_option maxRecDepth 20000 in
theorem gX6_borders_X0_greatestOf : GoodIn wsX6_borders (wsV RX6 237 RX0 yX0_greatestOf wsX0_greatestOf) := goodIn_app (goodIn_s seX6_borders _ [pq_4_7, pq_3_5, pq_3_6, pq_1_17] (by rfl) (by decide +kernel)) ggX6_borders_X0_greatestOf
set_option maxRecDepth 20000 in
theorem ggX6_borders_J4_append_bf812 : GoodIn wsX6_borders wsJ4_append_bf812 := goodIn_s seX6_borders _ [pq_4_11, pq_4_12, pq_4_13, pq_4_14, pq_4_15, pq_3_13, pq_4_16, pq_4_17, pq_3_20, pq_4_18, pq_4_19, pq_4_20, pq_4_21, pq_4_22, pq_4_23, pq_5_0, pq_5_1, pq_5_2, pq_3_21, pq_5_3, pq_5_4, pq_5_5, pq_5_6, pq_5_7, pq_5_8, pq_5_9, pq_5_10, pq_5_11, pq_5_12, pq_5_13, pq_5_14, pq_5_15, pq_5_16, pq_5_17, pq_5_18, pq_5_19, pq_5_20, pq_5_21, pq_5_22, pq_5_23, pq_6_0, pq_6_1, pq_6_2, pq_6_3, pq_6_4, pq_6_5, pq_6_6, pq_3_19, pq_6_7, pq_6_8, pq_6_9, pq_6_10, pq_6_11, pq_6_12, pq_6_13, pq_6_14, pq_6_15, pq_6_16, pq_6_17, pq_6_18, pq_3_18, pq_6_19, pq_6_20, pq_6_21, pq_6_22, pq_6_23, pq_7_0, pq_7_1, pq_4_0, pq_7_2, pq_7_3, pq_7_4, pq_7_5, pq_7_6, pq_7_7, pq_7_8, pq_7_9, pq_7_10, pq_7_11, pq_7_12, pq_7_13, pq_7_14, pq_7_15, pq_7_16, pq_7_17, pq_7_18, pq_7_19, pq_7_20, pq_7_21, pq_7_22, pq_7_23, pq_8_0, pq_8_1, pq_8_2, pq_8_3, pq_8_4, pq_14_0, pq_14_1, pq_14_2, pq_14_3] (by rfl) (by decide +kernel)
set_option maxRecDepth 20000 in
theorem gX6_borders_J4_append_bf812 : GoodIn wsX6_borders (wsV RX6 240 RJ4 yJ4_append_bf812 wsJ4_append_bf812) := goodIn_app (goodIn_s seX6_borders _ [pq_4_8, pq_4_9, pq_4_10, pq_1_3] (by rfl) (by decide +kernel)) ggX6_borders_J4_append_bf812
set_option maxRecDepth 20000 in
theorem ggX6_borders_J4_append_cf468 : GoodIn wsX6_borders wsJ4_append_cf468 := goodIn_s seX6_borders _ [pq_8_8, pq_8_9, pq_8_10, pq_4_14, pq_8_11, pq_3_13, pq_8_12, pq_4_17, pq_3_20, pq_4_22, pq_4_23, pq_5_0, pq_5_1, pq_5_2, pq_3_21, pq_5_3, pq_5_4, pq_5_5, pq_5_6, pq_5_7, pq_5_8, pq_5_9, pq_5_10, pq_5_11, pq_5_12, pq_5_13, pq_5_14, pq_5_15, pq_5_16, pq_5_17, pq_5_18, pq_5_19, pq_5_20, pq_5_21, pq_5_22, pq_5_23, pq_6_0, pq_6_1, pq_6_2, pq_6_3, pq_6_4, pq_6_5, pq_6_6, pq_3_19, pq_6_7, pq_6_8, pq_6_9, pq_6_10, pq_6_11, pq_6_12, pq_6_13, pq_6_14, pq_6_15, pq_6_16, pq_6_17, pq_6_18, pq_3_18, pq_8_13, pq_8_14, pq_8_15, pq_8_16, pq_8_17, pq_8_18, pq_8_19, pq_8_20, pq_8_21, pq_3_22, pq_3_23, pq_4_0, pq_4_1, pq_4_2, pq_4_3, pq_4_4, pq_4_5, pq_8_22, pq_8_23, pq_9_0, pq_9_1, pq_9_2, pq_9_3, pq_9_4, pq_9_5, pq_9_6, pq_7_7, pq_7_8, pq_7_9, pq_9_7, pq_9_8, pq_7_12, pq_9_9, pq_7_14, pq_9_10, pq_9_11, pq_7_17, pq_9_12, pq_8_0, pq_8_1, pq_8_2, pq_7_3, pq_8_3, pq_8_4, pq_9_13, pq_9_14, pq_9_15, pq_9_16, pq_9_17, pq_9_18, pq_9_19, pq_9_20, pq_9_21, pq_9_22, pq_9_23, pq_10_0, pq_14_0, pq_14_1, pq_14_2, pq_14_3] (by rfl) (by decide +kernel)
set_option maxRecDepth 20000 in
theorem gX6_borders_J4_append_cf468 : GoodIn wsX6_borders (wsV RX6 116 RJ4 yJ4_append_cf468 wsJ4_append_cf468) := goodIn_app (goodIn_s seX6_borders _ [pq_8_5, pq_8_6, pq_8_7, pq_1_3] (by rfl) (by decide +kernel)) ggX6_borders_J4_append_cf468
set_option maxRecDepth 20000 in
theorem ggX6_borders_J4_toString_0e30d : GoodIn wsX6_borders wsJ4_toString_0e30d := goodIn_s seX6_borders _ [pq_10_4, pq_10_5, pq_10_6, pq_7_12, pq_10_7, pq_10_8, pq_10_9, pq_10_10, pq_10_11, pq_10_12, pq_10_13, pq_3_16, pq_3_17, pq_10_14, pq_10_15, pq_10_16, pq_10_17, pq_10_18, pq_10_19, pq_10_20, pq_10_21, pq_3_13, pq_10_22, pq_3_20, pq_10_23, pq_11_0, pq_11_1, pq_11_2, pq_11_3, pq_1_3, pq_11_4, pq_11_5, pq_4_14, pq_11_6, pq_11_7, pq_4_17, pq_11_8, pq_6_15, pq_6_16, pq_6_17, pq_6_18, pq_3_18, pq_3_21, pq_11_9, pq_11_10, pq_5_23, pq_11_11, pq_6_1, pq_6_2, pq_6_3, pq_6_4, pq_6_5, pq_6_6, pq_11_12, pq_11_13, pq_11_14, pq_3_19, pq_6_7, pq_6_8, pq_5_15, pq_6_9, pq_6_10, pq_6_11, pq_6_12, pq_6_13, pq_11_15, pq_11_16, pq_11_17, pq_11_18, pq_1_2, pq_11_19, pq_11_20, pq_4_0, pq_11_21, pq_11_22, pq_11_23, pq_12_0, pq_9_4, pq_9_5, pq_9_6, pq_7_7, pq_7_8, pq_7_9, pq_9_7, pq_9_8, pq_9_9, pq_7_14, pq_9_10, pq_9_11, pq_7_17, pq_9_12, pq_12_1, pq_12_2, pq_12_3, pq_7_3, pq_8_3, pq_8_4, pq_4_2, pq_4_3, pq_4_4, pq_4_5, pq_12_4, pq_12_5, pq_12_6, pq_12_7, pq_18_0, pq_18_1, pq_18_2, pq_18_3, pq_14_0, pq_14_1, pq_14_2, pq_14_3] (by rfl) (by decide +kernel)
set_option maxRecDepth 20000 in
theorem gX6_borders_J4_toString_0e30d : GoodIn wsX6_borders (wsV RX6 120 RJ4 yJ4_toString_0e30d wsJ4_toString_0e30d) := goodIn_app (goodIn_s seX6_borders _ [pq_10_1, pq_10_2, pq_10_3, pq_1_3] (by rfl) (by decide +kernel)) ggX6_borders_J4_toString_0e30d
def lb_sgX6_borders : List (List UInt8) := [[42, 27, 182, 0, 156, 77, 42, 180, 0, 58, 44, 182, 0, 234, 187, 0], [113, 89, 183, 0, 115, 78, 4, 54, 4, 21, 4, 44, 182, 0, 165, 163], [0, 28, 45, 42, 180, 0, 58, 21, 4, 182, 0, 237, 182, 0, 240, 16], [32, 182, 0, 116, 87, 132, 4, 1, 167, 255, 225, 45, 182, 0, 120, 176]]
set_option maxRecDepth 100000 in
theorem lb_seX6_borders : cX6_borders.data.toList = lb_sgX6_borders.flatten := by decide +kernel
theorem lb_lnX6_borders : ∀ s ∈ lb_sgX6_borders.dropLast, s.length = 16 := by decide +kernel
theorem lxX6_borders (k j : Nat) {b : UInt8} (h : (lb_sgX6_borders[k]?).bind (fun s => s[j]?) = some b) : lb_at cX6_borders (16 * k + j) b := by
  unfold lb_at
  rw [lb_seX6_borders]
  exact lb_flat 16 lb_sgX6_borders k j b lb_lnX6_borders h
set_option maxRecDepth 20000 in
theorem dX6_borders_0 : decode cX6_borders 0 = .ok (.aload_n 0, 1) := dc_42 (lxX6_borders 0 0 rfl)
set_option maxRecDepth 20000 in
theorem dX6_borders_1 : decode cX6_borders 1 = .ok (.iload_n 1, 1) := dc_27 (lxX6_borders 0 1 rfl)
set_option maxRecDepth 20000 in
theorem dX6_borders_2 : decode cX6_borders 2 = .ok (.invokevirtual 156, 3) := dc_182 0 156 (lxX6_borders 0 2 rfl) (lxX6_borders 0 3 rfl) (lxX6_borders 0 4 rfl)
set_option maxRecDepth 20000 in
theorem dX6_borders_5 : decode cX6_borders 5 = .ok (.astore_n 2, 1) := dc_77 (lxX6_borders 0 5 rfl)
set_option maxRecDepth 20000 in
theorem dX6_borders_6 : decode cX6_borders 6 = .ok (.aload_n 0, 1) := dc_42 (lxX6_borders 0 6 rfl)
set_option maxRecDepth 20000 in
theorem dX6_borders_7 : decode cX6_borders 7 = .ok (.getfield 58, 3) := dc_180 0 58 (lxX6_borders 0 7 rfl) (lxX6_borders 0 8 rfl) (lxX6_borders 0 9 rfl)
set_option maxRecDepth 20000 in
theorem dX6_borders_10 : decode cX6_borders 10 = .ok (.aload_n 2, 1) := dc_44 (lxX6_borders 0 10 rfl)
set_option maxRecDepth 20000 in
theorem dX6_borders_11 : decode cX6_borders 11 = .ok (.invokevirtual 234, 3) := dc_182 0 234 (lxX6_borders 0 11 rfl) (lxX6_borders 0 12 rfl) (lxX6_borders 0 13 rfl)
set_option maxRecDepth 20000 in
theorem dX6_borders_14 : decode cX6_borders 14 = .ok (.new 113, 3) := dc_187 0 113 (lxX6_borders 0 14 rfl) (lxX6_borders 0 15 rfl) (lxX6_borders 1 0 rfl)
set_option maxRecDepth 20000 in
theorem dX6_borders_17 : decode cX6_borders 17 = .ok (.dup, 1) := dc_89 (lxX6_borders 1 1 rfl)
set_option maxRecDepth 20000 in
theorem dX6_borders_18 : decode cX6_borders 18 = .ok (.invokespecial 115, 3) := dc_183 0 115 (lxX6_borders 1 2 rfl) (lxX6_borders 1 3 rfl) (lxX6_borders 1 4 rfl)
set_option maxRecDepth 20000 in
theorem dX6_borders_21 : decode cX6_borders 21 = .ok (.astore_n 3, 1) := dc_78 (lxX6_borders 1 5 rfl)
set_option maxRecDepth 20000 in
theorem dX6_borders_22 : decode cX6_borders 22 = .ok (.iconst 1, 1) := dc_4 (lxX6_borders 1 6 rfl)
set_option maxRecDepth 20000 in
theorem dX6_borders_23 : decode cX6_borders 23 = .ok (.istore 4, 2) := dc_54 4 (lxX6_borders 1 7 rfl) (lxX6_borders 1 8 rfl)
set_option maxRecDepth 20000 in
theorem dX6_borders_25 : decode cX6_borders 25 = .ok (.iload 4, 2) := dc_21 4 (lxX6_borders 1 9 rfl) (lxX6_borders 1 10 rfl)
set_option maxRecDepth 20000 in
theorem dX6_borders_27 : decode cX6_borders 27 = .ok (.aload_n 2, 1) := dc_44 (lxX6_borders 1 11 rfl)
set_option maxRecDepth 20000 in
theorem dX6_borders_28 : decode cX6_borders 28 = .ok (.invokevirtual 165, 3) := dc_182 0 165 (lxX6_borders 1 12 rfl) (lxX6_borders 1 13 rfl) (lxX6_borders 1 14 rfl)
set_option maxRecDepth 20000 in
theorem dX6_borders_31 : decode cX6_borders 31 = .ok (.if_icmp .gt 28, 3) := dc_163 0 28 (lxX6_borders 1 15 rfl) (lxX6_borders 2 0 rfl) (lxX6_borders 2 1 rfl)
set_option maxRecDepth 20000 in
theorem dX6_borders_34 : decode cX6_borders 34 = .ok (.aload_n 3, 1) := dc_45 (lxX6_borders 2 2 rfl)
set_option maxRecDepth 20000 in
theorem dX6_borders_35 : decode cX6_borders 35 = .ok (.aload_n 0, 1) := dc_42 (lxX6_borders 2 3 rfl)
set_option maxRecDepth 20000 in
theorem dX6_borders_36 : decode cX6_borders 36 = .ok (.getfield 58, 3) := dc_180 0 58 (lxX6_borders 2 4 rfl) (lxX6_borders 2 5 rfl) (lxX6_borders 2 6 rfl)
set_option maxRecDepth 20000 in
theorem dX6_borders_39 : decode cX6_borders 39 = .ok (.iload 4, 2) := dc_21 4 (lxX6_borders 2 7 rfl) (lxX6_borders 2 8 rfl)
set_option maxRecDepth 20000 in
theorem dX6_borders_41 : decode cX6_borders 41 = .ok (.invokevirtual 237, 3) := dc_182 0 237 (lxX6_borders 2 9 rfl) (lxX6_borders 2 10 rfl) (lxX6_borders 2 11 rfl)
set_option maxRecDepth 20000 in
theorem dX6_borders_44 : decode cX6_borders 44 = .ok (.invokevirtual 240, 3) := dc_182 0 240 (lxX6_borders 2 12 rfl) (lxX6_borders 2 13 rfl) (lxX6_borders 2 14 rfl)
set_option maxRecDepth 20000 in
theorem dX6_borders_47 : decode cX6_borders 47 = .ok (.bipush 32, 2) := dc_16 32 (lxX6_borders 2 15 rfl) (lxX6_borders 3 0 rfl)
set_option maxRecDepth 20000 in
theorem dX6_borders_49 : decode cX6_borders 49 = .ok (.invokevirtual 116, 3) := dc_182 0 116 (lxX6_borders 3 1 rfl) (lxX6_borders 3 2 rfl) (lxX6_borders 3 3 rfl)
set_option maxRecDepth 20000 in
theorem dX6_borders_52 : decode cX6_borders 52 = .ok (.pop, 1) := dc_87 (lxX6_borders 3 4 rfl)
set_option maxRecDepth 20000 in
theorem dX6_borders_53 : decode cX6_borders 53 = .ok (.iinc 4 1, 3) := dc_132 4 1 (lxX6_borders 3 5 rfl) (lxX6_borders 3 6 rfl) (lxX6_borders 3 7 rfl)
set_option maxRecDepth 20000 in
theorem dX6_borders_56 : decode cX6_borders 56 = .ok (.goto (-31), 3) := dc_167 255 225 (lxX6_borders 3 8 rfl) (lxX6_borders 3 9 rfl) (lxX6_borders 3 10 rfl)
set_option maxRecDepth 20000 in
theorem dX6_borders_59 : decode cX6_borders 59 = .ok (.aload_n 3, 1) := dc_45 (lxX6_borders 3 11 rfl)
set_option maxRecDepth 20000 in
theorem dX6_borders_60 : decode cX6_borders 60 = .ok (.invokevirtual 120, 3) := dc_182 0 120 (lxX6_borders 3 12 rfl) (lxX6_borders 3 13 rfl) (lxX6_borders 3 14 rfl)
set_option maxRecDepth 20000 in
theorem dX6_borders_63 : decode cX6_borders 63 = .ok (.areturn, 1) := dc_176 (lxX6_borders 3 15 rfl)
noncomputable def sgX6_chain : List (List Cond) := [[.code yX6_chain cX6_chain 4 (some (.object "java/lang/String"))], wsX6_chain_r1, wsX6_chain_r2, wsX6_chain_r3, wsX6_chain_r4, wsX6_chain_r5, wsX6_chain_r6, wsX6_chain_r7, wsX6_chain_r8, wsX6_chain_r9, wsX6_chain_r10, wsX6_chain_r11, wsX6_chain_r12, wsX60, wsJ40, wsX00, wsX20, wsX50, wsJ00, (vx_atS RX6 306 "java/lang/IndexOutOfBoundsException" ["java/lang/RuntimeException", "java/lang/Exception"]).filter goodWord]
theorem seX6_chain : sgX6_chain.flatten = wsX6_chain := by simp only [sgX6_chain, wsX6_chain, List.flatten_cons, List.flatten_nil, List.append_assoc, List.append_nil, List.cons_append, List.nil_append]
set_option maxRecDepth 20000 in
theorem ggX6_chain_X6_sourceOf : GoodIn wsX6_chain wsX6_sourceOf := goodIn_ca (goodIn_s seX6_chain _ [pq_1_8, pq_1_9, pq_1_10, pq_1_11, pq_1_12, pq_1_13, pq_13_0, pq_13_1, pq_13_2, pq_13_3, pq_13_4, pq_13_5, pq_13_6, pq_13_7, pq_13_8, pq_13_9, pq_13_10, pq_13_11, pq_13_12, pq_13_13] (by rfl) (by decide +kernel)) (goodIn_sub (fun _ h => List.mem_cons_of_mem _ (List.mem_append_right _ h)) (by decide +kernel))
set_option maxRecDepth 20000 in
theorem gX6_chain_X6_sourceOf : GoodIn wsX6_chain (wsV RX6 156 RX6 yX6_sourceOf wsX6_sourceOf) := goodIn_app (goodIn_s seX6_chain _ [pq_1_4, pq_1_5, pq_1_6, pq_1_7] (by rfl) (by decide +kernel)) ggX6_chain_X6_sourceOf
set_option maxRecDepth 20000 in
theorem ggX6_chain_X0_measureChain : GoodIn wsX6_chain wsX0_measureChain := goodIn_s seX6_chain _ [pq_1_18, pq_1_19, pq_1_20, pq_1_21, pq_1_22, pq_1_23, pq_1_17, pq_2_0, pq_2_1, pq_2_2, pq_2_3, pq_2_4, pq_2_5, pq_2_6, pq_2_7, pq_2_8, pq_2_9, pq_2_10, pq_2_11, pq_2_12, pq_2_13, pq_2_14, pq_2_15, pq_2_16, pq_2_17, pq_2_18, pq_2_19, pq_2_20, pq_2_21, pq_2_22, pq_2_23, pq_3_0, pq_3_1, pq_3_2, pq_3_3, pq_3_4, pq_3_5, pq_3_6, pq_3_7, pq_3_8, pq_3_9, pq_3_10, pq_3_11, pq_3_12, pq_3_13, pq_15_0, pq_15_1, pq_15_2, pq_16_0, pq_16_1, pq_17_0, pq_17_1, pq_17_2, pq_17_3, pq_17_4, pq_17_5] (by rfl) (by decide +kernel)
set_option maxRecDepth 20000 in
theorem gX6_chain_X0_measureChain : GoodIn wsX6_chain (wsV RX6 243 RX0 yX0_measureChain wsX0_measureChain) := goodIn_app (goodIn_s seX6_chain _ [pq_1_14, pq_1_15, pq_1_16, pq_1_17] (by rfl) (by decide +kernel)) ggX6_chain_X0_measureChain
set_option maxRecDepth 20000 in
theorem ggX6_chain_J4_init_da8c8 : GoodIn wsX6_chain wsJ4_init_da8c8 := goodIn_s seX6_chain _ [pq_3_16, pq_3_17, pq_3_18, pq_3_19, pq_3_20, pq_3_21, pq_3_22, pq_3_23, pq_4_0, pq_4_1, pq_4_2, pq_4_3, pq_4_4, pq_4_5, pq_4_6, pq_4_7, pq_4_8, pq_4_9, pq_4_10, pq_4_11, pq_14_0, pq_14_1, pq_14_2, pq_14_3] (by rfl) (by decide +kernel)
set_option maxRecDepth 20000 in
theorem gX6_chain_J4_init_da8c8 : GoodIn wsX6_chain (wsJ4_init_da8c8) := ggX6_chain_J4_init_da8c8
set_option maxRecDepth 20000 in
theorem ggX6_chain_X0_linkAt : GoodIn wsX6_chain wsX0_linkAt := goodIn_s seX6_chain _ [pq_4_15, pq_1_19, pq_1_20, pq_15_0, pq_15_1, pq_15_2] (by rfl) (by decide +kernel)
set_option maxRecDepth 20000 in
theorem gX6_chain_X0_linkAt : GoodIn wsX6_chain (wsV RX6 249 RX0 yX0_linkAt wsX0_linkAt) := goodIn_app (goodIn_s seX6_chain _ [pq_4_12, pq_4_13, pq_4_14, pq_1_17] (by rfl) (by decide +kernel)) ggX6_chain_X0_linkAt
set_option maxRecDepth 20000 in
theorem ggX6_chain_J4_append_bf812 : GoodIn wsX6_chain wsJ4_append_bf812 := goodIn_s seX6_chain _ [pq_4_19, pq_4_20, pq_4_21, pq_4_22, pq_4_23, pq_3_19, pq_5_0, pq_5_1, pq_4_2, pq_5_2, pq_5_3, pq_5_4, pq_5_5, pq_5_6, pq_5_7, pq_5_8, pq_5_9, pq_5_10, pq_4_3, pq_5_11, pq_5_12, pq_5_13, pq_5_14, pq_5_15, pq_5_16, pq_5_17, pq_5_18, pq_5_19, pq_5_20, pq_5_21, pq_5_22, pq_5_23, pq_6_0, pq_6_1, pq_6_2, pq_6_3, pq_6_4, pq_6_5, pq_6_6, pq_6_7, pq_6_8, pq_6_9, pq_6_10, pq_6_11, pq_6_12, pq_6_13, pq_6_14, pq_4_1, pq_6_15, pq_6_16, pq_6_17, pq_6_18, pq_6_19, pq_6_20, pq_6_21, pq_6_22, pq_6_23, pq_7_0, pq_7_1, pq_7_2, pq_4_0, pq_7_3, pq_7_4, pq_7_5, pq_7_6, pq_7_7, pq_7_8, pq_7_9, pq_4_6, pq_7_10, pq_7_11, pq_7_12, pq_7_13, pq_7_14, pq_7_15, pq_7_16, pq_7_17, pq_7_18, pq_7_19, pq_7_20, pq_7_21, pq_7_22, pq_7_23, pq_8_0, pq_8_1, pq_8_2, pq_8_3, pq_8_4, pq_8_5, pq_8_6, pq_8_7, pq_8_8, pq_8_9, pq_8_10, pq_8_11, pq_8_12, pq_14_0, pq_14_1, pq_14_2, pq_14_3] (by rfl) (by decide +kernel)
set_option maxRecDepth 20000 in
theorem gX6_chain_J4_append_bf812 : GoodIn wsX6_chain (wsV RX6 240 RJ4 yJ4_append_bf812 wsJ4_append_bf812) := goodIn_app (goodIn_s seX6_chain _ [pq_4_16, pq_4_17, pq_4_18, pq_1_3] (by rfl) (by decide +kernel)) ggX6_chain_J4_append_bf812
set_option maxRecDepth 20000 in
theorem ggX6_chain_J4_append_cf468 : GoodIn wsX6_chain wsJ4_append_cf468 := goodIn_s seX6_chain _ [pq_8_16, pq_8_17, pq_8_18, pq_4_22, pq_8_19, pq_3_19, pq_8_20, pq_5_1, pq_4_2, pq_5_6, pq_5_7, pq_5_8, pq_5_9, pq_5_10, pq_4_3, pq_5_11, pq_5_12, pq_5_13, pq_5_14, pq_5_15, pq_5_16, pq_5_17, pq_5_18, pq_5_19, pq_5_20, pq_5_21, pq_5_22, pq_5_23, pq_6_0, pq_6_1, pq_6_2, pq_6_3, pq_6_4, pq_6_5, pq_6_6, pq_6_7, pq_6_8, pq_6_9, pq_6_10, pq_6_11, pq_6_12, pq_6_13, pq_6_14, pq_4_1, pq_6_15, pq_6_16, pq_6_17, pq_6_18, pq_6_19, pq_6_20, pq_6_21, pq_6_22, pq_6_23, pq_7_0, pq_7_1, pq_7_2, pq_4_0, pq_8_21, pq_8_22, pq_8_23, pq_9_0, pq_9_1, pq_9_2, pq_9_3, pq_9_4, pq_9_5, pq_4_4, pq_4_5, pq_4_6, pq_4_7, pq_4_8, pq_4_9, pq_4_10, pq_4_11, pq_9_6, pq_9_7, pq_9_8, pq_9_9, pq_9_10, pq_9_11, pq_9_12, pq_9_13, pq_9_14, pq_7_15, pq_7_16, pq_7_17, pq_9_15, pq_9_16, pq_7_20, pq_9_17, pq_7_22, pq_9_18, pq_9_19, pq_8_1, pq_9_20, pq_8_8, pq_8_9, pq_8_10, pq_7_11, pq_8_11, pq_8_12, pq_9_21, pq_9_22, pq_9_23, pq_10_0, pq_10_1, pq_10_2, pq_10_3, pq_10_4, pq_10_5, pq_10_6, pq_10_7, pq_10_8, pq_14_0, pq_14_1, pq_14_2, pq_14_3] (by rfl) (by decide +kernel)
set_option maxRecDepth 20000 in
theorem gX6_chain_J4_append_cf468 : GoodIn wsX6_chain (wsV RX6 116 RJ4 yJ4_append_cf468 wsJ4_append_cf468) := goodIn_app (goodIn_s seX6_chain _ [pq_8_13, pq_8_14, pq_8_15, pq_1_3] (by rfl) (by decide +kernel)) ggX6_chain_J4_append_cf468
set_option maxRecDepth 20000 in
theorem ggX6_chain_J4_toString_0e30d : GoodIn wsX6_chain wsJ4_toString_0e30d := goodIn_s seX6_chain _ [pq_10_12, pq_10_13, pq_10_14, pq_7_20, pq_10_15, pq_10_16, pq_10_17, pq_10_18, pq_10_19, pq_10_20, pq_10_21, pq_3_22, pq_3_23, pq_10_22, pq_10_23, pq_11_0, pq_11_1, pq_11_2, pq_11_3, pq_11_4, pq_11_5, pq_3_19, pq_11_6, pq_4_2, pq_11_7, pq_11_8, pq_11_9, pq_11_10, pq_11_11, pq_1_3, pq_11_12, pq_11_13, pq_4_22, pq_11_14, pq_11_15, pq_5_1, pq_11_16, pq_6_23, pq_7_0, pq_7_1, pq_7_2, pq_4_0, pq_4_3, pq_11_17, pq_11_18, pq_6_7, pq_11_19, pq_6_9, pq_6_10, pq_6_11, pq_6_12, pq_6_13, pq_6_14, pq_11_20, pq_11_21, pq_11_22, pq_4_1, pq_6_15, pq_6_16, pq_5_23, pq_6_17, pq_6_18, pq_6_19, pq_6_20, pq_6_21, pq_11_23, pq_12_0, pq_12_1, pq_12_2, pq_1_2, pq_12_3, pq_12_4, pq_4_6, pq_12_5, pq_12_6, pq_12_7, pq_12_8, pq_9_12, pq_9_13, pq_9_14, pq_7_15, pq_7_16, pq_7_17, pq_9_15, pq_9_16, pq_9_17, pq_7_22, pq_9_18, pq_9_19, pq_8_1, pq_9_20, pq_12_9, pq_12_10, pq_12_11, pq_7_11, pq_8_11, pq_8_12, pq_4_8, pq_4_9, pq_4_10, pq_4_11, pq_12_12, pq_12_13, pq_12_14, pq_12_15, pq_18_0, pq_18_1, pq_18_2, pq_18_3, pq_14_0, pq_14_1, pq_14_2, pq_14_3] (by rfl) (by decide +kernel)
set_option maxRecDepth 20000 in
theorem gX6_chain_J4_toString_0e30d : GoodIn wsX6_chain (wsV RX6 120 RJ4 yJ4_toString_0e30d wsJ4_toString_0e30d) := goodIn_app (goodIn_s seX6_chain _ [pq_10_9, pq_10_10, pq_10_11, pq_1_3] (by rfl) (by decide +kernel)) ggX6_chain_J4_toString_0e30d
def lb_sgX6_chain : List (List UInt8) := [[42, 180, 0, 58, 42, 27, 182, 0, 156, 182, 0, 243, 187, 0, 113, 89], [183, 0, 115, 77, 3, 62, 29, 42, 180, 0, 58, 180, 0, 246, 162, 0], [27, 44, 42, 180, 0, 58, 29, 182, 0, 249, 182, 0, 240, 16, 32, 182], [0, 116, 87, 132, 3, 1, 167, 255, 224, 44, 182, 0, 120, 176]]
set_option maxRecDepth 100000 in
theorem lb_seX6_chain : cX6_chain.data.toList = lb_sgX6_chain.flatten := by decide +kernel
theorem lb_lnX6_chain : ∀ s ∈ lb_sgX6_chain.dropLast, s.length = 16 := by decide +kernel
theorem lxX6_chain (k j : Nat) {b : UInt8} (h : (lb_sgX6_chain[k]?).bind (fun s => s[j]?) = some b) : lb_at cX6_chain (16 * k + j) b := by
  unfold lb_at
  rw [lb_seX6_chain]
  exact lb_flat 16 lb_sgX6_chain k j b lb_lnX6_chain h
set_option maxRecDepth 20000 in
theorem dX6_chain_0 : decode cX6_chain 0 = .ok (.aload_n 0, 1) := dc_42 (lxX6_chain 0 0 rfl)
set_option maxRecDepth 20000 in
theorem dX6_chain_1 : decode cX6_chain 1 = .ok (.getfield 58, 3) := dc_180 0 58 (lxX6_chain 0 1 rfl) (lxX6_chain 0 2 rfl) (lxX6_chain 0 3 rfl)
set_option maxRecDepth 20000 in
theorem dX6_chain_4 : decode cX6_chain 4 = .ok (.aload_n 0, 1) := dc_42 (lxX6_chain 0 4 rfl)
set_option maxRecDepth 20000 in
theorem dX6_chain_5 : decode cX6_chain 5 = .ok (.iload_n 1, 1) := dc_27 (lxX6_chain 0 5 rfl)
set_option maxRecDepth 20000 in
theorem dX6_chain_6 : decode cX6_chain 6 = .ok (.invokevirtual 156, 3) := dc_182 0 156 (lxX6_chain 0 6 rfl) (lxX6_chain 0 7 rfl) (lxX6_chain 0 8 rfl)
set_option maxRecDepth 20000 in
theorem dX6_chain_9 : decode cX6_chain 9 = .ok (.invokevirtual 243, 3) := dc_182 0 243 (lxX6_chain 0 9 rfl) (lxX6_chain 0 10 rfl) (lxX6_chain 0 11 rfl)
set_option maxRecDepth 20000 in
theorem dX6_chain_12 : decode cX6_chain 12 = .ok (.new 113, 3) := dc_187 0 113 (lxX6_chain 0 12 rfl) (lxX6_chain 0 13 rfl) (lxX6_chain 0 14 rfl)
set_option maxRecDepth 20000 in
theorem dX6_chain_15 : decode cX6_chain 15 = .ok (.dup, 1) := dc_89 (lxX6_chain 0 15 rfl)
set_option maxRecDepth 20000 in
theorem dX6_chain_16 : decode cX6_chain 16 = .ok (.invokespecial 115, 3) := dc_183 0 115 (lxX6_chain 1 0 rfl) (lxX6_chain 1 1 rfl) (lxX6_chain 1 2 rfl)
set_option maxRecDepth 20000 in
theorem dX6_chain_19 : decode cX6_chain 19 = .ok (.astore_n 2, 1) := dc_77 (lxX6_chain 1 3 rfl)
set_option maxRecDepth 20000 in
theorem dX6_chain_20 : decode cX6_chain 20 = .ok (.iconst 0, 1) := dc_3 (lxX6_chain 1 4 rfl)
set_option maxRecDepth 20000 in
theorem dX6_chain_21 : decode cX6_chain 21 = .ok (.istore_n 3, 1) := dc_62 (lxX6_chain 1 5 rfl)
set_option maxRecDepth 20000 in
theorem dX6_chain_22 : decode cX6_chain 22 = .ok (.iload_n 3, 1) := dc_29 (lxX6_chain 1 6 rfl)
set_option maxRecDepth 20000 in
theorem dX6_chain_23 : decode cX6_chain 23 = .ok (.aload_n 0, 1) := dc_42 (lxX6_chain 1 7 rfl)
set_option maxRecDepth 20000 in
theorem dX6_chain_24 : decode cX6_chain 24 = .ok (.getfield 58, 3) := dc_180 0 58 (lxX6_chain 1 8 rfl) (lxX6_chain 1 9 rfl) (lxX6_chain 1 10 rfl)
set_option maxRecDepth 20000 in
theorem dX6_chain_27 : decode cX6_chain 27 = .ok (.getfield 246, 3) := dc_180 0 246 (lxX6_chain 1 11 rfl) (lxX6_chain 1 12 rfl) (lxX6_chain 1 13 rfl)
set_option maxRecDepth 20000 in
theorem dX6_chain_30 : decode cX6_chain 30 = .ok (.if_icmp .ge 27, 3) := dc_162 0 27 (lxX6_chain 1 14 rfl) (lxX6_chain 1 15 rfl) (lxX6_chain 2 0 rfl)
set_option maxRecDepth 20000 in
theorem dX6_chain_33 : decode cX6_chain 33 = .ok (.aload_n 2, 1) := dc_44 (lxX6_chain 2 1 rfl)
set_option maxRecDepth 20000 in
theorem dX6_chain_34 : decode cX6_chain 34 = .ok (.aload_n 0, 1) := dc_42 (lxX6_chain 2 2 rfl)
set_option maxRecDepth 20000 in
theorem dX6_chain_35 : decode cX6_chain 35 = .ok (.getfield 58, 3) := dc_180 0 58 (lxX6_chain 2 3 rfl) (lxX6_chain 2 4 rfl) (lxX6_chain 2 5 rfl)
set_option maxRecDepth 20000 in
theorem dX6_chain_38 : decode cX6_chain 38 = .ok (.iload_n 3, 1) := dc_29 (lxX6_chain 2 6 rfl)
set_option maxRecDepth 20000 in
theorem dX6_chain_39 : decode cX6_chain 39 = .ok (.invokevirtual 249, 3) := dc_182 0 249 (lxX6_chain 2 7 rfl) (lxX6_chain 2 8 rfl) (lxX6_chain 2 9 rfl)
set_option maxRecDepth 20000 in
theorem dX6_chain_42 : decode cX6_chain 42 = .ok (.invokevirtual 240, 3) := dc_182 0 240 (lxX6_chain 2 10 rfl) (lxX6_chain 2 11 rfl) (lxX6_chain 2 12 rfl)
set_option maxRecDepth 20000 in
theorem dX6_chain_45 : decode cX6_chain 45 = .ok (.bipush 32, 2) := dc_16 32 (lxX6_chain 2 13 rfl) (lxX6_chain 2 14 rfl)
set_option maxRecDepth 20000 in
theorem dX6_chain_47 : decode cX6_chain 47 = .ok (.invokevirtual 116, 3) := dc_182 0 116 (lxX6_chain 2 15 rfl) (lxX6_chain 3 0 rfl) (lxX6_chain 3 1 rfl)
set_option maxRecDepth 20000 in
theorem dX6_chain_50 : decode cX6_chain 50 = .ok (.pop, 1) := dc_87 (lxX6_chain 3 2 rfl)
set_option maxRecDepth 20000 in
theorem dX6_chain_51 : decode cX6_chain 51 = .ok (.iinc 3 1, 3) := dc_132 3 1 (lxX6_chain 3 3 rfl) (lxX6_chain 3 4 rfl) (lxX6_chain 3 5 rfl)
set_option maxRecDepth 20000 in
theorem dX6_chain_54 : decode cX6_chain 54 = .ok (.goto (-32), 3) := dc_167 255 224 (lxX6_chain 3 6 rfl) (lxX6_chain 3 7 rfl) (lxX6_chain 3 8 rfl)
set_option maxRecDepth 20000 in
theorem dX6_chain_57 : decode cX6_chain 57 = .ok (.aload_n 2, 1) := dc_44 (lxX6_chain 3 9 rfl)
set_option maxRecDepth 20000 in
theorem dX6_chain_58 : decode cX6_chain 58 = .ok (.invokevirtual 120, 3) := dc_182 0 120 (lxX6_chain 3 10 rfl) (lxX6_chain 3 11 rfl) (lxX6_chain 3 12 rfl)
set_option maxRecDepth 20000 in
theorem dX6_chain_61 : decode cX6_chain 61 = .ok (.areturn, 1) := dc_176 (lxX6_chain 3 13 rfl)
noncomputable def sgX6_differ : List (List Cond) := [[.code yX6_differ cX6_differ 3 (some .int)], wsX6_differ_r1, wsX6_differ_r2, wsX60, wsX20, wsX50, (vx_atS RX6 306 "java/lang/IndexOutOfBoundsException" ["java/lang/RuntimeException", "java/lang/Exception"]).filter goodWord]
theorem seX6_differ : sgX6_differ.flatten = wsX6_differ := by simp only [sgX6_differ, wsX6_differ, List.flatten_cons, List.flatten_nil, List.append_assoc, List.append_nil, List.cons_append, List.nil_append]
set_option maxRecDepth 20000 in
theorem ggX6_differ_X6_sourceOf : GoodIn wsX6_differ wsX6_sourceOf := goodIn_ca (goodIn_s seX6_differ _ [pq_1_4, pq_1_5, pq_1_6, pq_1_7, pq_1_8, pq_1_9, pq_3_0, pq_3_1, pq_3_2, pq_3_3, pq_3_4, pq_3_5, pq_3_6, pq_3_7, pq_3_8, pq_3_9, pq_3_10, pq_3_11, pq_3_12, pq_3_13] (by rfl) (by decide +kernel)) (goodIn_sub (fun _ h => List.mem_cons_of_mem _ (List.mem_append_right _ h)) (by decide +kernel))
set_option maxRecDepth 20000 in
theorem gX6_differ_X6_sourceOf : GoodIn wsX6_differ (wsV RX6 156 RX6 yX6_sourceOf wsX6_sourceOf) := goodIn_app (goodIn_s seX6_differ _ [pq_1_0, pq_1_1, pq_1_2, pq_1_3] (by rfl) (by decide +kernel)) ggX6_differ_X6_sourceOf
set_option maxRecDepth 20000 in
theorem ggX6_differ_X6_firstUnlike : GoodIn wsX6_differ wsX6_firstUnlike := goodIn_s seX6_differ _ [pq_1_12, pq_1_13, pq_1_14, pq_1_15, pq_1_16, pq_1_17, pq_1_18, pq_1_19, pq_1_20, pq_1_21, pq_1_22, pq_1_23, pq_2_0, pq_2_1, pq_2_2, pq_2_3, pq_2_4, pq_2_5, pq_2_6, pq_2_7, pq_2_8, pq_2_9, pq_2_10, pq_2_11, pq_2_12, pq_2_13, pq_2_14, pq_2_15, pq_2_16, pq_2_17, pq_2_18, pq_2_19, pq_2_20, pq_4_0, pq_4_1, pq_5_0, pq_5_1, pq_5_2, pq_5_3, pq_5_4, pq_5_5] (by rfl) (by decide +kernel)
set_option maxRecDepth 20000 in
theorem gX6_differ_X6_firstUnlike : GoodIn wsX6_differ (va_wsS RX6 252 yX6_firstUnlike wsX6_firstUnlike) := goodIn_app (goodIn_s seX6_differ _ [pq_1_10, pq_1_11, pq_1_3] (by rfl) (by decide +kernel)) ggX6_differ_X6_firstUnlike
def lb_sgX6_differ : List (List UInt8) := [[42, 27, 182, 0, 156, 42, 28, 182, 0, 156, 184, 0, 252, 172]]
set_option maxRecDepth 100000 in
theorem lb_seX6_differ : cX6_differ.data.toList = lb_sgX6_differ.flatten := by decide +kernel
theorem lb_lnX6_differ : ∀ s ∈ lb_sgX6_differ.dropLast, s.length = 16 := by decide +kernel
theorem lxX6_differ (k j : Nat) {b : UInt8} (h : (lb_sgX6_differ[k]?).bind (fun s => s[j]?) = some b) : lb_at cX6_differ (16 * k + j) b := by
  unfold lb_at
  rw [lb_seX6_differ]
  exact lb_flat 16 lb_sgX6_differ k j b lb_lnX6_differ h
set_option maxRecDepth 20000 in
theorem dX6_differ_0 : decode cX6_differ 0 = .ok (.aload_n 0, 1) := dc_42 (lxX6_differ 0 0 rfl)
set_option maxRecDepth 20000 in
theorem dX6_differ_1 : decode cX6_differ 1 = .ok (.iload_n 1, 1) := dc_27 (lxX6_differ 0 1 rfl)
set_option maxRecDepth 20000 in
theorem dX6_differ_2 : decode cX6_differ 2 = .ok (.invokevirtual 156, 3) := dc_182 0 156 (lxX6_differ 0 2 rfl) (lxX6_differ 0 3 rfl) (lxX6_differ 0 4 rfl)
set_option maxRecDepth 20000 in
theorem dX6_differ_5 : decode cX6_differ 5 = .ok (.aload_n 0, 1) := dc_42 (lxX6_differ 0 5 rfl)
set_option maxRecDepth 20000 in
theorem dX6_differ_6 : decode cX6_differ 6 = .ok (.iload_n 2, 1) := dc_28 (lxX6_differ 0 6 rfl)
set_option maxRecDepth 20000 in
theorem dX6_differ_7 : decode cX6_differ 7 = .ok (.invokevirtual 156, 3) := dc_182 0 156 (lxX6_differ 0 7 rfl) (lxX6_differ 0 8 rfl) (lxX6_differ 0 9 rfl)
set_option maxRecDepth 20000 in
theorem dX6_differ_10 : decode cX6_differ 10 = .ok (.invokestatic 252, 3) := dc_184 0 252 (lxX6_differ 0 10 rfl) (lxX6_differ 0 11 rfl) (lxX6_differ 0 12 rfl)
set_option maxRecDepth 20000 in
theorem dX6_differ_13 : decode cX6_differ 13 = .ok (.ireturn, 1) := dc_172 (lxX6_differ 0 13 rfl)
noncomputable def sgX6_known : List (List Cond) := [[.code yX6_known cX6_known 4 (some .int)], wsX6_known_r1, wsX6_known_r2, wsX6_known_r3, wsX6_known_r4, wsX60, wsX30, wsX00, wsX20, wsX50, (vx_atS RX6 306 "java/lang/IndexOutOfBoundsException" ["java/lang/RuntimeException", "java/lang/Exception"]).filter goodWord, (vx_atS RX6 317 "java/lang/IllegalArgumentException" ["java/lang/RuntimeException", "java/lang/Exception"]).filter goodWord]
theorem seX6_known : sgX6_known.flatten = wsX6_known := by simp only [sgX6_known, wsX6_known, List.flatten_cons, List.flatten_nil, List.append_assoc, List.append_nil, List.cons_append, List.nil_append]
set_option maxRecDepth 20000 in
theorem ggX6_known_X6_sourceOf : GoodIn wsX6_known wsX6_sourceOf := goodIn_ca (goodIn_s seX6_known _ [pq_1_7, pq_1_8, pq_1_9, pq_1_10, pq_1_1, pq_1_2, pq_5_0, pq_5_1, pq_5_2, pq_5_3, pq_5_4, pq_5_5, pq_5_6, pq_5_7, pq_5_8, pq_5_9, pq_5_10, pq_5_11, pq_5_12, pq_5_13] (by rfl) (by decide +kernel)) (goodIn_sub (fun _ h => List.mem_cons_of_mem _ (List.mem_append_left _ (List.mem_append_right _ h))) (by decide +kernel))
set_option maxRecDepth 20000 in
theorem gX6_known_X6_sourceOf : GoodIn wsX6_known (wsV RX6 156 RX6 yX6_sourceOf wsX6_sourceOf) := goodIn_app (goodIn_s seX6_known _ [pq_1_3, pq_1_4, pq_1_5, pq_1_6] (by rfl) (by decide +kernel)) ggX6_known_X6_sourceOf
set_option maxRecDepth 20000 in
theorem ggX6_known_X6_requireWithin : GoodIn wsX6_known wsX6_requireWithin := goodIn_ca (goodIn_s seX6_known _ [pq_1_13, pq_1_14, pq_1_15] (by rfl) (by decide +kernel)) (goodIn_sub (fun _ h => List.mem_cons_of_mem _ (List.mem_append_right _ h)) (by decide +kernel))
set_option maxRecDepth 20000 in
theorem gX6_known_X6_requireWithin : GoodIn wsX6_known (va_wsS RX6 66 yX6_requireWithin wsX6_requireWithin) := goodIn_app (goodIn_s seX6_known _ [pq_1_11, pq_1_12, pq_1_6] (by rfl) (by decide +kernel)) ggX6_known_X6_requireWithin
set_option maxRecDepth 20000 in
theorem ggX6_known_X3_seek : GoodIn wsX6_known wsX3_seek := goodIn_s seX6_known _ [pq_1_20, pq_1_21, pq_1_22, pq_1_23, pq_2_0, pq_2_1, pq_2_2, pq_2_3, pq_2_4, pq_2_5, pq_2_6, pq_2_7, pq_2_8, pq_2_9, pq_2_10, pq_2_11, pq_2_12, pq_2_13, pq_2_14, pq_2_15, pq_2_16, pq_2_17, pq_2_18, pq_2_19, pq_2_20, pq_2_21, pq_2_22, pq_2_23, pq_3_0, pq_3_1, pq_3_2, pq_3_3, pq_3_4, pq_3_5, pq_3_6, pq_3_7, pq_3_8, pq_3_9, pq_3_10, pq_3_11, pq_3_12, pq_3_13, pq_3_14, pq_3_15, pq_3_16, pq_3_17, pq_3_18, pq_3_19, pq_3_20, pq_1_19, pq_3_21, pq_3_22, pq_3_23, pq_4_0, pq_6_0, pq_6_1, pq_6_2, pq_7_0, pq_7_1, pq_7_2, pq_8_0, pq_8_1, pq_9_0, pq_9_1, pq_9_2, pq_9_3, pq_9_4, pq_9_5] (by rfl) (by decide +kernel)
set_option maxRecDepth 20000 in
theorem gX6_known_X3_seek : GoodIn wsX6_known (wsV RX6 220 RX3 yX3_seek wsX3_seek) := goodIn_app (goodIn_s seX6_known _ [pq_1_16, pq_1_17, pq_1_18, pq_1_19] (by rfl) (by decide +kernel)) ggX6_known_X3_seek
set_option maxRecDepth 20000 in
theorem ggX6_known_X3_foundAt : GoodIn wsX6_known wsX3_foundAt := goodIn_s seX6_known _ [pq_4_4, pq_1_21, pq_3_22, pq_6_0, pq_6_1, pq_6_2] (by rfl) (by decide +kernel)
set_option maxRecDepth 20000 in
theorem gX6_known_X3_foundAt : GoodIn wsX6_known (wsV RX6 224 RX3 yX3_foundAt wsX3_foundAt) := goodIn_app (goodIn_s seX6_known _ [pq_4_1, pq_4_2, pq_4_3, pq_1_19] (by rfl) (by decide +kernel)) ggX6_known_X3_foundAt
def lb_sgX6_known : List (List UInt8) := [[42, 27, 182, 0, 156, 78, 28, 3, 7, 184, 0, 66, 42, 180, 0, 48], [28, 5, 159, 0, 8, 28, 6, 160, 0, 10, 42, 180, 0, 20, 167, 0], [7, 42, 180, 0, 24, 45, 182, 0, 220, 28, 7, 160, 0, 19, 42, 180], [0, 48, 180, 0, 227, 158, 0, 7, 4, 167, 0, 4, 3, 172, 42, 180], [0, 48, 28, 153, 0, 8, 28, 5, 160, 0, 7, 3, 167, 0, 12, 42], [180, 0, 48, 180, 0, 227, 4, 100, 182, 0, 224, 172]]
set_option maxRecDepth 100000 in
theorem lb_seX6_known : cX6_known.data.toList = lb_sgX6_known.flatten := by decide +kernel
theorem lb_lnX6_known : ∀ s ∈ lb_sgX6_known.dropLast, s.length = 16 := by decide +kernel
theorem lxX6_known (k j : Nat) {b : UInt8} (h : (lb_sgX6_known[k]?).bind (fun s => s[j]?) = some b) : lb_at cX6_known (16 * k + j) b := by
  unfold lb_at
  rw [lb_seX6_known]
  exact lb_flat 16 lb_sgX6_known k j b lb_lnX6_known h
set_option maxRecDepth 20000 in
theorem dX6_known_0 : decode cX6_known 0 = .ok (.aload_n 0, 1) := dc_42 (lxX6_known 0 0 rfl)
set_option maxRecDepth 20000 in
theorem dX6_known_1 : decode cX6_known 1 = .ok (.iload_n 1, 1) := dc_27 (lxX6_known 0 1 rfl)
set_option maxRecDepth 20000 in
theorem dX6_known_2 : decode cX6_known 2 = .ok (.invokevirtual 156, 3) := dc_182 0 156 (lxX6_known 0 2 rfl) (lxX6_known 0 3 rfl) (lxX6_known 0 4 rfl)
set_option maxRecDepth 20000 in
theorem dX6_known_5 : decode cX6_known 5 = .ok (.astore_n 3, 1) := dc_78 (lxX6_known 0 5 rfl)
set_option maxRecDepth 20000 in
theorem dX6_known_6 : decode cX6_known 6 = .ok (.iload_n 2, 1) := dc_28 (lxX6_known 0 6 rfl)
set_option maxRecDepth 20000 in
theorem dX6_known_7 : decode cX6_known 7 = .ok (.iconst 0, 1) := dc_3 (lxX6_known 0 7 rfl)
set_option maxRecDepth 20000 in
theorem dX6_known_8 : decode cX6_known 8 = .ok (.iconst 4, 1) := dc_7 (lxX6_known 0 8 rfl)
set_option maxRecDepth 20000 in
theorem dX6_known_9 : decode cX6_known 9 = .ok (.invokestatic 66, 3) := dc_184 0 66 (lxX6_known 0 9 rfl) (lxX6_known 0 10 rfl) (lxX6_known 0 11 rfl)
set_option maxRecDepth 20000 in
theorem dX6_known_12 : decode cX6_known 12 = .ok (.aload_n 0, 1) := dc_42 (lxX6_known 0 12 rfl)
set_option maxRecDepth 20000 in
theorem dX6_known_13 : decode cX6_known 13 = .ok (.getfield 48, 3) := dc_180 0 48 (lxX6_known 0 13 rfl) (lxX6_known 0 14 rfl) (lxX6_known 0 15 rfl)
set_option maxRecDepth 20000 in
theorem dX6_known_16 : decode cX6_known 16 = .ok (.iload_n 2, 1) := dc_28 (lxX6_known 1 0 rfl)
set_option maxRecDepth 20000 in
theorem dX6_known_17 : decode cX6_known 17 = .ok (.iconst 2, 1) := dc_5 (lxX6_known 1 1 rfl)
set_option maxRecDepth 20000 in
theorem dX6_known_18 : decode cX6_known 18 = .ok (.if_icmp .eq 8, 3) := dc_159 0 8 (lxX6_known 1 2 rfl) (lxX6_known 1 3 rfl) (lxX6_known 1 4 rfl)
set_option maxRecDepth 20000 in
theorem dX6_known_21 : decode cX6_known 21 = .ok (.iload_n 2, 1) := dc_28 (lxX6_known 1 5 rfl)
set_option maxRecDepth 20000 in
theorem dX6_known_22 : decode cX6_known 22 = .ok (.iconst 3, 1) := dc_6 (lxX6_known 1 6 rfl)
set_option maxRecDepth 20000 in
theorem dX6_known_23 : decode cX6_known 23 = .ok (.if_icmp .ne 10, 3) := dc_160 0 10 (lxX6_known 1 7 rfl) (lxX6_known 1 8 rfl) (lxX6_known 1 9 rfl)
set_option maxRecDepth 20000 in
theorem dX6_known_26 : decode cX6_known 26 = .ok (.aload_n 0, 1) := dc_42 (lxX6_known 1 10 rfl)
set_option maxRecDepth 20000 in
theorem dX6_known_27 : decode cX6_known 27 = .ok (.getfield 20, 3) := dc_180 0 20 (lxX6_known 1 11 rfl) (lxX6_known 1 12 rfl) (lxX6_known 1 13 rfl)
set_option maxRecDepth 20000 in
theorem dX6_known_30 : decode cX6_known 30 = .ok (.goto 7, 3) := dc_167 0 7 (lxX6_known 1 14 rfl) (lxX6_known 1 15 rfl) (lxX6_known 2 0 rfl)
set_option maxRecDepth 20000 in
theorem dX6_known_33 : decode cX6_known 33 = .ok (.aload_n 0, 1) := dc_42 (lxX6_known 2 1 rfl)
set_option maxRecDepth 20000 in
theorem dX6_known_34 : decode cX6_known 34 = .ok (.getfield 24, 3) := dc_180 0 24 (lxX6_known 2 2 rfl) (lxX6_known 2 3 rfl) (lxX6_known 2 4 rfl)
set_option maxRecDepth 20000 in
theorem dX6_known_37 : decode cX6_known 37 = .ok (.aload_n 3, 1) := dc_45 (lxX6_known 2 5 rfl)
set_option maxRecDepth 20000 in
theorem dX6_known_38 : decode cX6_known 38 = .ok (.invokevirtual 220, 3) := dc_182 0 220 (lxX6_known 2 6 rfl) (lxX6_known 2 7 rfl) (lxX6_known 2 8 rfl)
set_option maxRecDepth 20000 in
theorem dX6_known_41 : decode cX6_known 41 = .ok (.iload_n 2, 1) := dc_28 (lxX6_known 2 9 rfl)
set_option maxRecDepth 20000 in
theorem dX6_known_42 : decode cX6_known 42 = .ok (.iconst 4, 1) := dc_7 (lxX6_known 2 10 rfl)
set_option maxRecDepth 20000 in
theorem dX6_known_43 : decode cX6_known 43 = .ok (.if_icmp .ne 19, 3) := dc_160 0 19 (lxX6_known 2 11 rfl) (lxX6_known 2 12 rfl) (lxX6_known 2 13 rfl)
set_option maxRecDepth 20000 in
theorem dX6_known_46 : decode cX6_known 46 = .ok (.aload_n 0, 1) := dc_42 (lxX6_known 2 14 rfl)
set_option maxRecDepth 20000 in
theorem dX6_known_47 : decode cX6_known 47 = .ok (.getfield 48, 3) := dc_180 0 48 (lxX6_known 2 15 rfl) (lxX6_known 3 0 rfl) (lxX6_known 3 1 rfl)
set_option maxRecDepth 20000 in
theorem dX6_known_50 : decode cX6_known 50 = .ok (.getfield 227, 3) := dc_180 0 227 (lxX6_known 3 2 rfl) (lxX6_known 3 3 rfl) (lxX6_known 3 4 rfl)
set_option maxRecDepth 20000 in
theorem dX6_known_53 : decode cX6_known 53 = .ok (.ifCond .le 7, 3) := dc_158 0 7 (lxX6_known 3 5 rfl) (lxX6_known 3 6 rfl) (lxX6_known 3 7 rfl)
set_option maxRecDepth 20000 in
theorem dX6_known_56 : decode cX6_known 56 = .ok (.iconst 1, 1) := dc_4 (lxX6_known 3 8 rfl)
set_option maxRecDepth 20000 in
theorem dX6_known_57 : decode cX6_known 57 = .ok (.goto 4, 3) := dc_167 0 4 (lxX6_known 3 9 rfl) (lxX6_known 3 10 rfl) (lxX6_known 3 11 rfl)
set_option maxRecDepth 20000 in
theorem dX6_known_60 : decode cX6_known 60 = .ok (.iconst 0, 1) := dc_3 (lxX6_known 3 12 rfl)
set_option maxRecDepth 20000 in
theorem dX6_known_61 : decode cX6_known 61 = .ok (.ireturn, 1) := dc_172 (lxX6_known 3 13 rfl)
set_option maxRecDepth 20000 in
theorem dX6_known_62 : decode cX6_known 62 = .ok (.aload_n 0, 1) := dc_42 (lxX6_known 3 14 rfl)
set_option maxRecDepth 20000 in
theorem dX6_known_63 : decode cX6_known 63 = .ok (.getfield 48, 3) := dc_180 0 48 (lxX6_known 3 15 rfl) (lxX6_known 4 0 rfl) (lxX6_known 4 1 rfl)
set_option maxRecDepth 20000 in
theorem dX6_known_66 : decode cX6_known 66 = .ok (.iload_n 2, 1) := dc_28 (lxX6_known 4 2 rfl)
set_option maxRecDepth 20000 in
theorem dX6_known_67 : decode cX6_known 67 = .ok (.ifCond .eq 8, 3) := dc_153 0 8 (lxX6_known 4 3 rfl) (lxX6_known 4 4 rfl) (lxX6_known 4 5 rfl)
set_option maxRecDepth 20000 in
theorem dX6_known_70 : decode cX6_known 70 = .ok (.iload_n 2, 1) := dc_28 (lxX6_known 4 6 rfl)
set_option maxRecDepth 20000 in
theorem dX6_known_71 : decode cX6_known 71 = .ok (.iconst 2, 1) := dc_5 (lxX6_known 4 7 rfl)
set_option maxRecDepth 20000 in
theorem dX6_known_72 : decode cX6_known 72 = .ok (.if_icmp .ne 7, 3) := dc_160 0 7 (lxX6_known 4 8 rfl) (lxX6_known 4 9 rfl) (lxX6_known 4 10 rfl)
set_option maxRecDepth 20000 in
theorem dX6_known_75 : decode cX6_known 75 = .ok (.iconst 0, 1) := dc_3 (lxX6_known 4 11 rfl)
set_option maxRecDepth 20000 in
theorem dX6_known_76 : decode cX6_known 76 = .ok (.goto 12, 3) := dc_167 0 12 (lxX6_known 4 12 rfl) (lxX6_known 4 13 rfl) (lxX6_known 4 14 rfl)
set_option maxRecDepth 20000 in
theorem dX6_known_79 : decode cX6_known 79 = .ok (.aload_n 0, 1) := dc_42 (lxX6_known 4 15 rfl)
set_option maxRecDepth 20000 in
theorem dX6_known_80 : decode cX6_known 80 = .ok (.getfield 48, 3) := dc_180 0 48 (lxX6_known 5 0 rfl) (lxX6_known 5 1 rfl) (lxX6_known 5 2 rfl)
set_option maxRecDepth 20000 in
theorem dX6_known_83 : decode cX6_known 83 = .ok (.getfield 227, 3) := dc_180 0 227 (lxX6_known 5 3 rfl) (lxX6_known 5 4 rfl) (lxX6_known 5 5 rfl)
set_option maxRecDepth 20000 in
theorem dX6_known_86 : decode cX6_known 86 = .ok (.iconst 1, 1) := dc_4 (lxX6_known 5 6 rfl)
set_option maxRecDepth 20000 in
theorem dX6_known_87 : decode cX6_known 87 = .ok (.isub, 1) := dc_100 (lxX6_known 5 7 rfl)
set_option maxRecDepth 20000 in
theorem dX6_known_88 : decode cX6_known 88 = .ok (.invokevirtual 224, 3) := dc_182 0 224 (lxX6_known 5 8 rfl) (lxX6_known 5 9 rfl) (lxX6_known 5 10 rfl)
set_option maxRecDepth 20000 in
theorem dX6_known_91 : decode cX6_known 91 = .ok (.ireturn, 1) := dc_172 (lxX6_known 5 11 rfl)
noncomputable def sgX6_held : List (List Cond) := [[.code yX6_held cX6_held 1 (some (.object "java/lang/String"))], wsX6_held_r1, wsX6_held_r2, wsX6_held_r3, wsX6_held_r4, wsX6_held_r5, wsX6_held_r6, wsX6_held_r7, wsX6_held_r8, wsX6_held_r9, wsX60, wsX10, wsJ40, wsX20, wsX50, wsJ00]
theorem seX6_held : sgX6_held.flatten = wsX6_held := by simp only [sgX6_held, wsX6_held, List.flatten_cons, List.flatten_nil, List.append_assoc, List.append_nil, List.cons_append, List.nil_append]
set_option maxRecDepth 20000 in
theorem ggX6_held_X6_spelled : GoodIn wsX6_held wsX6_spelled := goodIn_s seX6_held _ [pq_1_4, pq_1_5, pq_1_6, pq_1_7, pq_1_8, pq_1_9, pq_1_10, pq_1_11, pq_1_12, pq_1_13, pq_1_14, pq_1_15, pq_1_16, pq_1_17, pq_1_18, pq_1_19, pq_1_20, pq_1_21, pq_1_22, pq_1_23, pq_2_0, pq_2_1, pq_2_2, pq_2_3, pq_2_4, pq_2_5, pq_2_6, pq_2_7, pq_2_8, pq_2_9, pq_2_10, pq_2_11, pq_2_12, pq_2_13, pq_2_14, pq_2_15, pq_2_16, pq_2_17, pq_2_18, pq_2_19, pq_2_20, pq_2_21, pq_2_22, pq_2_23, pq_3_0, pq_3_1, pq_3_2, pq_3_3, pq_3_4, pq_3_5, pq_3_6, pq_3_7, pq_3_8, pq_3_9, pq_3_10, pq_3_11, pq_3_12, pq_3_13, pq_3_14, pq_3_15, pq_3_16, pq_3_17, pq_3_18, pq_3_19, pq_3_20, pq_3_21, pq_3_22, pq_3_23, pq_4_0, pq_4_1, pq_4_2, pq_4_3, pq_4_4, pq_4_5, pq_4_6, pq_4_7, pq_4_8, pq_4_9, pq_4_10, pq_4_11, pq_4_12, pq_4_13, pq_4_14, pq_4_15, pq_4_16, pq_4_17, pq_4_18, pq_4_19, pq_4_20, pq_4_21, pq_4_22, pq_4_23, pq_5_0, pq_5_1, pq_5_2, pq_5_3, pq_5_4, pq_5_5, pq_5_6, pq_5_7, pq_5_8, pq_5_9, pq_5_10, pq_5_11, pq_5_12, pq_5_13, pq_5_14, pq_5_15, pq_5_16, pq_5_17, pq_5_18, pq_5_19, pq_5_20, pq_5_21, pq_5_22, pq_5_23, pq_6_0, pq_6_1, pq_6_2, pq_6_3, pq_6_4, pq_6_5, pq_6_6, pq_6_7, pq_6_8, pq_6_9, pq_6_10, pq_6_11, pq_6_12, pq_6_13, pq_6_14, pq_6_15, pq_6_16, pq_6_17, pq_6_18, pq_6_19, pq_6_20, pq_6_21, pq_6_22, pq_6_23, pq_7_0, pq_7_1, pq_7_2, pq_7_3, pq_7_4, pq_7_5, pq_7_6, pq_7_7, pq_7_8, pq_7_9, pq_7_10, pq_7_11, pq_7_12, pq_7_13, pq_7_14, pq_7_15, pq_7_16, pq_7_17, pq_7_18, pq_7_19, pq_7_20, pq_7_21, pq_7_22, pq_7_23, pq_8_0, pq_8_1, pq_8_2, pq_8_3, pq_8_4, pq_8_5, pq_8_6, pq_8_7, pq_8_8, pq_8_9, pq_8_10, pq_8_11, pq_8_12, pq_8_13, pq_8_14, pq_8_15, pq_8_16, pq_8_17, pq_8_18, pq_8_19, pq_8_20, pq_8_21, pq_8_22, pq_8_23, pq_9_0, pq_9_1, pq_9_2, pq_9_3, pq_9_4, pq_9_5, pq_9_6, pq_9_7, pq_9_8, pq_9_9, pq_9_10, pq_9_11, pq_9_12, pq_9_13, pq_9_14, pq_9_15, pq_9_16, pq_9_17, pq_9_18, pq_9_19, pq_9_20, pq_9_21, pq_9_22, pq_9_23, pq_12_0, pq_12_1, pq_12_2, pq_12_3, pq_13_0, pq_13_1, pq_14_0, pq_14_1, pq_14_2, pq_14_3, pq_14_4, pq_14_5, pq_15_0, pq_15_1, pq_15_2, pq_15_3] (by rfl) (by decide +kernel)
set_option maxRecDepth 20000 in
theorem gX6_held_X6_spelled : GoodIn wsX6_held (va_wsS RX6 216 yX6_spelled wsX6_spelled) := goodIn_app (goodIn_s seX6_held _ [pq_1_1, pq_1_2, pq_1_3] (by rfl) (by decide +kernel)) ggX6_held_X6_spelled
set_option maxRecDepth 20000 in
theorem dX6_held_0 : decode cX6_held 0 = .ok (.aload_n 0, 1) := dc_42 rfl
set_option maxRecDepth 20000 in
theorem dX6_held_1 : decode cX6_held 1 = .ok (.getfield 30, 3) := dc_180 0 30 rfl rfl rfl
set_option maxRecDepth 20000 in
theorem dX6_held_4 : decode cX6_held 4 = .ok (.getfield 183, 3) := dc_180 0 183 rfl rfl rfl
set_option maxRecDepth 20000 in
theorem dX6_held_7 : decode cX6_held 7 = .ok (.invokestatic 216, 3) := dc_184 0 216 rfl rfl rfl
set_option maxRecDepth 20000 in
theorem dX6_held_10 : decode cX6_held 10 = .ok (.areturn, 1) := dc_176 rfl
noncomputable def sgX6_travelled : List (List Cond) := [[.code yX6_travelled cX6_travelled 2 (some (.object "java/lang/String"))], wsX6_travelled_r1, wsX6_travelled_r2, wsX6_travelled_r3, wsX6_travelled_r4, wsX6_travelled_r5, wsX6_travelled_r6, wsX6_travelled_r7, wsX6_travelled_r8, wsX6_travelled_r9, wsX6_travelled_r10, wsX60, wsX10, wsJ40, wsX20, wsX50, wsJ00, (vx_atS RX6 317 "java/lang/IllegalArgumentException" ["java/lang/RuntimeException", "java/lang/Exception"]).filter goodWord]
theorem seX6_travelled : sgX6_travelled.flatten = wsX6_travelled := by simp only [sgX6_travelled, wsX6_travelled, List.flatten_cons, List.flatten_nil, List.append_assoc, List.append_nil, List.cons_append, List.nil_append]
set_option maxRecDepth 20000 in
theorem ggX6_travelled_X6_requireWithin : GoodIn wsX6_travelled wsX6_requireWithin := goodIn_ca (goodIn_s seX6_travelled _ [pq_1_4, pq_1_5, pq_1_6] (by rfl) (by decide +kernel)) (goodIn_sub (fun _ h => List.mem_cons_of_mem _ (List.mem_append_right _ h)) (by decide +kernel))
set_option maxRecDepth 20000 in
theorem gX6_travelled_X6_requireWithin : GoodIn wsX6_travelled (va_wsS RX6 66 yX6_requireWithin wsX6_requireWithin) := goodIn_app (goodIn_s seX6_travelled _ [pq_1_1, pq_1_2, pq_1_3] (by rfl) (by decide +kernel)) ggX6_travelled_X6_requireWithin
set_option maxRecDepth 20000 in
theorem ggX6_travelled_X6_spelled : GoodIn wsX6_travelled wsX6_spelled := goodIn_s seX6_travelled _ [pq_1_9, pq_1_10, pq_1_11, pq_1_12, pq_1_13, pq_1_14, pq_1_15, pq_1_16, pq_1_17, pq_1_18, pq_1_19, pq_1_20, pq_1_21, pq_1_22, pq_1_23, pq_2_0, pq_2_1, pq_2_2, pq_2_3, pq_2_4, pq_2_5, pq_2_6, pq_2_7, pq_2_8, pq_2_9, pq_2_10, pq_2_11, pq_2_12, pq_2_13, pq_2_14, pq_2_15, pq_2_16, pq_2_17, pq_2_18, pq_2_19, pq_2_20, pq_2_21, pq_2_22, pq_2_23, pq_3_0, pq_3_1, pq_3_2, pq_3_3, pq_3_4, pq_3_5, pq_3_6, pq_3_7, pq_3_8, pq_3_9, pq_3_10, pq_3_11, pq_3_12, pq_3_13, pq_3_14, pq_3_15, pq_3_16, pq_3_17, pq_3_18, pq_3_19, pq_3_20, pq_3_21, pq_3_22, pq_3_23, pq_4_0, pq_4_1, pq_4_2, pq_4_3, pq_4_4, pq_4_5, pq_4_6, pq_4_7, pq_4_8, pq_4_9, pq_4_10, pq_4_11, pq_4_12, pq_4_13, pq_4_14, pq_4_15, pq_4_16, pq_4_17, pq_4_18, pq_4_19, pq_4_20, pq_4_21, pq_4_22, pq_4_23, pq_5_0, pq_5_1, pq_5_2, pq_5_3, pq_5_4, pq_5_5, pq_5_6, pq_5_7, pq_5_8, pq_5_9, pq_5_10, pq_5_11, pq_5_12, pq_5_13, pq_5_14, pq_5_15, pq_5_16, pq_5_17, pq_5_18, pq_5_19, pq_5_20, pq_5_21, pq_5_22, pq_5_23, pq_6_0, pq_6_1, pq_6_2, pq_6_3, pq_6_4, pq_6_5, pq_6_6, pq_6_7, pq_6_8, pq_6_9, pq_6_10, pq_6_11, pq_6_12, pq_6_13, pq_6_14, pq_6_15, pq_6_16, pq_6_17, pq_6_18, pq_6_19, pq_6_20, pq_6_21, pq_6_22, pq_6_23, pq_7_0, pq_7_1, pq_7_2, pq_7_3, pq_7_4, pq_7_5, pq_7_6, pq_7_7, pq_7_8, pq_7_9, pq_7_10, pq_7_11, pq_7_12, pq_7_13, pq_7_14, pq_7_15, pq_7_16, pq_7_17, pq_7_18, pq_7_19, pq_7_20, pq_7_21, pq_7_22, pq_7_23, pq_8_0, pq_8_1, pq_8_2, pq_8_3, pq_8_4, pq_8_5, pq_8_6, pq_8_7, pq_8_8, pq_8_9, pq_8_10, pq_8_11, pq_8_12, pq_8_13, pq_8_14, pq_8_15, pq_8_16, pq_8_17, pq_8_18, pq_8_19, pq_8_20, pq_8_21, pq_8_22, pq_8_23, pq_9_0, pq_9_1, pq_9_2, pq_9_3, pq_9_4, pq_9_5, pq_9_6, pq_9_7, pq_9_8, pq_9_9, pq_9_10, pq_9_11, pq_9_12, pq_9_13, pq_9_14, pq_9_15, pq_9_16, pq_9_17, pq_9_18, pq_9_19, pq_9_20, pq_9_21, pq_9_22, pq_9_23, pq_10_0, pq_10_1, pq_10_2, pq_10_3, pq_10_4, pq_13_0, pq_13_1, pq_13_2, pq_13_3, pq_14_0, pq_14_1, pq_15_0, pq_15_1, pq_15_2, pq_15_3, pq_15_4, pq_15_5, pq_16_0, pq_16_1, pq_16_2, pq_16_3] (by rfl) (by decide +kernel)
set_option maxRecDepth 20000 in
theorem gX6_travelled_X6_spelled : GoodIn wsX6_travelled (va_wsS RX6 216 yX6_spelled wsX6_spelled) := goodIn_app (goodIn_s seX6_travelled _ [pq_1_7, pq_1_8, pq_1_3] (by rfl) (by decide +kernel)) ggX6_travelled_X6_spelled
def lb_sgX6_travelled : List (List UInt8) := [[27, 3, 4, 184, 0, 66, 27, 154, 0, 13, 42, 180, 0, 30, 180, 0], [196, 167, 0, 10, 42, 180, 0, 30, 180, 1, 0, 184, 0, 216, 176]]
set_option maxRecDepth 100000 in
theorem lb_seX6_travelled : cX6_travelled.data.toList = lb_sgX6_travelled.flatten := by decide +kernel
theorem lb_lnX6_travelled : ∀ s ∈ lb_sgX6_travelled.dropLast, s.length = 16 := by decide +kernel
theorem lxX6_travelled (k j : Nat) {b : UInt8} (h : (lb_sgX6_travelled[k]?).bind (fun s => s[j]?) = some b) : lb_at cX6_travelled (16 * k + j) b := by
  unfold lb_at
  rw [lb_seX6_travelled]
  exact lb_flat 16 lb_sgX6_travelled k j b lb_lnX6_travelled h
set_option maxRecDepth 20000 in
theorem dX6_travelled_0 : decode cX6_travelled 0 = .ok (.iload_n 1, 1) := dc_27 (lxX6_travelled 0 0 rfl)
set_option maxRecDepth 20000 in
theorem dX6_travelled_1 : decode cX6_travelled 1 = .ok (.iconst 0, 1) := dc_3 (lxX6_travelled 0 1 rfl)
set_option maxRecDepth 20000 in
theorem dX6_travelled_2 : decode cX6_travelled 2 = .ok (.iconst 1, 1) := dc_4 (lxX6_travelled 0 2 rfl)
set_option maxRecDepth 20000 in
theorem dX6_travelled_3 : decode cX6_travelled 3 = .ok (.invokestatic 66, 3) := dc_184 0 66 (lxX6_travelled 0 3 rfl) (lxX6_travelled 0 4 rfl) (lxX6_travelled 0 5 rfl)
set_option maxRecDepth 20000 in
theorem dX6_travelled_6 : decode cX6_travelled 6 = .ok (.iload_n 1, 1) := dc_27 (lxX6_travelled 0 6 rfl)
set_option maxRecDepth 20000 in
theorem dX6_travelled_7 : decode cX6_travelled 7 = .ok (.ifCond .ne 13, 3) := dc_154 0 13 (lxX6_travelled 0 7 rfl) (lxX6_travelled 0 8 rfl) (lxX6_travelled 0 9 rfl)
set_option maxRecDepth 20000 in
theorem dX6_travelled_10 : decode cX6_travelled 10 = .ok (.aload_n 0, 1) := dc_42 (lxX6_travelled 0 10 rfl)
set_option maxRecDepth 20000 in
theorem dX6_travelled_11 : decode cX6_travelled 11 = .ok (.getfield 30, 3) := dc_180 0 30 (lxX6_travelled 0 11 rfl) (lxX6_travelled 0 12 rfl) (lxX6_travelled 0 13 rfl)
set_option maxRecDepth 20000 in
theorem dX6_travelled_14 : decode cX6_travelled 14 = .ok (.getfield 196, 3) := dc_180 0 196 (lxX6_travelled 0 14 rfl) (lxX6_travelled 0 15 rfl) (lxX6_travelled 1 0 rfl)
set_option maxRecDepth 20000 in
theorem dX6_travelled_17 : decode cX6_travelled 17 = .ok (.goto 10, 3) := dc_167 0 10 (lxX6_travelled 1 1 rfl) (lxX6_travelled 1 2 rfl) (lxX6_travelled 1 3 rfl)
set_option maxRecDepth 20000 in
theorem dX6_travelled_20 : decode cX6_travelled 20 = .ok (.aload_n 0, 1) := dc_42 (lxX6_travelled 1 4 rfl)
set_option maxRecDepth 20000 in
theorem dX6_travelled_21 : decode cX6_travelled 21 = .ok (.getfield 30, 3) := dc_180 0 30 (lxX6_travelled 1 5 rfl) (lxX6_travelled 1 6 rfl) (lxX6_travelled 1 7 rfl)
set_option maxRecDepth 20000 in
theorem dX6_travelled_24 : decode cX6_travelled 24 = .ok (.getfield 256, 3) := dc_180 1 0 (lxX6_travelled 1 8 rfl) (lxX6_travelled 1 9 rfl) (lxX6_travelled 1 10 rfl)
set_option maxRecDepth 20000 in
theorem dX6_travelled_27 : decode cX6_travelled 27 = .ok (.invokestatic 216, 3) := dc_184 0 216 (lxX6_travelled 1 11 rfl) (lxX6_travelled 1 12 rfl) (lxX6_travelled 1 13 rfl)
set_option maxRecDepth 20000 in
theorem dX6_travelled_30 : decode cX6_travelled 30 = .ok (.areturn, 1) := dc_176 (lxX6_travelled 1 14 rfl)
noncomputable def sgX6_house : List (List Cond) := [[.code yX6_house cX6_house 2 (some .int)], [.methodLink RX6 66 yX6_requireWithin, .static yX6_requireWithin, .initialized RX6, .code yX6_requireWithin cX6_requireWithin 3 none, .classLink RX6 313 "java/lang/IllegalArgumentException", .initialized "java/lang/IllegalArgumentException", .methodLink RX6 259 yX6_counted, .instanceMethod yX6_counted, .selects RX6 yX6_counted yX6_counted, .code yX6_counted cX6_counted 2 (some .int), .fieldLink RX6 328 "Sashwords" "actsDone" "I", .fieldLink RX6 331 "Sashwords" "actsRefused" "I", .fieldLink RX6 262 "Sashwords" "knocks" "I", .fieldLink RX6 203 "Sashwords" "rounds" "I"], wsX60, (vx_atS RX6 317 "java/lang/IllegalArgumentException" ["java/lang/RuntimeException", "java/lang/Exception"]).filter goodWord]
theorem seX6_house : sgX6_house.flatten = wsX6_house := by simp only [sgX6_house, wsX6_house, List.flatten_cons, List.flatten_nil, List.append_assoc, List.append_nil, List.cons_append, List.nil_append]
set_option maxRecDepth 20000 in
theorem ggX6_house_X6_requireWithin : GoodIn wsX6_house wsX6_requireWithin := goodIn_ca (goodIn_s seX6_house _ [pq_1_3, pq_1_4, pq_1_5] (by rfl) (by decide +kernel)) (goodIn_sub (fun _ h => List.mem_cons_of_mem _ (List.mem_append_right _ h)) (by decide +kernel))
set_option maxRecDepth 20000 in
theorem gX6_house_X6_requireWithin : GoodIn wsX6_house (va_wsS RX6 66 yX6_requireWithin wsX6_requireWithin) := goodIn_app (goodIn_s seX6_house _ [pq_1_0, pq_1_1, pq_1_2] (by rfl) (by decide +kernel)) ggX6_house_X6_requireWithin
set_option maxRecDepth 20000 in
theorem ggX6_house_X6_counted : GoodIn wsX6_house wsX6_counted := goodIn_s seX6_house _ [pq_1_9, pq_1_10, pq_1_11, pq_1_12, pq_1_13, pq_2_0, pq_2_1, pq_2_2, pq_2_3, pq_2_4, pq_2_5, pq_2_6, pq_2_7, pq_2_8, pq_2_9, pq_2_10, pq_2_11, pq_2_12, pq_2_13] (by rfl) (by decide +kernel)
set_option maxRecDepth 20000 in
theorem gX6_house_X6_counted : GoodIn wsX6_house (wsV RX6 259 RX6 yX6_counted wsX6_counted) := goodIn_app (goodIn_s seX6_house _ [pq_1_6, pq_1_7, pq_1_8, pq_1_2] (by rfl) (by decide +kernel)) ggX6_house_X6_counted
set_option maxRecDepth 20000 in
theorem dX6_house_0 : decode cX6_house 0 = .ok (.iload_n 1, 1) := dc_27 rfl
set_option maxRecDepth 20000 in
theorem dX6_house_1 : decode cX6_house 1 = .ok (.iconst 0, 1) := dc_3 rfl
set_option maxRecDepth 20000 in
theorem dX6_house_2 : decode cX6_house 2 = .ok (.iconst 3, 1) := dc_6 rfl
set_option maxRecDepth 20000 in
theorem dX6_house_3 : decode cX6_house 3 = .ok (.invokestatic 66, 3) := dc_184 0 66 rfl rfl rfl
set_option maxRecDepth 20000 in
theorem dX6_house_6 : decode cX6_house 6 = .ok (.aload_n 0, 1) := dc_42 rfl
set_option maxRecDepth 20000 in
theorem dX6_house_7 : decode cX6_house 7 = .ok (.iload_n 1, 1) := dc_27 rfl
set_option maxRecDepth 20000 in
theorem dX6_house_8 : decode cX6_house 8 = .ok (.invokevirtual 259, 3) := dc_182 1 3 rfl rfl rfl
set_option maxRecDepth 20000 in
theorem dX6_house_11 : decode cX6_house 11 = .ok (.ireturn, 1) := dc_172 rfl
def lb_sgX6_knock : List (List UInt8) := [[42, 89, 180, 1, 6, 4, 96, 181, 1, 6, 42, 180, 1, 6, 172]]
set_option maxRecDepth 100000 in
theorem lb_seX6_knock : cX6_knock.data.toList = lb_sgX6_knock.flatten := by decide +kernel
theorem lb_lnX6_knock : ∀ s ∈ lb_sgX6_knock.dropLast, s.length = 16 := by decide +kernel
theorem lxX6_knock (k j : Nat) {b : UInt8} (h : (lb_sgX6_knock[k]?).bind (fun s => s[j]?) = some b) : lb_at cX6_knock (16 * k + j) b := by
  unfold lb_at
  rw [lb_seX6_knock]
  exact lb_flat 16 lb_sgX6_knock k j b lb_lnX6_knock h
set_option maxRecDepth 20000 in
theorem dX6_knock_0 : decode cX6_knock 0 = .ok (.aload_n 0, 1) := dc_42 (lxX6_knock 0 0 rfl)
set_option maxRecDepth 20000 in
theorem dX6_knock_1 : decode cX6_knock 1 = .ok (.dup, 1) := dc_89 (lxX6_knock 0 1 rfl)
set_option maxRecDepth 20000 in
theorem dX6_knock_2 : decode cX6_knock 2 = .ok (.getfield 262, 3) := dc_180 1 6 (lxX6_knock 0 2 rfl) (lxX6_knock 0 3 rfl) (lxX6_knock 0 4 rfl)
set_option maxRecDepth 20000 in
theorem dX6_knock_5 : decode cX6_knock 5 = .ok (.iconst 1, 1) := dc_4 (lxX6_knock 0 5 rfl)
set_option maxRecDepth 20000 in
theorem dX6_knock_6 : decode cX6_knock 6 = .ok (.iadd, 1) := dc_96 (lxX6_knock 0 6 rfl)
set_option maxRecDepth 20000 in
theorem dX6_knock_7 : decode cX6_knock 7 = .ok (.putfield 262, 3) := dc_181 1 6 (lxX6_knock 0 7 rfl) (lxX6_knock 0 8 rfl) (lxX6_knock 0 9 rfl)
set_option maxRecDepth 20000 in
theorem dX6_knock_10 : decode cX6_knock 10 = .ok (.aload_n 0, 1) := dc_42 (lxX6_knock 0 10 rfl)
set_option maxRecDepth 20000 in
theorem dX6_knock_11 : decode cX6_knock 11 = .ok (.getfield 262, 3) := dc_180 1 6 (lxX6_knock 0 11 rfl) (lxX6_knock 0 12 rfl) (lxX6_knock 0 13 rfl)
set_option maxRecDepth 20000 in
theorem dX6_knock_14 : decode cX6_knock 14 = .ok (.ireturn, 1) := dc_172 (lxX6_knock 0 14 rfl)
noncomputable def sgX6_isSound : List (List Cond) := [[.code yX6_isSound cX6_isSound 2 (some .boolean)], wsX6_isSound_r1, wsX6_isSound_r2, wsX6_isSound_r3, wsX6_isSound_r4, wsX6_isSound_r5, wsX6_isSound_r6, wsX6_isSound_r7, wsX6_isSound_r8, wsX60, wsX50, wsX20, wsX30, wsX00, wsX10]
theorem seX6_isSound : sgX6_isSound.flatten = wsX6_isSound := by simp only [sgX6_isSound, wsX6_isSound, List.flatten_cons, List.flatten_nil, List.append_assoc, List.append_nil, List.cons_append, List.nil_append]
set_option maxRecDepth 20000 in
theorem ggX6_isSound_X5_isOrdered : GoodIn wsX6_isSound wsX5_isOrdered := goodIn_s seX6_isSound _ [pq_1_6, pq_1_7, pq_1_8, pq_1_9, pq_1_10, pq_10_0, pq_10_1, pq_10_2, pq_10_3, pq_10_4, pq_10_5] (by rfl) (by decide +kernel)
set_option maxRecDepth 20000 in
theorem gX6_isSound_X5_isOrdered : GoodIn wsX6_isSound (wsV RX6 265 RX5 yX5_isOrdered wsX5_isOrdered) := goodIn_app (goodIn_s seX6_isSound _ [pq_1_2, pq_1_3, pq_1_4, pq_1_5] (by rfl) (by decide +kernel)) ggX6_isSound_X5_isOrdered
set_option maxRecDepth 20000 in
theorem ggX6_isSound_X6_readsAlike : GoodIn wsX6_isSound wsX6_readsAlike := goodIn_s seX6_isSound _ [pq_1_15, pq_1_16, pq_1_17, pq_1_18, pq_1_19, pq_1_20, pq_1_14, pq_1_21, pq_1_22, pq_1_23, pq_2_0, pq_2_1, pq_2_2, pq_2_3, pq_2_4, pq_2_5, pq_2_6, pq_2_7, pq_2_8, pq_2_9, pq_2_10, pq_2_11, pq_2_12, pq_2_13, pq_2_14, pq_2_15, pq_1_5, pq_2_16, pq_1_9, pq_1_8, pq_2_17, pq_2_18, pq_2_19, pq_2_20, pq_2_21, pq_2_22, pq_2_23, pq_3_0, pq_3_1, pq_3_2, pq_3_3, pq_3_4, pq_3_5, pq_3_6, pq_3_7, pq_3_8, pq_3_9, pq_3_10, pq_3_11, pq_3_12, pq_3_13, pq_3_14, pq_3_15, pq_3_16, pq_3_17, pq_1_10, pq_1_7, pq_3_18, pq_3_19, pq_3_20, pq_3_21, pq_3_22, pq_3_23, pq_4_0, pq_4_1, pq_4_2, pq_4_3, pq_4_4, pq_4_5, pq_4_6, pq_4_7, pq_4_8, pq_4_9, pq_4_10, pq_4_11, pq_4_12, pq_4_13, pq_4_14, pq_4_15, pq_9_0, pq_9_1, pq_9_2, pq_9_3, pq_9_4, pq_9_5, pq_9_6, pq_9_7, pq_9_8, pq_9_9, pq_9_10, pq_9_11, pq_9_12, pq_9_13, pq_10_0, pq_10_1, pq_10_2, pq_10_3, pq_10_4, pq_10_5, pq_11_0, pq_11_1] (by rfl) (by decide +kernel)
set_option maxRecDepth 20000 in
theorem gX6_isSound_X6_readsAlike : GoodIn wsX6_isSound (wsV RX6 269 RX6 yX6_readsAlike wsX6_readsAlike) := goodIn_app (goodIn_s seX6_isSound _ [pq_1_11, pq_1_12, pq_1_13, pq_1_14] (by rfl) (by decide +kernel)) ggX6_isSound_X6_readsAlike
set_option maxRecDepth 20000 in
theorem ggX6_isSound_X6_keptLiesAlike : GoodIn wsX6_isSound wsX6_keptLiesAlike := goodIn_s seX6_isSound _ [pq_4_19, pq_1_16, pq_4_20, pq_4_21, pq_4_22, pq_4_23, pq_5_0, pq_5_1, pq_2_2, pq_5_2, pq_5_3, pq_2_0, pq_2_1, pq_2_3, pq_2_4, pq_5_4, pq_2_6, pq_2_7, pq_2_8, pq_2_9, pq_2_10, pq_2_11, pq_2_12, pq_2_13, pq_2_14, pq_2_15, pq_1_5, pq_2_16, pq_1_9, pq_1_8, pq_2_17, pq_2_18, pq_2_19, pq_2_20, pq_2_21, pq_2_22, pq_2_23, pq_3_0, pq_3_1, pq_3_2, pq_3_3, pq_3_4, pq_3_5, pq_3_6, pq_3_7, pq_3_8, pq_3_9, pq_3_10, pq_3_11, pq_5_5, pq_5_6, pq_5_7, pq_5_8, pq_5_9, pq_5_10, pq_5_11, pq_5_12, pq_5_13, pq_5_14, pq_5_15, pq_5_16, pq_5_17, pq_5_18, pq_5_19, pq_5_20, pq_5_21, pq_5_22, pq_5_23, pq_6_0, pq_6_1, pq_6_2, pq_6_3, pq_6_4, pq_6_5, pq_6_6, pq_6_7, pq_6_8, pq_6_9, pq_6_10, pq_6_11, pq_6_12, pq_6_13, pq_6_14, pq_6_15, pq_9_0, pq_9_1, pq_9_2, pq_9_3, pq_9_4, pq_9_5, pq_9_6, pq_9_7, pq_9_8, pq_9_9, pq_9_10, pq_9_11, pq_9_12, pq_9_13, pq_12_0, pq_12_1, pq_12_2, pq_11_0, pq_11_1, pq_10_0, pq_10_1, pq_10_2, pq_10_3, pq_10_4, pq_10_5, pq_13_0, pq_13_1, pq_13_2] (by rfl) (by decide +kernel)
set_option maxRecDepth 20000 in
theorem gX6_isSound_X6_keptLiesAlike : GoodIn wsX6_isSound (wsV RX6 273 RX6 yX6_keptLiesAlike wsX6_keptLiesAlike) := goodIn_app (goodIn_s seX6_isSound _ [pq_4_16, pq_4_17, pq_4_18, pq_1_14] (by rfl) (by decide +kernel)) ggX6_isSound_X6_keptLiesAlike
set_option maxRecDepth 20000 in
theorem ggX6_isSound_X6_builderIsSearchedRightly : GoodIn wsX6_isSound wsX6_builderIsSearchedRightly := goodIn_s seX6_isSound _ [pq_6_19, pq_4_20, pq_6_20, pq_4_21, pq_5_5, pq_5_6, pq_5_7, pq_5_8, pq_5_9, pq_5_10, pq_5_11, pq_5_12, pq_5_13, pq_5_14, pq_5_15, pq_5_16, pq_5_17, pq_5_18, pq_2_10, pq_2_11, pq_2_12, pq_2_2, pq_2_13, pq_2_4, pq_2_14, pq_2_15, pq_1_5, pq_2_16, pq_1_9, pq_1_8, pq_5_19, pq_2_18, pq_2_19, pq_2_20, pq_2_21, pq_2_22, pq_2_23, pq_3_0, pq_3_1, pq_3_2, pq_3_3, pq_3_4, pq_3_5, pq_3_6, pq_3_7, pq_5_20, pq_5_21, pq_5_22, pq_5_23, pq_6_0, pq_6_1, pq_6_2, pq_6_3, pq_6_4, pq_6_5, pq_6_6, pq_6_7, pq_6_8, pq_6_9, pq_6_10, pq_6_11, pq_6_21, pq_6_22, pq_6_23, pq_7_0, pq_1_14, pq_7_1, pq_4_14, pq_4_15, pq_6_12, pq_6_13, pq_6_14, pq_6_15, pq_9_0, pq_9_1, pq_9_2, pq_9_3, pq_9_4, pq_9_5, pq_9_6, pq_9_7, pq_9_8, pq_9_9, pq_9_10, pq_9_11, pq_9_12, pq_9_13, pq_12_0, pq_12_1, pq_12_2, pq_13_0, pq_13_1, pq_13_2, pq_11_0, pq_11_1, pq_10_0, pq_10_1, pq_10_2, pq_10_3, pq_10_4, pq_10_5] (by rfl) (by decide +kernel)
set_option maxRecDepth 20000 in
theorem gX6_isSound_X6_builderIsSearchedRightly : GoodIn wsX6_isSound (wsV RX6 276 RX6 yX6_builderIsSearchedRightly wsX6_builderIsSearchedRightly) := goodIn_app (goodIn_s seX6_isSound _ [pq_6_16, pq_6_17, pq_6_18, pq_1_14] (by rfl) (by decide +kernel)) ggX6_isSound_X6_builderIsSearchedRightly
set_option maxRecDepth 20000 in
theorem ggX6_isSound_X6_builderChainIsRight : GoodIn wsX6_isSound wsX6_builderChainIsRight := goodIn_s seX6_isSound _ [pq_7_5, pq_7_6, pq_6_20, pq_7_7, pq_7_8, pq_7_9, pq_5_15, pq_7_10, pq_7_11, pq_7_12, pq_7_13, pq_5_13, pq_5_14, pq_5_16, pq_5_17, pq_5_18, pq_2_10, pq_2_11, pq_2_12, pq_2_2, pq_2_13, pq_2_4, pq_2_14, pq_2_15, pq_1_5, pq_2_16, pq_1_9, pq_1_8, pq_5_19, pq_2_18, pq_2_19, pq_2_20, pq_2_21, pq_2_22, pq_2_23, pq_3_0, pq_3_1, pq_3_2, pq_3_3, pq_3_4, pq_3_5, pq_3_6, pq_3_7, pq_5_20, pq_5_21, pq_5_22, pq_5_23, pq_6_0, pq_6_1, pq_6_2, pq_6_3, pq_6_21, pq_6_22, pq_6_23, pq_7_0, pq_1_14, pq_7_1, pq_4_14, pq_4_15, pq_7_14, pq_7_15, pq_7_16, pq_7_17, pq_9_0, pq_9_1, pq_9_2, pq_9_3, pq_9_4, pq_9_5, pq_9_6, pq_9_7, pq_9_8, pq_9_9, pq_9_10, pq_9_11, pq_9_12, pq_9_13, pq_13_0, pq_13_1, pq_13_2, pq_11_0, pq_11_1, pq_10_0, pq_10_1, pq_10_2, pq_10_3, pq_10_4, pq_10_5] (by rfl) (by decide +kernel)
set_option maxRecDepth 20000 in
theorem gX6_isSound_X6_builderChainIsRight : GoodIn wsX6_isSound (wsV RX6 279 RX6 yX6_builderChainIsRight wsX6_builderChainIsRight) := goodIn_app (goodIn_s seX6_isSound _ [pq_7_2, pq_7_3, pq_7_4, pq_1_14] (by rfl) (by decide +kernel)) ggX6_isSound_X6_builderChainIsRight
set_option maxRecDepth 20000 in
theorem ggX6_isSound_X1_isWhole : GoodIn wsX6_isSound wsX1_isWhole := goodIn_s seX6_isSound _ [pq_7_22, pq_7_23, pq_8_0, pq_8_1, pq_8_2, pq_2_12, pq_6_22, pq_2_2, pq_2_13, pq_2_4, pq_7_0, pq_1_14, pq_7_1, pq_4_14, pq_2_10, pq_2_11, pq_2_14, pq_2_15, pq_1_5, pq_2_16, pq_1_9, pq_1_8, pq_4_15, pq_2_18, pq_2_19, pq_2_20, pq_2_21, pq_2_22, pq_2_23, pq_3_0, pq_3_1, pq_3_2, pq_3_3, pq_3_4, pq_3_5, pq_3_6, pq_3_7, pq_14_0, pq_14_1, pq_14_2, pq_14_3, pq_11_0, pq_11_1, pq_10_0, pq_10_1, pq_10_2, pq_10_3, pq_10_4, pq_10_5] (by rfl) (by decide +kernel)
set_option maxRecDepth 20000 in
theorem gX6_isSound_X1_isWhole : GoodIn wsX6_isSound (wsV RX6 282 RX1 yX1_isWhole wsX1_isWhole) := goodIn_app (goodIn_s seX6_isSound _ [pq_7_18, pq_7_19, pq_7_20, pq_7_21] (by rfl) (by decide +kernel)) ggX6_isSound_X1_isWhole
def lb_sgX6_isSound : List (List UInt8) := [[3, 60, 27, 42, 180, 0, 11, 190, 162, 0, 49, 42, 180, 0, 11, 27], [50, 182, 1, 9, 153, 0, 29, 42, 42, 180, 0, 11, 27, 50, 182, 1], [13, 153, 0, 16, 42, 42, 180, 0, 11, 27, 50, 182, 1, 17, 154, 0], [5, 3, 172, 132, 1, 1, 167, 255, 204, 42, 182, 1, 20, 153, 0, 24], [42, 182, 1, 23, 153, 0, 17, 42, 180, 0, 30, 182, 1, 26, 153, 0], [7, 4, 167, 0, 4, 3, 172]]
set_option maxRecDepth 100000 in
theorem lb_seX6_isSound : cX6_isSound.data.toList = lb_sgX6_isSound.flatten := by decide +kernel
theorem lb_lnX6_isSound : ∀ s ∈ lb_sgX6_isSound.dropLast, s.length = 16 := by decide +kernel
theorem lxX6_isSound (k j : Nat) {b : UInt8} (h : (lb_sgX6_isSound[k]?).bind (fun s => s[j]?) = some b) : lb_at cX6_isSound (16 * k + j) b := by
  unfold lb_at
  rw [lb_seX6_isSound]
  exact lb_flat 16 lb_sgX6_isSound k j b lb_lnX6_isSound h
set_option maxRecDepth 20000 in
theorem dX6_isSound_0 : decode cX6_isSound 0 = .ok (.iconst 0, 1) := dc_3 (lxX6_isSound 0 0 rfl)
set_option maxRecDepth 20000 in
theorem dX6_isSound_1 : decode cX6_isSound 1 = .ok (.istore_n 1, 1) := dc_60 (lxX6_isSound 0 1 rfl)
set_option maxRecDepth 20000 in
theorem dX6_isSound_2 : decode cX6_isSound 2 = .ok (.iload_n 1, 1) := dc_27 (lxX6_isSound 0 2 rfl)
set_option maxRecDepth 20000 in
theorem dX6_isSound_3 : decode cX6_isSound 3 = .ok (.aload_n 0, 1) := dc_42 (lxX6_isSound 0 3 rfl)
set_option maxRecDepth 20000 in
theorem dX6_isSound_4 : decode cX6_isSound 4 = .ok (.getfield 11, 3) := dc_180 0 11 (lxX6_isSound 0 4 rfl) (lxX6_isSound 0 5 rfl) (lxX6_isSound 0 6 rfl)
set_option maxRecDepth 20000 in
theorem dX6_isSound_7 : decode cX6_isSound 7 = .ok (.arraylength, 1) := dc_190 (lxX6_isSound 0 7 rfl)
set_option maxRecDepth 20000 in
theorem dX6_isSound_8 : decode cX6_isSound 8 = .ok (.if_icmp .ge 49, 3) := dc_162 0 49 (lxX6_isSound 0 8 rfl) (lxX6_isSound 0 9 rfl) (lxX6_isSound 0 10 rfl)
set_option maxRecDepth 20000 in
theorem dX6_isSound_11 : decode cX6_isSound 11 = .ok (.aload_n 0, 1) := dc_42 (lxX6_isSound 0 11 rfl)
set_option maxRecDepth 20000 in
theorem dX6_isSound_12 : decode cX6_isSound 12 = .ok (.getfield 11, 3) := dc_180 0 11 (lxX6_isSound 0 12 rfl) (lxX6_isSound 0 13 rfl) (lxX6_isSound 0 14 rfl)
set_option maxRecDepth 20000 in
theorem dX6_isSound_15 : decode cX6_isSound 15 = .ok (.iload_n 1, 1) := dc_27 (lxX6_isSound 0 15 rfl)
set_option maxRecDepth 20000 in
theorem dX6_isSound_16 : decode cX6_isSound 16 = .ok (.aaload, 1) := dc_50 (lxX6_isSound 1 0 rfl)
set_option maxRecDepth 20000 in
theorem dX6_isSound_17 : decode cX6_isSound 17 = .ok (.invokevirtual 265, 3) := dc_182 1 9 (lxX6_isSound 1 1 rfl) (lxX6_isSound 1 2 rfl) (lxX6_isSound 1 3 rfl)
set_option maxRecDepth 20000 in
theorem dX6_isSound_20 : decode cX6_isSound 20 = .ok (.ifCond .eq 29, 3) := dc_153 0 29 (lxX6_isSound 1 4 rfl) (lxX6_isSound 1 5 rfl) (lxX6_isSound 1 6 rfl)
set_option maxRecDepth 20000 in
theorem dX6_isSound_23 : decode cX6_isSound 23 = .ok (.aload_n 0, 1) := dc_42 (lxX6_isSound 1 7 rfl)
set_option maxRecDepth 20000 in
theorem dX6_isSound_24 : decode cX6_isSound 24 = .ok (.aload_n 0, 1) := dc_42 (lxX6_isSound 1 8 rfl)
set_option maxRecDepth 20000 in
theorem dX6_isSound_25 : decode cX6_isSound 25 = .ok (.getfield 11, 3) := dc_180 0 11 (lxX6_isSound 1 9 rfl) (lxX6_isSound 1 10 rfl) (lxX6_isSound 1 11 rfl)
set_option maxRecDepth 20000 in
theorem dX6_isSound_28 : decode cX6_isSound 28 = .ok (.iload_n 1, 1) := dc_27 (lxX6_isSound 1 12 rfl)
set_option maxRecDepth 20000 in
theorem dX6_isSound_29 : decode cX6_isSound 29 = .ok (.aaload, 1) := dc_50 (lxX6_isSound 1 13 rfl)
set_option maxRecDepth 20000 in
theorem dX6_isSound_30 : decode cX6_isSound 30 = .ok (.invokevirtual 269, 3) := dc_182 1 13 (lxX6_isSound 1 14 rfl) (lxX6_isSound 1 15 rfl) (lxX6_isSound 2 0 rfl)
set_option maxRecDepth 20000 in
theorem dX6_isSound_33 : decode cX6_isSound 33 = .ok (.ifCond .eq 16, 3) := dc_153 0 16 (lxX6_isSound 2 1 rfl) (lxX6_isSound 2 2 rfl) (lxX6_isSound 2 3 rfl)
set_option maxRecDepth 20000 in
theorem dX6_isSound_36 : decode cX6_isSound 36 = .ok (.aload_n 0, 1) := dc_42 (lxX6_isSound 2 4 rfl)
set_option maxRecDepth 20000 in
theorem dX6_isSound_37 : decode cX6_isSound 37 = .ok (.aload_n 0, 1) := dc_42 (lxX6_isSound 2 5 rfl)
set_option maxRecDepth 20000 in
theorem dX6_isSound_38 : decode cX6_isSound 38 = .ok (.getfield 11, 3) := dc_180 0 11 (lxX6_isSound 2 6 rfl) (lxX6_isSound 2 7 rfl) (lxX6_isSound 2 8 rfl)
set_option maxRecDepth 20000 in
theorem dX6_isSound_41 : decode cX6_isSound 41 = .ok (.iload_n 1, 1) := dc_27 (lxX6_isSound 2 9 rfl)
set_option maxRecDepth 20000 in
theorem dX6_isSound_42 : decode cX6_isSound 42 = .ok (.aaload, 1) := dc_50 (lxX6_isSound 2 10 rfl)
set_option maxRecDepth 20000 in
theorem dX6_isSound_43 : decode cX6_isSound 43 = .ok (.invokevirtual 273, 3) := dc_182 1 17 (lxX6_isSound 2 11 rfl) (lxX6_isSound 2 12 rfl) (lxX6_isSound 2 13 rfl)
set_option maxRecDepth 20000 in
theorem dX6_isSound_46 : decode cX6_isSound 46 = .ok (.ifCond .ne 5, 3) := dc_154 0 5 (lxX6_isSound 2 14 rfl) (lxX6_isSound 2 15 rfl) (lxX6_isSound 3 0 rfl)
set_option maxRecDepth 20000 in
theorem dX6_isSound_49 : decode cX6_isSound 49 = .ok (.iconst 0, 1) := dc_3 (lxX6_isSound 3 1 rfl)
set_option maxRecDepth 20000 in
theorem dX6_isSound_50 : decode cX6_isSound 50 = .ok (.ireturn, 1) := dc_172 (lxX6_isSound 3 2 rfl)
set_option maxRecDepth 20000 in
theorem dX6_isSound_51 : decode cX6_isSound 51 = .ok (.iinc 1 1, 3) := dc_132 1 1 (lxX6_isSound 3 3 rfl) (lxX6_isSound 3 4 rfl) (lxX6_isSound 3 5 rfl)
set_option maxRecDepth 20000 in
theorem dX6_isSound_54 : decode cX6_isSound 54 = .ok (.goto (-52), 3) := dc_167 255 204 (lxX6_isSound 3 6 rfl) (lxX6_isSound 3 7 rfl) (lxX6_isSound 3 8 rfl)
set_option maxRecDepth 20000 in
theorem dX6_isSound_57 : decode cX6_isSound 57 = .ok (.aload_n 0, 1) := dc_42 (lxX6_isSound 3 9 rfl)
set_option maxRecDepth 20000 in
theorem dX6_isSound_58 : decode cX6_isSound 58 = .ok (.invokevirtual 276, 3) := dc_182 1 20 (lxX6_isSound 3 10 rfl) (lxX6_isSound 3 11 rfl) (lxX6_isSound 3 12 rfl)
set_option maxRecDepth 20000 in
theorem dX6_isSound_61 : decode cX6_isSound 61 = .ok (.ifCond .eq 24, 3) := dc_153 0 24 (lxX6_isSound 3 13 rfl) (lxX6_isSound 3 14 rfl) (lxX6_isSound 3 15 rfl)
set_option maxRecDepth 20000 in
theorem dX6_isSound_64 : decode cX6_isSound 64 = .ok (.aload_n 0, 1) := dc_42 (lxX6_isSound 4 0 rfl)
set_option maxRecDepth 20000 in
theorem dX6_isSound_65 : decode cX6_isSound 65 = .ok (.invokevirtual 279, 3) := dc_182 1 23 (lxX6_isSound 4 1 rfl) (lxX6_isSound 4 2 rfl) (lxX6_isSound 4 3 rfl)
set_option maxRecDepth 20000 in
theorem dX6_isSound_68 : decode cX6_isSound 68 = .ok (.ifCond .eq 17, 3) := dc_153 0 17 (lxX6_isSound 4 4 rfl) (lxX6_isSound 4 5 rfl) (lxX6_isSound 4 6 rfl)
set_option maxRecDepth 20000 in
theorem dX6_isSound_71 : decode cX6_isSound 71 = .ok (.aload_n 0, 1) := dc_42 (lxX6_isSound 4 7 rfl)
set_option maxRecDepth 20000 in
theorem dX6_isSound_72 : decode cX6_isSound 72 = .ok (.getfield 30, 3) := dc_180 0 30 (lxX6_isSound 4 8 rfl) (lxX6_isSound 4 9 rfl) (lxX6_isSound 4 10 rfl)
set_option maxRecDepth 20000 in
theorem dX6_isSound_75 : decode cX6_isSound 75 = .ok (.invokevirtual 282, 3) := dc_182 1 26 (lxX6_isSound 4 11 rfl) (lxX6_isSound 4 12 rfl) (lxX6_isSound 4 13 rfl)
set_option maxRecDepth 20000 in
theorem dX6_isSound_78 : decode cX6_isSound 78 = .ok (.ifCond .eq 7, 3) := dc_153 0 7 (lxX6_isSound 4 14 rfl) (lxX6_isSound 4 15 rfl) (lxX6_isSound 5 0 rfl)
set_option maxRecDepth 20000 in
theorem dX6_isSound_81 : decode cX6_isSound 81 = .ok (.iconst 1, 1) := dc_4 (lxX6_isSound 5 1 rfl)
set_option maxRecDepth 20000 in
theorem dX6_isSound_82 : decode cX6_isSound 82 = .ok (.goto 4, 3) := dc_167 0 4 (lxX6_isSound 5 2 rfl) (lxX6_isSound 5 3 rfl) (lxX6_isSound 5 4 rfl)
set_option maxRecDepth 20000 in
theorem dX6_isSound_85 : decode cX6_isSound 85 = .ok (.iconst 0, 1) := dc_3 (lxX6_isSound 5 5 rfl)
set_option maxRecDepth 20000 in
theorem dX6_isSound_86 : decode cX6_isSound 86 = .ok (.ireturn, 1) := dc_172 (lxX6_isSound 5 6 rfl)
noncomputable def sgX6_digest : List (List Cond) := [[.code yX6_digest cX6_digest 4 (some .long)], wsX6_digest_r1, wsX6_digest_r2, wsX6_digest_r3, wsX6_digest_r4, wsX6_digest_r5, wsX6_digest_r6, wsX6_digest_r7, wsX6_digest_r8, wsX6_digest_r9, wsX60, wsX30, wsX10, wsX50, wsX20, wsX00]
theorem seX6_digest : sgX6_digest.flatten = wsX6_digest := by simp only [sgX6_digest, wsX6_digest, List.flatten_cons, List.flatten_nil, List.append_assoc, List.append_nil, List.cons_append, List.nil_append]
set_option maxRecDepth 20000 in
theorem ggX6_digest_X6_mixedWithWindow : GoodIn wsX6_digest wsX6_mixedWithWindow := goodIn_s seX6_digest _ [pq_1_10, pq_1_4, pq_1_3, pq_1_11, pq_1_12, pq_1_9, pq_1_13, pq_1_14, pq_1_15, pq_1_16, pq_1_17, pq_1_18, pq_1_19, pq_1_20, pq_1_21, pq_1_22, pq_1_23, pq_2_0, pq_2_1, pq_2_2, pq_2_3, pq_2_4, pq_2_5, pq_2_6, pq_2_7, pq_2_8, pq_2_9, pq_2_10, pq_2_11, pq_2_12, pq_2_13, pq_2_14, pq_2_15, pq_2_16, pq_2_17, pq_2_18, pq_2_19, pq_2_20, pq_2_21, pq_2_22, pq_2_23, pq_3_0, pq_3_1, pq_3_2, pq_3_3, pq_3_4, pq_3_5, pq_3_6, pq_3_7, pq_3_8, pq_3_9, pq_3_10, pq_3_11, pq_3_12, pq_3_13, pq_3_14, pq_3_15, pq_3_16, pq_3_17, pq_3_18, pq_3_19, pq_3_20, pq_3_21, pq_3_22, pq_3_23, pq_4_0, pq_4_1, pq_4_2, pq_4_3, pq_4_4, pq_4_5, pq_4_6, pq_4_7, pq_4_8, pq_4_9, pq_4_10, pq_4_11, pq_4_12, pq_4_13, pq_4_14, pq_4_15, pq_13_0, pq_13_1, pq_13_2, pq_13_3, pq_13_4, pq_13_5, pq_10_0, pq_10_1, pq_10_2, pq_10_3, pq_10_4, pq_10_5, pq_10_6, pq_10_7, pq_10_8, pq_10_9, pq_10_10, pq_10_11, pq_10_12, pq_10_13, pq_14_0, pq_14_1, pq_15_0, pq_15_1, pq_15_2, pq_11_0, pq_11_1, pq_11_2] (by rfl) (by decide +kernel)
set_option maxRecDepth 20000 in
theorem gX6_digest_X6_mixedWithWindow : GoodIn wsX6_digest (wsV RX6 287 RX6 yX6_mixedWithWindow wsX6_mixedWithWindow) := goodIn_app (goodIn_s seX6_digest _ [pq_1_6, pq_1_7, pq_1_8, pq_1_9] (by rfl) (by decide +kernel)) ggX6_digest_X6_mixedWithWindow
set_option maxRecDepth 20000 in
theorem ggX6_digest_X2_size : GoodIn wsX6_digest wsX2_size := goodIn_s seX6_digest _ [pq_1_23, pq_2_0, pq_14_0, pq_14_1] (by rfl) (by decide +kernel)
set_option maxRecDepth 20000 in
theorem gX6_digest_X2_size : GoodIn wsX6_digest (wsV RX6 164 RX2 yX2_size wsX2_size) := goodIn_app (goodIn_s seX6_digest _ [pq_4_16, pq_1_21, pq_4_17, pq_1_22] (by rfl) (by decide +kernel)) ggX6_digest_X2_size
set_option maxRecDepth 20000 in
theorem ggX6_digest_X6_mixed : GoodIn wsX6_digest wsX6_mixed := goodIn_s seX6_digest _ [pq_1_13, pq_1_14] (by rfl) (by decide +kernel)
set_option maxRecDepth 20000 in
theorem gX6_digest_X6_mixed : GoodIn wsX6_digest (va_wsS RX6 291 yX6_mixed wsX6_mixed) := goodIn_app (goodIn_s seX6_digest _ [pq_1_11, pq_1_12, pq_1_9] (by rfl) (by decide +kernel)) ggX6_digest_X6_mixed
set_option maxRecDepth 20000 in
theorem ggX6_digest_X6_mixedWithText : GoodIn wsX6_digest wsX6_mixedWithText := goodIn_s seX6_digest _ [pq_1_17, pq_1_18, pq_1_19, pq_1_20, pq_1_21, pq_1_22, pq_1_23, pq_2_0, pq_2_1, pq_2_2, pq_2_3, pq_2_4, pq_2_5, pq_2_6, pq_2_7, pq_2_8, pq_2_9, pq_2_10, pq_2_11, pq_2_12, pq_2_13, pq_2_14, pq_2_15, pq_2_16, pq_2_17, pq_2_18, pq_2_19, pq_2_20, pq_2_21, pq_1_11, pq_1_12, pq_1_9, pq_1_13, pq_1_14, pq_14_0, pq_14_1, pq_13_0, pq_13_1, pq_13_2, pq_13_3, pq_13_4, pq_13_5] (by rfl) (by decide +kernel)
set_option maxRecDepth 20000 in
theorem gX6_digest_X6_mixedWithText : GoodIn wsX6_digest (va_wsS RX6 295 yX6_mixedWithText wsX6_mixedWithText) := goodIn_app (goodIn_s seX6_digest _ [pq_1_15, pq_1_16, pq_1_9] (by rfl) (by decide +kernel)) ggX6_digest_X6_mixedWithText
set_option maxRecDepth 20000 in
theorem ggX6_digest_X6_greatestBorder : GoodIn wsX6_digest wsX6_greatestBorder := goodIn_s seX6_digest _ [pq_3_1, pq_3_2, pq_3_3, pq_3_4, pq_3_5, pq_3_6, pq_3_7, pq_3_8, pq_3_9, pq_1_19, pq_1_20, pq_1_21, pq_1_22, pq_1_23, pq_2_0, pq_2_1, pq_2_2, pq_2_3, pq_2_4, pq_2_5, pq_2_6, pq_3_10, pq_2_8, pq_2_9, pq_2_10, pq_2_11, pq_2_12, pq_2_13, pq_2_14, pq_2_15, pq_2_16, pq_2_17, pq_2_18, pq_2_19, pq_2_20, pq_2_21, pq_3_11, pq_3_12, pq_3_13, pq_3_14, pq_3_15, pq_3_16, pq_3_17, pq_3_18, pq_1_18, pq_3_19, pq_10_0, pq_10_1, pq_10_2, pq_10_3, pq_10_4, pq_10_5, pq_10_6, pq_10_7, pq_10_8, pq_10_9, pq_10_10, pq_10_11, pq_10_12, pq_10_13, pq_15_0, pq_15_1, pq_15_2, pq_14_0, pq_14_1, pq_13_0, pq_13_1, pq_13_2, pq_13_3, pq_13_4, pq_13_5] (by rfl) (by decide +kernel)
set_option maxRecDepth 20000 in
theorem gX6_digest_X6_greatestBorder : GoodIn wsX6_digest (wsV RX6 230 RX6 yX6_greatestBorder wsX6_greatestBorder) := goodIn_app (goodIn_s seX6_digest _ [pq_2_22, pq_2_23, pq_3_0, pq_1_9] (by rfl) (by decide +kernel)) ggX6_digest_X6_greatestBorder
set_option maxRecDepth 20000 in
theorem ggX6_digest_X3_seek : GoodIn wsX6_digest wsX3_seek := goodIn_s seX6_digest _ [pq_4_0, pq_4_1, pq_4_2, pq_4_3, pq_3_4, pq_3_5, pq_3_6, pq_3_7, pq_3_8, pq_3_9, pq_1_19, pq_1_20, pq_1_21, pq_1_22, pq_1_23, pq_2_0, pq_2_1, pq_2_2, pq_2_3, pq_2_4, pq_2_5, pq_2_6, pq_3_10, pq_2_8, pq_2_9, pq_2_10, pq_2_11, pq_2_12, pq_2_13, pq_2_14, pq_2_15, pq_2_16, pq_2_17, pq_2_18, pq_2_19, pq_2_20, pq_2_21, pq_3_11, pq_3_12, pq_3_13, pq_3_14, pq_3_15, pq_3_16, pq_3_17, pq_3_18, pq_4_4, pq_4_5, pq_4_6, pq_4_7, pq_3_23, pq_4_8, pq_4_9, pq_4_10, pq_4_11, pq_11_0, pq_11_1, pq_11_2, pq_15_0, pq_15_1, pq_15_2, pq_14_0, pq_14_1, pq_13_0, pq_13_1, pq_13_2, pq_13_3, pq_13_4, pq_13_5] (by rfl) (by decide +kernel)
set_option maxRecDepth 20000 in
theorem gX6_digest_X3_seek : GoodIn wsX6_digest (wsV RX6 220 RX3 yX3_seek wsX3_seek) := goodIn_app (goodIn_s seX6_digest _ [pq_3_20, pq_3_21, pq_3_22, pq_3_23] (by rfl) (by decide +kernel)) ggX6_digest_X3_seek
set_option maxRecDepth 20000 in
theorem ggX6_digest_X6_counted : GoodIn wsX6_digest wsX6_counted := goodIn_s seX6_digest _ [pq_4_21, pq_4_22, pq_4_23, pq_5_0, pq_5_1, pq_10_0, pq_10_1, pq_10_2, pq_10_3, pq_10_4, pq_10_5, pq_10_6, pq_10_7, pq_10_8, pq_10_9, pq_10_10, pq_10_11, pq_10_12, pq_10_13] (by rfl) (by decide +kernel)
set_option maxRecDepth 20000 in
theorem gX6_digest_X6_counted : GoodIn wsX6_digest (wsV RX6 259 RX6 yX6_counted wsX6_counted) := goodIn_app (goodIn_s seX6_digest _ [pq_4_18, pq_4_19, pq_4_20, pq_1_9] (by rfl) (by decide +kernel)) ggX6_digest_X6_counted
set_option maxRecDepth 20000 in
theorem ggX6_digest_X6_isSound : GoodIn wsX6_digest wsX6_isSound := goodIn_s seX6_digest _ [pq_5_5, pq_1_1, pq_1_5, pq_5_6, pq_5_7, pq_5_8, pq_2_3, pq_5_9, pq_5_10, pq_2_6, pq_2_5, pq_5_11, pq_5_12, pq_5_13, pq_5_14, pq_1_9, pq_5_15, pq_5_16, pq_5_17, pq_5_18, pq_5_19, pq_5_20, pq_5_21, pq_5_22, pq_5_23, pq_6_0, pq_6_1, pq_1_22, pq_6_2, pq_2_0, pq_6_3, pq_6_4, pq_6_5, pq_6_6, pq_6_7, pq_1_19, pq_1_20, pq_1_21, pq_1_23, pq_2_1, pq_2_2, pq_2_4, pq_6_8, pq_2_8, pq_2_9, pq_2_10, pq_2_11, pq_2_12, pq_2_13, pq_2_14, pq_2_15, pq_2_16, pq_2_17, pq_2_18, pq_2_19, pq_2_20, pq_2_21, pq_6_9, pq_6_10, pq_6_11, pq_6_12, pq_6_13, pq_6_14, pq_6_15, pq_6_16, pq_6_17, pq_6_18, pq_6_19, pq_6_20, pq_6_21, pq_6_22, pq_6_23, pq_7_0, pq_7_1, pq_7_2, pq_7_3, pq_7_4, pq_7_5, pq_7_6, pq_7_7, pq_7_8, pq_7_9, pq_7_10, pq_7_11, pq_7_12, pq_7_13, pq_7_14, pq_1_18, pq_2_7, pq_7_15, pq_7_16, pq_7_17, pq_7_18, pq_1_4, pq_1_3, pq_7_19, pq_7_20, pq_7_21, pq_7_22, pq_7_23, pq_8_0, pq_8_1, pq_3_20, pq_3_21, pq_3_22, pq_3_23, pq_4_0, pq_4_1, pq_4_2, pq_4_3, pq_3_4, pq_3_5, pq_3_6, pq_3_7, pq_3_8, pq_3_9, pq_3_10, pq_3_11, pq_3_12, pq_3_13, pq_3_14, pq_3_15, pq_3_16, pq_3_17, pq_3_18, pq_4_4, pq_4_5, pq_4_6, pq_4_7, pq_4_8, pq_4_9, pq_4_10, pq_4_11, pq_4_12, pq_4_13, pq_4_14, pq_4_15, pq_8_2, pq_8_3, pq_8_4, pq_8_5, pq_1_2, pq_4_16, pq_4_17, pq_8_6, pq_8_7, pq_8_8, pq_8_9, pq_8_10, pq_8_11, pq_8_12, pq_3_2, pq_8_13, pq_8_14, pq_8_15, pq_8_16, pq_8_17, pq_8_18, pq_8_19, pq_8_20, pq_8_21, pq_8_22, pq_8_23, pq_9_0, pq_9_1, pq_9_2, pq_9_3, pq_9_4, pq_9_5, pq_9_6, pq_9_7, pq_9_8, pq_10_0, pq_10_1, pq_10_2, pq_10_3, pq_10_4, pq_10_5, pq_10_6, pq_10_7, pq_10_8, pq_10_9, pq_10_10, pq_10_11, pq_10_12, pq_10_13, pq_13_0, pq_13_1, pq_13_2, pq_13_3, pq_13_4, pq_13_5, pq_14_0, pq_14_1, pq_11_0, pq_11_1, pq_11_2, pq_15_0, pq_15_1, pq_15_2, pq_12_0, pq_12_1, pq_12_2, pq_12_3] (by rfl) (by decide +kernel)
set_option maxRecDepth 20000 in
theorem gX6_digest_X6_isSound : GoodIn wsX6_digest (wsV RX6 299 RX6 yX6_isSound wsX6_isSound) := goodIn_app (goodIn_s seX6_digest _ [pq_5_2, pq_5_3, pq_5_4, pq_1_9] (by rfl) (by decide +kernel)) ggX6_digest_X6_isSound
def lb_sgX6_digest : List (List UInt8) := [[20, 1, 29, 64, 3, 62, 29, 42, 180, 0, 11, 190, 162, 0, 21, 42], [31, 42, 180, 0, 11, 29, 50, 182, 1, 31, 64, 132, 3, 1, 167, 255], [232, 31, 42, 180, 0, 20, 182, 0, 164, 133, 184, 1, 35, 42, 180, 0], [20, 184, 1, 39, 64, 31, 42, 180, 0, 24, 182, 0, 164, 133, 184, 1], [35, 42, 180, 0, 24, 184, 1, 39, 64, 31, 42, 42, 180, 0, 20, 182], [0, 230, 133, 184, 1, 35, 64, 31, 42, 42, 180, 0, 24, 182, 0, 230], [133, 184, 1, 35, 64, 42, 180, 0, 48, 42, 180, 0, 20, 42, 180, 0], [24, 182, 0, 220, 31, 42, 180, 0, 48, 180, 0, 227, 133, 184, 1, 35], [64, 42, 180, 0, 48, 42, 180, 0, 24, 42, 180, 0, 20, 182, 0, 220], [31, 42, 180, 0, 48, 180, 0, 227, 133, 184, 1, 35, 64, 31, 42, 180], [0, 30, 180, 0, 183, 182, 0, 164, 133, 184, 1, 35, 42, 180, 0, 30], [180, 0, 183, 184, 1, 39, 64, 31, 42, 180, 0, 30, 180, 0, 196, 182], [0, 164, 133, 184, 1, 35, 64, 3, 62, 29, 6, 163, 0, 20, 31, 42], [29, 182, 1, 3, 133, 184, 1, 35, 64, 132, 3, 1, 167, 255, 237, 31], [42, 182, 1, 43, 153, 0, 7, 10, 167, 0, 4, 9, 184, 1, 35, 173]]
set_option maxRecDepth 100000 in
theorem lb_seX6_digest : cX6_digest.data.toList = lb_sgX6_digest.flatten := by decide +kernel
theorem lb_lnX6_digest : ∀ s ∈ lb_sgX6_digest.dropLast, s.length = 16 := by decide +kernel
theorem lxX6_digest (k j : Nat) {b : UInt8} (h : (lb_sgX6_digest[k]?).bind (fun s => s[j]?) = some b) : lb_at cX6_digest (16 * k + j) b := by
  unfold lb_at
  rw [lb_seX6_digest]
  exact lb_flat 16 lb_sgX6_digest k j b lb_lnX6_digest h
set_option maxRecDepth 20000 in
theorem dX6_digest_0 : decode cX6_digest 0 = .ok (.ldc2_w 285, 3) := dc_20 1 29 (lxX6_digest 0 0 rfl) (lxX6_digest 0 1 rfl) (lxX6_digest 0 2 rfl)
set_option maxRecDepth 20000 in
theorem dX6_digest_3 : decode cX6_digest 3 = .ok (.lstore_n 1, 1) := dc_64 (lxX6_digest 0 3 rfl)
set_option maxRecDepth 20000 in
theorem dX6_digest_4 : decode cX6_digest 4 = .ok (.iconst 0, 1) := dc_3 (lxX6_digest 0 4 rfl)
set_option maxRecDepth 20000 in
theorem dX6_digest_5 : decode cX6_digest 5 = .ok (.istore_n 3, 1) := dc_62 (lxX6_digest 0 5 rfl)
set_option maxRecDepth 20000 in
theorem dX6_digest_6 : decode cX6_digest 6 = .ok (.iload_n 3, 1) := dc_29 (lxX6_digest 0 6 rfl)
set_option maxRecDepth 20000 in
theorem dX6_digest_7 : decode cX6_digest 7 = .ok (.aload_n 0, 1) := dc_42 (lxX6_digest 0 7 rfl)
set_option maxRecDepth 20000 in
theorem dX6_digest_8 : decode cX6_digest 8 = .ok (.getfield 11, 3) := dc_180 0 11 (lxX6_digest 0 8 rfl) (lxX6_digest 0 9 rfl) (lxX6_digest 0 10 rfl)
set_option maxRecDepth 20000 in
theorem dX6_digest_11 : decode cX6_digest 11 = .ok (.arraylength, 1) := dc_190 (lxX6_digest 0 11 rfl)
set_option maxRecDepth 20000 in
theorem dX6_digest_12 : decode cX6_digest 12 = .ok (.if_icmp .ge 21, 3) := dc_162 0 21 (lxX6_digest 0 12 rfl) (lxX6_digest 0 13 rfl) (lxX6_digest 0 14 rfl)
set_option maxRecDepth 20000 in
theorem dX6_digest_15 : decode cX6_digest 15 = .ok (.aload_n 0, 1) := dc_42 (lxX6_digest 0 15 rfl)
set_option maxRecDepth 20000 in
theorem dX6_digest_16 : decode cX6_digest 16 = .ok (.lload_n 1, 1) := dc_31 (lxX6_digest 1 0 rfl)
set_option maxRecDepth 20000 in
theorem dX6_digest_17 : decode cX6_digest 17 = .ok (.aload_n 0, 1) := dc_42 (lxX6_digest 1 1 rfl)
set_option maxRecDepth 20000 in
theorem dX6_digest_18 : decode cX6_digest 18 = .ok (.getfield 11, 3) := dc_180 0 11 (lxX6_digest 1 2 rfl) (lxX6_digest 1 3 rfl) (lxX6_digest 1 4 rfl)
set_option maxRecDepth 20000 in
theorem dX6_digest_21 : decode cX6_digest 21 = .ok (.iload_n 3, 1) := dc_29 (lxX6_digest 1 5 rfl)
set_option maxRecDepth 20000 in
theorem dX6_digest_22 : decode cX6_digest 22 = .ok (.aaload, 1) := dc_50 (lxX6_digest 1 6 rfl)
set_option maxRecDepth 20000 in
theorem dX6_digest_23 : decode cX6_digest 23 = .ok (.invokevirtual 287, 3) := dc_182 1 31 (lxX6_digest 1 7 rfl) (lxX6_digest 1 8 rfl) (lxX6_digest 1 9 rfl)
set_option maxRecDepth 20000 in
theorem dX6_digest_26 : decode cX6_digest 26 = .ok (.lstore_n 1, 1) := dc_64 (lxX6_digest 1 10 rfl)
set_option maxRecDepth 20000 in
theorem dX6_digest_27 : decode cX6_digest 27 = .ok (.iinc 3 1, 3) := dc_132 3 1 (lxX6_digest 1 11 rfl) (lxX6_digest 1 12 rfl) (lxX6_digest 1 13 rfl)
set_option maxRecDepth 20000 in
theorem dX6_digest_30 : decode cX6_digest 30 = .ok (.goto (-24), 3) := dc_167 255 232 (lxX6_digest 1 14 rfl) (lxX6_digest 1 15 rfl) (lxX6_digest 2 0 rfl)
set_option maxRecDepth 20000 in
theorem dX6_digest_33 : decode cX6_digest 33 = .ok (.lload_n 1, 1) := dc_31 (lxX6_digest 2 1 rfl)
set_option maxRecDepth 20000 in
theorem dX6_digest_34 : decode cX6_digest 34 = .ok (.aload_n 0, 1) := dc_42 (lxX6_digest 2 2 rfl)
set_option maxRecDepth 20000 in
theorem dX6_digest_35 : decode cX6_digest 35 = .ok (.getfield 20, 3) := dc_180 0 20 (lxX6_digest 2 3 rfl) (lxX6_digest 2 4 rfl) (lxX6_digest 2 5 rfl)
set_option maxRecDepth 20000 in
theorem dX6_digest_38 : decode cX6_digest 38 = .ok (.invokevirtual 164, 3) := dc_182 0 164 (lxX6_digest 2 6 rfl) (lxX6_digest 2 7 rfl) (lxX6_digest 2 8 rfl)
set_option maxRecDepth 20000 in
theorem dX6_digest_41 : decode cX6_digest 41 = .ok (.i2l, 1) := dc_133 (lxX6_digest 2 9 rfl)
set_option maxRecDepth 20000 in
theorem dX6_digest_42 : decode cX6_digest 42 = .ok (.invokestatic 291, 3) := dc_184 1 35 (lxX6_digest 2 10 rfl) (lxX6_digest 2 11 rfl) (lxX6_digest 2 12 rfl)
set_option maxRecDepth 20000 in
theorem dX6_digest_45 : decode cX6_digest 45 = .ok (.aload_n 0, 1) := dc_42 (lxX6_digest 2 13 rfl)
set_option maxRecDepth 20000 in
theorem dX6_digest_46 : decode cX6_digest 46 = .ok (.getfield 20, 3) := dc_180 0 20 (lxX6_digest 2 14 rfl) (lxX6_digest 2 15 rfl) (lxX6_digest 3 0 rfl)
set_option maxRecDepth 20000 in
theorem dX6_digest_49 : decode cX6_digest 49 = .ok (.invokestatic 295, 3) := dc_184 1 39 (lxX6_digest 3 1 rfl) (lxX6_digest 3 2 rfl) (lxX6_digest 3 3 rfl)
set_option maxRecDepth 20000 in
theorem dX6_digest_52 : decode cX6_digest 52 = .ok (.lstore_n 1, 1) := dc_64 (lxX6_digest 3 4 rfl)
set_option maxRecDepth 20000 in
theorem dX6_digest_53 : decode cX6_digest 53 = .ok (.lload_n 1, 1) := dc_31 (lxX6_digest 3 5 rfl)
set_option maxRecDepth 20000 in
theorem dX6_digest_54 : decode cX6_digest 54 = .ok (.aload_n 0, 1) := dc_42 (lxX6_digest 3 6 rfl)
set_option maxRecDepth 20000 in
theorem dX6_digest_55 : decode cX6_digest 55 = .ok (.getfield 24, 3) := dc_180 0 24 (lxX6_digest 3 7 rfl) (lxX6_digest 3 8 rfl) (lxX6_digest 3 9 rfl)
set_option maxRecDepth 20000 in
theorem dX6_digest_58 : decode cX6_digest 58 = .ok (.invokevirtual 164, 3) := dc_182 0 164 (lxX6_digest 3 10 rfl) (lxX6_digest 3 11 rfl) (lxX6_digest 3 12 rfl)
set_option maxRecDepth 20000 in
theorem dX6_digest_61 : decode cX6_digest 61 = .ok (.i2l, 1) := dc_133 (lxX6_digest 3 13 rfl)
set_option maxRecDepth 20000 in
theorem dX6_digest_62 : decode cX6_digest 62 = .ok (.invokestatic 291, 3) := dc_184 1 35 (lxX6_digest 3 14 rfl) (lxX6_digest 3 15 rfl) (lxX6_digest 4 0 rfl)
set_option maxRecDepth 20000 in
theorem dX6_digest_65 : decode cX6_digest 65 = .ok (.aload_n 0, 1) := dc_42 (lxX6_digest 4 1 rfl)
set_option maxRecDepth 20000 in
theorem dX6_digest_66 : decode cX6_digest 66 = .ok (.getfield 24, 3) := dc_180 0 24 (lxX6_digest 4 2 rfl) (lxX6_digest 4 3 rfl) (lxX6_digest 4 4 rfl)
set_option maxRecDepth 20000 in
theorem dX6_digest_69 : decode cX6_digest 69 = .ok (.invokestatic 295, 3) := dc_184 1 39 (lxX6_digest 4 5 rfl) (lxX6_digest 4 6 rfl) (lxX6_digest 4 7 rfl)
set_option maxRecDepth 20000 in
theorem dX6_digest_72 : decode cX6_digest 72 = .ok (.lstore_n 1, 1) := dc_64 (lxX6_digest 4 8 rfl)
set_option maxRecDepth 20000 in
theorem dX6_digest_73 : decode cX6_digest 73 = .ok (.lload_n 1, 1) := dc_31 (lxX6_digest 4 9 rfl)
set_option maxRecDepth 20000 in
theorem dX6_digest_74 : decode cX6_digest 74 = .ok (.aload_n 0, 1) := dc_42 (lxX6_digest 4 10 rfl)
set_option maxRecDepth 20000 in
theorem dX6_digest_75 : decode cX6_digest 75 = .ok (.aload_n 0, 1) := dc_42 (lxX6_digest 4 11 rfl)
set_option maxRecDepth 20000 in
theorem dX6_digest_76 : decode cX6_digest 76 = .ok (.getfield 20, 3) := dc_180 0 20 (lxX6_digest 4 12 rfl) (lxX6_digest 4 13 rfl) (lxX6_digest 4 14 rfl)
set_option maxRecDepth 20000 in
theorem dX6_digest_79 : decode cX6_digest 79 = .ok (.invokevirtual 230, 3) := dc_182 0 230 (lxX6_digest 4 15 rfl) (lxX6_digest 5 0 rfl) (lxX6_digest 5 1 rfl)
set_option maxRecDepth 20000 in
theorem dX6_digest_82 : decode cX6_digest 82 = .ok (.i2l, 1) := dc_133 (lxX6_digest 5 2 rfl)
set_option maxRecDepth 20000 in
theorem dX6_digest_83 : decode cX6_digest 83 = .ok (.invokestatic 291, 3) := dc_184 1 35 (lxX6_digest 5 3 rfl) (lxX6_digest 5 4 rfl) (lxX6_digest 5 5 rfl)
set_option maxRecDepth 20000 in
theorem dX6_digest_86 : decode cX6_digest 86 = .ok (.lstore_n 1, 1) := dc_64 (lxX6_digest 5 6 rfl)
set_option maxRecDepth 20000 in
theorem dX6_digest_87 : decode cX6_digest 87 = .ok (.lload_n 1, 1) := dc_31 (lxX6_digest 5 7 rfl)
set_option maxRecDepth 20000 in
theorem dX6_digest_88 : decode cX6_digest 88 = .ok (.aload_n 0, 1) := dc_42 (lxX6_digest 5 8 rfl)
set_option maxRecDepth 20000 in
theorem dX6_digest_89 : decode cX6_digest 89 = .ok (.aload_n 0, 1) := dc_42 (lxX6_digest 5 9 rfl)
set_option maxRecDepth 20000 in
theorem dX6_digest_90 : decode cX6_digest 90 = .ok (.getfield 24, 3) := dc_180 0 24 (lxX6_digest 5 10 rfl) (lxX6_digest 5 11 rfl) (lxX6_digest 5 12 rfl)
set_option maxRecDepth 20000 in
theorem dX6_digest_93 : decode cX6_digest 93 = .ok (.invokevirtual 230, 3) := dc_182 0 230 (lxX6_digest 5 13 rfl) (lxX6_digest 5 14 rfl) (lxX6_digest 5 15 rfl)
set_option maxRecDepth 20000 in
theorem dX6_digest_96 : decode cX6_digest 96 = .ok (.i2l, 1) := dc_133 (lxX6_digest 6 0 rfl)
set_option maxRecDepth 20000 in
theorem dX6_digest_97 : decode cX6_digest 97 = .ok (.invokestatic 291, 3) := dc_184 1 35 (lxX6_digest 6 1 rfl) (lxX6_digest 6 2 rfl) (lxX6_digest 6 3 rfl)
set_option maxRecDepth 20000 in
theorem dX6_digest_100 : decode cX6_digest 100 = .ok (.lstore_n 1, 1) := dc_64 (lxX6_digest 6 4 rfl)
set_option maxRecDepth 20000 in
theorem dX6_digest_101 : decode cX6_digest 101 = .ok (.aload_n 0, 1) := dc_42 (lxX6_digest 6 5 rfl)
set_option maxRecDepth 20000 in
theorem dX6_digest_102 : decode cX6_digest 102 = .ok (.getfield 48, 3) := dc_180 0 48 (lxX6_digest 6 6 rfl) (lxX6_digest 6 7 rfl) (lxX6_digest 6 8 rfl)
set_option maxRecDepth 20000 in
theorem dX6_digest_105 : decode cX6_digest 105 = .ok (.aload_n 0, 1) := dc_42 (lxX6_digest 6 9 rfl)
set_option maxRecDepth 20000 in
theorem dX6_digest_106 : decode cX6_digest 106 = .ok (.getfield 20, 3) := dc_180 0 20 (lxX6_digest 6 10 rfl) (lxX6_digest 6 11 rfl) (lxX6_digest 6 12 rfl)
set_option maxRecDepth 20000 in
theorem dX6_digest_109 : decode cX6_digest 109 = .ok (.aload_n 0, 1) := dc_42 (lxX6_digest 6 13 rfl)
set_option maxRecDepth 20000 in
theorem dX6_digest_110 : decode cX6_digest 110 = .ok (.getfield 24, 3) := dc_180 0 24 (lxX6_digest 6 14 rfl) (lxX6_digest 6 15 rfl) (lxX6_digest 7 0 rfl)
set_option maxRecDepth 20000 in
theorem dX6_digest_113 : decode cX6_digest 113 = .ok (.invokevirtual 220, 3) := dc_182 0 220 (lxX6_digest 7 1 rfl) (lxX6_digest 7 2 rfl) (lxX6_digest 7 3 rfl)
set_option maxRecDepth 20000 in
theorem dX6_digest_116 : decode cX6_digest 116 = .ok (.lload_n 1, 1) := dc_31 (lxX6_digest 7 4 rfl)
set_option maxRecDepth 20000 in
theorem dX6_digest_117 : decode cX6_digest 117 = .ok (.aload_n 0, 1) := dc_42 (lxX6_digest 7 5 rfl)
set_option maxRecDepth 20000 in
theorem dX6_digest_118 : decode cX6_digest 118 = .ok (.getfield 48, 3) := dc_180 0 48 (lxX6_digest 7 6 rfl) (lxX6_digest 7 7 rfl) (lxX6_digest 7 8 rfl)
set_option maxRecDepth 20000 in
theorem dX6_digest_121 : decode cX6_digest 121 = .ok (.getfield 227, 3) := dc_180 0 227 (lxX6_digest 7 9 rfl) (lxX6_digest 7 10 rfl) (lxX6_digest 7 11 rfl)
set_option maxRecDepth 20000 in
theorem dX6_digest_124 : decode cX6_digest 124 = .ok (.i2l, 1) := dc_133 (lxX6_digest 7 12 rfl)
set_option maxRecDepth 20000 in
theorem dX6_digest_125 : decode cX6_digest 125 = .ok (.invokestatic 291, 3) := dc_184 1 35 (lxX6_digest 7 13 rfl) (lxX6_digest 7 14 rfl) (lxX6_digest 7 15 rfl)
set_option maxRecDepth 20000 in
theorem dX6_digest_128 : decode cX6_digest 128 = .ok (.lstore_n 1, 1) := dc_64 (lxX6_digest 8 0 rfl)
set_option maxRecDepth 20000 in
theorem dX6_digest_129 : decode cX6_digest 129 = .ok (.aload_n 0, 1) := dc_42 (lxX6_digest 8 1 rfl)
set_option maxRecDepth 20000 in
theorem dX6_digest_130 : decode cX6_digest 130 = .ok (.getfield 48, 3) := dc_180 0 48 (lxX6_digest 8 2 rfl) (lxX6_digest 8 3 rfl) (lxX6_digest 8 4 rfl)
set_option maxRecDepth 20000 in
theorem dX6_digest_133 : decode cX6_digest 133 = .ok (.aload_n 0, 1) := dc_42 (lxX6_digest 8 5 rfl)
set_option maxRecDepth 20000 in
theorem dX6_digest_134 : decode cX6_digest 134 = .ok (.getfield 24, 3) := dc_180 0 24 (lxX6_digest 8 6 rfl) (lxX6_digest 8 7 rfl) (lxX6_digest 8 8 rfl)
set_option maxRecDepth 20000 in
theorem dX6_digest_137 : decode cX6_digest 137 = .ok (.aload_n 0, 1) := dc_42 (lxX6_digest 8 9 rfl)
set_option maxRecDepth 20000 in
theorem dX6_digest_138 : decode cX6_digest 138 = .ok (.getfield 20, 3) := dc_180 0 20 (lxX6_digest 8 10 rfl) (lxX6_digest 8 11 rfl) (lxX6_digest 8 12 rfl)
set_option maxRecDepth 20000 in
theorem dX6_digest_141 : decode cX6_digest 141 = .ok (.invokevirtual 220, 3) := dc_182 0 220 (lxX6_digest 8 13 rfl) (lxX6_digest 8 14 rfl) (lxX6_digest 8 15 rfl)
set_option maxRecDepth 20000 in
theorem dX6_digest_144 : decode cX6_digest 144 = .ok (.lload_n 1, 1) := dc_31 (lxX6_digest 9 0 rfl)
set_option maxRecDepth 20000 in
theorem dX6_digest_145 : decode cX6_digest 145 = .ok (.aload_n 0, 1) := dc_42 (lxX6_digest 9 1 rfl)
set_option maxRecDepth 20000 in
theorem dX6_digest_146 : decode cX6_digest 146 = .ok (.getfield 48, 3) := dc_180 0 48 (lxX6_digest 9 2 rfl) (lxX6_digest 9 3 rfl) (lxX6_digest 9 4 rfl)
set_option maxRecDepth 20000 in
theorem dX6_digest_149 : decode cX6_digest 149 = .ok (.getfield 227, 3) := dc_180 0 227 (lxX6_digest 9 5 rfl) (lxX6_digest 9 6 rfl) (lxX6_digest 9 7 rfl)
set_option maxRecDepth 20000 in
theorem dX6_digest_152 : decode cX6_digest 152 = .ok (.i2l, 1) := dc_133 (lxX6_digest 9 8 rfl)
set_option maxRecDepth 20000 in
theorem dX6_digest_153 : decode cX6_digest 153 = .ok (.invokestatic 291, 3) := dc_184 1 35 (lxX6_digest 9 9 rfl) (lxX6_digest 9 10 rfl) (lxX6_digest 9 11 rfl)
set_option maxRecDepth 20000 in
theorem dX6_digest_156 : decode cX6_digest 156 = .ok (.lstore_n 1, 1) := dc_64 (lxX6_digest 9 12 rfl)
set_option maxRecDepth 20000 in
theorem dX6_digest_157 : decode cX6_digest 157 = .ok (.lload_n 1, 1) := dc_31 (lxX6_digest 9 13 rfl)
set_option maxRecDepth 20000 in
theorem dX6_digest_158 : decode cX6_digest 158 = .ok (.aload_n 0, 1) := dc_42 (lxX6_digest 9 14 rfl)
set_option maxRecDepth 20000 in
theorem dX6_digest_159 : decode cX6_digest 159 = .ok (.getfield 30, 3) := dc_180 0 30 (lxX6_digest 9 15 rfl) (lxX6_digest 10 0 rfl) (lxX6_digest 10 1 rfl)
set_option maxRecDepth 20000 in
theorem dX6_digest_162 : decode cX6_digest 162 = .ok (.getfield 183, 3) := dc_180 0 183 (lxX6_digest 10 2 rfl) (lxX6_digest 10 3 rfl) (lxX6_digest 10 4 rfl)
set_option maxRecDepth 20000 in
theorem dX6_digest_165 : decode cX6_digest 165 = .ok (.invokevirtual 164, 3) := dc_182 0 164 (lxX6_digest 10 5 rfl) (lxX6_digest 10 6 rfl) (lxX6_digest 10 7 rfl)
set_option maxRecDepth 20000 in
theorem dX6_digest_168 : decode cX6_digest 168 = .ok (.i2l, 1) := dc_133 (lxX6_digest 10 8 rfl)
set_option maxRecDepth 20000 in
theorem dX6_digest_169 : decode cX6_digest 169 = .ok (.invokestatic 291, 3) := dc_184 1 35 (lxX6_digest 10 9 rfl) (lxX6_digest 10 10 rfl) (lxX6_digest 10 11 rfl)
set_option maxRecDepth 20000 in
theorem dX6_digest_172 : decode cX6_digest 172 = .ok (.aload_n 0, 1) := dc_42 (lxX6_digest 10 12 rfl)
set_option maxRecDepth 20000 in
theorem dX6_digest_173 : decode cX6_digest 173 = .ok (.getfield 30, 3) := dc_180 0 30 (lxX6_digest 10 13 rfl) (lxX6_digest 10 14 rfl) (lxX6_digest 10 15 rfl)
set_option maxRecDepth 20000 in
theorem dX6_digest_176 : decode cX6_digest 176 = .ok (.getfield 183, 3) := dc_180 0 183 (lxX6_digest 11 0 rfl) (lxX6_digest 11 1 rfl) (lxX6_digest 11 2 rfl)
set_option maxRecDepth 20000 in
theorem dX6_digest_179 : decode cX6_digest 179 = .ok (.invokestatic 295, 3) := dc_184 1 39 (lxX6_digest 11 3 rfl) (lxX6_digest 11 4 rfl) (lxX6_digest 11 5 rfl)
set_option maxRecDepth 20000 in
theorem dX6_digest_182 : decode cX6_digest 182 = .ok (.lstore_n 1, 1) := dc_64 (lxX6_digest 11 6 rfl)
set_option maxRecDepth 20000 in
theorem dX6_digest_183 : decode cX6_digest 183 = .ok (.lload_n 1, 1) := dc_31 (lxX6_digest 11 7 rfl)
set_option maxRecDepth 20000 in
theorem dX6_digest_184 : decode cX6_digest 184 = .ok (.aload_n 0, 1) := dc_42 (lxX6_digest 11 8 rfl)
set_option maxRecDepth 20000 in
theorem dX6_digest_185 : decode cX6_digest 185 = .ok (.getfield 30, 3) := dc_180 0 30 (lxX6_digest 11 9 rfl) (lxX6_digest 11 10 rfl) (lxX6_digest 11 11 rfl)
set_option maxRecDepth 20000 in
theorem dX6_digest_188 : decode cX6_digest 188 = .ok (.getfield 196, 3) := dc_180 0 196 (lxX6_digest 11 12 rfl) (lxX6_digest 11 13 rfl) (lxX6_digest 11 14 rfl)
set_option maxRecDepth 20000 in
theorem dX6_digest_191 : decode cX6_digest 191 = .ok (.invokevirtual 164, 3) := dc_182 0 164 (lxX6_digest 11 15 rfl) (lxX6_digest 12 0 rfl) (lxX6_digest 12 1 rfl)
set_option maxRecDepth 20000 in
theorem dX6_digest_194 : decode cX6_digest 194 = .ok (.i2l, 1) := dc_133 (lxX6_digest 12 2 rfl)
set_option maxRecDepth 20000 in
theorem dX6_digest_195 : decode cX6_digest 195 = .ok (.invokestatic 291, 3) := dc_184 1 35 (lxX6_digest 12 3 rfl) (lxX6_digest 12 4 rfl) (lxX6_digest 12 5 rfl)
set_option maxRecDepth 20000 in
theorem dX6_digest_198 : decode cX6_digest 198 = .ok (.lstore_n 1, 1) := dc_64 (lxX6_digest 12 6 rfl)
set_option maxRecDepth 20000 in
theorem dX6_digest_199 : decode cX6_digest 199 = .ok (.iconst 0, 1) := dc_3 (lxX6_digest 12 7 rfl)
set_option maxRecDepth 20000 in
theorem dX6_digest_200 : decode cX6_digest 200 = .ok (.istore_n 3, 1) := dc_62 (lxX6_digest 12 8 rfl)
set_option maxRecDepth 20000 in
theorem dX6_digest_201 : decode cX6_digest 201 = .ok (.iload_n 3, 1) := dc_29 (lxX6_digest 12 9 rfl)
set_option maxRecDepth 20000 in
theorem dX6_digest_202 : decode cX6_digest 202 = .ok (.iconst 3, 1) := dc_6 (lxX6_digest 12 10 rfl)
set_option maxRecDepth 20000 in
theorem dX6_digest_203 : decode cX6_digest 203 = .ok (.if_icmp .gt 20, 3) := dc_163 0 20 (lxX6_digest 12 11 rfl) (lxX6_digest 12 12 rfl) (lxX6_digest 12 13 rfl)
set_option maxRecDepth 20000 in
theorem dX6_digest_206 : decode cX6_digest 206 = .ok (.lload_n 1, 1) := dc_31 (lxX6_digest 12 14 rfl)
set_option maxRecDepth 20000 in
theorem dX6_digest_207 : decode cX6_digest 207 = .ok (.aload_n 0, 1) := dc_42 (lxX6_digest 12 15 rfl)
set_option maxRecDepth 20000 in
theorem dX6_digest_208 : decode cX6_digest 208 = .ok (.iload_n 3, 1) := dc_29 (lxX6_digest 13 0 rfl)
set_option maxRecDepth 20000 in
theorem dX6_digest_209 : decode cX6_digest 209 = .ok (.invokevirtual 259, 3) := dc_182 1 3 (lxX6_digest 13 1 rfl) (lxX6_digest 13 2 rfl) (lxX6_digest 13 3 rfl)
set_option maxRecDepth 20000 in
theorem dX6_digest_212 : decode cX6_digest 212 = .ok (.i2l, 1) := dc_133 (lxX6_digest 13 4 rfl)
set_option maxRecDepth 20000 in
theorem dX6_digest_213 : decode cX6_digest 213 = .ok (.invokestatic 291, 3) := dc_184 1 35 (lxX6_digest 13 5 rfl) (lxX6_digest 13 6 rfl) (lxX6_digest 13 7 rfl)
set_option maxRecDepth 20000 in
theorem dX6_digest_216 : decode cX6_digest 216 = .ok (.lstore_n 1, 1) := dc_64 (lxX6_digest 13 8 rfl)
set_option maxRecDepth 20000 in
theorem dX6_digest_217 : decode cX6_digest 217 = .ok (.iinc 3 1, 3) := dc_132 3 1 (lxX6_digest 13 9 rfl) (lxX6_digest 13 10 rfl) (lxX6_digest 13 11 rfl)
set_option maxRecDepth 20000 in
theorem dX6_digest_220 : decode cX6_digest 220 = .ok (.goto (-19), 3) := dc_167 255 237 (lxX6_digest 13 12 rfl) (lxX6_digest 13 13 rfl) (lxX6_digest 13 14 rfl)
set_option maxRecDepth 20000 in
theorem dX6_digest_223 : decode cX6_digest 223 = .ok (.lload_n 1, 1) := dc_31 (lxX6_digest 13 15 rfl)
set_option maxRecDepth 20000 in
theorem dX6_digest_224 : decode cX6_digest 224 = .ok (.aload_n 0, 1) := dc_42 (lxX6_digest 14 0 rfl)
set_option maxRecDepth 20000 in
theorem dX6_digest_225 : decode cX6_digest 225 = .ok (.invokevirtual 299, 3) := dc_182 1 43 (lxX6_digest 14 1 rfl) (lxX6_digest 14 2 rfl) (lxX6_digest 14 3 rfl)
set_option maxRecDepth 20000 in
theorem dX6_digest_228 : decode cX6_digest 228 = .ok (.ifCond .eq 7, 3) := dc_153 0 7 (lxX6_digest 14 4 rfl) (lxX6_digest 14 5 rfl) (lxX6_digest 14 6 rfl)
set_option maxRecDepth 20000 in
theorem dX6_digest_231 : decode cX6_digest 231 = .ok (.lconst 1, 1) := dc_10 (lxX6_digest 14 7 rfl)
set_option maxRecDepth 20000 in
theorem dX6_digest_232 : decode cX6_digest 232 = .ok (.goto 4, 3) := dc_167 0 4 (lxX6_digest 14 8 rfl) (lxX6_digest 14 9 rfl) (lxX6_digest 14 10 rfl)
set_option maxRecDepth 20000 in
theorem dX6_digest_235 : decode cX6_digest 235 = .ok (.lconst 0, 1) := dc_9 (lxX6_digest 14 11 rfl)
set_option maxRecDepth 20000 in
theorem dX6_digest_236 : decode cX6_digest 236 = .ok (.invokestatic 291, 3) := dc_184 1 35 (lxX6_digest 14 12 rfl) (lxX6_digest 14 13 rfl) (lxX6_digest 14 14 rfl)
set_option maxRecDepth 20000 in
theorem dX6_digest_239 : decode cX6_digest 239 = .ok (.lreturn, 1) := dc_173 (lxX6_digest 14 15 rfl)
def lb_sgX6_windowOf : List (List UInt8) := [[27, 155, 0, 12, 27, 42, 180, 0, 11, 190, 161, 0, 14, 187, 1, 46], [89, 19, 1, 48, 183, 1, 50, 191, 42, 180, 0, 11, 27, 50, 176]]
set_option maxRecDepth 100000 in
theorem lb_seX6_windowOf : cX6_windowOf.data.toList = lb_sgX6_windowOf.flatten := by decide +kernel
theorem lb_lnX6_windowOf : ∀ s ∈ lb_sgX6_windowOf.dropLast, s.length = 16 := by decide +kernel
theorem lxX6_windowOf (k j : Nat) {b : UInt8} (h : (lb_sgX6_windowOf[k]?).bind (fun s => s[j]?) = some b) : lb_at cX6_windowOf (16 * k + j) b := by
  unfold lb_at
  rw [lb_seX6_windowOf]
  exact lb_flat 16 lb_sgX6_windowOf k j b lb_lnX6_windowOf h
set_option maxRecDepth 20000 in
theorem dX6_windowOf_0 : decode cX6_windowOf 0 = .ok (.iload_n 1, 1) := dc_27 (lxX6_windowOf 0 0 rfl)
set_option maxRecDepth 20000 in
theorem dX6_windowOf_1 : decode cX6_windowOf 1 = .ok (.ifCond .lt 12, 3) := dc_155 0 12 (lxX6_windowOf 0 1 rfl) (lxX6_windowOf 0 2 rfl) (lxX6_windowOf 0 3 rfl)
set_option maxRecDepth 20000 in
theorem dX6_windowOf_4 : decode cX6_windowOf 4 = .ok (.iload_n 1, 1) := dc_27 (lxX6_windowOf 0 4 rfl)
set_option maxRecDepth 20000 in
theorem dX6_windowOf_5 : decode cX6_windowOf 5 = .ok (.aload_n 0, 1) := dc_42 (lxX6_windowOf 0 5 rfl)
set_option maxRecDepth 20000 in
theorem dX6_windowOf_6 : decode cX6_windowOf 6 = .ok (.getfield 11, 3) := dc_180 0 11 (lxX6_windowOf 0 6 rfl) (lxX6_windowOf 0 7 rfl) (lxX6_windowOf 0 8 rfl)
set_option maxRecDepth 20000 in
theorem dX6_windowOf_9 : decode cX6_windowOf 9 = .ok (.arraylength, 1) := dc_190 (lxX6_windowOf 0 9 rfl)
set_option maxRecDepth 20000 in
theorem dX6_windowOf_10 : decode cX6_windowOf 10 = .ok (.if_icmp .lt 14, 3) := dc_161 0 14 (lxX6_windowOf 0 10 rfl) (lxX6_windowOf 0 11 rfl) (lxX6_windowOf 0 12 rfl)
set_option maxRecDepth 20000 in
theorem dX6_windowOf_13 : decode cX6_windowOf 13 = .ok (.new 302, 3) := dc_187 1 46 (lxX6_windowOf 0 13 rfl) (lxX6_windowOf 0 14 rfl) (lxX6_windowOf 0 15 rfl)
set_option maxRecDepth 20000 in
theorem dX6_windowOf_16 : decode cX6_windowOf 16 = .ok (.dup, 1) := dc_89 (lxX6_windowOf 1 0 rfl)
set_option maxRecDepth 20000 in
theorem dX6_windowOf_17 : decode cX6_windowOf 17 = .ok (.ldc_w 304, 3) := dc_19 1 48 (lxX6_windowOf 1 1 rfl) (lxX6_windowOf 1 2 rfl) (lxX6_windowOf 1 3 rfl)
set_option maxRecDepth 20000 in
theorem dX6_windowOf_20 : decode cX6_windowOf 20 = .ok (.invokespecial 306, 3) := dc_183 1 50 (lxX6_windowOf 1 4 rfl) (lxX6_windowOf 1 5 rfl) (lxX6_windowOf 1 6 rfl)
set_option maxRecDepth 20000 in
theorem dX6_windowOf_23 : decode cX6_windowOf 23 = .ok (.athrow, 1) := dc_191 (lxX6_windowOf 1 7 rfl)
set_option maxRecDepth 20000 in
theorem dX6_windowOf_24 : decode cX6_windowOf 24 = .ok (.aload_n 0, 1) := dc_42 (lxX6_windowOf 1 8 rfl)
set_option maxRecDepth 20000 in
theorem dX6_windowOf_25 : decode cX6_windowOf 25 = .ok (.getfield 11, 3) := dc_180 0 11 (lxX6_windowOf 1 9 rfl) (lxX6_windowOf 1 10 rfl) (lxX6_windowOf 1 11 rfl)
set_option maxRecDepth 20000 in
theorem dX6_windowOf_28 : decode cX6_windowOf 28 = .ok (.iload_n 1, 1) := dc_27 (lxX6_windowOf 1 12 rfl)
set_option maxRecDepth 20000 in
theorem dX6_windowOf_29 : decode cX6_windowOf 29 = .ok (.aaload, 1) := dc_50 (lxX6_windowOf 1 13 rfl)
set_option maxRecDepth 20000 in
theorem dX6_windowOf_30 : decode cX6_windowOf 30 = .ok (.areturn, 1) := dc_176 (lxX6_windowOf 1 14 rfl)
def lb_sgX6_sourceOf : List (List UInt8) := [[27, 155, 0, 9, 27, 16, 7, 164, 0, 14, 187, 1, 46, 89, 19, 1], [53, 183, 1, 50, 191, 27, 42, 180, 0, 11, 190, 162, 0, 10, 42, 180], [0, 11, 27, 50, 176, 27, 16, 6, 160, 0, 10, 42, 180, 0, 20, 167], [0, 7, 42, 180, 0, 24, 176]]
set_option maxRecDepth 100000 in
theorem lb_seX6_sourceOf : cX6_sourceOf.data.toList = lb_sgX6_sourceOf.flatten := by decide +kernel
theorem lb_lnX6_sourceOf : ∀ s ∈ lb_sgX6_sourceOf.dropLast, s.length = 16 := by decide +kernel
theorem lxX6_sourceOf (k j : Nat) {b : UInt8} (h : (lb_sgX6_sourceOf[k]?).bind (fun s => s[j]?) = some b) : lb_at cX6_sourceOf (16 * k + j) b := by
  unfold lb_at
  rw [lb_seX6_sourceOf]
  exact lb_flat 16 lb_sgX6_sourceOf k j b lb_lnX6_sourceOf h
set_option maxRecDepth 20000 in
theorem dX6_sourceOf_0 : decode cX6_sourceOf 0 = .ok (.iload_n 1, 1) := dc_27 (lxX6_sourceOf 0 0 rfl)
set_option maxRecDepth 20000 in
theorem dX6_sourceOf_1 : decode cX6_sourceOf 1 = .ok (.ifCond .lt 9, 3) := dc_155 0 9 (lxX6_sourceOf 0 1 rfl) (lxX6_sourceOf 0 2 rfl) (lxX6_sourceOf 0 3 rfl)
set_option maxRecDepth 20000 in
theorem dX6_sourceOf_4 : decode cX6_sourceOf 4 = .ok (.iload_n 1, 1) := dc_27 (lxX6_sourceOf 0 4 rfl)
set_option maxRecDepth 20000 in
theorem dX6_sourceOf_5 : decode cX6_sourceOf 5 = .ok (.bipush 7, 2) := dc_16 7 (lxX6_sourceOf 0 5 rfl) (lxX6_sourceOf 0 6 rfl)
set_option maxRecDepth 20000 in
theorem dX6_sourceOf_7 : decode cX6_sourceOf 7 = .ok (.if_icmp .le 14, 3) := dc_164 0 14 (lxX6_sourceOf 0 7 rfl) (lxX6_sourceOf 0 8 rfl) (lxX6_sourceOf 0 9 rfl)
set_option maxRecDepth 20000 in
theorem dX6_sourceOf_10 : decode cX6_sourceOf 10 = .ok (.new 302, 3) := dc_187 1 46 (lxX6_sourceOf 0 10 rfl) (lxX6_sourceOf 0 11 rfl) (lxX6_sourceOf 0 12 rfl)
set_option maxRecDepth 20000 in
theorem dX6_sourceOf_13 : decode cX6_sourceOf 13 = .ok (.dup, 1) := dc_89 (lxX6_sourceOf 0 13 rfl)
set_option maxRecDepth 20000 in
theorem dX6_sourceOf_14 : decode cX6_sourceOf 14 = .ok (.ldc_w 309, 3) := dc_19 1 53 (lxX6_sourceOf 0 14 rfl) (lxX6_sourceOf 0 15 rfl) (lxX6_sourceOf 1 0 rfl)
set_option maxRecDepth 20000 in
theorem dX6_sourceOf_17 : decode cX6_sourceOf 17 = .ok (.invokespecial 306, 3) := dc_183 1 50 (lxX6_sourceOf 1 1 rfl) (lxX6_sourceOf 1 2 rfl) (lxX6_sourceOf 1 3 rfl)
set_option maxRecDepth 20000 in
theorem dX6_sourceOf_20 : decode cX6_sourceOf 20 = .ok (.athrow, 1) := dc_191 (lxX6_sourceOf 1 4 rfl)
set_option maxRecDepth 20000 in
theorem dX6_sourceOf_21 : decode cX6_sourceOf 21 = .ok (.iload_n 1, 1) := dc_27 (lxX6_sourceOf 1 5 rfl)
set_option maxRecDepth 20000 in
theorem dX6_sourceOf_22 : decode cX6_sourceOf 22 = .ok (.aload_n 0, 1) := dc_42 (lxX6_sourceOf 1 6 rfl)
set_option maxRecDepth 20000 in
theorem dX6_sourceOf_23 : decode cX6_sourceOf 23 = .ok (.getfield 11, 3) := dc_180 0 11 (lxX6_sourceOf 1 7 rfl) (lxX6_sourceOf 1 8 rfl) (lxX6_sourceOf 1 9 rfl)
set_option maxRecDepth 20000 in
theorem dX6_sourceOf_26 : decode cX6_sourceOf 26 = .ok (.arraylength, 1) := dc_190 (lxX6_sourceOf 1 10 rfl)
set_option maxRecDepth 20000 in
theorem dX6_sourceOf_27 : decode cX6_sourceOf 27 = .ok (.if_icmp .ge 10, 3) := dc_162 0 10 (lxX6_sourceOf 1 11 rfl) (lxX6_sourceOf 1 12 rfl) (lxX6_sourceOf 1 13 rfl)
set_option maxRecDepth 20000 in
theorem dX6_sourceOf_30 : decode cX6_sourceOf 30 = .ok (.aload_n 0, 1) := dc_42 (lxX6_sourceOf 1 14 rfl)
set_option maxRecDepth 20000 in
theorem dX6_sourceOf_31 : decode cX6_sourceOf 31 = .ok (.getfield 11, 3) := dc_180 0 11 (lxX6_sourceOf 1 15 rfl) (lxX6_sourceOf 2 0 rfl) (lxX6_sourceOf 2 1 rfl)
set_option maxRecDepth 20000 in
theorem dX6_sourceOf_34 : decode cX6_sourceOf 34 = .ok (.iload_n 1, 1) := dc_27 (lxX6_sourceOf 2 2 rfl)
set_option maxRecDepth 20000 in
theorem dX6_sourceOf_35 : decode cX6_sourceOf 35 = .ok (.aaload, 1) := dc_50 (lxX6_sourceOf 2 3 rfl)
set_option maxRecDepth 20000 in
theorem dX6_sourceOf_36 : decode cX6_sourceOf 36 = .ok (.areturn, 1) := dc_176 (lxX6_sourceOf 2 4 rfl)
set_option maxRecDepth 20000 in
theorem dX6_sourceOf_37 : decode cX6_sourceOf 37 = .ok (.iload_n 1, 1) := dc_27 (lxX6_sourceOf 2 5 rfl)
set_option maxRecDepth 20000 in
theorem dX6_sourceOf_38 : decode cX6_sourceOf 38 = .ok (.bipush 6, 2) := dc_16 6 (lxX6_sourceOf 2 6 rfl) (lxX6_sourceOf 2 7 rfl)
set_option maxRecDepth 20000 in
theorem dX6_sourceOf_40 : decode cX6_sourceOf 40 = .ok (.if_icmp .ne 10, 3) := dc_160 0 10 (lxX6_sourceOf 2 8 rfl) (lxX6_sourceOf 2 9 rfl) (lxX6_sourceOf 2 10 rfl)
set_option maxRecDepth 20000 in
theorem dX6_sourceOf_43 : decode cX6_sourceOf 43 = .ok (.aload_n 0, 1) := dc_42 (lxX6_sourceOf 2 11 rfl)
set_option maxRecDepth 20000 in
theorem dX6_sourceOf_44 : decode cX6_sourceOf 44 = .ok (.getfield 20, 3) := dc_180 0 20 (lxX6_sourceOf 2 12 rfl) (lxX6_sourceOf 2 13 rfl) (lxX6_sourceOf 2 14 rfl)
set_option maxRecDepth 20000 in
theorem dX6_sourceOf_47 : decode cX6_sourceOf 47 = .ok (.goto 7, 3) := dc_167 0 7 (lxX6_sourceOf 2 15 rfl) (lxX6_sourceOf 3 0 rfl) (lxX6_sourceOf 3 1 rfl)
set_option maxRecDepth 20000 in
theorem dX6_sourceOf_50 : decode cX6_sourceOf 50 = .ok (.aload_n 0, 1) := dc_42 (lxX6_sourceOf 3 2 rfl)
set_option maxRecDepth 20000 in
theorem dX6_sourceOf_51 : decode cX6_sourceOf 51 = .ok (.getfield 24, 3) := dc_180 0 24 (lxX6_sourceOf 3 3 rfl) (lxX6_sourceOf 3 4 rfl) (lxX6_sourceOf 3 5 rfl)
set_option maxRecDepth 20000 in
theorem dX6_sourceOf_54 : decode cX6_sourceOf 54 = .ok (.areturn, 1) := dc_176 (lxX6_sourceOf 3 6 rfl)
def lb_sgX6_requirePlace : List (List UInt8) := [[26, 155, 0, 8, 26, 27, 161, 0, 14, 187, 1, 46, 89, 19, 1, 55], [183, 1, 50, 191, 177]]
set_option maxRecDepth 100000 in
theorem lb_seX6_requirePlace : cX6_requirePlace.data.toList = lb_sgX6_requirePlace.flatten := by decide +kernel
theorem lb_lnX6_requirePlace : ∀ s ∈ lb_sgX6_requirePlace.dropLast, s.length = 16 := by decide +kernel
theorem lxX6_requirePlace (k j : Nat) {b : UInt8} (h : (lb_sgX6_requirePlace[k]?).bind (fun s => s[j]?) = some b) : lb_at cX6_requirePlace (16 * k + j) b := by
  unfold lb_at
  rw [lb_seX6_requirePlace]
  exact lb_flat 16 lb_sgX6_requirePlace k j b lb_lnX6_requirePlace h
set_option maxRecDepth 20000 in
theorem dX6_requirePlace_0 : decode cX6_requirePlace 0 = .ok (.iload_n 0, 1) := dc_26 (lxX6_requirePlace 0 0 rfl)
set_option maxRecDepth 20000 in
theorem dX6_requirePlace_1 : decode cX6_requirePlace 1 = .ok (.ifCond .lt 8, 3) := dc_155 0 8 (lxX6_requirePlace 0 1 rfl) (lxX6_requirePlace 0 2 rfl) (lxX6_requirePlace 0 3 rfl)
set_option maxRecDepth 20000 in
theorem dX6_requirePlace_4 : decode cX6_requirePlace 4 = .ok (.iload_n 0, 1) := dc_26 (lxX6_requirePlace 0 4 rfl)
set_option maxRecDepth 20000 in
theorem dX6_requirePlace_5 : decode cX6_requirePlace 5 = .ok (.iload_n 1, 1) := dc_27 (lxX6_requirePlace 0 5 rfl)
set_option maxRecDepth 20000 in
theorem dX6_requirePlace_6 : decode cX6_requirePlace 6 = .ok (.if_icmp .lt 14, 3) := dc_161 0 14 (lxX6_requirePlace 0 6 rfl) (lxX6_requirePlace 0 7 rfl) (lxX6_requirePlace 0 8 rfl)
set_option maxRecDepth 20000 in
theorem dX6_requirePlace_9 : decode cX6_requirePlace 9 = .ok (.new 302, 3) := dc_187 1 46 (lxX6_requirePlace 0 9 rfl) (lxX6_requirePlace 0 10 rfl) (lxX6_requirePlace 0 11 rfl)
set_option maxRecDepth 20000 in
theorem dX6_requirePlace_12 : decode cX6_requirePlace 12 = .ok (.dup, 1) := dc_89 (lxX6_requirePlace 0 12 rfl)
set_option maxRecDepth 20000 in
theorem dX6_requirePlace_13 : decode cX6_requirePlace 13 = .ok (.ldc_w 311, 3) := dc_19 1 55 (lxX6_requirePlace 0 13 rfl) (lxX6_requirePlace 0 14 rfl) (lxX6_requirePlace 0 15 rfl)
set_option maxRecDepth 20000 in
theorem dX6_requirePlace_16 : decode cX6_requirePlace 16 = .ok (.invokespecial 306, 3) := dc_183 1 50 (lxX6_requirePlace 1 0 rfl) (lxX6_requirePlace 1 1 rfl) (lxX6_requirePlace 1 2 rfl)
set_option maxRecDepth 20000 in
theorem dX6_requirePlace_19 : decode cX6_requirePlace 19 = .ok (.athrow, 1) := dc_191 (lxX6_requirePlace 1 3 rfl)
set_option maxRecDepth 20000 in
theorem dX6_requirePlace_20 : decode cX6_requirePlace 20 = .ok (.return_, 1) := dc_177 (lxX6_requirePlace 1 4 rfl)
def lb_sgX6_require : List (List UInt8) := [[26, 154, 0, 14, 187, 1, 57, 89, 19, 1, 59, 183, 1, 61, 191, 177]]
set_option maxRecDepth 100000 in
theorem lb_seX6_require : cX6_require.data.toList = lb_sgX6_require.flatten := by decide +kernel
theorem lb_lnX6_require : ∀ s ∈ lb_sgX6_require.dropLast, s.length = 16 := by decide +kernel
theorem lxX6_require (k j : Nat) {b : UInt8} (h : (lb_sgX6_require[k]?).bind (fun s => s[j]?) = some b) : lb_at cX6_require (16 * k + j) b := by
  unfold lb_at
  rw [lb_seX6_require]
  exact lb_flat 16 lb_sgX6_require k j b lb_lnX6_require h
set_option maxRecDepth 20000 in
theorem dX6_require_0 : decode cX6_require 0 = .ok (.iload_n 0, 1) := dc_26 (lxX6_require 0 0 rfl)
set_option maxRecDepth 20000 in
theorem dX6_require_1 : decode cX6_require 1 = .ok (.ifCond .ne 14, 3) := dc_154 0 14 (lxX6_require 0 1 rfl) (lxX6_require 0 2 rfl) (lxX6_require 0 3 rfl)
set_option maxRecDepth 20000 in
theorem dX6_require_4 : decode cX6_require 4 = .ok (.new 313, 3) := dc_187 1 57 (lxX6_require 0 4 rfl) (lxX6_require 0 5 rfl) (lxX6_require 0 6 rfl)
set_option maxRecDepth 20000 in
theorem dX6_require_7 : decode cX6_require 7 = .ok (.dup, 1) := dc_89 (lxX6_require 0 7 rfl)
set_option maxRecDepth 20000 in
theorem dX6_require_8 : decode cX6_require 8 = .ok (.ldc_w 315, 3) := dc_19 1 59 (lxX6_require 0 8 rfl) (lxX6_require 0 9 rfl) (lxX6_require 0 10 rfl)
set_option maxRecDepth 20000 in
theorem dX6_require_11 : decode cX6_require 11 = .ok (.invokespecial 317, 3) := dc_183 1 61 (lxX6_require 0 11 rfl) (lxX6_require 0 12 rfl) (lxX6_require 0 13 rfl)
set_option maxRecDepth 20000 in
theorem dX6_require_14 : decode cX6_require 14 = .ok (.athrow, 1) := dc_191 (lxX6_require 0 14 rfl)
set_option maxRecDepth 20000 in
theorem dX6_require_15 : decode cX6_require 15 = .ok (.return_, 1) := dc_177 (lxX6_require 0 15 rfl)
def lb_sgX6_requireWithin : List (List UInt8) := [[26, 27, 161, 0, 8, 26, 28, 164, 0, 14, 187, 1, 57, 89, 19, 1], [62, 183, 1, 61, 191, 177]]
set_option maxRecDepth 100000 in
theorem lb_seX6_requireWithin : cX6_requireWithin.data.toList = lb_sgX6_requireWithin.flatten := by decide +kernel
theorem lb_lnX6_requireWithin : ∀ s ∈ lb_sgX6_requireWithin.dropLast, s.length = 16 := by decide +kernel
theorem lxX6_requireWithin (k j : Nat) {b : UInt8} (h : (lb_sgX6_requireWithin[k]?).bind (fun s => s[j]?) = some b) : lb_at cX6_requireWithin (16 * k + j) b := by
  unfold lb_at
  rw [lb_seX6_requireWithin]
  exact lb_flat 16 lb_sgX6_requireWithin k j b lb_lnX6_requireWithin h
set_option maxRecDepth 20000 in
theorem dX6_requireWithin_0 : decode cX6_requireWithin 0 = .ok (.iload_n 0, 1) := dc_26 (lxX6_requireWithin 0 0 rfl)
set_option maxRecDepth 20000 in
theorem dX6_requireWithin_1 : decode cX6_requireWithin 1 = .ok (.iload_n 1, 1) := dc_27 (lxX6_requireWithin 0 1 rfl)
set_option maxRecDepth 20000 in
theorem dX6_requireWithin_2 : decode cX6_requireWithin 2 = .ok (.if_icmp .lt 8, 3) := dc_161 0 8 (lxX6_requireWithin 0 2 rfl) (lxX6_requireWithin 0 3 rfl) (lxX6_requireWithin 0 4 rfl)
set_option maxRecDepth 20000 in
theorem dX6_requireWithin_5 : decode cX6_requireWithin 5 = .ok (.iload_n 0, 1) := dc_26 (lxX6_requireWithin 0 5 rfl)
set_option maxRecDepth 20000 in
theorem dX6_requireWithin_6 : decode cX6_requireWithin 6 = .ok (.iload_n 2, 1) := dc_28 (lxX6_requireWithin 0 6 rfl)
set_option maxRecDepth 20000 in
theorem dX6_requireWithin_7 : decode cX6_requireWithin 7 = .ok (.if_icmp .le 14, 3) := dc_164 0 14 (lxX6_requireWithin 0 7 rfl) (lxX6_requireWithin 0 8 rfl) (lxX6_requireWithin 0 9 rfl)
set_option maxRecDepth 20000 in
theorem dX6_requireWithin_10 : decode cX6_requireWithin 10 = .ok (.new 313, 3) := dc_187 1 57 (lxX6_requireWithin 0 10 rfl) (lxX6_requireWithin 0 11 rfl) (lxX6_requireWithin 0 12 rfl)
set_option maxRecDepth 20000 in
theorem dX6_requireWithin_13 : decode cX6_requireWithin 13 = .ok (.dup, 1) := dc_89 (lxX6_requireWithin 0 13 rfl)
set_option maxRecDepth 20000 in
theorem dX6_requireWithin_14 : decode cX6_requireWithin 14 = .ok (.ldc_w 318, 3) := dc_19 1 62 (lxX6_requireWithin 0 14 rfl) (lxX6_requireWithin 0 15 rfl) (lxX6_requireWithin 1 0 rfl)
set_option maxRecDepth 20000 in
theorem dX6_requireWithin_17 : decode cX6_requireWithin 17 = .ok (.invokespecial 317, 3) := dc_183 1 61 (lxX6_requireWithin 1 1 rfl) (lxX6_requireWithin 1 2 rfl) (lxX6_requireWithin 1 3 rfl)
set_option maxRecDepth 20000 in
theorem dX6_requireWithin_20 : decode cX6_requireWithin 20 = .ok (.athrow, 1) := dc_191 (lxX6_requireWithin 1 4 rfl)
set_option maxRecDepth 20000 in
theorem dX6_requireWithin_21 : decode cX6_requireWithin 21 = .ok (.return_, 1) := dc_177 (lxX6_requireWithin 1 5 rfl)
noncomputable def sgX6_requireLetters : List (List Cond) := [[.code yX6_requireLetters cX6_requireLetters 2 none], [.constant RX6 322 (2147483647), .methodLink RX6 66 yX6_requireWithin, .static yX6_requireWithin, .initialized RX6, .code yX6_requireWithin cX6_requireWithin 3 none, .classLink RX6 313 "java/lang/IllegalArgumentException", .initialized "java/lang/IllegalArgumentException"], (vx_atS RX6 317 "java/lang/IllegalArgumentException" ["java/lang/RuntimeException", "java/lang/Exception"]).filter goodWord]
theorem seX6_requireLetters : sgX6_requireLetters.flatten = wsX6_requireLetters := by simp only [sgX6_requireLetters, wsX6_requireLetters, List.flatten_cons, List.flatten_nil, List.append_assoc, List.append_nil, List.cons_append, List.nil_append]
set_option maxRecDepth 20000 in
theorem ggX6_requireLetters_X6_requireWithin : GoodIn wsX6_requireLetters wsX6_requireWithin := goodIn_ca (goodIn_s seX6_requireLetters _ [pq_1_4, pq_1_5, pq_1_6] (by rfl) (by decide +kernel)) (goodIn_sub (fun _ h => List.mem_cons_of_mem _ (List.mem_append_right _ h)) (by decide +kernel))
set_option maxRecDepth 20000 in
theorem gX6_requireLetters_X6_requireWithin : GoodIn wsX6_requireLetters (va_wsS RX6 66 yX6_requireWithin wsX6_requireWithin) := goodIn_app (goodIn_s seX6_requireLetters _ [pq_1_1, pq_1_2, pq_1_3] (by rfl) (by decide +kernel)) ggX6_requireLetters_X6_requireWithin
def lb_sgX6_requireLetters : List (List UInt8) := [[26, 3, 19, 1, 66, 184, 0, 66, 27, 3, 16, 20, 184, 0, 66, 177]]
set_option maxRecDepth 100000 in
theorem lb_seX6_requireLetters : cX6_requireLetters.data.toList = lb_sgX6_requireLetters.flatten := by decide +kernel
theorem lb_lnX6_requireLetters : ∀ s ∈ lb_sgX6_requireLetters.dropLast, s.length = 16 := by decide +kernel
theorem lxX6_requireLetters (k j : Nat) {b : UInt8} (h : (lb_sgX6_requireLetters[k]?).bind (fun s => s[j]?) = some b) : lb_at cX6_requireLetters (16 * k + j) b := by
  unfold lb_at
  rw [lb_seX6_requireLetters]
  exact lb_flat 16 lb_sgX6_requireLetters k j b lb_lnX6_requireLetters h
set_option maxRecDepth 20000 in
theorem dX6_requireLetters_0 : decode cX6_requireLetters 0 = .ok (.iload_n 0, 1) := dc_26 (lxX6_requireLetters 0 0 rfl)
set_option maxRecDepth 20000 in
theorem dX6_requireLetters_1 : decode cX6_requireLetters 1 = .ok (.iconst 0, 1) := dc_3 (lxX6_requireLetters 0 1 rfl)
set_option maxRecDepth 20000 in
theorem dX6_requireLetters_2 : decode cX6_requireLetters 2 = .ok (.ldc_w 322, 3) := dc_19 1 66 (lxX6_requireLetters 0 2 rfl) (lxX6_requireLetters 0 3 rfl) (lxX6_requireLetters 0 4 rfl)
set_option maxRecDepth 20000 in
theorem dX6_requireLetters_5 : decode cX6_requireLetters 5 = .ok (.invokestatic 66, 3) := dc_184 0 66 (lxX6_requireLetters 0 5 rfl) (lxX6_requireLetters 0 6 rfl) (lxX6_requireLetters 0 7 rfl)
set_option maxRecDepth 20000 in
theorem dX6_requireLetters_8 : decode cX6_requireLetters 8 = .ok (.iload_n 1, 1) := dc_27 (lxX6_requireLetters 0 8 rfl)
set_option maxRecDepth 20000 in
theorem dX6_requireLetters_9 : decode cX6_requireLetters 9 = .ok (.iconst 0, 1) := dc_3 (lxX6_requireLetters 0 9 rfl)
set_option maxRecDepth 20000 in
theorem dX6_requireLetters_10 : decode cX6_requireLetters 10 = .ok (.bipush 20, 2) := dc_16 20 (lxX6_requireLetters 0 10 rfl) (lxX6_requireLetters 0 11 rfl)
set_option maxRecDepth 20000 in
theorem dX6_requireLetters_12 : decode cX6_requireLetters 12 = .ok (.invokestatic 66, 3) := dc_184 0 66 (lxX6_requireLetters 0 12 rfl) (lxX6_requireLetters 0 13 rfl) (lxX6_requireLetters 0 14 rfl)
set_option maxRecDepth 20000 in
theorem dX6_requireLetters_15 : decode cX6_requireLetters 15 = .ok (.return_, 1) := dc_177 (lxX6_requireLetters 0 15 rfl)
def lb_sgX6_requireRoom : List (List UInt8) := [[26, 27, 164, 0, 14, 187, 1, 67, 89, 19, 1, 69, 183, 1, 71, 191], [177]]
set_option maxRecDepth 100000 in
theorem lb_seX6_requireRoom : cX6_requireRoom.data.toList = lb_sgX6_requireRoom.flatten := by decide +kernel
theorem lb_lnX6_requireRoom : ∀ s ∈ lb_sgX6_requireRoom.dropLast, s.length = 16 := by decide +kernel
theorem lxX6_requireRoom (k j : Nat) {b : UInt8} (h : (lb_sgX6_requireRoom[k]?).bind (fun s => s[j]?) = some b) : lb_at cX6_requireRoom (16 * k + j) b := by
  unfold lb_at
  rw [lb_seX6_requireRoom]
  exact lb_flat 16 lb_sgX6_requireRoom k j b lb_lnX6_requireRoom h
set_option maxRecDepth 20000 in
theorem dX6_requireRoom_0 : decode cX6_requireRoom 0 = .ok (.iload_n 0, 1) := dc_26 (lxX6_requireRoom 0 0 rfl)
set_option maxRecDepth 20000 in
theorem dX6_requireRoom_1 : decode cX6_requireRoom 1 = .ok (.iload_n 1, 1) := dc_27 (lxX6_requireRoom 0 1 rfl)
set_option maxRecDepth 20000 in
theorem dX6_requireRoom_2 : decode cX6_requireRoom 2 = .ok (.if_icmp .le 14, 3) := dc_164 0 14 (lxX6_requireRoom 0 2 rfl) (lxX6_requireRoom 0 3 rfl) (lxX6_requireRoom 0 4 rfl)
set_option maxRecDepth 20000 in
theorem dX6_requireRoom_5 : decode cX6_requireRoom 5 = .ok (.new 323, 3) := dc_187 1 67 (lxX6_requireRoom 0 5 rfl) (lxX6_requireRoom 0 6 rfl) (lxX6_requireRoom 0 7 rfl)
set_option maxRecDepth 20000 in
theorem dX6_requireRoom_8 : decode cX6_requireRoom 8 = .ok (.dup, 1) := dc_89 (lxX6_requireRoom 0 8 rfl)
set_option maxRecDepth 20000 in
theorem dX6_requireRoom_9 : decode cX6_requireRoom 9 = .ok (.ldc_w 325, 3) := dc_19 1 69 (lxX6_requireRoom 0 9 rfl) (lxX6_requireRoom 0 10 rfl) (lxX6_requireRoom 0 11 rfl)
set_option maxRecDepth 20000 in
theorem dX6_requireRoom_12 : decode cX6_requireRoom 12 = .ok (.invokespecial 327, 3) := dc_183 1 71 (lxX6_requireRoom 0 12 rfl) (lxX6_requireRoom 0 13 rfl) (lxX6_requireRoom 0 14 rfl)
set_option maxRecDepth 20000 in
theorem dX6_requireRoom_15 : decode cX6_requireRoom 15 = .ok (.athrow, 1) := dc_191 (lxX6_requireRoom 0 15 rfl)
set_option maxRecDepth 20000 in
theorem dX6_requireRoom_16 : decode cX6_requireRoom 16 = .ok (.return_, 1) := dc_177 (lxX6_requireRoom 1 0 rfl)
set_option maxRecDepth 20000 in
theorem dX6_done_0 : decode cX6_done 0 = .ok (.aload_n 0, 1) := dc_42 rfl
set_option maxRecDepth 20000 in
theorem dX6_done_1 : decode cX6_done 1 = .ok (.dup, 1) := dc_89 rfl
set_option maxRecDepth 20000 in
theorem dX6_done_2 : decode cX6_done 2 = .ok (.getfield 328, 3) := dc_180 1 72 rfl rfl rfl
set_option maxRecDepth 20000 in
theorem dX6_done_5 : decode cX6_done 5 = .ok (.iconst 1, 1) := dc_4 rfl
set_option maxRecDepth 20000 in
theorem dX6_done_6 : decode cX6_done 6 = .ok (.iadd, 1) := dc_96 rfl
set_option maxRecDepth 20000 in
theorem dX6_done_7 : decode cX6_done 7 = .ok (.putfield 328, 3) := dc_181 1 72 rfl rfl rfl
set_option maxRecDepth 20000 in
theorem dX6_done_10 : decode cX6_done 10 = .ok (.iload_n 1, 1) := dc_27 rfl
set_option maxRecDepth 20000 in
theorem dX6_done_11 : decode cX6_done 11 = .ok (.ireturn, 1) := dc_172 rfl
set_option maxRecDepth 20000 in
theorem dX6_done__0 : decode cX6_done_ 0 = .ok (.aload_n 0, 1) := dc_42 rfl
set_option maxRecDepth 20000 in
theorem dX6_done__1 : decode cX6_done_ 1 = .ok (.dup, 1) := dc_89 rfl
set_option maxRecDepth 20000 in
theorem dX6_done__2 : decode cX6_done_ 2 = .ok (.getfield 328, 3) := dc_180 1 72 rfl rfl rfl
set_option maxRecDepth 20000 in
theorem dX6_done__5 : decode cX6_done_ 5 = .ok (.iconst 1, 1) := dc_4 rfl
set_option maxRecDepth 20000 in
theorem dX6_done__6 : decode cX6_done_ 6 = .ok (.iadd, 1) := dc_96 rfl
set_option maxRecDepth 20000 in
theorem dX6_done__7 : decode cX6_done_ 7 = .ok (.putfield 328, 3) := dc_181 1 72 rfl rfl rfl
set_option maxRecDepth 20000 in
theorem dX6_done__10 : decode cX6_done_ 10 = .ok (.aload_n 1, 1) := dc_43 rfl
set_option maxRecDepth 20000 in
theorem dX6_done__11 : decode cX6_done_ 11 = .ok (.areturn, 1) := dc_176 rfl
def lb_sgX6_refused : List (List UInt8) := [[42, 89, 180, 1, 75, 4, 96, 181, 1, 75, 16, 247, 172]]
set_option maxRecDepth 100000 in
theorem lb_seX6_refused : cX6_refused.data.toList = lb_sgX6_refused.flatten := by decide +kernel
theorem lb_lnX6_refused : ∀ s ∈ lb_sgX6_refused.dropLast, s.length = 16 := by decide +kernel
theorem lxX6_refused (k j : Nat) {b : UInt8} (h : (lb_sgX6_refused[k]?).bind (fun s => s[j]?) = some b) : lb_at cX6_refused (16 * k + j) b := by
  unfold lb_at
  rw [lb_seX6_refused]
  exact lb_flat 16 lb_sgX6_refused k j b lb_lnX6_refused h
set_option maxRecDepth 20000 in
theorem dX6_refused_0 : decode cX6_refused 0 = .ok (.aload_n 0, 1) := dc_42 (lxX6_refused 0 0 rfl)
set_option maxRecDepth 20000 in
theorem dX6_refused_1 : decode cX6_refused 1 = .ok (.dup, 1) := dc_89 (lxX6_refused 0 1 rfl)
set_option maxRecDepth 20000 in
theorem dX6_refused_2 : decode cX6_refused 2 = .ok (.getfield 331, 3) := dc_180 1 75 (lxX6_refused 0 2 rfl) (lxX6_refused 0 3 rfl) (lxX6_refused 0 4 rfl)
set_option maxRecDepth 20000 in
theorem dX6_refused_5 : decode cX6_refused 5 = .ok (.iconst 1, 1) := dc_4 (lxX6_refused 0 5 rfl)
set_option maxRecDepth 20000 in
theorem dX6_refused_6 : decode cX6_refused 6 = .ok (.iadd, 1) := dc_96 (lxX6_refused 0 6 rfl)
set_option maxRecDepth 20000 in
theorem dX6_refused_7 : decode cX6_refused 7 = .ok (.putfield 331, 3) := dc_181 1 75 (lxX6_refused 0 7 rfl) (lxX6_refused 0 8 rfl) (lxX6_refused 0 9 rfl)
set_option maxRecDepth 20000 in
theorem dX6_refused_10 : decode cX6_refused 10 = .ok (.bipush (-9), 2) := dc_16 247 (lxX6_refused 0 10 rfl) (lxX6_refused 0 11 rfl)
set_option maxRecDepth 20000 in
theorem dX6_refused_12 : decode cX6_refused 12 = .ok (.ireturn, 1) := dc_172 (lxX6_refused 0 12 rfl)
def lb_sgX6_isStretch : List (List UInt8) := [[3, 26, 163, 0, 17, 26, 27, 163, 0, 12, 27, 28, 163, 0, 7, 4], [167, 0, 4, 3, 172]]
set_option maxRecDepth 100000 in
theorem lb_seX6_isStretch : cX6_isStretch.data.toList = lb_sgX6_isStretch.flatten := by decide +kernel
theorem lb_lnX6_isStretch : ∀ s ∈ lb_sgX6_isStretch.dropLast, s.length = 16 := by decide +kernel
theorem lxX6_isStretch (k j : Nat) {b : UInt8} (h : (lb_sgX6_isStretch[k]?).bind (fun s => s[j]?) = some b) : lb_at cX6_isStretch (16 * k + j) b := by
  unfold lb_at
  rw [lb_seX6_isStretch]
  exact lb_flat 16 lb_sgX6_isStretch k j b lb_lnX6_isStretch h
set_option maxRecDepth 20000 in
theorem dX6_isStretch_0 : decode cX6_isStretch 0 = .ok (.iconst 0, 1) := dc_3 (lxX6_isStretch 0 0 rfl)
set_option maxRecDepth 20000 in
theorem dX6_isStretch_1 : decode cX6_isStretch 1 = .ok (.iload_n 0, 1) := dc_26 (lxX6_isStretch 0 1 rfl)
set_option maxRecDepth 20000 in
theorem dX6_isStretch_2 : decode cX6_isStretch 2 = .ok (.if_icmp .gt 17, 3) := dc_163 0 17 (lxX6_isStretch 0 2 rfl) (lxX6_isStretch 0 3 rfl) (lxX6_isStretch 0 4 rfl)
set_option maxRecDepth 20000 in
theorem dX6_isStretch_5 : decode cX6_isStretch 5 = .ok (.iload_n 0, 1) := dc_26 (lxX6_isStretch 0 5 rfl)
set_option maxRecDepth 20000 in
theorem dX6_isStretch_6 : decode cX6_isStretch 6 = .ok (.iload_n 1, 1) := dc_27 (lxX6_isStretch 0 6 rfl)
set_option maxRecDepth 20000 in
theorem dX6_isStretch_7 : decode cX6_isStretch 7 = .ok (.if_icmp .gt 12, 3) := dc_163 0 12 (lxX6_isStretch 0 7 rfl) (lxX6_isStretch 0 8 rfl) (lxX6_isStretch 0 9 rfl)
set_option maxRecDepth 20000 in
theorem dX6_isStretch_10 : decode cX6_isStretch 10 = .ok (.iload_n 1, 1) := dc_27 (lxX6_isStretch 0 10 rfl)
set_option maxRecDepth 20000 in
theorem dX6_isStretch_11 : decode cX6_isStretch 11 = .ok (.iload_n 2, 1) := dc_28 (lxX6_isStretch 0 11 rfl)
set_option maxRecDepth 20000 in
theorem dX6_isStretch_12 : decode cX6_isStretch 12 = .ok (.if_icmp .gt 7, 3) := dc_163 0 7 (lxX6_isStretch 0 12 rfl) (lxX6_isStretch 0 13 rfl) (lxX6_isStretch 0 14 rfl)
set_option maxRecDepth 20000 in
theorem dX6_isStretch_15 : decode cX6_isStretch 15 = .ok (.iconst 1, 1) := dc_4 (lxX6_isStretch 0 15 rfl)
set_option maxRecDepth 20000 in
theorem dX6_isStretch_16 : decode cX6_isStretch 16 = .ok (.goto 4, 3) := dc_167 0 4 (lxX6_isStretch 1 0 rfl) (lxX6_isStretch 1 1 rfl) (lxX6_isStretch 1 2 rfl)
set_option maxRecDepth 20000 in
theorem dX6_isStretch_19 : decode cX6_isStretch 19 = .ok (.iconst 0, 1) := dc_3 (lxX6_isStretch 1 3 rfl)
set_option maxRecDepth 20000 in
theorem dX6_isStretch_20 : decode cX6_isStretch 20 = .ok (.ireturn, 1) := dc_172 (lxX6_isStretch 1 4 rfl)
set_option maxRecDepth 20000 in
theorem dX6_lowestLetter_0 : decode cX6_lowestLetter 0 = .ok (.bipush 97, 2) := dc_16 97 rfl rfl
set_option maxRecDepth 20000 in
theorem dX6_lowestLetter_2 : decode cX6_lowestLetter 2 = .ok (.iload_n 0, 1) := dc_26 rfl
set_option maxRecDepth 20000 in
theorem dX6_lowestLetter_3 : decode cX6_lowestLetter 3 = .ok (.iconst 3, 1) := dc_6 rfl
set_option maxRecDepth 20000 in
theorem dX6_lowestLetter_4 : decode cX6_lowestLetter 4 = .ok (.irem, 1) := dc_112 rfl
set_option maxRecDepth 20000 in
theorem dX6_lowestLetter_5 : decode cX6_lowestLetter 5 = .ok (.iadd, 1) := dc_96 rfl
set_option maxRecDepth 20000 in
theorem dX6_lowestLetter_6 : decode cX6_lowestLetter 6 = .ok (.ireturn, 1) := dc_172 rfl
def lb_sgX6_counted : List (List UInt8) := [[27, 170, 0, 0, 0, 0, 0, 42, 0, 0, 0, 0, 0, 0, 0, 2], [0, 0, 0, 27, 0, 0, 0, 32, 0, 0, 0, 37, 42, 180, 1, 72], [172, 42, 180, 1, 75, 172, 42, 180, 1, 6, 172, 42, 180, 0, 203, 172]]
set_option maxRecDepth 100000 in
theorem lb_seX6_counted : cX6_counted.data.toList = lb_sgX6_counted.flatten := by decide +kernel
theorem lb_lnX6_counted : ∀ s ∈ lb_sgX6_counted.dropLast, s.length = 16 := by decide +kernel
theorem lxX6_counted (k j : Nat) {b : UInt8} (h : (lb_sgX6_counted[k]?).bind (fun s => s[j]?) = some b) : lb_at cX6_counted (16 * k + j) b := by
  unfold lb_at
  rw [lb_seX6_counted]
  exact lb_flat 16 lb_sgX6_counted k j b lb_lnX6_counted h
set_option maxRecDepth 20000 in
theorem dX6_counted_0 : decode cX6_counted 0 = .ok (.iload_n 1, 1) := dc_27 (lxX6_counted 0 0 rfl)
theorem dX6_counted_1 : decode cX6_counted 1 = .ok (.tableswitch 42 0 2 #[27, 32, 37], 27) := by decide +kernel
set_option maxRecDepth 20000 in
theorem dX6_counted_28 : decode cX6_counted 28 = .ok (.aload_n 0, 1) := dc_42 (lxX6_counted 1 12 rfl)
set_option maxRecDepth 20000 in
theorem dX6_counted_29 : decode cX6_counted 29 = .ok (.getfield 328, 3) := dc_180 1 72 (lxX6_counted 1 13 rfl) (lxX6_counted 1 14 rfl) (lxX6_counted 1 15 rfl)
set_option maxRecDepth 20000 in
theorem dX6_counted_32 : decode cX6_counted 32 = .ok (.ireturn, 1) := dc_172 (lxX6_counted 2 0 rfl)
set_option maxRecDepth 20000 in
theorem dX6_counted_33 : decode cX6_counted 33 = .ok (.aload_n 0, 1) := dc_42 (lxX6_counted 2 1 rfl)
set_option maxRecDepth 20000 in
theorem dX6_counted_34 : decode cX6_counted 34 = .ok (.getfield 331, 3) := dc_180 1 75 (lxX6_counted 2 2 rfl) (lxX6_counted 2 3 rfl) (lxX6_counted 2 4 rfl)
set_option maxRecDepth 20000 in
theorem dX6_counted_37 : decode cX6_counted 37 = .ok (.ireturn, 1) := dc_172 (lxX6_counted 2 5 rfl)
set_option maxRecDepth 20000 in
theorem dX6_counted_38 : decode cX6_counted 38 = .ok (.aload_n 0, 1) := dc_42 (lxX6_counted 2 6 rfl)
set_option maxRecDepth 20000 in
theorem dX6_counted_39 : decode cX6_counted 39 = .ok (.getfield 262, 3) := dc_180 1 6 (lxX6_counted 2 7 rfl) (lxX6_counted 2 8 rfl) (lxX6_counted 2 9 rfl)
set_option maxRecDepth 20000 in
theorem dX6_counted_42 : decode cX6_counted 42 = .ok (.ireturn, 1) := dc_172 (lxX6_counted 2 10 rfl)
set_option maxRecDepth 20000 in
theorem dX6_counted_43 : decode cX6_counted 43 = .ok (.aload_n 0, 1) := dc_42 (lxX6_counted 2 11 rfl)
set_option maxRecDepth 20000 in
theorem dX6_counted_44 : decode cX6_counted 44 = .ok (.getfield 203, 3) := dc_180 0 203 (lxX6_counted 2 12 rfl) (lxX6_counted 2 13 rfl) (lxX6_counted 2 14 rfl)
set_option maxRecDepth 20000 in
theorem dX6_counted_47 : decode cX6_counted 47 = .ok (.ireturn, 1) := dc_172 (lxX6_counted 2 15 rfl)
noncomputable def sgX6_letIn : List (List Cond) := [[.code yX6_letIn cX6_letIn 5 (some .int)], wsX6_letIn_r1, wsX6_letIn_r2, wsX60, wsX20, wsX50, wsX10]
theorem seX6_letIn : sgX6_letIn.flatten = wsX6_letIn := by simp only [sgX6_letIn, wsX6_letIn, List.flatten_cons, List.flatten_nil, List.append_assoc, List.append_nil, List.cons_append, List.nil_append]
set_option maxRecDepth 20000 in
theorem ggX6_letIn_X2_size : GoodIn wsX6_letIn wsX2_size := goodIn_s seX6_letIn _ [pq_1_6, pq_1_7, pq_4_0, pq_4_1] (by rfl) (by decide +kernel)
set_option maxRecDepth 20000 in
theorem gX6_letIn_X2_size_u165X2 : GoodIn wsX6_letIn (va_wsU RX6 165 RX2 "Sashwords$Text" ⟨"Sashwords$Text", "size", "()I"⟩ yX2_size wsX2_size) := goodIn_app (goodIn_s seX6_letIn _ [pq_1_1, pq_1_2, pq_1_3, pq_1_4, pq_1_5] (by rfl) (by decide +kernel)) ggX6_letIn_X2_size
set_option maxRecDepth 20000 in
theorem ggX6_letIn_X5_size : GoodIn wsX6_letIn wsX5_size := goodIn_s seX6_letIn _ [pq_1_11, pq_1_12, pq_1_13, pq_5_0, pq_5_1, pq_5_2, pq_5_3, pq_5_4, pq_5_5] (by rfl) (by decide +kernel)
set_option maxRecDepth 20000 in
theorem gX6_letIn_X5_size_u165X5 : GoodIn wsX6_letIn (va_wsU RX6 165 RX5 "Sashwords$Text" ⟨"Sashwords$Text", "size", "()I"⟩ yX5_size wsX5_size) := goodIn_app (goodIn_s seX6_letIn _ [pq_1_1, pq_1_2, pq_1_8, pq_1_9, pq_1_10] (by rfl) (by decide +kernel)) ggX6_letIn_X5_size
set_option maxRecDepth 20000 in
theorem ggX6_letIn_X2_at : GoodIn wsX6_letIn wsX2_at := goodIn_s seX6_letIn _ [pq_1_18, pq_1_7, pq_1_19, pq_4_0, pq_4_1] (by rfl) (by decide +kernel)
set_option maxRecDepth 20000 in
theorem gX6_letIn_X2_at_u334X2 : GoodIn wsX6_letIn (va_wsU RX6 334 RX2 "Sashwords$Text" ⟨"Sashwords$Text", "at", "(I)I"⟩ yX2_at wsX2_at) := goodIn_app (goodIn_s seX6_letIn _ [pq_1_14, pq_1_15, pq_1_16, pq_1_17, pq_1_5] (by rfl) (by decide +kernel)) ggX6_letIn_X2_at
set_option maxRecDepth 20000 in
theorem ggX6_letIn_X5_at : GoodIn wsX6_letIn wsX5_at := goodIn_s seX6_letIn _ [pq_1_22, pq_1_12, pq_1_13, pq_1_23, pq_2_0, pq_2_1, pq_1_10, pq_2_2, pq_2_3, pq_2_4, pq_5_0, pq_5_1, pq_5_2, pq_5_3, pq_5_4, pq_5_5] (by rfl) (by decide +kernel)
set_option maxRecDepth 20000 in
theorem gX6_letIn_X5_at_u334X5 : GoodIn wsX6_letIn (va_wsU RX6 334 RX5 "Sashwords$Text" ⟨"Sashwords$Text", "at", "(I)I"⟩ yX5_at wsX5_at) := goodIn_app (goodIn_s seX6_letIn _ [pq_1_14, pq_1_15, pq_1_20, pq_1_21, pq_1_10] (by rfl) (by decide +kernel)) ggX6_letIn_X5_at
set_option maxRecDepth 20000 in
theorem ggX6_letIn_X1_takeIn : GoodIn wsX6_letIn wsX1_takeIn := goodIn_s seX6_letIn _ [pq_2_9, pq_2_10, pq_2_11, pq_2_12, pq_2_13, pq_1_4, pq_2_14, pq_1_5, pq_1_6, pq_1_7, pq_2_15, pq_2_16, pq_2_17, pq_2_18, pq_1_19, pq_2_19, pq_2_20, pq_2_21, pq_2_22, pq_6_0, pq_6_1, pq_6_2, pq_6_3, pq_4_0, pq_4_1] (by rfl) (by decide +kernel)
set_option maxRecDepth 20000 in
theorem gX6_letIn_X1_takeIn : GoodIn wsX6_letIn (wsV RX6 189 RX1 yX1_takeIn wsX1_takeIn) := goodIn_app (goodIn_s seX6_letIn _ [pq_2_5, pq_2_6, pq_2_7, pq_2_8] (by rfl) (by decide +kernel)) ggX6_letIn_X1_takeIn
def lb_sgX6_letIn : List (List UInt8) := [[3, 54, 4, 21, 4, 29, 162, 0, 38, 28, 21, 4, 96, 43, 182, 0], [165, 162, 0, 27, 42, 180, 0, 30, 43, 28, 21, 4, 96, 182, 1, 78], [182, 0, 189, 153, 0, 9, 132, 4, 1, 167, 255, 218, 21, 4, 172]]
set_option maxRecDepth 100000 in
theorem lb_seX6_letIn : cX6_letIn.data.toList = lb_sgX6_letIn.flatten := by decide +kernel
theorem lb_lnX6_letIn : ∀ s ∈ lb_sgX6_letIn.dropLast, s.length = 16 := by decide +kernel
theorem lxX6_letIn (k j : Nat) {b : UInt8} (h : (lb_sgX6_letIn[k]?).bind (fun s => s[j]?) = some b) : lb_at cX6_letIn (16 * k + j) b := by
  unfold lb_at
  rw [lb_seX6_letIn]
  exact lb_flat 16 lb_sgX6_letIn k j b lb_lnX6_letIn h
set_option maxRecDepth 20000 in
theorem dX6_letIn_0 : decode cX6_letIn 0 = .ok (.iconst 0, 1) := dc_3 (lxX6_letIn 0 0 rfl)
set_option maxRecDepth 20000 in
theorem dX6_letIn_1 : decode cX6_letIn 1 = .ok (.istore 4, 2) := dc_54 4 (lxX6_letIn 0 1 rfl) (lxX6_letIn 0 2 rfl)
set_option maxRecDepth 20000 in
theorem dX6_letIn_3 : decode cX6_letIn 3 = .ok (.iload 4, 2) := dc_21 4 (lxX6_letIn 0 3 rfl) (lxX6_letIn 0 4 rfl)
set_option maxRecDepth 20000 in
theorem dX6_letIn_5 : decode cX6_letIn 5 = .ok (.iload_n 3, 1) := dc_29 (lxX6_letIn 0 5 rfl)
set_option maxRecDepth 20000 in
theorem dX6_letIn_6 : decode cX6_letIn 6 = .ok (.if_icmp .ge 38, 3) := dc_162 0 38 (lxX6_letIn 0 6 rfl) (lxX6_letIn 0 7 rfl) (lxX6_letIn 0 8 rfl)
set_option maxRecDepth 20000 in
theorem dX6_letIn_9 : decode cX6_letIn 9 = .ok (.iload_n 2, 1) := dc_28 (lxX6_letIn 0 9 rfl)
set_option maxRecDepth 20000 in
theorem dX6_letIn_10 : decode cX6_letIn 10 = .ok (.iload 4, 2) := dc_21 4 (lxX6_letIn 0 10 rfl) (lxX6_letIn 0 11 rfl)
set_option maxRecDepth 20000 in
theorem dX6_letIn_12 : decode cX6_letIn 12 = .ok (.iadd, 1) := dc_96 (lxX6_letIn 0 12 rfl)
set_option maxRecDepth 20000 in
theorem dX6_letIn_13 : decode cX6_letIn 13 = .ok (.aload_n 1, 1) := dc_43 (lxX6_letIn 0 13 rfl)
set_option maxRecDepth 20000 in
theorem dX6_letIn_14 : decode cX6_letIn 14 = .ok (.invokevirtual 165, 3) := dc_182 0 165 (lxX6_letIn 0 14 rfl) (lxX6_letIn 0 15 rfl) (lxX6_letIn 1 0 rfl)
set_option maxRecDepth 20000 in
theorem dX6_letIn_17 : decode cX6_letIn 17 = .ok (.if_icmp .ge 27, 3) := dc_162 0 27 (lxX6_letIn 1 1 rfl) (lxX6_letIn 1 2 rfl) (lxX6_letIn 1 3 rfl)
set_option maxRecDepth 20000 in
theorem dX6_letIn_20 : decode cX6_letIn 20 = .ok (.aload_n 0, 1) := dc_42 (lxX6_letIn 1 4 rfl)
set_option maxRecDepth 20000 in
theorem dX6_letIn_21 : decode cX6_letIn 21 = .ok (.getfield 30, 3) := dc_180 0 30 (lxX6_letIn 1 5 rfl) (lxX6_letIn 1 6 rfl) (lxX6_letIn 1 7 rfl)
set_option maxRecDepth 20000 in
theorem dX6_letIn_24 : decode cX6_letIn 24 = .ok (.aload_n 1, 1) := dc_43 (lxX6_letIn 1 8 rfl)
set_option maxRecDepth 20000 in
theorem dX6_letIn_25 : decode cX6_letIn 25 = .ok (.iload_n 2, 1) := dc_28 (lxX6_letIn 1 9 rfl)
set_option maxRecDepth 20000 in
theorem dX6_letIn_26 : decode cX6_letIn 26 = .ok (.iload 4, 2) := dc_21 4 (lxX6_letIn 1 10 rfl) (lxX6_letIn 1 11 rfl)
set_option maxRecDepth 20000 in
theorem dX6_letIn_28 : decode cX6_letIn 28 = .ok (.iadd, 1) := dc_96 (lxX6_letIn 1 12 rfl)
set_option maxRecDepth 20000 in
theorem dX6_letIn_29 : decode cX6_letIn 29 = .ok (.invokevirtual 334, 3) := dc_182 1 78 (lxX6_letIn 1 13 rfl) (lxX6_letIn 1 14 rfl) (lxX6_letIn 1 15 rfl)
set_option maxRecDepth 20000 in
theorem dX6_letIn_32 : decode cX6_letIn 32 = .ok (.invokevirtual 189, 3) := dc_182 0 189 (lxX6_letIn 2 0 rfl) (lxX6_letIn 2 1 rfl) (lxX6_letIn 2 2 rfl)
set_option maxRecDepth 20000 in
theorem dX6_letIn_35 : decode cX6_letIn 35 = .ok (.ifCond .eq 9, 3) := dc_153 0 9 (lxX6_letIn 2 3 rfl) (lxX6_letIn 2 4 rfl) (lxX6_letIn 2 5 rfl)
set_option maxRecDepth 20000 in
theorem dX6_letIn_38 : decode cX6_letIn 38 = .ok (.iinc 4 1, 3) := dc_132 4 1 (lxX6_letIn 2 6 rfl) (lxX6_letIn 2 7 rfl) (lxX6_letIn 2 8 rfl)
set_option maxRecDepth 20000 in
theorem dX6_letIn_41 : decode cX6_letIn 41 = .ok (.goto (-38), 3) := dc_167 255 218 (lxX6_letIn 2 9 rfl) (lxX6_letIn 2 10 rfl) (lxX6_letIn 2 11 rfl)
set_option maxRecDepth 20000 in
theorem dX6_letIn_44 : decode cX6_letIn 44 = .ok (.iload 4, 2) := dc_21 4 (lxX6_letIn 2 12 rfl) (lxX6_letIn 2 13 rfl)
set_option maxRecDepth 20000 in
theorem dX6_letIn_46 : decode cX6_letIn 46 = .ok (.ireturn, 1) := dc_172 (lxX6_letIn 2 14 rfl)
noncomputable def sgX6_letOut : List (List Cond) := [[.code yX6_letOut cX6_letOut 4 none], wsX6_letOut_r1, wsX6_letOut_r2, wsX6_letOut_r3, wsX6_letOut_r4, wsX6_letOut_r5, wsX6_letOut_r6, wsX6_letOut_r7, wsX60, wsX10, wsX20, wsJ40]
theorem seX6_letOut : sgX6_letOut.flatten = wsX6_letOut := by simp only [sgX6_letOut, wsX6_letOut, List.flatten_cons, List.flatten_nil, List.append_assoc, List.append_nil, List.cons_append, List.nil_append]
set_option maxRecDepth 20000 in
theorem ggX6_letOut_X2_size : GoodIn wsX6_letOut wsX2_size := goodIn_s seX6_letOut _ [pq_1_5, pq_1_6, pq_10_0, pq_10_1] (by rfl) (by decide +kernel)
set_option maxRecDepth 20000 in
theorem gX6_letOut_X2_size : GoodIn wsX6_letOut (wsV RX6 164 RX2 yX2_size wsX2_size) := goodIn_app (goodIn_s seX6_letOut _ [pq_1_1, pq_1_2, pq_1_3, pq_1_4] (by rfl) (by decide +kernel)) ggX6_letOut_X2_size
set_option maxRecDepth 20000 in
theorem ggX6_letOut_X1_giveOut : GoodIn wsX6_letOut wsX1_giveOut := goodIn_s seX6_letOut _ [pq_1_11, pq_1_12, pq_1_13, pq_1_14, pq_1_15, pq_1_16, pq_1_4, pq_1_17, pq_1_6, pq_1_18, pq_1_19, pq_1_20, pq_1_21, pq_1_22, pq_1_23, pq_2_0, pq_2_1, pq_2_2, pq_2_3, pq_2_4, pq_2_5, pq_2_6, pq_2_7, pq_2_8, pq_2_9, pq_2_10, pq_9_0, pq_9_1, pq_9_2, pq_9_3, pq_10_0, pq_10_1] (by rfl) (by decide +kernel)
set_option maxRecDepth 20000 in
theorem gX6_letOut_X1_giveOut : GoodIn wsX6_letOut (wsV RX6 335 RX1 yX1_giveOut wsX1_giveOut) := goodIn_app (goodIn_s seX6_letOut _ [pq_1_7, pq_1_8, pq_1_9, pq_1_10] (by rfl) (by decide +kernel)) ggX6_letOut_X1_giveOut
set_option maxRecDepth 20000 in
theorem ggX6_letOut_J4_append_cf468 : GoodIn wsX6_letOut wsJ4_append_cf468 := goodIn_s seX6_letOut _ [pq_2_15, pq_2_16, pq_2_17, pq_2_18, pq_2_19, pq_2_20, pq_2_21, pq_2_22, pq_2_23, pq_3_0, pq_3_1, pq_3_2, pq_3_3, pq_3_4, pq_3_5, pq_3_6, pq_3_7, pq_3_8, pq_3_9, pq_3_10, pq_3_11, pq_3_12, pq_3_13, pq_3_14, pq_3_15, pq_3_16, pq_1_19, pq_1_20, pq_1_21, pq_3_17, pq_3_18, pq_3_19, pq_3_20, pq_3_21, pq_3_22, pq_3_23, pq_4_0, pq_4_1, pq_4_2, pq_4_3, pq_4_4, pq_4_5, pq_4_6, pq_4_7, pq_4_8, pq_4_9, pq_4_10, pq_4_11, pq_4_12, pq_4_13, pq_4_14, pq_4_15, pq_4_16, pq_4_17, pq_4_18, pq_4_19, pq_4_20, pq_4_21, pq_4_22, pq_4_23, pq_5_0, pq_5_1, pq_5_2, pq_5_3, pq_5_4, pq_5_5, pq_5_6, pq_5_7, pq_5_8, pq_5_9, pq_5_10, pq_5_11, pq_5_12, pq_5_13, pq_5_14, pq_5_15, pq_5_16, pq_5_17, pq_5_18, pq_5_19, pq_5_20, pq_5_21, pq_5_22, pq_5_23, pq_6_0, pq_6_1, pq_6_2, pq_6_3, pq_6_4, pq_6_5, pq_6_6, pq_6_7, pq_6_8, pq_6_9, pq_6_10, pq_6_11, pq_6_12, pq_6_13, pq_6_14, pq_6_15, pq_6_16, pq_6_17, pq_6_18, pq_6_19, pq_6_20, pq_6_21, pq_6_22, pq_6_23, pq_7_0, pq_7_1, pq_7_2, pq_7_3, pq_7_4, pq_11_0, pq_11_1, pq_11_2, pq_11_3] (by rfl) (by decide +kernel)
set_option maxRecDepth 20000 in
theorem gX6_letOut_J4_append_cf468 : GoodIn wsX6_letOut (wsV RX6 116 RJ4 yJ4_append_cf468 wsJ4_append_cf468) := goodIn_app (goodIn_s seX6_letOut _ [pq_2_11, pq_2_12, pq_2_13, pq_2_14] (by rfl) (by decide +kernel)) ggX6_letOut_J4_append_cf468
def lb_sgX6_letOut : List (List UInt8) := [[3, 62, 29, 27, 162, 0, 35, 42, 180, 0, 30, 180, 0, 183, 182, 0], [164, 158, 0, 22, 44, 42, 180, 0, 30, 182, 1, 79, 146, 182, 0, 116], [87, 132, 3, 1, 167, 255, 222, 177]]
set_option maxRecDepth 100000 in
theorem lb_seX6_letOut : cX6_letOut.data.toList = lb_sgX6_letOut.flatten := by decide +kernel
theorem lb_lnX6_letOut : ∀ s ∈ lb_sgX6_letOut.dropLast, s.length = 16 := by decide +kernel
theorem lxX6_letOut (k j : Nat) {b : UInt8} (h : (lb_sgX6_letOut[k]?).bind (fun s => s[j]?) = some b) : lb_at cX6_letOut (16 * k + j) b := by
  unfold lb_at
  rw [lb_seX6_letOut]
  exact lb_flat 16 lb_sgX6_letOut k j b lb_lnX6_letOut h
set_option maxRecDepth 20000 in
theorem dX6_letOut_0 : decode cX6_letOut 0 = .ok (.iconst 0, 1) := dc_3 (lxX6_letOut 0 0 rfl)
set_option maxRecDepth 20000 in
theorem dX6_letOut_1 : decode cX6_letOut 1 = .ok (.istore_n 3, 1) := dc_62 (lxX6_letOut 0 1 rfl)
set_option maxRecDepth 20000 in
theorem dX6_letOut_2 : decode cX6_letOut 2 = .ok (.iload_n 3, 1) := dc_29 (lxX6_letOut 0 2 rfl)
set_option maxRecDepth 20000 in
theorem dX6_letOut_3 : decode cX6_letOut 3 = .ok (.iload_n 1, 1) := dc_27 (lxX6_letOut 0 3 rfl)
set_option maxRecDepth 20000 in
theorem dX6_letOut_4 : decode cX6_letOut 4 = .ok (.if_icmp .ge 35, 3) := dc_162 0 35 (lxX6_letOut 0 4 rfl) (lxX6_letOut 0 5 rfl) (lxX6_letOut 0 6 rfl)
set_option maxRecDepth 20000 in
theorem dX6_letOut_7 : decode cX6_letOut 7 = .ok (.aload_n 0, 1) := dc_42 (lxX6_letOut 0 7 rfl)
set_option maxRecDepth 20000 in
theorem dX6_letOut_8 : decode cX6_letOut 8 = .ok (.getfield 30, 3) := dc_180 0 30 (lxX6_letOut 0 8 rfl) (lxX6_letOut 0 9 rfl) (lxX6_letOut 0 10 rfl)
set_option maxRecDepth 20000 in
theorem dX6_letOut_11 : decode cX6_letOut 11 = .ok (.getfield 183, 3) := dc_180 0 183 (lxX6_letOut 0 11 rfl) (lxX6_letOut 0 12 rfl) (lxX6_letOut 0 13 rfl)
set_option maxRecDepth 20000 in
theorem dX6_letOut_14 : decode cX6_letOut 14 = .ok (.invokevirtual 164, 3) := dc_182 0 164 (lxX6_letOut 0 14 rfl) (lxX6_letOut 0 15 rfl) (lxX6_letOut 1 0 rfl)
set_option maxRecDepth 20000 in
theorem dX6_letOut_17 : decode cX6_letOut 17 = .ok (.ifCond .le 22, 3) := dc_158 0 22 (lxX6_letOut 1 1 rfl) (lxX6_letOut 1 2 rfl) (lxX6_letOut 1 3 rfl)
set_option maxRecDepth 20000 in
theorem dX6_letOut_20 : decode cX6_letOut 20 = .ok (.aload_n 2, 1) := dc_44 (lxX6_letOut 1 4 rfl)
set_option maxRecDepth 20000 in
theorem dX6_letOut_21 : decode cX6_letOut 21 = .ok (.aload_n 0, 1) := dc_42 (lxX6_letOut 1 5 rfl)
set_option maxRecDepth 20000 in
theorem dX6_letOut_22 : decode cX6_letOut 22 = .ok (.getfield 30, 3) := dc_180 0 30 (lxX6_letOut 1 6 rfl) (lxX6_letOut 1 7 rfl) (lxX6_letOut 1 8 rfl)
set_option maxRecDepth 20000 in
theorem dX6_letOut_25 : decode cX6_letOut 25 = .ok (.invokevirtual 335, 3) := dc_182 1 79 (lxX6_letOut 1 9 rfl) (lxX6_letOut 1 10 rfl) (lxX6_letOut 1 11 rfl)
set_option maxRecDepth 20000 in
theorem dX6_letOut_28 : decode cX6_letOut 28 = .ok (.i2c, 1) := dc_146 (lxX6_letOut 1 12 rfl)
set_option maxRecDepth 20000 in
theorem dX6_letOut_29 : decode cX6_letOut 29 = .ok (.invokevirtual 116, 3) := dc_182 0 116 (lxX6_letOut 1 13 rfl) (lxX6_letOut 1 14 rfl) (lxX6_letOut 1 15 rfl)
set_option maxRecDepth 20000 in
theorem dX6_letOut_32 : decode cX6_letOut 32 = .ok (.pop, 1) := dc_87 (lxX6_letOut 2 0 rfl)
set_option maxRecDepth 20000 in
theorem dX6_letOut_33 : decode cX6_letOut 33 = .ok (.iinc 3 1, 3) := dc_132 3 1 (lxX6_letOut 2 1 rfl) (lxX6_letOut 2 2 rfl) (lxX6_letOut 2 3 rfl)
set_option maxRecDepth 20000 in
theorem dX6_letOut_36 : decode cX6_letOut 36 = .ok (.goto (-34), 3) := dc_167 255 222 (lxX6_letOut 2 4 rfl) (lxX6_letOut 2 5 rfl) (lxX6_letOut 2 6 rfl)
set_option maxRecDepth 20000 in
theorem dX6_letOut_39 : decode cX6_letOut 39 = .ok (.return_, 1) := dc_177 (lxX6_letOut 2 7 rfl)
noncomputable def sgX6_spelled : List (List Cond) := [[.code yX6_spelled cX6_spelled 3 (some (.object "java/lang/String"))], wsX6_spelled_r1, wsX6_spelled_r2, wsX6_spelled_r3, wsX6_spelled_r4, wsX6_spelled_r5, wsX6_spelled_r6, wsX6_spelled_r7, wsX6_spelled_r8, wsX6_spelled_r9, wsJ40, wsX20, wsX50, wsJ00]
theorem seX6_spelled : sgX6_spelled.flatten = wsX6_spelled := by simp only [sgX6_spelled, wsX6_spelled, List.flatten_cons, List.flatten_nil, List.append_assoc, List.append_nil, List.cons_append, List.nil_append]
set_option maxRecDepth 20000 in
theorem ggX6_spelled_J4_init_da8c8 : GoodIn wsX6_spelled wsJ4_init_da8c8 := goodIn_s seX6_spelled _ [pq_1_5, pq_1_6, pq_1_7, pq_1_8, pq_1_9, pq_1_10, pq_1_11, pq_1_12, pq_1_13, pq_1_14, pq_1_15, pq_1_16, pq_1_17, pq_1_18, pq_1_19, pq_1_20, pq_1_21, pq_1_22, pq_1_23, pq_2_0, pq_10_0, pq_10_1, pq_10_2, pq_10_3] (by rfl) (by decide +kernel)
set_option maxRecDepth 20000 in
theorem gX6_spelled_J4_init_da8c8 : GoodIn wsX6_spelled (wsJ4_init_da8c8) := ggX6_spelled_J4_init_da8c8
set_option maxRecDepth 20000 in
theorem ggX6_spelled_X2_size : GoodIn wsX6_spelled wsX2_size := goodIn_s seX6_spelled _ [pq_2_6, pq_2_7, pq_11_0, pq_11_1] (by rfl) (by decide +kernel)
set_option maxRecDepth 20000 in
theorem gX6_spelled_X2_size_u165X2 : GoodIn wsX6_spelled (va_wsU RX6 165 RX2 "Sashwords$Text" ⟨"Sashwords$Text", "size", "()I"⟩ yX2_size wsX2_size) := goodIn_app (goodIn_s seX6_spelled _ [pq_2_1, pq_2_2, pq_2_3, pq_2_4, pq_2_5] (by rfl) (by decide +kernel)) ggX6_spelled_X2_size
set_option maxRecDepth 20000 in
theorem ggX6_spelled_X5_size : GoodIn wsX6_spelled wsX5_size := goodIn_s seX6_spelled _ [pq_2_11, pq_2_12, pq_2_13, pq_12_0, pq_12_1, pq_12_2, pq_12_3, pq_12_4, pq_12_5] (by rfl) (by decide +kernel)
set_option maxRecDepth 20000 in
theorem gX6_spelled_X5_size_u165X5 : GoodIn wsX6_spelled (va_wsU RX6 165 RX5 "Sashwords$Text" ⟨"Sashwords$Text", "size", "()I"⟩ yX5_size wsX5_size) := goodIn_app (goodIn_s seX6_spelled _ [pq_2_1, pq_2_2, pq_2_8, pq_2_9, pq_2_10] (by rfl) (by decide +kernel)) ggX6_spelled_X5_size
set_option maxRecDepth 20000 in
theorem ggX6_spelled_X2_at : GoodIn wsX6_spelled wsX2_at := goodIn_s seX6_spelled _ [pq_2_18, pq_2_7, pq_2_19, pq_11_0, pq_11_1] (by rfl) (by decide +kernel)
set_option maxRecDepth 20000 in
theorem gX6_spelled_X2_at_u334X2 : GoodIn wsX6_spelled (va_wsU RX6 334 RX2 "Sashwords$Text" ⟨"Sashwords$Text", "at", "(I)I"⟩ yX2_at wsX2_at) := goodIn_app (goodIn_s seX6_spelled _ [pq_2_14, pq_2_15, pq_2_16, pq_2_17, pq_2_5] (by rfl) (by decide +kernel)) ggX6_spelled_X2_at
set_option maxRecDepth 20000 in
theorem ggX6_spelled_X5_at : GoodIn wsX6_spelled wsX5_at := goodIn_s seX6_spelled _ [pq_2_22, pq_2_12, pq_2_13, pq_2_23, pq_3_0, pq_3_1, pq_2_10, pq_3_2, pq_3_3, pq_3_4, pq_12_0, pq_12_1, pq_12_2, pq_12_3, pq_12_4, pq_12_5] (by rfl) (by decide +kernel)
set_option maxRecDepth 20000 in
theorem gX6_spelled_X5_at_u334X5 : GoodIn wsX6_spelled (va_wsU RX6 334 RX5 "Sashwords$Text" ⟨"Sashwords$Text", "at", "(I)I"⟩ yX5_at wsX5_at) := goodIn_app (goodIn_s seX6_spelled _ [pq_2_14, pq_2_15, pq_2_20, pq_2_21, pq_2_10] (by rfl) (by decide +kernel)) ggX6_spelled_X5_at
set_option maxRecDepth 20000 in
theorem ggX6_spelled_J4_append_cf468 : GoodIn wsX6_spelled wsJ4_append_cf468 := goodIn_s seX6_spelled _ [pq_3_8, pq_3_9, pq_3_10, pq_3_11, pq_3_12, pq_1_8, pq_3_13, pq_3_14, pq_1_15, pq_3_15, pq_3_16, pq_3_17, pq_3_18, pq_3_19, pq_1_16, pq_3_20, pq_3_21, pq_3_22, pq_3_23, pq_4_0, pq_4_1, pq_4_2, pq_4_3, pq_4_4, pq_4_5, pq_4_6, pq_4_7, pq_4_8, pq_4_9, pq_4_10, pq_4_11, pq_4_12, pq_4_13, pq_4_14, pq_4_15, pq_4_16, pq_4_17, pq_4_18, pq_4_19, pq_4_20, pq_4_21, pq_4_22, pq_4_23, pq_1_14, pq_5_0, pq_5_1, pq_5_2, pq_5_3, pq_5_4, pq_5_5, pq_5_6, pq_5_7, pq_5_8, pq_5_9, pq_5_10, pq_5_11, pq_1_13, pq_5_12, pq_5_13, pq_5_14, pq_5_15, pq_5_16, pq_5_17, pq_5_18, pq_5_19, pq_5_20, pq_1_17, pq_1_18, pq_1_19, pq_1_20, pq_1_21, pq_1_22, pq_1_23, pq_2_0, pq_5_21, pq_5_22, pq_5_23, pq_6_0, pq_6_1, pq_6_2, pq_6_3, pq_6_4, pq_6_5, pq_6_6, pq_6_7, pq_6_8, pq_6_9, pq_6_10, pq_6_11, pq_6_12, pq_6_13, pq_6_14, pq_6_15, pq_6_16, pq_6_17, pq_6_18, pq_6_19, pq_6_20, pq_6_21, pq_6_22, pq_6_23, pq_7_0, pq_7_1, pq_7_2, pq_7_3, pq_7_4, pq_7_5, pq_7_6, pq_7_7, pq_7_8, pq_7_9, pq_7_10, pq_7_11, pq_10_0, pq_10_1, pq_10_2, pq_10_3] (by rfl) (by decide +kernel)
set_option maxRecDepth 20000 in
theorem gX6_spelled_J4_append_cf468 : GoodIn wsX6_spelled (wsV RX6 116 RJ4 yJ4_append_cf468 wsJ4_append_cf468) := goodIn_app (goodIn_s seX6_spelled _ [pq_3_5, pq_3_6, pq_3_7, pq_1_2] (by rfl) (by decide +kernel)) ggX6_spelled_J4_append_cf468
set_option maxRecDepth 20000 in
theorem ggX6_spelled_J4_toString_0e30d : GoodIn wsX6_spelled wsJ4_toString_0e30d := goodIn_s seX6_spelled _ [pq_7_15, pq_7_16, pq_7_17, pq_6_11, pq_7_18, pq_7_19, pq_7_20, pq_7_21, pq_7_22, pq_7_23, pq_8_0, pq_1_11, pq_1_12, pq_8_1, pq_8_2, pq_8_3, pq_8_4, pq_8_5, pq_8_6, pq_8_7, pq_8_8, pq_1_8, pq_8_9, pq_1_15, pq_8_10, pq_8_11, pq_8_12, pq_8_13, pq_8_14, pq_1_2, pq_8_15, pq_8_16, pq_3_11, pq_8_17, pq_8_18, pq_3_14, pq_8_19, pq_5_8, pq_5_9, pq_5_10, pq_5_11, pq_1_13, pq_1_16, pq_8_20, pq_8_21, pq_4_16, pq_8_22, pq_4_18, pq_4_19, pq_4_20, pq_4_21, pq_4_22, pq_4_23, pq_8_23, pq_9_0, pq_9_1, pq_1_14, pq_5_0, pq_5_1, pq_4_8, pq_5_2, pq_5_3, pq_5_4, pq_5_5, pq_5_6, pq_9_2, pq_9_3, pq_9_4, pq_9_5, pq_1_1, pq_9_6, pq_9_7, pq_1_19, pq_9_8, pq_9_9, pq_9_10, pq_9_11, pq_6_3, pq_6_4, pq_6_5, pq_6_6, pq_6_7, pq_6_8, pq_6_9, pq_6_10, pq_6_12, pq_6_13, pq_6_14, pq_6_15, pq_6_16, pq_6_17, pq_9_12, pq_9_13, pq_9_14, pq_6_21, pq_6_22, pq_6_23, pq_1_21, pq_1_22, pq_1_23, pq_2_0, pq_9_15, pq_9_16, pq_9_17, pq_9_18, pq_13_0, pq_13_1, pq_13_2, pq_13_3, pq_10_0, pq_10_1, pq_10_2, pq_10_3] (by rfl) (by decide +kernel)
set_option maxRecDepth 20000 in
theorem gX6_spelled_J4_toString_0e30d : GoodIn wsX6_spelled (wsV RX6 120 RJ4 yJ4_toString_0e30d wsJ4_toString_0e30d) := goodIn_app (goodIn_s seX6_spelled _ [pq_7_12, pq_7_13, pq_7_14, pq_1_2] (by rfl) (by decide +kernel)) ggX6_spelled_J4_toString_0e30d
def lb_sgX6_spelled : List (List UInt8) := [[187, 0, 113, 89, 183, 0, 115, 76, 3, 61, 28, 42, 182, 0, 165, 162], [0, 20, 43, 42, 28, 182, 1, 78, 146, 182, 0, 116, 87, 132, 2, 1], [167, 255, 234, 43, 182, 0, 120, 176]]
set_option maxRecDepth 100000 in
theorem lb_seX6_spelled : cX6_spelled.data.toList = lb_sgX6_spelled.flatten := by decide +kernel
theorem lb_lnX6_spelled : ∀ s ∈ lb_sgX6_spelled.dropLast, s.length = 16 := by decide +kernel
theorem lxX6_spelled (k j : Nat) {b : UInt8} (h : (lb_sgX6_spelled[k]?).bind (fun s => s[j]?) = some b) : lb_at cX6_spelled (16 * k + j) b := by
  unfold lb_at
  rw [lb_seX6_spelled]
  exact lb_flat 16 lb_sgX6_spelled k j b lb_lnX6_spelled h
set_option maxRecDepth 20000 in
theorem dX6_spelled_0 : decode cX6_spelled 0 = .ok (.new 113, 3) := dc_187 0 113 (lxX6_spelled 0 0 rfl) (lxX6_spelled 0 1 rfl) (lxX6_spelled 0 2 rfl)
set_option maxRecDepth 20000 in
theorem dX6_spelled_3 : decode cX6_spelled 3 = .ok (.dup, 1) := dc_89 (lxX6_spelled 0 3 rfl)
set_option maxRecDepth 20000 in
theorem dX6_spelled_4 : decode cX6_spelled 4 = .ok (.invokespecial 115, 3) := dc_183 0 115 (lxX6_spelled 0 4 rfl) (lxX6_spelled 0 5 rfl) (lxX6_spelled 0 6 rfl)
set_option maxRecDepth 20000 in
theorem dX6_spelled_7 : decode cX6_spelled 7 = .ok (.astore_n 1, 1) := dc_76 (lxX6_spelled 0 7 rfl)
set_option maxRecDepth 20000 in
theorem dX6_spelled_8 : decode cX6_spelled 8 = .ok (.iconst 0, 1) := dc_3 (lxX6_spelled 0 8 rfl)
set_option maxRecDepth 20000 in
theorem dX6_spelled_9 : decode cX6_spelled 9 = .ok (.istore_n 2, 1) := dc_61 (lxX6_spelled 0 9 rfl)
set_option maxRecDepth 20000 in
theorem dX6_spelled_10 : decode cX6_spelled 10 = .ok (.iload_n 2, 1) := dc_28 (lxX6_spelled 0 10 rfl)
set_option maxRecDepth 20000 in
theorem dX6_spelled_11 : decode cX6_spelled 11 = .ok (.aload_n 0, 1) := dc_42 (lxX6_spelled 0 11 rfl)
set_option maxRecDepth 20000 in
theorem dX6_spelled_12 : decode cX6_spelled 12 = .ok (.invokevirtual 165, 3) := dc_182 0 165 (lxX6_spelled 0 12 rfl) (lxX6_spelled 0 13 rfl) (lxX6_spelled 0 14 rfl)
set_option maxRecDepth 20000 in
theorem dX6_spelled_15 : decode cX6_spelled 15 = .ok (.if_icmp .ge 20, 3) := dc_162 0 20 (lxX6_spelled 0 15 rfl) (lxX6_spelled 1 0 rfl) (lxX6_spelled 1 1 rfl)
set_option maxRecDepth 20000 in
theorem dX6_spelled_18 : decode cX6_spelled 18 = .ok (.aload_n 1, 1) := dc_43 (lxX6_spelled 1 2 rfl)
set_option maxRecDepth 20000 in
theorem dX6_spelled_19 : decode cX6_spelled 19 = .ok (.aload_n 0, 1) := dc_42 (lxX6_spelled 1 3 rfl)
set_option maxRecDepth 20000 in
theorem dX6_spelled_20 : decode cX6_spelled 20 = .ok (.iload_n 2, 1) := dc_28 (lxX6_spelled 1 4 rfl)
set_option maxRecDepth 20000 in
theorem dX6_spelled_21 : decode cX6_spelled 21 = .ok (.invokevirtual 334, 3) := dc_182 1 78 (lxX6_spelled 1 5 rfl) (lxX6_spelled 1 6 rfl) (lxX6_spelled 1 7 rfl)
set_option maxRecDepth 20000 in
theorem dX6_spelled_24 : decode cX6_spelled 24 = .ok (.i2c, 1) := dc_146 (lxX6_spelled 1 8 rfl)
set_option maxRecDepth 20000 in
theorem dX6_spelled_25 : decode cX6_spelled 25 = .ok (.invokevirtual 116, 3) := dc_182 0 116 (lxX6_spelled 1 9 rfl) (lxX6_spelled 1 10 rfl) (lxX6_spelled 1 11 rfl)
set_option maxRecDepth 20000 in
theorem dX6_spelled_28 : decode cX6_spelled 28 = .ok (.pop, 1) := dc_87 (lxX6_spelled 1 12 rfl)
set_option maxRecDepth 20000 in
theorem dX6_spelled_29 : decode cX6_spelled 29 = .ok (.iinc 2 1, 3) := dc_132 2 1 (lxX6_spelled 1 13 rfl) (lxX6_spelled 1 14 rfl) (lxX6_spelled 1 15 rfl)
set_option maxRecDepth 20000 in
theorem dX6_spelled_32 : decode cX6_spelled 32 = .ok (.goto (-22), 3) := dc_167 255 234 (lxX6_spelled 2 0 rfl) (lxX6_spelled 2 1 rfl) (lxX6_spelled 2 2 rfl)
set_option maxRecDepth 20000 in
theorem dX6_spelled_35 : decode cX6_spelled 35 = .ok (.aload_n 1, 1) := dc_43 (lxX6_spelled 2 3 rfl)
set_option maxRecDepth 20000 in
theorem dX6_spelled_36 : decode cX6_spelled 36 = .ok (.invokevirtual 120, 3) := dc_182 0 120 (lxX6_spelled 2 4 rfl) (lxX6_spelled 2 5 rfl) (lxX6_spelled 2 6 rfl)
set_option maxRecDepth 20000 in
theorem dX6_spelled_39 : decode cX6_spelled 39 = .ok (.areturn, 1) := dc_176 (lxX6_spelled 2 7 rfl)
noncomputable def sgX6_copyText : List (List Cond) := [[.code yX6_copyText cX6_copyText 5 none], wsX6_copyText_r1, wsX6_copyText_r2, wsX6_copyText_r3, wsX50, wsX60, wsX20]
theorem seX6_copyText : sgX6_copyText.flatten = wsX6_copyText := by simp only [sgX6_copyText, wsX6_copyText, List.flatten_cons, List.flatten_nil, List.append_assoc, List.append_nil, List.cons_append, List.nil_append]
set_option maxRecDepth 20000 in
theorem ggX6_copyText_X2_clear : GoodIn wsX6_copyText wsX2_clear := goodIn_s seX6_copyText _ [pq_1_5, pq_1_6, pq_6_0, pq_6_1] (by rfl) (by decide +kernel)
set_option maxRecDepth 20000 in
theorem gX6_copyText_X2_clear : GoodIn wsX6_copyText (wsV RX6 338 RX2 yX2_clear wsX2_clear) := goodIn_app (goodIn_s seX6_copyText _ [pq_1_1, pq_1_2, pq_1_3, pq_1_4] (by rfl) (by decide +kernel)) ggX6_copyText_X2_clear
set_option maxRecDepth 20000 in
theorem ggX6_copyText_X2_append : GoodIn wsX6_copyText wsX2_append := goodIn_s seX6_copyText _ [pq_1_10, pq_1_11, pq_1_12, pq_1_13, pq_1_14, pq_1_4, pq_1_15, pq_1_6, pq_1_16, pq_1_17, pq_1_18, pq_1_19, pq_1_20, pq_1_21, pq_1_22, pq_1_23, pq_2_0, pq_2_1, pq_2_2, pq_2_3, pq_2_4, pq_2_5, pq_2_6, pq_2_7, pq_2_8, pq_2_9, pq_2_10, pq_2_11, pq_2_12, pq_2_13, pq_2_14, pq_2_15, pq_2_16, pq_6_0, pq_6_1, pq_4_0, pq_4_1, pq_4_2, pq_4_3, pq_4_4, pq_4_5] (by rfl) (by decide +kernel)
set_option maxRecDepth 20000 in
theorem gX6_copyText_X2_append : GoodIn wsX6_copyText (wsV RX6 171 RX2 yX2_append wsX2_append) := goodIn_app (goodIn_s seX6_copyText _ [pq_1_7, pq_1_8, pq_1_9, pq_1_4] (by rfl) (by decide +kernel)) ggX6_copyText_X2_append
set_option maxRecDepth 20000 in
theorem ggX6_copyText_X5_atPlace : GoodIn wsX6_copyText wsX5_atPlace := goodIn_s seX6_copyText _ [pq_2_10, pq_1_20, pq_2_11, pq_2_12, pq_4_0, pq_4_1, pq_4_2, pq_4_3, pq_4_4, pq_4_5] (by rfl) (by decide +kernel)
set_option maxRecDepth 20000 in
theorem gX6_copyText_X5_atPlace : GoodIn wsX6_copyText (wsV RX6 209 RX5 yX5_atPlace wsX5_atPlace) := goodIn_app (goodIn_s seX6_copyText _ [pq_2_17, pq_2_8, pq_2_9, pq_1_18] (by rfl) (by decide +kernel)) ggX6_copyText_X5_atPlace
set_option maxRecDepth 20000 in
theorem ggX6_copyText_X2_add : GoodIn wsX6_copyText wsX2_add := goodIn_s seX6_copyText _ [pq_2_16, pq_1_6, pq_2_3, pq_6_0, pq_6_1] (by rfl) (by decide +kernel)
set_option maxRecDepth 20000 in
theorem gX6_copyText_X2_add : GoodIn wsX6_copyText (wsV RX6 341 RX2 yX2_add wsX2_add) := goodIn_app (goodIn_s seX6_copyText _ [pq_2_18, pq_2_14, pq_2_15, pq_1_4] (by rfl) (by decide +kernel)) ggX6_copyText_X2_add
set_option maxRecDepth 20000 in
theorem ggX6_copyText_X5_becomeLike : GoodIn wsX6_copyText wsX5_becomeLike := goodIn_s seX6_copyText _ [pq_2_22, pq_2_12, pq_2_11, pq_2_23, pq_1_20, pq_1_21, pq_3_0, pq_4_0, pq_4_1, pq_4_2, pq_4_3, pq_4_4, pq_4_5] (by rfl) (by decide +kernel)
set_option maxRecDepth 20000 in
theorem gX6_copyText_X5_becomeLike : GoodIn wsX6_copyText (wsV RX6 85 RX5 yX5_becomeLike wsX5_becomeLike) := goodIn_app (goodIn_s seX6_copyText _ [pq_2_19, pq_2_20, pq_2_21, pq_1_18] (by rfl) (by decide +kernel)) ggX6_copyText_X5_becomeLike
set_option maxRecDepth 20000 in
theorem ggX6_copyText_X5_size : GoodIn wsX6_copyText wsX5_size := goodIn_s seX6_copyText _ [pq_1_19, pq_1_20, pq_1_21, pq_4_0, pq_4_1, pq_4_2, pq_4_3, pq_4_4, pq_4_5] (by rfl) (by decide +kernel)
set_option maxRecDepth 20000 in
theorem gX6_copyText_X5_size : GoodIn wsX6_copyText (wsV RX6 73 RX5 yX5_size wsX5_size) := goodIn_app (goodIn_s seX6_copyText _ [pq_3_1, pq_1_17, pq_3_2, pq_1_18] (by rfl) (by decide +kernel)) ggX6_copyText_X5_size
set_option maxRecDepth 20000 in
theorem ggX6_copyText_X5_readSign : GoodIn wsX6_copyText wsX5_readSign := goodIn_s seX6_copyText _ [pq_3_6, pq_1_21, pq_3_7, pq_2_5, pq_3_8, pq_1_18, pq_2_6, pq_1_20, pq_2_7, pq_2_8, pq_2_9, pq_2_10, pq_2_11, pq_2_12, pq_3_9, pq_1_17, pq_3_2, pq_1_19, pq_4_0, pq_4_1, pq_4_2, pq_4_3, pq_4_4, pq_4_5] (by rfl) (by decide +kernel)
set_option maxRecDepth 20000 in
theorem gX6_copyText_X5_readSign : GoodIn wsX6_copyText (wsV RX6 110 RX5 yX5_readSign wsX5_readSign) := goodIn_app (goodIn_s seX6_copyText _ [pq_3_3, pq_3_4, pq_3_5, pq_1_18] (by rfl) (by decide +kernel)) ggX6_copyText_X5_readSign
set_option maxRecDepth 20000 in
theorem ggX6_copyText_X5_becomePart : GoodIn wsX6_copyText wsX5_becomePart := goodIn_s seX6_copyText _ [pq_3_13, pq_1_21, pq_2_12, pq_2_11, pq_2_23, pq_1_20, pq_3_0, pq_4_0, pq_4_1, pq_4_2, pq_4_3, pq_4_4, pq_4_5] (by rfl) (by decide +kernel)
set_option maxRecDepth 20000 in
theorem gX6_copyText_X5_becomePart : GoodIn wsX6_copyText (wsV RX6 95 RX5 yX5_becomePart wsX5_becomePart) := goodIn_app (goodIn_s seX6_copyText _ [pq_3_10, pq_3_11, pq_3_12, pq_1_18] (by rfl) (by decide +kernel)) ggX6_copyText_X5_becomePart
def lb_sgX6_copyText : List (List UInt8) := [[45, 182, 1, 82, 28, 170, 0, 0, 0, 0, 0, 111, 0, 0, 0, 0], [0, 0, 0, 2, 0, 0, 0, 27, 0, 0, 0, 35, 0, 0, 0, 69], [45, 43, 182, 0, 171, 167, 0, 128, 43, 180, 0, 134, 54, 4, 21, 4], [43, 180, 0, 144, 162, 0, 19, 45, 43, 21, 4, 182, 0, 209, 182, 1], [85, 132, 4, 1, 167, 255, 234, 167, 0, 94, 42, 180, 0, 35, 43, 182], [0, 85, 42, 180, 0, 35, 182, 0, 73, 54, 4, 21, 4, 158, 0, 20], [45, 42, 180, 0, 35, 182, 0, 110, 182, 1, 85, 132, 4, 255, 167, 255], [237, 167, 0, 52, 43, 182, 0, 73, 5, 108, 54, 4, 42, 180, 0, 35], [43, 3, 21, 4, 182, 0, 95, 45, 42, 180, 0, 35, 182, 0, 171, 42], [180, 0, 35, 43, 21, 4, 43, 182, 0, 73, 182, 0, 95, 45, 42, 180], [0, 35, 182, 0, 171, 177]]
set_option maxRecDepth 100000 in
theorem lb_seX6_copyText : cX6_copyText.data.toList = lb_sgX6_copyText.flatten := by decide +kernel
theorem lb_lnX6_copyText : ∀ s ∈ lb_sgX6_copyText.dropLast, s.length = 16 := by decide +kernel
theorem lxX6_copyText (k j : Nat) {b : UInt8} (h : (lb_sgX6_copyText[k]?).bind (fun s => s[j]?) = some b) : lb_at cX6_copyText (16 * k + j) b := by
  unfold lb_at
  rw [lb_seX6_copyText]
  exact lb_flat 16 lb_sgX6_copyText k j b lb_lnX6_copyText h
set_option maxRecDepth 20000 in
theorem dX6_copyText_0 : decode cX6_copyText 0 = .ok (.aload_n 3, 1) := dc_45 (lxX6_copyText 0 0 rfl)
set_option maxRecDepth 20000 in
theorem dX6_copyText_1 : decode cX6_copyText 1 = .ok (.invokevirtual 338, 3) := dc_182 1 82 (lxX6_copyText 0 1 rfl) (lxX6_copyText 0 2 rfl) (lxX6_copyText 0 3 rfl)
set_option maxRecDepth 20000 in
theorem dX6_copyText_4 : decode cX6_copyText 4 = .ok (.iload_n 2, 1) := dc_28 (lxX6_copyText 0 4 rfl)
theorem dX6_copyText_5 : decode cX6_copyText 5 = .ok (.tableswitch 111 0 2 #[27, 35, 69], 27) := by decide +kernel
set_option maxRecDepth 20000 in
theorem dX6_copyText_32 : decode cX6_copyText 32 = .ok (.aload_n 3, 1) := dc_45 (lxX6_copyText 2 0 rfl)
set_option maxRecDepth 20000 in
theorem dX6_copyText_33 : decode cX6_copyText 33 = .ok (.aload_n 1, 1) := dc_43 (lxX6_copyText 2 1 rfl)
set_option maxRecDepth 20000 in
theorem dX6_copyText_34 : decode cX6_copyText 34 = .ok (.invokevirtual 171, 3) := dc_182 0 171 (lxX6_copyText 2 2 rfl) (lxX6_copyText 2 3 rfl) (lxX6_copyText 2 4 rfl)
set_option maxRecDepth 20000 in
theorem dX6_copyText_37 : decode cX6_copyText 37 = .ok (.goto 128, 3) := dc_167 0 128 (lxX6_copyText 2 5 rfl) (lxX6_copyText 2 6 rfl) (lxX6_copyText 2 7 rfl)
set_option maxRecDepth 20000 in
theorem dX6_copyText_40 : decode cX6_copyText 40 = .ok (.aload_n 1, 1) := dc_43 (lxX6_copyText 2 8 rfl)
set_option maxRecDepth 20000 in
theorem dX6_copyText_41 : decode cX6_copyText 41 = .ok (.getfield 134, 3) := dc_180 0 134 (lxX6_copyText 2 9 rfl) (lxX6_copyText 2 10 rfl) (lxX6_copyText 2 11 rfl)
set_option maxRecDepth 20000 in
theorem dX6_copyText_44 : decode cX6_copyText 44 = .ok (.istore 4, 2) := dc_54 4 (lxX6_copyText 2 12 rfl) (lxX6_copyText 2 13 rfl)
set_option maxRecDepth 20000 in
theorem dX6_copyText_46 : decode cX6_copyText 46 = .ok (.iload 4, 2) := dc_21 4 (lxX6_copyText 2 14 rfl) (lxX6_copyText 2 15 rfl)
set_option maxRecDepth 20000 in
theorem dX6_copyText_48 : decode cX6_copyText 48 = .ok (.aload_n 1, 1) := dc_43 (lxX6_copyText 3 0 rfl)
set_option maxRecDepth 20000 in
theorem dX6_copyText_49 : decode cX6_copyText 49 = .ok (.getfield 144, 3) := dc_180 0 144 (lxX6_copyText 3 1 rfl) (lxX6_copyText 3 2 rfl) (lxX6_copyText 3 3 rfl)
set_option maxRecDepth 20000 in
theorem dX6_copyText_52 : decode cX6_copyText 52 = .ok (.if_icmp .ge 19, 3) := dc_162 0 19 (lxX6_copyText 3 4 rfl) (lxX6_copyText 3 5 rfl) (lxX6_copyText 3 6 rfl)
set_option maxRecDepth 20000 in
theorem dX6_copyText_55 : decode cX6_copyText 55 = .ok (.aload_n 3, 1) := dc_45 (lxX6_copyText 3 7 rfl)
set_option maxRecDepth 20000 in
theorem dX6_copyText_56 : decode cX6_copyText 56 = .ok (.aload_n 1, 1) := dc_43 (lxX6_copyText 3 8 rfl)
set_option maxRecDepth 20000 in
theorem dX6_copyText_57 : decode cX6_copyText 57 = .ok (.iload 4, 2) := dc_21 4 (lxX6_copyText 3 9 rfl) (lxX6_copyText 3 10 rfl)
set_option maxRecDepth 20000 in
theorem dX6_copyText_59 : decode cX6_copyText 59 = .ok (.invokevirtual 209, 3) := dc_182 0 209 (lxX6_copyText 3 11 rfl) (lxX6_copyText 3 12 rfl) (lxX6_copyText 3 13 rfl)
set_option maxRecDepth 20000 in
theorem dX6_copyText_62 : decode cX6_copyText 62 = .ok (.invokevirtual 341, 3) := dc_182 1 85 (lxX6_copyText 3 14 rfl) (lxX6_copyText 3 15 rfl) (lxX6_copyText 4 0 rfl)
set_option maxRecDepth 20000 in
theorem dX6_copyText_65 : decode cX6_copyText 65 = .ok (.iinc 4 1, 3) := dc_132 4 1 (lxX6_copyText 4 1 rfl) (lxX6_copyText 4 2 rfl) (lxX6_copyText 4 3 rfl)
set_option maxRecDepth 20000 in
theorem dX6_copyText_68 : decode cX6_copyText 68 = .ok (.goto (-22), 3) := dc_167 255 234 (lxX6_copyText 4 4 rfl) (lxX6_copyText 4 5 rfl) (lxX6_copyText 4 6 rfl)
set_option maxRecDepth 20000 in
theorem dX6_copyText_71 : decode cX6_copyText 71 = .ok (.goto 94, 3) := dc_167 0 94 (lxX6_copyText 4 7 rfl) (lxX6_copyText 4 8 rfl) (lxX6_copyText 4 9 rfl)
set_option maxRecDepth 20000 in
theorem dX6_copyText_74 : decode cX6_copyText 74 = .ok (.aload_n 0, 1) := dc_42 (lxX6_copyText 4 10 rfl)
set_option maxRecDepth 20000 in
theorem dX6_copyText_75 : decode cX6_copyText 75 = .ok (.getfield 35, 3) := dc_180 0 35 (lxX6_copyText 4 11 rfl) (lxX6_copyText 4 12 rfl) (lxX6_copyText 4 13 rfl)
set_option maxRecDepth 20000 in
theorem dX6_copyText_78 : decode cX6_copyText 78 = .ok (.aload_n 1, 1) := dc_43 (lxX6_copyText 4 14 rfl)
set_option maxRecDepth 20000 in
theorem dX6_copyText_79 : decode cX6_copyText 79 = .ok (.invokevirtual 85, 3) := dc_182 0 85 (lxX6_copyText 4 15 rfl) (lxX6_copyText 5 0 rfl) (lxX6_copyText 5 1 rfl)
set_option maxRecDepth 20000 in
theorem dX6_copyText_82 : decode cX6_copyText 82 = .ok (.aload_n 0, 1) := dc_42 (lxX6_copyText 5 2 rfl)
set_option maxRecDepth 20000 in
theorem dX6_copyText_83 : decode cX6_copyText 83 = .ok (.getfield 35, 3) := dc_180 0 35 (lxX6_copyText 5 3 rfl) (lxX6_copyText 5 4 rfl) (lxX6_copyText 5 5 rfl)
set_option maxRecDepth 20000 in
theorem dX6_copyText_86 : decode cX6_copyText 86 = .ok (.invokevirtual 73, 3) := dc_182 0 73 (lxX6_copyText 5 6 rfl) (lxX6_copyText 5 7 rfl) (lxX6_copyText 5 8 rfl)
set_option maxRecDepth 20000 in
theorem dX6_copyText_89 : decode cX6_copyText 89 = .ok (.istore 4, 2) := dc_54 4 (lxX6_copyText 5 9 rfl) (lxX6_copyText 5 10 rfl)
set_option maxRecDepth 20000 in
theorem dX6_copyText_91 : decode cX6_copyText 91 = .ok (.iload 4, 2) := dc_21 4 (lxX6_copyText 5 11 rfl) (lxX6_copyText 5 12 rfl)
set_option maxRecDepth 20000 in
theorem dX6_copyText_93 : decode cX6_copyText 93 = .ok (.ifCond .le 20, 3) := dc_158 0 20 (lxX6_copyText 5 13 rfl) (lxX6_copyText 5 14 rfl) (lxX6_copyText 5 15 rfl)
set_option maxRecDepth 20000 in
theorem dX6_copyText_96 : decode cX6_copyText 96 = .ok (.aload_n 3, 1) := dc_45 (lxX6_copyText 6 0 rfl)
set_option maxRecDepth 20000 in
theorem dX6_copyText_97 : decode cX6_copyText 97 = .ok (.aload_n 0, 1) := dc_42 (lxX6_copyText 6 1 rfl)
set_option maxRecDepth 20000 in
theorem dX6_copyText_98 : decode cX6_copyText 98 = .ok (.getfield 35, 3) := dc_180 0 35 (lxX6_copyText 6 2 rfl) (lxX6_copyText 6 3 rfl) (lxX6_copyText 6 4 rfl)
set_option maxRecDepth 20000 in
theorem dX6_copyText_101 : decode cX6_copyText 101 = .ok (.invokevirtual 110, 3) := dc_182 0 110 (lxX6_copyText 6 5 rfl) (lxX6_copyText 6 6 rfl) (lxX6_copyText 6 7 rfl)
set_option maxRecDepth 20000 in
theorem dX6_copyText_104 : decode cX6_copyText 104 = .ok (.invokevirtual 341, 3) := dc_182 1 85 (lxX6_copyText 6 8 rfl) (lxX6_copyText 6 9 rfl) (lxX6_copyText 6 10 rfl)
set_option maxRecDepth 20000 in
theorem dX6_copyText_107 : decode cX6_copyText 107 = .ok (.iinc 4 (-1), 3) := dc_132 4 255 (lxX6_copyText 6 11 rfl) (lxX6_copyText 6 12 rfl) (lxX6_copyText 6 13 rfl)
set_option maxRecDepth 20000 in
theorem dX6_copyText_110 : decode cX6_copyText 110 = .ok (.goto (-19), 3) := dc_167 255 237 (lxX6_copyText 6 14 rfl) (lxX6_copyText 6 15 rfl) (lxX6_copyText 7 0 rfl)
set_option maxRecDepth 20000 in
theorem dX6_copyText_113 : decode cX6_copyText 113 = .ok (.goto 52, 3) := dc_167 0 52 (lxX6_copyText 7 1 rfl) (lxX6_copyText 7 2 rfl) (lxX6_copyText 7 3 rfl)
set_option maxRecDepth 20000 in
theorem dX6_copyText_116 : decode cX6_copyText 116 = .ok (.aload_n 1, 1) := dc_43 (lxX6_copyText 7 4 rfl)
set_option maxRecDepth 20000 in
theorem dX6_copyText_117 : decode cX6_copyText 117 = .ok (.invokevirtual 73, 3) := dc_182 0 73 (lxX6_copyText 7 5 rfl) (lxX6_copyText 7 6 rfl) (lxX6_copyText 7 7 rfl)
set_option maxRecDepth 20000 in
theorem dX6_copyText_120 : decode cX6_copyText 120 = .ok (.iconst 2, 1) := dc_5 (lxX6_copyText 7 8 rfl)
set_option maxRecDepth 20000 in
theorem dX6_copyText_121 : decode cX6_copyText 121 = .ok (.idiv, 1) := dc_108 (lxX6_copyText 7 9 rfl)
set_option maxRecDepth 20000 in
theorem dX6_copyText_122 : decode cX6_copyText 122 = .ok (.istore 4, 2) := dc_54 4 (lxX6_copyText 7 10 rfl) (lxX6_copyText 7 11 rfl)
set_option maxRecDepth 20000 in
theorem dX6_copyText_124 : decode cX6_copyText 124 = .ok (.aload_n 0, 1) := dc_42 (lxX6_copyText 7 12 rfl)
set_option maxRecDepth 20000 in
theorem dX6_copyText_125 : decode cX6_copyText 125 = .ok (.getfield 35, 3) := dc_180 0 35 (lxX6_copyText 7 13 rfl) (lxX6_copyText 7 14 rfl) (lxX6_copyText 7 15 rfl)
set_option maxRecDepth 20000 in
theorem dX6_copyText_128 : decode cX6_copyText 128 = .ok (.aload_n 1, 1) := dc_43 (lxX6_copyText 8 0 rfl)
set_option maxRecDepth 20000 in
theorem dX6_copyText_129 : decode cX6_copyText 129 = .ok (.iconst 0, 1) := dc_3 (lxX6_copyText 8 1 rfl)
set_option maxRecDepth 20000 in
theorem dX6_copyText_130 : decode cX6_copyText 130 = .ok (.iload 4, 2) := dc_21 4 (lxX6_copyText 8 2 rfl) (lxX6_copyText 8 3 rfl)
set_option maxRecDepth 20000 in
theorem dX6_copyText_132 : decode cX6_copyText 132 = .ok (.invokevirtual 95, 3) := dc_182 0 95 (lxX6_copyText 8 4 rfl) (lxX6_copyText 8 5 rfl) (lxX6_copyText 8 6 rfl)
set_option maxRecDepth 20000 in
theorem dX6_copyText_135 : decode cX6_copyText 135 = .ok (.aload_n 3, 1) := dc_45 (lxX6_copyText 8 7 rfl)
set_option maxRecDepth 20000 in
theorem dX6_copyText_136 : decode cX6_copyText 136 = .ok (.aload_n 0, 1) := dc_42 (lxX6_copyText 8 8 rfl)
set_option maxRecDepth 20000 in
theorem dX6_copyText_137 : decode cX6_copyText 137 = .ok (.getfield 35, 3) := dc_180 0 35 (lxX6_copyText 8 9 rfl) (lxX6_copyText 8 10 rfl) (lxX6_copyText 8 11 rfl)
set_option maxRecDepth 20000 in
theorem dX6_copyText_140 : decode cX6_copyText 140 = .ok (.invokevirtual 171, 3) := dc_182 0 171 (lxX6_copyText 8 12 rfl) (lxX6_copyText 8 13 rfl) (lxX6_copyText 8 14 rfl)
set_option maxRecDepth 20000 in
theorem dX6_copyText_143 : decode cX6_copyText 143 = .ok (.aload_n 0, 1) := dc_42 (lxX6_copyText 8 15 rfl)
set_option maxRecDepth 20000 in
theorem dX6_copyText_144 : decode cX6_copyText 144 = .ok (.getfield 35, 3) := dc_180 0 35 (lxX6_copyText 9 0 rfl) (lxX6_copyText 9 1 rfl) (lxX6_copyText 9 2 rfl)
set_option maxRecDepth 20000 in
theorem dX6_copyText_147 : decode cX6_copyText 147 = .ok (.aload_n 1, 1) := dc_43 (lxX6_copyText 9 3 rfl)
set_option maxRecDepth 20000 in
theorem dX6_copyText_148 : decode cX6_copyText 148 = .ok (.iload 4, 2) := dc_21 4 (lxX6_copyText 9 4 rfl) (lxX6_copyText 9 5 rfl)
set_option maxRecDepth 20000 in
theorem dX6_copyText_150 : decode cX6_copyText 150 = .ok (.aload_n 1, 1) := dc_43 (lxX6_copyText 9 6 rfl)
set_option maxRecDepth 20000 in
theorem dX6_copyText_151 : decode cX6_copyText 151 = .ok (.invokevirtual 73, 3) := dc_182 0 73 (lxX6_copyText 9 7 rfl) (lxX6_copyText 9 8 rfl) (lxX6_copyText 9 9 rfl)
set_option maxRecDepth 20000 in
theorem dX6_copyText_154 : decode cX6_copyText 154 = .ok (.invokevirtual 95, 3) := dc_182 0 95 (lxX6_copyText 9 10 rfl) (lxX6_copyText 9 11 rfl) (lxX6_copyText 9 12 rfl)
set_option maxRecDepth 20000 in
theorem dX6_copyText_157 : decode cX6_copyText 157 = .ok (.aload_n 3, 1) := dc_45 (lxX6_copyText 9 13 rfl)
set_option maxRecDepth 20000 in
theorem dX6_copyText_158 : decode cX6_copyText 158 = .ok (.aload_n 0, 1) := dc_42 (lxX6_copyText 9 14 rfl)
set_option maxRecDepth 20000 in
theorem dX6_copyText_159 : decode cX6_copyText 159 = .ok (.getfield 35, 3) := dc_180 0 35 (lxX6_copyText 9 15 rfl) (lxX6_copyText 10 0 rfl) (lxX6_copyText 10 1 rfl)
set_option maxRecDepth 20000 in
theorem dX6_copyText_162 : decode cX6_copyText 162 = .ok (.invokevirtual 171, 3) := dc_182 0 171 (lxX6_copyText 10 2 rfl) (lxX6_copyText 10 3 rfl) (lxX6_copyText 10 4 rfl)
set_option maxRecDepth 20000 in
theorem dX6_copyText_165 : decode cX6_copyText 165 = .ok (.return_, 1) := dc_177 (lxX6_copyText 10 5 rfl)
noncomputable def sgX6_firstUnlike : List (List Cond) := [[.code yX6_firstUnlike cX6_firstUnlike 4 (some .int)], wsX6_firstUnlike_r1, wsX6_firstUnlike_r2, wsX20, wsX50]
theorem seX6_firstUnlike : sgX6_firstUnlike.flatten = wsX6_firstUnlike := by simp only [sgX6_firstUnlike, wsX6_firstUnlike, List.flatten_cons, List.flatten_nil, List.append_assoc, List.append_nil, List.cons_append, List.nil_append]
set_option maxRecDepth 20000 in
theorem ggX6_firstUnlike_X2_size : GoodIn wsX6_firstUnlike wsX2_size := goodIn_s seX6_firstUnlike _ [pq_1_9, pq_1_10, pq_3_0, pq_3_1] (by rfl) (by decide +kernel)
set_option maxRecDepth 20000 in
theorem gX6_firstUnlike_X2_size_u165X2 : GoodIn wsX6_firstUnlike (va_wsU RX6 165 RX2 "Sashwords$Text" ⟨"Sashwords$Text", "size", "()I"⟩ yX2_size wsX2_size) := goodIn_app (goodIn_s seX6_firstUnlike _ [pq_1_4, pq_1_5, pq_1_6, pq_1_7, pq_1_8] (by rfl) (by decide +kernel)) ggX6_firstUnlike_X2_size
set_option maxRecDepth 20000 in
theorem ggX6_firstUnlike_X5_size : GoodIn wsX6_firstUnlike wsX5_size := goodIn_s seX6_firstUnlike _ [pq_1_14, pq_1_15, pq_1_16, pq_4_0, pq_4_1, pq_4_2, pq_4_3, pq_4_4, pq_4_5] (by rfl) (by decide +kernel)
set_option maxRecDepth 20000 in
theorem gX6_firstUnlike_X5_size_u165X5 : GoodIn wsX6_firstUnlike (va_wsU RX6 165 RX5 "Sashwords$Text" ⟨"Sashwords$Text", "size", "()I"⟩ yX5_size wsX5_size) := goodIn_app (goodIn_s seX6_firstUnlike _ [pq_1_4, pq_1_5, pq_1_11, pq_1_12, pq_1_13] (by rfl) (by decide +kernel)) ggX6_firstUnlike_X5_size
set_option maxRecDepth 20000 in
theorem ggX6_firstUnlike_X2_at : GoodIn wsX6_firstUnlike wsX2_at := goodIn_s seX6_firstUnlike _ [pq_1_21, pq_1_10, pq_1_22, pq_3_0, pq_3_1] (by rfl) (by decide +kernel)
set_option maxRecDepth 20000 in
theorem gX6_firstUnlike_X2_at_u334X2 : GoodIn wsX6_firstUnlike (va_wsU RX6 334 RX2 "Sashwords$Text" ⟨"Sashwords$Text", "at", "(I)I"⟩ yX2_at wsX2_at) := goodIn_app (goodIn_s seX6_firstUnlike _ [pq_1_17, pq_1_18, pq_1_19, pq_1_20, pq_1_8] (by rfl) (by decide +kernel)) ggX6_firstUnlike_X2_at
set_option maxRecDepth 20000 in
theorem ggX6_firstUnlike_X5_at : GoodIn wsX6_firstUnlike wsX5_at := goodIn_s seX6_firstUnlike _ [pq_2_1, pq_1_15, pq_1_16, pq_2_2, pq_2_3, pq_2_4, pq_1_13, pq_2_5, pq_2_6, pq_2_7, pq_4_0, pq_4_1, pq_4_2, pq_4_3, pq_4_4, pq_4_5] (by rfl) (by decide +kernel)
set_option maxRecDepth 20000 in
theorem gX6_firstUnlike_X5_at_u334X5 : GoodIn wsX6_firstUnlike (va_wsU RX6 334 RX5 "Sashwords$Text" ⟨"Sashwords$Text", "at", "(I)I"⟩ yX5_at wsX5_at) := goodIn_app (goodIn_s seX6_firstUnlike _ [pq_1_17, pq_1_18, pq_1_23, pq_2_0, pq_1_13] (by rfl) (by decide +kernel)) ggX6_firstUnlike_X5_at
def lb_sgX6_firstUnlike : List (List UInt8) := [[42, 182, 0, 165, 43, 182, 0, 165, 184, 1, 88, 61, 3, 62, 29, 28], [162, 0, 24, 42, 29, 182, 1, 78, 43, 29, 182, 1, 78, 159, 0, 5], [29, 172, 132, 3, 1, 167, 255, 233, 2, 172]]
set_option maxRecDepth 100000 in
theorem lb_seX6_firstUnlike : cX6_firstUnlike.data.toList = lb_sgX6_firstUnlike.flatten := by decide +kernel
theorem lb_lnX6_firstUnlike : ∀ s ∈ lb_sgX6_firstUnlike.dropLast, s.length = 16 := by decide +kernel
theorem lxX6_firstUnlike (k j : Nat) {b : UInt8} (h : (lb_sgX6_firstUnlike[k]?).bind (fun s => s[j]?) = some b) : lb_at cX6_firstUnlike (16 * k + j) b := by
  unfold lb_at
  rw [lb_seX6_firstUnlike]
  exact lb_flat 16 lb_sgX6_firstUnlike k j b lb_lnX6_firstUnlike h
set_option maxRecDepth 20000 in
theorem dX6_firstUnlike_0 : decode cX6_firstUnlike 0 = .ok (.aload_n 0, 1) := dc_42 (lxX6_firstUnlike 0 0 rfl)
set_option maxRecDepth 20000 in
theorem dX6_firstUnlike_1 : decode cX6_firstUnlike 1 = .ok (.invokevirtual 165, 3) := dc_182 0 165 (lxX6_firstUnlike 0 1 rfl) (lxX6_firstUnlike 0 2 rfl) (lxX6_firstUnlike 0 3 rfl)
set_option maxRecDepth 20000 in
theorem dX6_firstUnlike_4 : decode cX6_firstUnlike 4 = .ok (.aload_n 1, 1) := dc_43 (lxX6_firstUnlike 0 4 rfl)
set_option maxRecDepth 20000 in
theorem dX6_firstUnlike_5 : decode cX6_firstUnlike 5 = .ok (.invokevirtual 165, 3) := dc_182 0 165 (lxX6_firstUnlike 0 5 rfl) (lxX6_firstUnlike 0 6 rfl) (lxX6_firstUnlike 0 7 rfl)
set_option maxRecDepth 20000 in
theorem dX6_firstUnlike_8 : decode cX6_firstUnlike 8 = .ok (.invokestatic 344, 3) := dc_184 1 88 (lxX6_firstUnlike 0 8 rfl) (lxX6_firstUnlike 0 9 rfl) (lxX6_firstUnlike 0 10 rfl)
set_option maxRecDepth 20000 in
theorem dX6_firstUnlike_11 : decode cX6_firstUnlike 11 = .ok (.istore_n 2, 1) := dc_61 (lxX6_firstUnlike 0 11 rfl)
set_option maxRecDepth 20000 in
theorem dX6_firstUnlike_12 : decode cX6_firstUnlike 12 = .ok (.iconst 0, 1) := dc_3 (lxX6_firstUnlike 0 12 rfl)
set_option maxRecDepth 20000 in
theorem dX6_firstUnlike_13 : decode cX6_firstUnlike 13 = .ok (.istore_n 3, 1) := dc_62 (lxX6_firstUnlike 0 13 rfl)
set_option maxRecDepth 20000 in
theorem dX6_firstUnlike_14 : decode cX6_firstUnlike 14 = .ok (.iload_n 3, 1) := dc_29 (lxX6_firstUnlike 0 14 rfl)
set_option maxRecDepth 20000 in
theorem dX6_firstUnlike_15 : decode cX6_firstUnlike 15 = .ok (.iload_n 2, 1) := dc_28 (lxX6_firstUnlike 0 15 rfl)
set_option maxRecDepth 20000 in
theorem dX6_firstUnlike_16 : decode cX6_firstUnlike 16 = .ok (.if_icmp .ge 24, 3) := dc_162 0 24 (lxX6_firstUnlike 1 0 rfl) (lxX6_firstUnlike 1 1 rfl) (lxX6_firstUnlike 1 2 rfl)
set_option maxRecDepth 20000 in
theorem dX6_firstUnlike_19 : decode cX6_firstUnlike 19 = .ok (.aload_n 0, 1) := dc_42 (lxX6_firstUnlike 1 3 rfl)
set_option maxRecDepth 20000 in
theorem dX6_firstUnlike_20 : decode cX6_firstUnlike 20 = .ok (.iload_n 3, 1) := dc_29 (lxX6_firstUnlike 1 4 rfl)
set_option maxRecDepth 20000 in
theorem dX6_firstUnlike_21 : decode cX6_firstUnlike 21 = .ok (.invokevirtual 334, 3) := dc_182 1 78 (lxX6_firstUnlike 1 5 rfl) (lxX6_firstUnlike 1 6 rfl) (lxX6_firstUnlike 1 7 rfl)
set_option maxRecDepth 20000 in
theorem dX6_firstUnlike_24 : decode cX6_firstUnlike 24 = .ok (.aload_n 1, 1) := dc_43 (lxX6_firstUnlike 1 8 rfl)
set_option maxRecDepth 20000 in
theorem dX6_firstUnlike_25 : decode cX6_firstUnlike 25 = .ok (.iload_n 3, 1) := dc_29 (lxX6_firstUnlike 1 9 rfl)
set_option maxRecDepth 20000 in
theorem dX6_firstUnlike_26 : decode cX6_firstUnlike 26 = .ok (.invokevirtual 334, 3) := dc_182 1 78 (lxX6_firstUnlike 1 10 rfl) (lxX6_firstUnlike 1 11 rfl) (lxX6_firstUnlike 1 12 rfl)
set_option maxRecDepth 20000 in
theorem dX6_firstUnlike_29 : decode cX6_firstUnlike 29 = .ok (.if_icmp .eq 5, 3) := dc_159 0 5 (lxX6_firstUnlike 1 13 rfl) (lxX6_firstUnlike 1 14 rfl) (lxX6_firstUnlike 1 15 rfl)
set_option maxRecDepth 20000 in
theorem dX6_firstUnlike_32 : decode cX6_firstUnlike 32 = .ok (.iload_n 3, 1) := dc_29 (lxX6_firstUnlike 2 0 rfl)
set_option maxRecDepth 20000 in
theorem dX6_firstUnlike_33 : decode cX6_firstUnlike 33 = .ok (.ireturn, 1) := dc_172 (lxX6_firstUnlike 2 1 rfl)
set_option maxRecDepth 20000 in
theorem dX6_firstUnlike_34 : decode cX6_firstUnlike 34 = .ok (.iinc 3 1, 3) := dc_132 3 1 (lxX6_firstUnlike 2 2 rfl) (lxX6_firstUnlike 2 3 rfl) (lxX6_firstUnlike 2 4 rfl)
set_option maxRecDepth 20000 in
theorem dX6_firstUnlike_37 : decode cX6_firstUnlike 37 = .ok (.goto (-23), 3) := dc_167 255 233 (lxX6_firstUnlike 2 5 rfl) (lxX6_firstUnlike 2 6 rfl) (lxX6_firstUnlike 2 7 rfl)
set_option maxRecDepth 20000 in
theorem dX6_firstUnlike_40 : decode cX6_firstUnlike 40 = .ok (.iconst (-1), 1) := dc_2 (lxX6_firstUnlike 2 8 rfl)
set_option maxRecDepth 20000 in
theorem dX6_firstUnlike_41 : decode cX6_firstUnlike 41 = .ok (.ireturn, 1) := dc_172 (lxX6_firstUnlike 2 9 rfl)
noncomputable def sgX6_greatestBorder : List (List Cond) := [[.code yX6_greatestBorder cX6_greatestBorder 2 (some .int)], wsX6_greatestBorder_r1, wsX6_greatestBorder_r2, wsX60, wsX00, wsX20, wsX50]
theorem seX6_greatestBorder : sgX6_greatestBorder.flatten = wsX6_greatestBorder := by simp only [sgX6_greatestBorder, wsX6_greatestBorder, List.flatten_cons, List.flatten_nil, List.append_assoc, List.append_nil, List.cons_append, List.nil_append]
set_option maxRecDepth 20000 in
theorem ggX6_greatestBorder_X0_measure : GoodIn wsX6_greatestBorder wsX0_measure := goodIn_s seX6_greatestBorder _ [pq_1_5, pq_1_6, pq_1_7, pq_1_8, pq_1_9, pq_1_10, pq_1_11, pq_1_12, pq_1_13, pq_1_14, pq_1_15, pq_1_16, pq_1_17, pq_1_18, pq_1_19, pq_1_20, pq_1_21, pq_1_22, pq_1_23, pq_2_0, pq_2_1, pq_2_2, pq_2_3, pq_2_4, pq_2_5, pq_2_6, pq_2_7, pq_2_8, pq_2_9, pq_2_10, pq_2_11, pq_2_12, pq_2_13, pq_1_4, pq_2_14, pq_2_15, pq_2_16, pq_2_17, pq_2_18, pq_4_0, pq_4_1, pq_4_2, pq_5_0, pq_5_1, pq_6_0, pq_6_1, pq_6_2, pq_6_3, pq_6_4, pq_6_5] (by rfl) (by decide +kernel)
set_option maxRecDepth 20000 in
theorem gX6_greatestBorder_X0_measure : GoodIn wsX6_greatestBorder (wsV RX6 234 RX0 yX0_measure wsX0_measure) := goodIn_app (goodIn_s seX6_greatestBorder _ [pq_1_1, pq_1_2, pq_1_3, pq_1_4] (by rfl) (by decide +kernel)) ggX6_greatestBorder_X0_measure
set_option maxRecDepth 20000 in
theorem ggX6_greatestBorder_X2_size : GoodIn wsX6_greatestBorder wsX2_size := goodIn_s seX6_greatestBorder _ [pq_1_12, pq_1_13, pq_5_0, pq_5_1] (by rfl) (by decide +kernel)
set_option maxRecDepth 20000 in
theorem gX6_greatestBorder_X2_size_u165X2 : GoodIn wsX6_greatestBorder (va_wsU RX6 165 RX2 "Sashwords$Text" ⟨"Sashwords$Text", "size", "()I"⟩ yX2_size wsX2_size) := goodIn_app (goodIn_s seX6_greatestBorder _ [pq_2_19, pq_1_8, pq_1_9, pq_1_10, pq_1_11] (by rfl) (by decide +kernel)) ggX6_greatestBorder_X2_size
set_option maxRecDepth 20000 in
theorem ggX6_greatestBorder_X5_size : GoodIn wsX6_greatestBorder wsX5_size := goodIn_s seX6_greatestBorder _ [pq_1_17, pq_1_18, pq_1_19, pq_6_0, pq_6_1, pq_6_2, pq_6_3, pq_6_4, pq_6_5] (by rfl) (by decide +kernel)
set_option maxRecDepth 20000 in
theorem gX6_greatestBorder_X5_size_u165X5 : GoodIn wsX6_greatestBorder (va_wsU RX6 165 RX5 "Sashwords$Text" ⟨"Sashwords$Text", "size", "()I"⟩ yX5_size wsX5_size) := goodIn_app (goodIn_s seX6_greatestBorder _ [pq_2_19, pq_1_8, pq_1_14, pq_1_15, pq_1_16] (by rfl) (by decide +kernel)) ggX6_greatestBorder_X5_size
set_option maxRecDepth 20000 in
theorem ggX6_greatestBorder_X0_greatestOf : GoodIn wsX6_greatestBorder wsX0_greatestOf := goodIn_s seX6_greatestBorder _ [pq_2_18, pq_1_6, pq_4_0, pq_4_1, pq_4_2] (by rfl) (by decide +kernel)
set_option maxRecDepth 20000 in
theorem gX6_greatestBorder_X0_greatestOf : GoodIn wsX6_greatestBorder (wsV RX6 237 RX0 yX0_greatestOf wsX0_greatestOf) := goodIn_app (goodIn_s seX6_greatestBorder _ [pq_2_20, pq_2_16, pq_2_17, pq_1_4] (by rfl) (by decide +kernel)) ggX6_greatestBorder_X0_greatestOf
def lb_sgX6_greatestBorder : List (List UInt8) := [[42, 180, 0, 58, 43, 182, 0, 234, 42, 180, 0, 58, 43, 182, 0, 165], [182, 0, 237, 172]]
set_option maxRecDepth 100000 in
theorem lb_seX6_greatestBorder : cX6_greatestBorder.data.toList = lb_sgX6_greatestBorder.flatten := by decide +kernel
theorem lb_lnX6_greatestBorder : ∀ s ∈ lb_sgX6_greatestBorder.dropLast, s.length = 16 := by decide +kernel
theorem lxX6_greatestBorder (k j : Nat) {b : UInt8} (h : (lb_sgX6_greatestBorder[k]?).bind (fun s => s[j]?) = some b) : lb_at cX6_greatestBorder (16 * k + j) b := by
  unfold lb_at
  rw [lb_seX6_greatestBorder]
  exact lb_flat 16 lb_sgX6_greatestBorder k j b lb_lnX6_greatestBorder h
set_option maxRecDepth 20000 in
theorem dX6_greatestBorder_0 : decode cX6_greatestBorder 0 = .ok (.aload_n 0, 1) := dc_42 (lxX6_greatestBorder 0 0 rfl)
set_option maxRecDepth 20000 in
theorem dX6_greatestBorder_1 : decode cX6_greatestBorder 1 = .ok (.getfield 58, 3) := dc_180 0 58 (lxX6_greatestBorder 0 1 rfl) (lxX6_greatestBorder 0 2 rfl) (lxX6_greatestBorder 0 3 rfl)
set_option maxRecDepth 20000 in
theorem dX6_greatestBorder_4 : decode cX6_greatestBorder 4 = .ok (.aload_n 1, 1) := dc_43 (lxX6_greatestBorder 0 4 rfl)
set_option maxRecDepth 20000 in
theorem dX6_greatestBorder_5 : decode cX6_greatestBorder 5 = .ok (.invokevirtual 234, 3) := dc_182 0 234 (lxX6_greatestBorder 0 5 rfl) (lxX6_greatestBorder 0 6 rfl) (lxX6_greatestBorder 0 7 rfl)
set_option maxRecDepth 20000 in
theorem dX6_greatestBorder_8 : decode cX6_greatestBorder 8 = .ok (.aload_n 0, 1) := dc_42 (lxX6_greatestBorder 0 8 rfl)
set_option maxRecDepth 20000 in
theorem dX6_greatestBorder_9 : decode cX6_greatestBorder 9 = .ok (.getfield 58, 3) := dc_180 0 58 (lxX6_greatestBorder 0 9 rfl) (lxX6_greatestBorder 0 10 rfl) (lxX6_greatestBorder 0 11 rfl)
set_option maxRecDepth 20000 in
theorem dX6_greatestBorder_12 : decode cX6_greatestBorder 12 = .ok (.aload_n 1, 1) := dc_43 (lxX6_greatestBorder 0 12 rfl)
set_option maxRecDepth 20000 in
theorem dX6_greatestBorder_13 : decode cX6_greatestBorder 13 = .ok (.invokevirtual 165, 3) := dc_182 0 165 (lxX6_greatestBorder 0 13 rfl) (lxX6_greatestBorder 0 14 rfl) (lxX6_greatestBorder 0 15 rfl)
set_option maxRecDepth 20000 in
theorem dX6_greatestBorder_16 : decode cX6_greatestBorder 16 = .ok (.invokevirtual 237, 3) := dc_182 0 237 (lxX6_greatestBorder 1 0 rfl) (lxX6_greatestBorder 1 1 rfl) (lxX6_greatestBorder 1 2 rfl)
set_option maxRecDepth 20000 in
theorem dX6_greatestBorder_19 : decode cX6_greatestBorder 19 = .ok (.ireturn, 1) := dc_172 (lxX6_greatestBorder 1 3 rfl)
noncomputable def sgX6_readsAlike : List (List Cond) := [[.code yX6_readsAlike cX6_readsAlike 3 (some .boolean)], wsX6_readsAlike_r1, wsX6_readsAlike_r2, wsX6_readsAlike_r3, wsX6_readsAlike_r4, wsX60, wsX50, wsX20]
theorem seX6_readsAlike : sgX6_readsAlike.flatten = wsX6_readsAlike := by simp only [sgX6_readsAlike, wsX6_readsAlike, List.flatten_cons, List.flatten_nil, List.append_assoc, List.append_nil, List.cons_append, List.nil_append]
set_option maxRecDepth 20000 in
theorem ggX6_readsAlike_X6_copyText : GoodIn wsX6_readsAlike wsX6_copyText := goodIn_s seX6_readsAlike _ [pq_1_6, pq_1_7, pq_1_8, pq_1_9, pq_1_10, pq_1_11, pq_1_12, pq_1_13, pq_1_14, pq_1_15, pq_1_16, pq_1_17, pq_1_18, pq_1_19, pq_1_20, pq_1_21, pq_1_22, pq_1_23, pq_2_0, pq_2_1, pq_2_2, pq_2_3, pq_2_4, pq_2_5, pq_2_6, pq_2_7, pq_2_8, pq_2_9, pq_2_10, pq_2_11, pq_2_12, pq_2_13, pq_2_14, pq_2_15, pq_2_16, pq_2_17, pq_2_18, pq_2_19, pq_2_20, pq_2_21, pq_2_22, pq_2_23, pq_3_0, pq_3_1, pq_3_2, pq_3_3, pq_3_4, pq_3_5, pq_3_6, pq_3_7, pq_3_8, pq_3_9, pq_3_10, pq_3_11, pq_3_12, pq_3_13, pq_3_14, pq_3_15, pq_3_16, pq_3_17, pq_3_18, pq_3_19, pq_3_20, pq_6_0, pq_6_1, pq_6_2, pq_6_3, pq_6_4, pq_6_5, pq_5_0, pq_5_1, pq_5_2, pq_5_3, pq_5_4, pq_5_5, pq_5_6, pq_5_7, pq_5_8, pq_5_9, pq_5_10, pq_5_11, pq_5_12, pq_5_13, pq_7_0, pq_7_1] (by rfl) (by decide +kernel)
set_option maxRecDepth 20000 in
theorem gX6_readsAlike_X6_copyText : GoodIn wsX6_readsAlike (wsV RX6 212 RX6 yX6_copyText wsX6_copyText) := goodIn_app (goodIn_s seX6_readsAlike _ [pq_1_2, pq_1_3, pq_1_4, pq_1_5] (by rfl) (by decide +kernel)) ggX6_readsAlike_X6_copyText
set_option maxRecDepth 20000 in
theorem ggX6_readsAlike_X6_firstUnlike : GoodIn wsX6_readsAlike wsX6_firstUnlike := goodIn_s seX6_readsAlike _ [pq_3_23, pq_4_0, pq_4_1, pq_4_2, pq_4_3, pq_4_4, pq_1_19, pq_1_20, pq_1_21, pq_1_11, pq_1_22, pq_1_13, pq_1_23, pq_2_0, pq_2_1, pq_2_2, pq_2_3, pq_2_4, pq_4_5, pq_2_6, pq_2_7, pq_2_8, pq_2_9, pq_2_10, pq_2_11, pq_2_12, pq_2_13, pq_2_14, pq_2_15, pq_2_16, pq_2_17, pq_2_18, pq_2_19, pq_7_0, pq_7_1, pq_6_0, pq_6_1, pq_6_2, pq_6_3, pq_6_4, pq_6_5] (by rfl) (by decide +kernel)
set_option maxRecDepth 20000 in
theorem gX6_readsAlike_X6_firstUnlike : GoodIn wsX6_readsAlike (va_wsS RX6 252 yX6_firstUnlike wsX6_firstUnlike) := goodIn_app (goodIn_s seX6_readsAlike _ [pq_3_21, pq_3_22, pq_1_5] (by rfl) (by decide +kernel)) ggX6_readsAlike_X6_firstUnlike
def lb_sgX6_readsAlike : List (List UInt8) := [[42, 43, 3, 42, 180, 0, 39, 182, 0, 212, 4, 61, 28, 6, 163, 0], [36, 42, 43, 28, 42, 180, 0, 42, 182, 0, 212, 42, 180, 0, 39, 42], [180, 0, 42, 184, 0, 252, 2, 159, 0, 5, 3, 172, 132, 2, 1, 167], [255, 221, 4, 172]]
set_option maxRecDepth 100000 in
theorem lb_seX6_readsAlike : cX6_readsAlike.data.toList = lb_sgX6_readsAlike.flatten := by decide +kernel
theorem lb_lnX6_readsAlike : ∀ s ∈ lb_sgX6_readsAlike.dropLast, s.length = 16 := by decide +kernel
theorem lxX6_readsAlike (k j : Nat) {b : UInt8} (h : (lb_sgX6_readsAlike[k]?).bind (fun s => s[j]?) = some b) : lb_at cX6_readsAlike (16 * k + j) b := by
  unfold lb_at
  rw [lb_seX6_readsAlike]
  exact lb_flat 16 lb_sgX6_readsAlike k j b lb_lnX6_readsAlike h
set_option maxRecDepth 20000 in
theorem dX6_readsAlike_0 : decode cX6_readsAlike 0 = .ok (.aload_n 0, 1) := dc_42 (lxX6_readsAlike 0 0 rfl)
set_option maxRecDepth 20000 in
theorem dX6_readsAlike_1 : decode cX6_readsAlike 1 = .ok (.aload_n 1, 1) := dc_43 (lxX6_readsAlike 0 1 rfl)
set_option maxRecDepth 20000 in
theorem dX6_readsAlike_2 : decode cX6_readsAlike 2 = .ok (.iconst 0, 1) := dc_3 (lxX6_readsAlike 0 2 rfl)
set_option maxRecDepth 20000 in
theorem dX6_readsAlike_3 : decode cX6_readsAlike 3 = .ok (.aload_n 0, 1) := dc_42 (lxX6_readsAlike 0 3 rfl)
set_option maxRecDepth 20000 in
theorem dX6_readsAlike_4 : decode cX6_readsAlike 4 = .ok (.getfield 39, 3) := dc_180 0 39 (lxX6_readsAlike 0 4 rfl) (lxX6_readsAlike 0 5 rfl) (lxX6_readsAlike 0 6 rfl)
set_option maxRecDepth 20000 in
theorem dX6_readsAlike_7 : decode cX6_readsAlike 7 = .ok (.invokevirtual 212, 3) := dc_182 0 212 (lxX6_readsAlike 0 7 rfl) (lxX6_readsAlike 0 8 rfl) (lxX6_readsAlike 0 9 rfl)
set_option maxRecDepth 20000 in
theorem dX6_readsAlike_10 : decode cX6_readsAlike 10 = .ok (.iconst 1, 1) := dc_4 (lxX6_readsAlike 0 10 rfl)
set_option maxRecDepth 20000 in
theorem dX6_readsAlike_11 : decode cX6_readsAlike 11 = .ok (.istore_n 2, 1) := dc_61 (lxX6_readsAlike 0 11 rfl)
set_option maxRecDepth 20000 in
theorem dX6_readsAlike_12 : decode cX6_readsAlike 12 = .ok (.iload_n 2, 1) := dc_28 (lxX6_readsAlike 0 12 rfl)
set_option maxRecDepth 20000 in
theorem dX6_readsAlike_13 : decode cX6_readsAlike 13 = .ok (.iconst 3, 1) := dc_6 (lxX6_readsAlike 0 13 rfl)
set_option maxRecDepth 20000 in
theorem dX6_readsAlike_14 : decode cX6_readsAlike 14 = .ok (.if_icmp .gt 36, 3) := dc_163 0 36 (lxX6_readsAlike 0 14 rfl) (lxX6_readsAlike 0 15 rfl) (lxX6_readsAlike 1 0 rfl)
set_option maxRecDepth 20000 in
theorem dX6_readsAlike_17 : decode cX6_readsAlike 17 = .ok (.aload_n 0, 1) := dc_42 (lxX6_readsAlike 1 1 rfl)
set_option maxRecDepth 20000 in
theorem dX6_readsAlike_18 : decode cX6_readsAlike 18 = .ok (.aload_n 1, 1) := dc_43 (lxX6_readsAlike 1 2 rfl)
set_option maxRecDepth 20000 in
theorem dX6_readsAlike_19 : decode cX6_readsAlike 19 = .ok (.iload_n 2, 1) := dc_28 (lxX6_readsAlike 1 3 rfl)
set_option maxRecDepth 20000 in
theorem dX6_readsAlike_20 : decode cX6_readsAlike 20 = .ok (.aload_n 0, 1) := dc_42 (lxX6_readsAlike 1 4 rfl)
set_option maxRecDepth 20000 in
theorem dX6_readsAlike_21 : decode cX6_readsAlike 21 = .ok (.getfield 42, 3) := dc_180 0 42 (lxX6_readsAlike 1 5 rfl) (lxX6_readsAlike 1 6 rfl) (lxX6_readsAlike 1 7 rfl)
set_option maxRecDepth 20000 in
theorem dX6_readsAlike_24 : decode cX6_readsAlike 24 = .ok (.invokevirtual 212, 3) := dc_182 0 212 (lxX6_readsAlike 1 8 rfl) (lxX6_readsAlike 1 9 rfl) (lxX6_readsAlike 1 10 rfl)
set_option maxRecDepth 20000 in
theorem dX6_readsAlike_27 : decode cX6_readsAlike 27 = .ok (.aload_n 0, 1) := dc_42 (lxX6_readsAlike 1 11 rfl)
set_option maxRecDepth 20000 in
theorem dX6_readsAlike_28 : decode cX6_readsAlike 28 = .ok (.getfield 39, 3) := dc_180 0 39 (lxX6_readsAlike 1 12 rfl) (lxX6_readsAlike 1 13 rfl) (lxX6_readsAlike 1 14 rfl)
set_option maxRecDepth 20000 in
theorem dX6_readsAlike_31 : decode cX6_readsAlike 31 = .ok (.aload_n 0, 1) := dc_42 (lxX6_readsAlike 1 15 rfl)
set_option maxRecDepth 20000 in
theorem dX6_readsAlike_32 : decode cX6_readsAlike 32 = .ok (.getfield 42, 3) := dc_180 0 42 (lxX6_readsAlike 2 0 rfl) (lxX6_readsAlike 2 1 rfl) (lxX6_readsAlike 2 2 rfl)
set_option maxRecDepth 20000 in
theorem dX6_readsAlike_35 : decode cX6_readsAlike 35 = .ok (.invokestatic 252, 3) := dc_184 0 252 (lxX6_readsAlike 2 3 rfl) (lxX6_readsAlike 2 4 rfl) (lxX6_readsAlike 2 5 rfl)
set_option maxRecDepth 20000 in
theorem dX6_readsAlike_38 : decode cX6_readsAlike 38 = .ok (.iconst (-1), 1) := dc_2 (lxX6_readsAlike 2 6 rfl)
set_option maxRecDepth 20000 in
theorem dX6_readsAlike_39 : decode cX6_readsAlike 39 = .ok (.if_icmp .eq 5, 3) := dc_159 0 5 (lxX6_readsAlike 2 7 rfl) (lxX6_readsAlike 2 8 rfl) (lxX6_readsAlike 2 9 rfl)
set_option maxRecDepth 20000 in
theorem dX6_readsAlike_42 : decode cX6_readsAlike 42 = .ok (.iconst 0, 1) := dc_3 (lxX6_readsAlike 2 10 rfl)
set_option maxRecDepth 20000 in
theorem dX6_readsAlike_43 : decode cX6_readsAlike 43 = .ok (.ireturn, 1) := dc_172 (lxX6_readsAlike 2 11 rfl)
set_option maxRecDepth 20000 in
theorem dX6_readsAlike_44 : decode cX6_readsAlike 44 = .ok (.iinc 2 1, 3) := dc_132 2 1 (lxX6_readsAlike 2 12 rfl) (lxX6_readsAlike 2 13 rfl) (lxX6_readsAlike 2 14 rfl)
set_option maxRecDepth 20000 in
theorem dX6_readsAlike_47 : decode cX6_readsAlike 47 = .ok (.goto (-35), 3) := dc_167 255 221 (lxX6_readsAlike 2 15 rfl) (lxX6_readsAlike 3 0 rfl) (lxX6_readsAlike 3 1 rfl)
set_option maxRecDepth 20000 in
theorem dX6_readsAlike_50 : decode cX6_readsAlike 50 = .ok (.iconst 1, 1) := dc_4 (lxX6_readsAlike 3 2 rfl)
set_option maxRecDepth 20000 in
theorem dX6_readsAlike_51 : decode cX6_readsAlike 51 = .ok (.ireturn, 1) := dc_172 (lxX6_readsAlike 3 3 rfl)
noncomputable def sgX6_keptLiesAlike : List (List Cond) := [[.code yX6_keptLiesAlike cX6_keptLiesAlike 3 (some .boolean)], wsX6_keptLiesAlike_r1, wsX6_keptLiesAlike_r2, wsX6_keptLiesAlike_r3, wsX6_keptLiesAlike_r4, wsX60, wsX30, wsX20, wsX50, wsX00]
theorem seX6_keptLiesAlike : sgX6_keptLiesAlike.flatten = wsX6_keptLiesAlike := by simp only [sgX6_keptLiesAlike, wsX6_keptLiesAlike, List.flatten_cons, List.flatten_nil, List.append_assoc, List.append_nil, List.cons_append, List.nil_append]
set_option maxRecDepth 20000 in
theorem ggX6_keptLiesAlike_X2_becomeText : GoodIn wsX6_keptLiesAlike wsX2_becomeText := goodIn_s seX6_keptLiesAlike _ [pq_1_8, pq_1_9, pq_1_10, pq_1_11, pq_1_7, pq_1_12, pq_1_13, pq_1_14, pq_1_15, pq_1_16, pq_1_17, pq_1_18, pq_1_19, pq_1_20, pq_1_21, pq_1_22, pq_1_23, pq_2_0, pq_2_1, pq_2_2, pq_2_3, pq_2_4, pq_2_5, pq_2_6, pq_2_7, pq_2_8, pq_2_9, pq_2_10, pq_2_11, pq_2_12, pq_2_13, pq_2_14, pq_2_15, pq_2_16, pq_2_17, pq_2_18, pq_2_19, pq_2_20, pq_2_21, pq_2_22, pq_2_23, pq_7_0, pq_7_1, pq_8_0, pq_8_1, pq_8_2, pq_8_3, pq_8_4, pq_8_5] (by rfl) (by decide +kernel)
set_option maxRecDepth 20000 in
theorem gX6_keptLiesAlike_X2_becomeText : GoodIn wsX6_keptLiesAlike (wsV RX6 160 RX2 yX2_becomeText wsX2_becomeText) := goodIn_app (goodIn_s seX6_keptLiesAlike _ [pq_1_4, pq_1_5, pq_1_6, pq_1_7] (by rfl) (by decide +kernel)) ggX6_keptLiesAlike_X2_becomeText
set_option maxRecDepth 20000 in
theorem ggX6_keptLiesAlike_X3_seek : GoodIn wsX6_keptLiesAlike wsX3_seek := goodIn_s seX6_keptLiesAlike _ [pq_3_4, pq_3_5, pq_3_6, pq_3_7, pq_3_8, pq_3_9, pq_3_10, pq_3_11, pq_3_12, pq_3_13, pq_1_19, pq_1_20, pq_1_21, pq_1_7, pq_1_22, pq_1_13, pq_1_23, pq_2_0, pq_2_1, pq_2_2, pq_2_3, pq_2_4, pq_3_14, pq_2_6, pq_2_7, pq_2_8, pq_2_9, pq_2_10, pq_2_11, pq_2_12, pq_2_13, pq_2_14, pq_2_15, pq_2_16, pq_2_17, pq_2_18, pq_2_19, pq_3_15, pq_3_16, pq_3_17, pq_3_18, pq_3_19, pq_3_20, pq_3_21, pq_3_22, pq_3_23, pq_4_0, pq_4_1, pq_4_2, pq_3_3, pq_4_3, pq_4_4, pq_4_5, pq_4_6, pq_6_0, pq_6_1, pq_6_2, pq_9_0, pq_9_1, pq_9_2, pq_7_0, pq_7_1, pq_8_0, pq_8_1, pq_8_2, pq_8_3, pq_8_4, pq_8_5] (by rfl) (by decide +kernel)
set_option maxRecDepth 20000 in
theorem gX6_keptLiesAlike_X3_seek : GoodIn wsX6_keptLiesAlike (wsV RX6 220 RX3 yX3_seek wsX3_seek) := goodIn_app (goodIn_s seX6_keptLiesAlike _ [pq_3_0, pq_3_1, pq_3_2, pq_3_3] (by rfl) (by decide +kernel)) ggX6_keptLiesAlike_X3_seek
set_option maxRecDepth 20000 in
theorem ggX6_keptLiesAlike_X3_foundAt : GoodIn wsX6_keptLiesAlike wsX3_foundAt := goodIn_s seX6_keptLiesAlike _ [pq_4_10, pq_3_5, pq_4_4, pq_6_0, pq_6_1, pq_6_2] (by rfl) (by decide +kernel)
set_option maxRecDepth 20000 in
theorem gX6_keptLiesAlike_X3_foundAt : GoodIn wsX6_keptLiesAlike (wsV RX6 224 RX3 yX3_foundAt wsX3_foundAt) := goodIn_app (goodIn_s seX6_keptLiesAlike _ [pq_4_7, pq_4_8, pq_4_9, pq_3_3] (by rfl) (by decide +kernel)) ggX6_keptLiesAlike_X3_foundAt
def lb_sgX6_keptLiesAlike : List (List UInt8) := [[42, 180, 0, 39, 43, 182, 0, 160, 42, 180, 0, 48, 43, 42, 180, 0], [24, 182, 0, 220, 42, 180, 0, 52, 42, 180, 0, 39, 42, 180, 0, 24], [182, 0, 220, 42, 180, 0, 48, 180, 0, 227, 42, 180, 0, 52, 180, 0], [227, 159, 0, 5, 3, 172, 3, 61, 28, 42, 180, 0, 48, 180, 0, 227], [162, 0, 30, 42, 180, 0, 48, 28, 182, 0, 224, 42, 180, 0, 52, 28], [182, 0, 224, 159, 0, 5, 3, 172, 132, 2, 1, 167, 255, 221, 4, 172]]
set_option maxRecDepth 100000 in
theorem lb_seX6_keptLiesAlike : cX6_keptLiesAlike.data.toList = lb_sgX6_keptLiesAlike.flatten := by decide +kernel
theorem lb_lnX6_keptLiesAlike : ∀ s ∈ lb_sgX6_keptLiesAlike.dropLast, s.length = 16 := by decide +kernel
theorem lxX6_keptLiesAlike (k j : Nat) {b : UInt8} (h : (lb_sgX6_keptLiesAlike[k]?).bind (fun s => s[j]?) = some b) : lb_at cX6_keptLiesAlike (16 * k + j) b := by
  unfold lb_at
  rw [lb_seX6_keptLiesAlike]
  exact lb_flat 16 lb_sgX6_keptLiesAlike k j b lb_lnX6_keptLiesAlike h
set_option maxRecDepth 20000 in
theorem dX6_keptLiesAlike_0 : decode cX6_keptLiesAlike 0 = .ok (.aload_n 0, 1) := dc_42 (lxX6_keptLiesAlike 0 0 rfl)
set_option maxRecDepth 20000 in
theorem dX6_keptLiesAlike_1 : decode cX6_keptLiesAlike 1 = .ok (.getfield 39, 3) := dc_180 0 39 (lxX6_keptLiesAlike 0 1 rfl) (lxX6_keptLiesAlike 0 2 rfl) (lxX6_keptLiesAlike 0 3 rfl)
set_option maxRecDepth 20000 in
theorem dX6_keptLiesAlike_4 : decode cX6_keptLiesAlike 4 = .ok (.aload_n 1, 1) := dc_43 (lxX6_keptLiesAlike 0 4 rfl)
set_option maxRecDepth 20000 in
theorem dX6_keptLiesAlike_5 : decode cX6_keptLiesAlike 5 = .ok (.invokevirtual 160, 3) := dc_182 0 160 (lxX6_keptLiesAlike 0 5 rfl) (lxX6_keptLiesAlike 0 6 rfl) (lxX6_keptLiesAlike 0 7 rfl)
set_option maxRecDepth 20000 in
theorem dX6_keptLiesAlike_8 : decode cX6_keptLiesAlike 8 = .ok (.aload_n 0, 1) := dc_42 (lxX6_keptLiesAlike 0 8 rfl)
set_option maxRecDepth 20000 in
theorem dX6_keptLiesAlike_9 : decode cX6_keptLiesAlike 9 = .ok (.getfield 48, 3) := dc_180 0 48 (lxX6_keptLiesAlike 0 9 rfl) (lxX6_keptLiesAlike 0 10 rfl) (lxX6_keptLiesAlike 0 11 rfl)
set_option maxRecDepth 20000 in
theorem dX6_keptLiesAlike_12 : decode cX6_keptLiesAlike 12 = .ok (.aload_n 1, 1) := dc_43 (lxX6_keptLiesAlike 0 12 rfl)
set_option maxRecDepth 20000 in
theorem dX6_keptLiesAlike_13 : decode cX6_keptLiesAlike 13 = .ok (.aload_n 0, 1) := dc_42 (lxX6_keptLiesAlike 0 13 rfl)
set_option maxRecDepth 20000 in
theorem dX6_keptLiesAlike_14 : decode cX6_keptLiesAlike 14 = .ok (.getfield 24, 3) := dc_180 0 24 (lxX6_keptLiesAlike 0 14 rfl) (lxX6_keptLiesAlike 0 15 rfl) (lxX6_keptLiesAlike 1 0 rfl)
set_option maxRecDepth 20000 in
theorem dX6_keptLiesAlike_17 : decode cX6_keptLiesAlike 17 = .ok (.invokevirtual 220, 3) := dc_182 0 220 (lxX6_keptLiesAlike 1 1 rfl) (lxX6_keptLiesAlike 1 2 rfl) (lxX6_keptLiesAlike 1 3 rfl)
set_option maxRecDepth 20000 in
theorem dX6_keptLiesAlike_20 : decode cX6_keptLiesAlike 20 = .ok (.aload_n 0, 1) := dc_42 (lxX6_keptLiesAlike 1 4 rfl)
set_option maxRecDepth 20000 in
theorem dX6_keptLiesAlike_21 : decode cX6_keptLiesAlike 21 = .ok (.getfield 52, 3) := dc_180 0 52 (lxX6_keptLiesAlike 1 5 rfl) (lxX6_keptLiesAlike 1 6 rfl) (lxX6_keptLiesAlike 1 7 rfl)
set_option maxRecDepth 20000 in
theorem dX6_keptLiesAlike_24 : decode cX6_keptLiesAlike 24 = .ok (.aload_n 0, 1) := dc_42 (lxX6_keptLiesAlike 1 8 rfl)
set_option maxRecDepth 20000 in
theorem dX6_keptLiesAlike_25 : decode cX6_keptLiesAlike 25 = .ok (.getfield 39, 3) := dc_180 0 39 (lxX6_keptLiesAlike 1 9 rfl) (lxX6_keptLiesAlike 1 10 rfl) (lxX6_keptLiesAlike 1 11 rfl)
set_option maxRecDepth 20000 in
theorem dX6_keptLiesAlike_28 : decode cX6_keptLiesAlike 28 = .ok (.aload_n 0, 1) := dc_42 (lxX6_keptLiesAlike 1 12 rfl)
set_option maxRecDepth 20000 in
theorem dX6_keptLiesAlike_29 : decode cX6_keptLiesAlike 29 = .ok (.getfield 24, 3) := dc_180 0 24 (lxX6_keptLiesAlike 1 13 rfl) (lxX6_keptLiesAlike 1 14 rfl) (lxX6_keptLiesAlike 1 15 rfl)
set_option maxRecDepth 20000 in
theorem dX6_keptLiesAlike_32 : decode cX6_keptLiesAlike 32 = .ok (.invokevirtual 220, 3) := dc_182 0 220 (lxX6_keptLiesAlike 2 0 rfl) (lxX6_keptLiesAlike 2 1 rfl) (lxX6_keptLiesAlike 2 2 rfl)
set_option maxRecDepth 20000 in
theorem dX6_keptLiesAlike_35 : decode cX6_keptLiesAlike 35 = .ok (.aload_n 0, 1) := dc_42 (lxX6_keptLiesAlike 2 3 rfl)
set_option maxRecDepth 20000 in
theorem dX6_keptLiesAlike_36 : decode cX6_keptLiesAlike 36 = .ok (.getfield 48, 3) := dc_180 0 48 (lxX6_keptLiesAlike 2 4 rfl) (lxX6_keptLiesAlike 2 5 rfl) (lxX6_keptLiesAlike 2 6 rfl)
set_option maxRecDepth 20000 in
theorem dX6_keptLiesAlike_39 : decode cX6_keptLiesAlike 39 = .ok (.getfield 227, 3) := dc_180 0 227 (lxX6_keptLiesAlike 2 7 rfl) (lxX6_keptLiesAlike 2 8 rfl) (lxX6_keptLiesAlike 2 9 rfl)
set_option maxRecDepth 20000 in
theorem dX6_keptLiesAlike_42 : decode cX6_keptLiesAlike 42 = .ok (.aload_n 0, 1) := dc_42 (lxX6_keptLiesAlike 2 10 rfl)
set_option maxRecDepth 20000 in
theorem dX6_keptLiesAlike_43 : decode cX6_keptLiesAlike 43 = .ok (.getfield 52, 3) := dc_180 0 52 (lxX6_keptLiesAlike 2 11 rfl) (lxX6_keptLiesAlike 2 12 rfl) (lxX6_keptLiesAlike 2 13 rfl)
set_option maxRecDepth 20000 in
theorem dX6_keptLiesAlike_46 : decode cX6_keptLiesAlike 46 = .ok (.getfield 227, 3) := dc_180 0 227 (lxX6_keptLiesAlike 2 14 rfl) (lxX6_keptLiesAlike 2 15 rfl) (lxX6_keptLiesAlike 3 0 rfl)
set_option maxRecDepth 20000 in
theorem dX6_keptLiesAlike_49 : decode cX6_keptLiesAlike 49 = .ok (.if_icmp .eq 5, 3) := dc_159 0 5 (lxX6_keptLiesAlike 3 1 rfl) (lxX6_keptLiesAlike 3 2 rfl) (lxX6_keptLiesAlike 3 3 rfl)
set_option maxRecDepth 20000 in
theorem dX6_keptLiesAlike_52 : decode cX6_keptLiesAlike 52 = .ok (.iconst 0, 1) := dc_3 (lxX6_keptLiesAlike 3 4 rfl)
set_option maxRecDepth 20000 in
theorem dX6_keptLiesAlike_53 : decode cX6_keptLiesAlike 53 = .ok (.ireturn, 1) := dc_172 (lxX6_keptLiesAlike 3 5 rfl)
set_option maxRecDepth 20000 in
theorem dX6_keptLiesAlike_54 : decode cX6_keptLiesAlike 54 = .ok (.iconst 0, 1) := dc_3 (lxX6_keptLiesAlike 3 6 rfl)
set_option maxRecDepth 20000 in
theorem dX6_keptLiesAlike_55 : decode cX6_keptLiesAlike 55 = .ok (.istore_n 2, 1) := dc_61 (lxX6_keptLiesAlike 3 7 rfl)
set_option maxRecDepth 20000 in
theorem dX6_keptLiesAlike_56 : decode cX6_keptLiesAlike 56 = .ok (.iload_n 2, 1) := dc_28 (lxX6_keptLiesAlike 3 8 rfl)
set_option maxRecDepth 20000 in
theorem dX6_keptLiesAlike_57 : decode cX6_keptLiesAlike 57 = .ok (.aload_n 0, 1) := dc_42 (lxX6_keptLiesAlike 3 9 rfl)
set_option maxRecDepth 20000 in
theorem dX6_keptLiesAlike_58 : decode cX6_keptLiesAlike 58 = .ok (.getfield 48, 3) := dc_180 0 48 (lxX6_keptLiesAlike 3 10 rfl) (lxX6_keptLiesAlike 3 11 rfl) (lxX6_keptLiesAlike 3 12 rfl)
set_option maxRecDepth 20000 in
theorem dX6_keptLiesAlike_61 : decode cX6_keptLiesAlike 61 = .ok (.getfield 227, 3) := dc_180 0 227 (lxX6_keptLiesAlike 3 13 rfl) (lxX6_keptLiesAlike 3 14 rfl) (lxX6_keptLiesAlike 3 15 rfl)
set_option maxRecDepth 20000 in
theorem dX6_keptLiesAlike_64 : decode cX6_keptLiesAlike 64 = .ok (.if_icmp .ge 30, 3) := dc_162 0 30 (lxX6_keptLiesAlike 4 0 rfl) (lxX6_keptLiesAlike 4 1 rfl) (lxX6_keptLiesAlike 4 2 rfl)
set_option maxRecDepth 20000 in
theorem dX6_keptLiesAlike_67 : decode cX6_keptLiesAlike 67 = .ok (.aload_n 0, 1) := dc_42 (lxX6_keptLiesAlike 4 3 rfl)
set_option maxRecDepth 20000 in
theorem dX6_keptLiesAlike_68 : decode cX6_keptLiesAlike 68 = .ok (.getfield 48, 3) := dc_180 0 48 (lxX6_keptLiesAlike 4 4 rfl) (lxX6_keptLiesAlike 4 5 rfl) (lxX6_keptLiesAlike 4 6 rfl)
set_option maxRecDepth 20000 in
theorem dX6_keptLiesAlike_71 : decode cX6_keptLiesAlike 71 = .ok (.iload_n 2, 1) := dc_28 (lxX6_keptLiesAlike 4 7 rfl)
set_option maxRecDepth 20000 in
theorem dX6_keptLiesAlike_72 : decode cX6_keptLiesAlike 72 = .ok (.invokevirtual 224, 3) := dc_182 0 224 (lxX6_keptLiesAlike 4 8 rfl) (lxX6_keptLiesAlike 4 9 rfl) (lxX6_keptLiesAlike 4 10 rfl)
set_option maxRecDepth 20000 in
theorem dX6_keptLiesAlike_75 : decode cX6_keptLiesAlike 75 = .ok (.aload_n 0, 1) := dc_42 (lxX6_keptLiesAlike 4 11 rfl)
set_option maxRecDepth 20000 in
theorem dX6_keptLiesAlike_76 : decode cX6_keptLiesAlike 76 = .ok (.getfield 52, 3) := dc_180 0 52 (lxX6_keptLiesAlike 4 12 rfl) (lxX6_keptLiesAlike 4 13 rfl) (lxX6_keptLiesAlike 4 14 rfl)
set_option maxRecDepth 20000 in
theorem dX6_keptLiesAlike_79 : decode cX6_keptLiesAlike 79 = .ok (.iload_n 2, 1) := dc_28 (lxX6_keptLiesAlike 4 15 rfl)
set_option maxRecDepth 20000 in
theorem dX6_keptLiesAlike_80 : decode cX6_keptLiesAlike 80 = .ok (.invokevirtual 224, 3) := dc_182 0 224 (lxX6_keptLiesAlike 5 0 rfl) (lxX6_keptLiesAlike 5 1 rfl) (lxX6_keptLiesAlike 5 2 rfl)
set_option maxRecDepth 20000 in
theorem dX6_keptLiesAlike_83 : decode cX6_keptLiesAlike 83 = .ok (.if_icmp .eq 5, 3) := dc_159 0 5 (lxX6_keptLiesAlike 5 3 rfl) (lxX6_keptLiesAlike 5 4 rfl) (lxX6_keptLiesAlike 5 5 rfl)
set_option maxRecDepth 20000 in
theorem dX6_keptLiesAlike_86 : decode cX6_keptLiesAlike 86 = .ok (.iconst 0, 1) := dc_3 (lxX6_keptLiesAlike 5 6 rfl)
set_option maxRecDepth 20000 in
theorem dX6_keptLiesAlike_87 : decode cX6_keptLiesAlike 87 = .ok (.ireturn, 1) := dc_172 (lxX6_keptLiesAlike 5 7 rfl)
set_option maxRecDepth 20000 in
theorem dX6_keptLiesAlike_88 : decode cX6_keptLiesAlike 88 = .ok (.iinc 2 1, 3) := dc_132 2 1 (lxX6_keptLiesAlike 5 8 rfl) (lxX6_keptLiesAlike 5 9 rfl) (lxX6_keptLiesAlike 5 10 rfl)
set_option maxRecDepth 20000 in
theorem dX6_keptLiesAlike_91 : decode cX6_keptLiesAlike 91 = .ok (.goto (-35), 3) := dc_167 255 221 (lxX6_keptLiesAlike 5 11 rfl) (lxX6_keptLiesAlike 5 12 rfl) (lxX6_keptLiesAlike 5 13 rfl)
set_option maxRecDepth 20000 in
theorem dX6_keptLiesAlike_94 : decode cX6_keptLiesAlike 94 = .ok (.iconst 1, 1) := dc_4 (lxX6_keptLiesAlike 5 14 rfl)
set_option maxRecDepth 20000 in
theorem dX6_keptLiesAlike_95 : decode cX6_keptLiesAlike 95 = .ok (.ireturn, 1) := dc_172 (lxX6_keptLiesAlike 5 15 rfl)
noncomputable def sgX6_builderIsSearchedRightly : List (List Cond) := [[.code yX6_builderIsSearchedRightly cX6_builderIsSearchedRightly 3 (some .boolean)], wsX6_builderIsSearchedRightly_r1, wsX6_builderIsSearchedRightly_r2, wsX6_builderIsSearchedRightly_r3, wsX60, wsX30, wsX00, wsX20, wsX50]
theorem seX6_builderIsSearchedRightly : sgX6_builderIsSearchedRightly.flatten = wsX6_builderIsSearchedRightly := by simp only [sgX6_builderIsSearchedRightly, wsX6_builderIsSearchedRightly, List.flatten_cons, List.flatten_nil, List.append_assoc, List.append_nil, List.cons_append, List.nil_append]
set_option maxRecDepth 20000 in
theorem ggX6_builderIsSearchedRightly_X3_seek : GoodIn wsX6_builderIsSearchedRightly wsX3_seek := goodIn_s seX6_builderIsSearchedRightly _ [pq_1_7, pq_1_8, pq_1_9, pq_1_10, pq_1_11, pq_1_12, pq_1_13, pq_1_14, pq_1_15, pq_1_16, pq_1_17, pq_1_18, pq_1_19, pq_1_20, pq_1_21, pq_1_22, pq_1_23, pq_2_0, pq_2_1, pq_2_2, pq_2_3, pq_2_4, pq_2_5, pq_2_6, pq_2_7, pq_2_8, pq_2_9, pq_2_10, pq_2_11, pq_2_12, pq_2_13, pq_2_14, pq_2_15, pq_2_16, pq_2_17, pq_2_18, pq_2_19, pq_2_20, pq_2_21, pq_2_22, pq_2_23, pq_3_0, pq_3_1, pq_3_2, pq_3_3, pq_3_4, pq_3_5, pq_3_6, pq_3_7, pq_1_6, pq_3_8, pq_3_9, pq_3_10, pq_3_11, pq_5_0, pq_5_1, pq_5_2, pq_6_0, pq_6_1, pq_6_2, pq_7_0, pq_7_1, pq_8_0, pq_8_1, pq_8_2, pq_8_3, pq_8_4, pq_8_5] (by rfl) (by decide +kernel)
set_option maxRecDepth 20000 in
theorem gX6_builderIsSearchedRightly_X3_seek : GoodIn wsX6_builderIsSearchedRightly (wsV RX6 220 RX3 yX3_seek wsX3_seek) := goodIn_app (goodIn_s seX6_builderIsSearchedRightly _ [pq_1_3, pq_1_4, pq_1_5, pq_1_6] (by rfl) (by decide +kernel)) ggX6_builderIsSearchedRightly_X3_seek
set_option maxRecDepth 20000 in
theorem ggX6_builderIsSearchedRightly_X2_size : GoodIn wsX6_builderIsSearchedRightly wsX2_size := goodIn_s seX6_builderIsSearchedRightly _ [pq_1_21, pq_1_22, pq_7_0, pq_7_1] (by rfl) (by decide +kernel)
set_option maxRecDepth 20000 in
theorem gX6_builderIsSearchedRightly_X2_size : GoodIn wsX6_builderIsSearchedRightly (wsV RX6 164 RX2 yX2_size wsX2_size) := goodIn_app (goodIn_s seX6_builderIsSearchedRightly _ [pq_3_12, pq_1_19, pq_3_13, pq_1_20] (by rfl) (by decide +kernel)) ggX6_builderIsSearchedRightly_X2_size
set_option maxRecDepth 20000 in
theorem ggX6_builderIsSearchedRightly_X6_matches : GoodIn wsX6_builderIsSearchedRightly wsX6_matches := goodIn_s seX6_builderIsSearchedRightly _ [pq_3_17, pq_3_18, pq_1_17, pq_1_18, pq_1_19, pq_1_20, pq_1_21, pq_1_22, pq_1_23, pq_2_0, pq_2_1, pq_2_2, pq_2_3, pq_2_4, pq_3_19, pq_2_6, pq_2_7, pq_2_8, pq_2_9, pq_2_10, pq_2_11, pq_2_12, pq_2_13, pq_2_14, pq_2_15, pq_2_16, pq_2_17, pq_2_18, pq_2_19, pq_7_0, pq_7_1, pq_8_0, pq_8_1, pq_8_2, pq_8_3, pq_8_4, pq_8_5] (by rfl) (by decide +kernel)
set_option maxRecDepth 20000 in
theorem gX6_builderIsSearchedRightly_X6_matches : GoodIn wsX6_builderIsSearchedRightly (va_wsS RX6 349 yX6_matches wsX6_matches) := goodIn_app (goodIn_s seX6_builderIsSearchedRightly _ [pq_3_14, pq_3_15, pq_3_16] (by rfl) (by decide +kernel)) ggX6_builderIsSearchedRightly_X6_matches
set_option maxRecDepth 20000 in
theorem ggX6_builderIsSearchedRightly_X3_foundAt : GoodIn wsX6_builderIsSearchedRightly wsX3_foundAt := goodIn_s seX6_builderIsSearchedRightly _ [pq_3_23, pq_1_8, pq_3_9, pq_5_0, pq_5_1, pq_5_2] (by rfl) (by decide +kernel)
set_option maxRecDepth 20000 in
theorem gX6_builderIsSearchedRightly_X3_foundAt : GoodIn wsX6_builderIsSearchedRightly (wsV RX6 224 RX3 yX3_foundAt wsX3_foundAt) := goodIn_app (goodIn_s seX6_builderIsSearchedRightly _ [pq_3_20, pq_3_21, pq_3_22, pq_1_6] (by rfl) (by decide +kernel)) ggX6_builderIsSearchedRightly_X3_foundAt
def lb_sgX6_builderIsSearchedRightly : List (List UInt8) := [[42, 180, 0, 48, 42, 180, 0, 20, 42, 180, 0, 24, 182, 0, 220, 3], [60, 3, 61, 28, 42, 180, 0, 20, 182, 0, 164, 163, 0, 49, 42, 180], [0, 24, 3, 42, 180, 0, 24, 182, 0, 164, 42, 180, 0, 20, 28, 184], [1, 93, 153, 0, 20, 42, 180, 0, 48, 27, 182, 0, 224, 28, 159, 0], [5, 3, 172, 132, 1, 1, 132, 2, 1, 167, 255, 202, 27, 42, 180, 0], [48, 180, 0, 227, 160, 0, 7, 4, 167, 0, 4, 3, 172]]
set_option maxRecDepth 100000 in
theorem lb_seX6_builderIsSearchedRightly : cX6_builderIsSearchedRightly.data.toList = lb_sgX6_builderIsSearchedRightly.flatten := by decide +kernel
theorem lb_lnX6_builderIsSearchedRightly : ∀ s ∈ lb_sgX6_builderIsSearchedRightly.dropLast, s.length = 16 := by decide +kernel
theorem lxX6_builderIsSearchedRightly (k j : Nat) {b : UInt8} (h : (lb_sgX6_builderIsSearchedRightly[k]?).bind (fun s => s[j]?) = some b) : lb_at cX6_builderIsSearchedRightly (16 * k + j) b := by
  unfold lb_at
  rw [lb_seX6_builderIsSearchedRightly]
  exact lb_flat 16 lb_sgX6_builderIsSearchedRightly k j b lb_lnX6_builderIsSearchedRightly h
set_option maxRecDepth 20000 in
theorem dX6_builderIsSearchedRightly_0 : decode cX6_builderIsSearchedRightly 0 = .ok (.aload_n 0, 1) := dc_42 (lxX6_builderIsSearchedRightly 0 0 rfl)
set_option maxRecDepth 20000 in
theorem dX6_builderIsSearchedRightly_1 : decode cX6_builderIsSearchedRightly 1 = .ok (.getfield 48, 3) := dc_180 0 48 (lxX6_builderIsSearchedRightly 0 1 rfl) (lxX6_builderIsSearchedRightly 0 2 rfl) (lxX6_builderIsSearchedRightly 0 3 rfl)
set_option maxRecDepth 20000 in
theorem dX6_builderIsSearchedRightly_4 : decode cX6_builderIsSearchedRightly 4 = .ok (.aload_n 0, 1) := dc_42 (lxX6_builderIsSearchedRightly 0 4 rfl)
set_option maxRecDepth 20000 in
theorem dX6_builderIsSearchedRightly_5 : decode cX6_builderIsSearchedRightly 5 = .ok (.getfield 20, 3) := dc_180 0 20 (lxX6_builderIsSearchedRightly 0 5 rfl) (lxX6_builderIsSearchedRightly 0 6 rfl) (lxX6_builderIsSearchedRightly 0 7 rfl)
set_option maxRecDepth 20000 in
theorem dX6_builderIsSearchedRightly_8 : decode cX6_builderIsSearchedRightly 8 = .ok (.aload_n 0, 1) := dc_42 (lxX6_builderIsSearchedRightly 0 8 rfl)
set_option maxRecDepth 20000 in
theorem dX6_builderIsSearchedRightly_9 : decode cX6_builderIsSearchedRightly 9 = .ok (.getfield 24, 3) := dc_180 0 24 (lxX6_builderIsSearchedRightly 0 9 rfl) (lxX6_builderIsSearchedRightly 0 10 rfl) (lxX6_builderIsSearchedRightly 0 11 rfl)
set_option maxRecDepth 20000 in
theorem dX6_builderIsSearchedRightly_12 : decode cX6_builderIsSearchedRightly 12 = .ok (.invokevirtual 220, 3) := dc_182 0 220 (lxX6_builderIsSearchedRightly 0 12 rfl) (lxX6_builderIsSearchedRightly 0 13 rfl) (lxX6_builderIsSearchedRightly 0 14 rfl)
set_option maxRecDepth 20000 in
theorem dX6_builderIsSearchedRightly_15 : decode cX6_builderIsSearchedRightly 15 = .ok (.iconst 0, 1) := dc_3 (lxX6_builderIsSearchedRightly 0 15 rfl)
set_option maxRecDepth 20000 in
theorem dX6_builderIsSearchedRightly_16 : decode cX6_builderIsSearchedRightly 16 = .ok (.istore_n 1, 1) := dc_60 (lxX6_builderIsSearchedRightly 1 0 rfl)
set_option maxRecDepth 20000 in
theorem dX6_builderIsSearchedRightly_17 : decode cX6_builderIsSearchedRightly 17 = .ok (.iconst 0, 1) := dc_3 (lxX6_builderIsSearchedRightly 1 1 rfl)
set_option maxRecDepth 20000 in
theorem dX6_builderIsSearchedRightly_18 : decode cX6_builderIsSearchedRightly 18 = .ok (.istore_n 2, 1) := dc_61 (lxX6_builderIsSearchedRightly 1 2 rfl)
set_option maxRecDepth 20000 in
theorem dX6_builderIsSearchedRightly_19 : decode cX6_builderIsSearchedRightly 19 = .ok (.iload_n 2, 1) := dc_28 (lxX6_builderIsSearchedRightly 1 3 rfl)
set_option maxRecDepth 20000 in
theorem dX6_builderIsSearchedRightly_20 : decode cX6_builderIsSearchedRightly 20 = .ok (.aload_n 0, 1) := dc_42 (lxX6_builderIsSearchedRightly 1 4 rfl)
set_option maxRecDepth 20000 in
theorem dX6_builderIsSearchedRightly_21 : decode cX6_builderIsSearchedRightly 21 = .ok (.getfield 20, 3) := dc_180 0 20 (lxX6_builderIsSearchedRightly 1 5 rfl) (lxX6_builderIsSearchedRightly 1 6 rfl) (lxX6_builderIsSearchedRightly 1 7 rfl)
set_option maxRecDepth 20000 in
theorem dX6_builderIsSearchedRightly_24 : decode cX6_builderIsSearchedRightly 24 = .ok (.invokevirtual 164, 3) := dc_182 0 164 (lxX6_builderIsSearchedRightly 1 8 rfl) (lxX6_builderIsSearchedRightly 1 9 rfl) (lxX6_builderIsSearchedRightly 1 10 rfl)
set_option maxRecDepth 20000 in
theorem dX6_builderIsSearchedRightly_27 : decode cX6_builderIsSearchedRightly 27 = .ok (.if_icmp .gt 49, 3) := dc_163 0 49 (lxX6_builderIsSearchedRightly 1 11 rfl) (lxX6_builderIsSearchedRightly 1 12 rfl) (lxX6_builderIsSearchedRightly 1 13 rfl)
set_option maxRecDepth 20000 in
theorem dX6_builderIsSearchedRightly_30 : decode cX6_builderIsSearchedRightly 30 = .ok (.aload_n 0, 1) := dc_42 (lxX6_builderIsSearchedRightly 1 14 rfl)
set_option maxRecDepth 20000 in
theorem dX6_builderIsSearchedRightly_31 : decode cX6_builderIsSearchedRightly 31 = .ok (.getfield 24, 3) := dc_180 0 24 (lxX6_builderIsSearchedRightly 1 15 rfl) (lxX6_builderIsSearchedRightly 2 0 rfl) (lxX6_builderIsSearchedRightly 2 1 rfl)
set_option maxRecDepth 20000 in
theorem dX6_builderIsSearchedRightly_34 : decode cX6_builderIsSearchedRightly 34 = .ok (.iconst 0, 1) := dc_3 (lxX6_builderIsSearchedRightly 2 2 rfl)
set_option maxRecDepth 20000 in
theorem dX6_builderIsSearchedRightly_35 : decode cX6_builderIsSearchedRightly 35 = .ok (.aload_n 0, 1) := dc_42 (lxX6_builderIsSearchedRightly 2 3 rfl)
set_option maxRecDepth 20000 in
theorem dX6_builderIsSearchedRightly_36 : decode cX6_builderIsSearchedRightly 36 = .ok (.getfield 24, 3) := dc_180 0 24 (lxX6_builderIsSearchedRightly 2 4 rfl) (lxX6_builderIsSearchedRightly 2 5 rfl) (lxX6_builderIsSearchedRightly 2 6 rfl)
set_option maxRecDepth 20000 in
theorem dX6_builderIsSearchedRightly_39 : decode cX6_builderIsSearchedRightly 39 = .ok (.invokevirtual 164, 3) := dc_182 0 164 (lxX6_builderIsSearchedRightly 2 7 rfl) (lxX6_builderIsSearchedRightly 2 8 rfl) (lxX6_builderIsSearchedRightly 2 9 rfl)
set_option maxRecDepth 20000 in
theorem dX6_builderIsSearchedRightly_42 : decode cX6_builderIsSearchedRightly 42 = .ok (.aload_n 0, 1) := dc_42 (lxX6_builderIsSearchedRightly 2 10 rfl)
set_option maxRecDepth 20000 in
theorem dX6_builderIsSearchedRightly_43 : decode cX6_builderIsSearchedRightly 43 = .ok (.getfield 20, 3) := dc_180 0 20 (lxX6_builderIsSearchedRightly 2 11 rfl) (lxX6_builderIsSearchedRightly 2 12 rfl) (lxX6_builderIsSearchedRightly 2 13 rfl)
set_option maxRecDepth 20000 in
theorem dX6_builderIsSearchedRightly_46 : decode cX6_builderIsSearchedRightly 46 = .ok (.iload_n 2, 1) := dc_28 (lxX6_builderIsSearchedRightly 2 14 rfl)
set_option maxRecDepth 20000 in
theorem dX6_builderIsSearchedRightly_47 : decode cX6_builderIsSearchedRightly 47 = .ok (.invokestatic 349, 3) := dc_184 1 93 (lxX6_builderIsSearchedRightly 2 15 rfl) (lxX6_builderIsSearchedRightly 3 0 rfl) (lxX6_builderIsSearchedRightly 3 1 rfl)
set_option maxRecDepth 20000 in
theorem dX6_builderIsSearchedRightly_50 : decode cX6_builderIsSearchedRightly 50 = .ok (.ifCond .eq 20, 3) := dc_153 0 20 (lxX6_builderIsSearchedRightly 3 2 rfl) (lxX6_builderIsSearchedRightly 3 3 rfl) (lxX6_builderIsSearchedRightly 3 4 rfl)
set_option maxRecDepth 20000 in
theorem dX6_builderIsSearchedRightly_53 : decode cX6_builderIsSearchedRightly 53 = .ok (.aload_n 0, 1) := dc_42 (lxX6_builderIsSearchedRightly 3 5 rfl)
set_option maxRecDepth 20000 in
theorem dX6_builderIsSearchedRightly_54 : decode cX6_builderIsSearchedRightly 54 = .ok (.getfield 48, 3) := dc_180 0 48 (lxX6_builderIsSearchedRightly 3 6 rfl) (lxX6_builderIsSearchedRightly 3 7 rfl) (lxX6_builderIsSearchedRightly 3 8 rfl)
set_option maxRecDepth 20000 in
theorem dX6_builderIsSearchedRightly_57 : decode cX6_builderIsSearchedRightly 57 = .ok (.iload_n 1, 1) := dc_27 (lxX6_builderIsSearchedRightly 3 9 rfl)
set_option maxRecDepth 20000 in
theorem dX6_builderIsSearchedRightly_58 : decode cX6_builderIsSearchedRightly 58 = .ok (.invokevirtual 224, 3) := dc_182 0 224 (lxX6_builderIsSearchedRightly 3 10 rfl) (lxX6_builderIsSearchedRightly 3 11 rfl) (lxX6_builderIsSearchedRightly 3 12 rfl)
set_option maxRecDepth 20000 in
theorem dX6_builderIsSearchedRightly_61 : decode cX6_builderIsSearchedRightly 61 = .ok (.iload_n 2, 1) := dc_28 (lxX6_builderIsSearchedRightly 3 13 rfl)
set_option maxRecDepth 20000 in
theorem dX6_builderIsSearchedRightly_62 : decode cX6_builderIsSearchedRightly 62 = .ok (.if_icmp .eq 5, 3) := dc_159 0 5 (lxX6_builderIsSearchedRightly 3 14 rfl) (lxX6_builderIsSearchedRightly 3 15 rfl) (lxX6_builderIsSearchedRightly 4 0 rfl)
set_option maxRecDepth 20000 in
theorem dX6_builderIsSearchedRightly_65 : decode cX6_builderIsSearchedRightly 65 = .ok (.iconst 0, 1) := dc_3 (lxX6_builderIsSearchedRightly 4 1 rfl)
set_option maxRecDepth 20000 in
theorem dX6_builderIsSearchedRightly_66 : decode cX6_builderIsSearchedRightly 66 = .ok (.ireturn, 1) := dc_172 (lxX6_builderIsSearchedRightly 4 2 rfl)
set_option maxRecDepth 20000 in
theorem dX6_builderIsSearchedRightly_67 : decode cX6_builderIsSearchedRightly 67 = .ok (.iinc 1 1, 3) := dc_132 1 1 (lxX6_builderIsSearchedRightly 4 3 rfl) (lxX6_builderIsSearchedRightly 4 4 rfl) (lxX6_builderIsSearchedRightly 4 5 rfl)
set_option maxRecDepth 20000 in
theorem dX6_builderIsSearchedRightly_70 : decode cX6_builderIsSearchedRightly 70 = .ok (.iinc 2 1, 3) := dc_132 2 1 (lxX6_builderIsSearchedRightly 4 6 rfl) (lxX6_builderIsSearchedRightly 4 7 rfl) (lxX6_builderIsSearchedRightly 4 8 rfl)
set_option maxRecDepth 20000 in
theorem dX6_builderIsSearchedRightly_73 : decode cX6_builderIsSearchedRightly 73 = .ok (.goto (-54), 3) := dc_167 255 202 (lxX6_builderIsSearchedRightly 4 9 rfl) (lxX6_builderIsSearchedRightly 4 10 rfl) (lxX6_builderIsSearchedRightly 4 11 rfl)
set_option maxRecDepth 20000 in
theorem dX6_builderIsSearchedRightly_76 : decode cX6_builderIsSearchedRightly 76 = .ok (.iload_n 1, 1) := dc_27 (lxX6_builderIsSearchedRightly 4 12 rfl)
set_option maxRecDepth 20000 in
theorem dX6_builderIsSearchedRightly_77 : decode cX6_builderIsSearchedRightly 77 = .ok (.aload_n 0, 1) := dc_42 (lxX6_builderIsSearchedRightly 4 13 rfl)
set_option maxRecDepth 20000 in
theorem dX6_builderIsSearchedRightly_78 : decode cX6_builderIsSearchedRightly 78 = .ok (.getfield 48, 3) := dc_180 0 48 (lxX6_builderIsSearchedRightly 4 14 rfl) (lxX6_builderIsSearchedRightly 4 15 rfl) (lxX6_builderIsSearchedRightly 5 0 rfl)
set_option maxRecDepth 20000 in
theorem dX6_builderIsSearchedRightly_81 : decode cX6_builderIsSearchedRightly 81 = .ok (.getfield 227, 3) := dc_180 0 227 (lxX6_builderIsSearchedRightly 5 1 rfl) (lxX6_builderIsSearchedRightly 5 2 rfl) (lxX6_builderIsSearchedRightly 5 3 rfl)
set_option maxRecDepth 20000 in
theorem dX6_builderIsSearchedRightly_84 : decode cX6_builderIsSearchedRightly 84 = .ok (.if_icmp .ne 7, 3) := dc_160 0 7 (lxX6_builderIsSearchedRightly 5 4 rfl) (lxX6_builderIsSearchedRightly 5 5 rfl) (lxX6_builderIsSearchedRightly 5 6 rfl)
set_option maxRecDepth 20000 in
theorem dX6_builderIsSearchedRightly_87 : decode cX6_builderIsSearchedRightly 87 = .ok (.iconst 1, 1) := dc_4 (lxX6_builderIsSearchedRightly 5 7 rfl)
set_option maxRecDepth 20000 in
theorem dX6_builderIsSearchedRightly_88 : decode cX6_builderIsSearchedRightly 88 = .ok (.goto 4, 3) := dc_167 0 4 (lxX6_builderIsSearchedRightly 5 8 rfl) (lxX6_builderIsSearchedRightly 5 9 rfl) (lxX6_builderIsSearchedRightly 5 10 rfl)
set_option maxRecDepth 20000 in
theorem dX6_builderIsSearchedRightly_91 : decode cX6_builderIsSearchedRightly 91 = .ok (.iconst 0, 1) := dc_3 (lxX6_builderIsSearchedRightly 5 11 rfl)
set_option maxRecDepth 20000 in
theorem dX6_builderIsSearchedRightly_92 : decode cX6_builderIsSearchedRightly 92 = .ok (.ireturn, 1) := dc_172 (lxX6_builderIsSearchedRightly 5 12 rfl)
noncomputable def sgX6_builderChainIsRight : List (List Cond) := [[.code yX6_builderChainIsRight cX6_builderChainIsRight 3 (some .boolean)], wsX6_builderChainIsRight_r1, wsX6_builderChainIsRight_r2, wsX6_builderChainIsRight_r3, wsX60, wsX00, wsX20, wsX50]
theorem seX6_builderChainIsRight : sgX6_builderChainIsRight.flatten = wsX6_builderChainIsRight := by simp only [sgX6_builderChainIsRight, wsX6_builderChainIsRight, List.flatten_cons, List.flatten_nil, List.append_assoc, List.append_nil, List.cons_append, List.nil_append]
set_option maxRecDepth 20000 in
theorem ggX6_builderChainIsRight_X0_measureChain : GoodIn wsX6_builderChainIsRight wsX0_measureChain := goodIn_s seX6_builderChainIsRight _ [pq_1_6, pq_1_7, pq_1_8, pq_1_9, pq_1_10, pq_1_11, pq_1_5, pq_1_12, pq_1_13, pq_1_14, pq_1_15, pq_1_16, pq_1_17, pq_1_18, pq_1_19, pq_1_20, pq_1_21, pq_1_22, pq_1_23, pq_2_0, pq_2_1, pq_2_2, pq_2_3, pq_2_4, pq_2_5, pq_2_6, pq_2_7, pq_2_8, pq_2_9, pq_2_10, pq_2_11, pq_2_12, pq_2_13, pq_2_14, pq_2_15, pq_2_16, pq_2_17, pq_2_18, pq_2_19, pq_2_20, pq_2_21, pq_2_22, pq_2_23, pq_3_0, pq_3_1, pq_5_0, pq_5_1, pq_5_2, pq_6_0, pq_6_1, pq_7_0, pq_7_1, pq_7_2, pq_7_3, pq_7_4, pq_7_5] (by rfl) (by decide +kernel)
set_option maxRecDepth 20000 in
theorem gX6_builderChainIsRight_X0_measureChain : GoodIn wsX6_builderChainIsRight (wsV RX6 243 RX0 yX0_measureChain wsX0_measureChain) := goodIn_app (goodIn_s seX6_builderChainIsRight _ [pq_1_2, pq_1_3, pq_1_4, pq_1_5] (by rfl) (by decide +kernel)) ggX6_builderChainIsRight_X0_measureChain
set_option maxRecDepth 20000 in
theorem ggX6_builderChainIsRight_X2_size : GoodIn wsX6_builderChainIsRight wsX2_size := goodIn_s seX6_builderChainIsRight _ [pq_1_19, pq_1_20, pq_6_0, pq_6_1] (by rfl) (by decide +kernel)
set_option maxRecDepth 20000 in
theorem gX6_builderChainIsRight_X2_size : GoodIn wsX6_builderChainIsRight (wsV RX6 164 RX2 yX2_size wsX2_size) := goodIn_app (goodIn_s seX6_builderChainIsRight _ [pq_3_2, pq_1_17, pq_3_3, pq_1_18] (by rfl) (by decide +kernel)) ggX6_builderChainIsRight_X2_size
set_option maxRecDepth 20000 in
theorem ggX6_builderChainIsRight_X6_matches : GoodIn wsX6_builderChainIsRight wsX6_matches := goodIn_s seX6_builderChainIsRight _ [pq_3_7, pq_3_8, pq_1_15, pq_1_16, pq_1_17, pq_1_18, pq_1_19, pq_1_20, pq_1_21, pq_1_22, pq_1_23, pq_2_0, pq_2_1, pq_2_2, pq_3_9, pq_2_4, pq_2_5, pq_2_6, pq_2_7, pq_2_8, pq_2_9, pq_2_10, pq_2_11, pq_2_12, pq_2_13, pq_2_14, pq_2_15, pq_2_16, pq_2_17, pq_6_0, pq_6_1, pq_7_0, pq_7_1, pq_7_2, pq_7_3, pq_7_4, pq_7_5] (by rfl) (by decide +kernel)
set_option maxRecDepth 20000 in
theorem gX6_builderChainIsRight_X6_matches : GoodIn wsX6_builderChainIsRight (va_wsS RX6 349 yX6_matches wsX6_matches) := goodIn_app (goodIn_s seX6_builderChainIsRight _ [pq_3_4, pq_3_5, pq_3_6] (by rfl) (by decide +kernel)) ggX6_builderChainIsRight_X6_matches
set_option maxRecDepth 20000 in
theorem ggX6_builderChainIsRight_X0_linkAt : GoodIn wsX6_builderChainIsRight wsX0_linkAt := goodIn_s seX6_builderChainIsRight _ [pq_3_13, pq_1_7, pq_1_8, pq_5_0, pq_5_1, pq_5_2] (by rfl) (by decide +kernel)
set_option maxRecDepth 20000 in
theorem gX6_builderChainIsRight_X0_linkAt : GoodIn wsX6_builderChainIsRight (wsV RX6 249 RX0 yX0_linkAt wsX0_linkAt) := goodIn_app (goodIn_s seX6_builderChainIsRight _ [pq_3_10, pq_3_11, pq_3_12, pq_1_5] (by rfl) (by decide +kernel)) ggX6_builderChainIsRight_X0_linkAt
def lb_sgX6_builderChainIsRight : List (List UInt8) := [[42, 180, 0, 58, 42, 180, 0, 20, 182, 0, 243, 3, 60, 42, 180, 0], [20, 182, 0, 164, 4, 100, 61, 28, 155, 0, 51, 42, 180, 0, 20, 3], [28, 42, 180, 0, 20, 42, 180, 0, 20, 182, 0, 164, 28, 100, 184, 1], [93, 153, 0, 20, 42, 180, 0, 58, 27, 182, 0, 249, 28, 159, 0, 5], [3, 172, 132, 1, 1, 132, 2, 255, 167, 255, 207, 27, 42, 180, 0, 58], [180, 0, 246, 160, 0, 7, 4, 167, 0, 4, 3, 172]]
set_option maxRecDepth 100000 in
theorem lb_seX6_builderChainIsRight : cX6_builderChainIsRight.data.toList = lb_sgX6_builderChainIsRight.flatten := by decide +kernel
theorem lb_lnX6_builderChainIsRight : ∀ s ∈ lb_sgX6_builderChainIsRight.dropLast, s.length = 16 := by decide +kernel
theorem lxX6_builderChainIsRight (k j : Nat) {b : UInt8} (h : (lb_sgX6_builderChainIsRight[k]?).bind (fun s => s[j]?) = some b) : lb_at cX6_builderChainIsRight (16 * k + j) b := by
  unfold lb_at
  rw [lb_seX6_builderChainIsRight]
  exact lb_flat 16 lb_sgX6_builderChainIsRight k j b lb_lnX6_builderChainIsRight h
set_option maxRecDepth 20000 in
theorem dX6_builderChainIsRight_0 : decode cX6_builderChainIsRight 0 = .ok (.aload_n 0, 1) := dc_42 (lxX6_builderChainIsRight 0 0 rfl)
set_option maxRecDepth 20000 in
theorem dX6_builderChainIsRight_1 : decode cX6_builderChainIsRight 1 = .ok (.getfield 58, 3) := dc_180 0 58 (lxX6_builderChainIsRight 0 1 rfl) (lxX6_builderChainIsRight 0 2 rfl) (lxX6_builderChainIsRight 0 3 rfl)
set_option maxRecDepth 20000 in
theorem dX6_builderChainIsRight_4 : decode cX6_builderChainIsRight 4 = .ok (.aload_n 0, 1) := dc_42 (lxX6_builderChainIsRight 0 4 rfl)
set_option maxRecDepth 20000 in
theorem dX6_builderChainIsRight_5 : decode cX6_builderChainIsRight 5 = .ok (.getfield 20, 3) := dc_180 0 20 (lxX6_builderChainIsRight 0 5 rfl) (lxX6_builderChainIsRight 0 6 rfl) (lxX6_builderChainIsRight 0 7 rfl)
set_option maxRecDepth 20000 in
theorem dX6_builderChainIsRight_8 : decode cX6_builderChainIsRight 8 = .ok (.invokevirtual 243, 3) := dc_182 0 243 (lxX6_builderChainIsRight 0 8 rfl) (lxX6_builderChainIsRight 0 9 rfl) (lxX6_builderChainIsRight 0 10 rfl)
set_option maxRecDepth 20000 in
theorem dX6_builderChainIsRight_11 : decode cX6_builderChainIsRight 11 = .ok (.iconst 0, 1) := dc_3 (lxX6_builderChainIsRight 0 11 rfl)
set_option maxRecDepth 20000 in
theorem dX6_builderChainIsRight_12 : decode cX6_builderChainIsRight 12 = .ok (.istore_n 1, 1) := dc_60 (lxX6_builderChainIsRight 0 12 rfl)
set_option maxRecDepth 20000 in
theorem dX6_builderChainIsRight_13 : decode cX6_builderChainIsRight 13 = .ok (.aload_n 0, 1) := dc_42 (lxX6_builderChainIsRight 0 13 rfl)
set_option maxRecDepth 20000 in
theorem dX6_builderChainIsRight_14 : decode cX6_builderChainIsRight 14 = .ok (.getfield 20, 3) := dc_180 0 20 (lxX6_builderChainIsRight 0 14 rfl) (lxX6_builderChainIsRight 0 15 rfl) (lxX6_builderChainIsRight 1 0 rfl)
set_option maxRecDepth 20000 in
theorem dX6_builderChainIsRight_17 : decode cX6_builderChainIsRight 17 = .ok (.invokevirtual 164, 3) := dc_182 0 164 (lxX6_builderChainIsRight 1 1 rfl) (lxX6_builderChainIsRight 1 2 rfl) (lxX6_builderChainIsRight 1 3 rfl)
set_option maxRecDepth 20000 in
theorem dX6_builderChainIsRight_20 : decode cX6_builderChainIsRight 20 = .ok (.iconst 1, 1) := dc_4 (lxX6_builderChainIsRight 1 4 rfl)
set_option maxRecDepth 20000 in
theorem dX6_builderChainIsRight_21 : decode cX6_builderChainIsRight 21 = .ok (.isub, 1) := dc_100 (lxX6_builderChainIsRight 1 5 rfl)
set_option maxRecDepth 20000 in
theorem dX6_builderChainIsRight_22 : decode cX6_builderChainIsRight 22 = .ok (.istore_n 2, 1) := dc_61 (lxX6_builderChainIsRight 1 6 rfl)
set_option maxRecDepth 20000 in
theorem dX6_builderChainIsRight_23 : decode cX6_builderChainIsRight 23 = .ok (.iload_n 2, 1) := dc_28 (lxX6_builderChainIsRight 1 7 rfl)
set_option maxRecDepth 20000 in
theorem dX6_builderChainIsRight_24 : decode cX6_builderChainIsRight 24 = .ok (.ifCond .lt 51, 3) := dc_155 0 51 (lxX6_builderChainIsRight 1 8 rfl) (lxX6_builderChainIsRight 1 9 rfl) (lxX6_builderChainIsRight 1 10 rfl)
set_option maxRecDepth 20000 in
theorem dX6_builderChainIsRight_27 : decode cX6_builderChainIsRight 27 = .ok (.aload_n 0, 1) := dc_42 (lxX6_builderChainIsRight 1 11 rfl)
set_option maxRecDepth 20000 in
theorem dX6_builderChainIsRight_28 : decode cX6_builderChainIsRight 28 = .ok (.getfield 20, 3) := dc_180 0 20 (lxX6_builderChainIsRight 1 12 rfl) (lxX6_builderChainIsRight 1 13 rfl) (lxX6_builderChainIsRight 1 14 rfl)
set_option maxRecDepth 20000 in
theorem dX6_builderChainIsRight_31 : decode cX6_builderChainIsRight 31 = .ok (.iconst 0, 1) := dc_3 (lxX6_builderChainIsRight 1 15 rfl)
set_option maxRecDepth 20000 in
theorem dX6_builderChainIsRight_32 : decode cX6_builderChainIsRight 32 = .ok (.iload_n 2, 1) := dc_28 (lxX6_builderChainIsRight 2 0 rfl)
set_option maxRecDepth 20000 in
theorem dX6_builderChainIsRight_33 : decode cX6_builderChainIsRight 33 = .ok (.aload_n 0, 1) := dc_42 (lxX6_builderChainIsRight 2 1 rfl)
set_option maxRecDepth 20000 in
theorem dX6_builderChainIsRight_34 : decode cX6_builderChainIsRight 34 = .ok (.getfield 20, 3) := dc_180 0 20 (lxX6_builderChainIsRight 2 2 rfl) (lxX6_builderChainIsRight 2 3 rfl) (lxX6_builderChainIsRight 2 4 rfl)
set_option maxRecDepth 20000 in
theorem dX6_builderChainIsRight_37 : decode cX6_builderChainIsRight 37 = .ok (.aload_n 0, 1) := dc_42 (lxX6_builderChainIsRight 2 5 rfl)
set_option maxRecDepth 20000 in
theorem dX6_builderChainIsRight_38 : decode cX6_builderChainIsRight 38 = .ok (.getfield 20, 3) := dc_180 0 20 (lxX6_builderChainIsRight 2 6 rfl) (lxX6_builderChainIsRight 2 7 rfl) (lxX6_builderChainIsRight 2 8 rfl)
set_option maxRecDepth 20000 in
theorem dX6_builderChainIsRight_41 : decode cX6_builderChainIsRight 41 = .ok (.invokevirtual 164, 3) := dc_182 0 164 (lxX6_builderChainIsRight 2 9 rfl) (lxX6_builderChainIsRight 2 10 rfl) (lxX6_builderChainIsRight 2 11 rfl)
set_option maxRecDepth 20000 in
theorem dX6_builderChainIsRight_44 : decode cX6_builderChainIsRight 44 = .ok (.iload_n 2, 1) := dc_28 (lxX6_builderChainIsRight 2 12 rfl)
set_option maxRecDepth 20000 in
theorem dX6_builderChainIsRight_45 : decode cX6_builderChainIsRight 45 = .ok (.isub, 1) := dc_100 (lxX6_builderChainIsRight 2 13 rfl)
set_option maxRecDepth 20000 in
theorem dX6_builderChainIsRight_46 : decode cX6_builderChainIsRight 46 = .ok (.invokestatic 349, 3) := dc_184 1 93 (lxX6_builderChainIsRight 2 14 rfl) (lxX6_builderChainIsRight 2 15 rfl) (lxX6_builderChainIsRight 3 0 rfl)
set_option maxRecDepth 20000 in
theorem dX6_builderChainIsRight_49 : decode cX6_builderChainIsRight 49 = .ok (.ifCond .eq 20, 3) := dc_153 0 20 (lxX6_builderChainIsRight 3 1 rfl) (lxX6_builderChainIsRight 3 2 rfl) (lxX6_builderChainIsRight 3 3 rfl)
set_option maxRecDepth 20000 in
theorem dX6_builderChainIsRight_52 : decode cX6_builderChainIsRight 52 = .ok (.aload_n 0, 1) := dc_42 (lxX6_builderChainIsRight 3 4 rfl)
set_option maxRecDepth 20000 in
theorem dX6_builderChainIsRight_53 : decode cX6_builderChainIsRight 53 = .ok (.getfield 58, 3) := dc_180 0 58 (lxX6_builderChainIsRight 3 5 rfl) (lxX6_builderChainIsRight 3 6 rfl) (lxX6_builderChainIsRight 3 7 rfl)
set_option maxRecDepth 20000 in
theorem dX6_builderChainIsRight_56 : decode cX6_builderChainIsRight 56 = .ok (.iload_n 1, 1) := dc_27 (lxX6_builderChainIsRight 3 8 rfl)
set_option maxRecDepth 20000 in
theorem dX6_builderChainIsRight_57 : decode cX6_builderChainIsRight 57 = .ok (.invokevirtual 249, 3) := dc_182 0 249 (lxX6_builderChainIsRight 3 9 rfl) (lxX6_builderChainIsRight 3 10 rfl) (lxX6_builderChainIsRight 3 11 rfl)
set_option maxRecDepth 20000 in
theorem dX6_builderChainIsRight_60 : decode cX6_builderChainIsRight 60 = .ok (.iload_n 2, 1) := dc_28 (lxX6_builderChainIsRight 3 12 rfl)
set_option maxRecDepth 20000 in
theorem dX6_builderChainIsRight_61 : decode cX6_builderChainIsRight 61 = .ok (.if_icmp .eq 5, 3) := dc_159 0 5 (lxX6_builderChainIsRight 3 13 rfl) (lxX6_builderChainIsRight 3 14 rfl) (lxX6_builderChainIsRight 3 15 rfl)
set_option maxRecDepth 20000 in
theorem dX6_builderChainIsRight_64 : decode cX6_builderChainIsRight 64 = .ok (.iconst 0, 1) := dc_3 (lxX6_builderChainIsRight 4 0 rfl)
set_option maxRecDepth 20000 in
theorem dX6_builderChainIsRight_65 : decode cX6_builderChainIsRight 65 = .ok (.ireturn, 1) := dc_172 (lxX6_builderChainIsRight 4 1 rfl)
set_option maxRecDepth 20000 in
theorem dX6_builderChainIsRight_66 : decode cX6_builderChainIsRight 66 = .ok (.iinc 1 1, 3) := dc_132 1 1 (lxX6_builderChainIsRight 4 2 rfl) (lxX6_builderChainIsRight 4 3 rfl) (lxX6_builderChainIsRight 4 4 rfl)
set_option maxRecDepth 20000 in
theorem dX6_builderChainIsRight_69 : decode cX6_builderChainIsRight 69 = .ok (.iinc 2 (-1), 3) := dc_132 2 255 (lxX6_builderChainIsRight 4 5 rfl) (lxX6_builderChainIsRight 4 6 rfl) (lxX6_builderChainIsRight 4 7 rfl)
set_option maxRecDepth 20000 in
theorem dX6_builderChainIsRight_72 : decode cX6_builderChainIsRight 72 = .ok (.goto (-49), 3) := dc_167 255 207 (lxX6_builderChainIsRight 4 8 rfl) (lxX6_builderChainIsRight 4 9 rfl) (lxX6_builderChainIsRight 4 10 rfl)
set_option maxRecDepth 20000 in
theorem dX6_builderChainIsRight_75 : decode cX6_builderChainIsRight 75 = .ok (.iload_n 1, 1) := dc_27 (lxX6_builderChainIsRight 4 11 rfl)
set_option maxRecDepth 20000 in
theorem dX6_builderChainIsRight_76 : decode cX6_builderChainIsRight 76 = .ok (.aload_n 0, 1) := dc_42 (lxX6_builderChainIsRight 4 12 rfl)
set_option maxRecDepth 20000 in
theorem dX6_builderChainIsRight_77 : decode cX6_builderChainIsRight 77 = .ok (.getfield 58, 3) := dc_180 0 58 (lxX6_builderChainIsRight 4 13 rfl) (lxX6_builderChainIsRight 4 14 rfl) (lxX6_builderChainIsRight 4 15 rfl)
set_option maxRecDepth 20000 in
theorem dX6_builderChainIsRight_80 : decode cX6_builderChainIsRight 80 = .ok (.getfield 246, 3) := dc_180 0 246 (lxX6_builderChainIsRight 5 0 rfl) (lxX6_builderChainIsRight 5 1 rfl) (lxX6_builderChainIsRight 5 2 rfl)
set_option maxRecDepth 20000 in
theorem dX6_builderChainIsRight_83 : decode cX6_builderChainIsRight 83 = .ok (.if_icmp .ne 7, 3) := dc_160 0 7 (lxX6_builderChainIsRight 5 3 rfl) (lxX6_builderChainIsRight 5 4 rfl) (lxX6_builderChainIsRight 5 5 rfl)
set_option maxRecDepth 20000 in
theorem dX6_builderChainIsRight_86 : decode cX6_builderChainIsRight 86 = .ok (.iconst 1, 1) := dc_4 (lxX6_builderChainIsRight 5 6 rfl)
set_option maxRecDepth 20000 in
theorem dX6_builderChainIsRight_87 : decode cX6_builderChainIsRight 87 = .ok (.goto 4, 3) := dc_167 0 4 (lxX6_builderChainIsRight 5 7 rfl) (lxX6_builderChainIsRight 5 8 rfl) (lxX6_builderChainIsRight 5 9 rfl)
set_option maxRecDepth 20000 in
theorem dX6_builderChainIsRight_90 : decode cX6_builderChainIsRight 90 = .ok (.iconst 0, 1) := dc_3 (lxX6_builderChainIsRight 5 10 rfl)
set_option maxRecDepth 20000 in
theorem dX6_builderChainIsRight_91 : decode cX6_builderChainIsRight 91 = .ok (.ireturn, 1) := dc_172 (lxX6_builderChainIsRight 5 11 rfl)
noncomputable def sgX6_matches : List (List Cond) := [[.code yX6_matches cX6_matches 6 (some .boolean)], wsX6_matches_r1, wsX6_matches_r2, wsX20, wsX50]
theorem seX6_matches : sgX6_matches.flatten = wsX6_matches := by simp only [sgX6_matches, wsX6_matches, List.flatten_cons, List.flatten_nil, List.append_assoc, List.append_nil, List.cons_append, List.nil_append]
set_option maxRecDepth 20000 in
theorem ggX6_matches_X2_size : GoodIn wsX6_matches wsX2_size := goodIn_s seX6_matches _ [pq_1_5, pq_1_6, pq_3_0, pq_3_1] (by rfl) (by decide +kernel)
set_option maxRecDepth 20000 in
theorem gX6_matches_X2_size_u165X2 : GoodIn wsX6_matches (va_wsU RX6 165 RX2 "Sashwords$Text" ⟨"Sashwords$Text", "size", "()I"⟩ yX2_size wsX2_size) := goodIn_app (goodIn_s seX6_matches _ [pq_1_0, pq_1_1, pq_1_2, pq_1_3, pq_1_4] (by rfl) (by decide +kernel)) ggX6_matches_X2_size
set_option maxRecDepth 20000 in
theorem ggX6_matches_X5_size : GoodIn wsX6_matches wsX5_size := goodIn_s seX6_matches _ [pq_1_10, pq_1_11, pq_1_12, pq_4_0, pq_4_1, pq_4_2, pq_4_3, pq_4_4, pq_4_5] (by rfl) (by decide +kernel)
set_option maxRecDepth 20000 in
theorem gX6_matches_X5_size_u165X5 : GoodIn wsX6_matches (va_wsU RX6 165 RX5 "Sashwords$Text" ⟨"Sashwords$Text", "size", "()I"⟩ yX5_size wsX5_size) := goodIn_app (goodIn_s seX6_matches _ [pq_1_0, pq_1_1, pq_1_7, pq_1_8, pq_1_9] (by rfl) (by decide +kernel)) ggX6_matches_X5_size
set_option maxRecDepth 20000 in
theorem ggX6_matches_X2_at : GoodIn wsX6_matches wsX2_at := goodIn_s seX6_matches _ [pq_1_17, pq_1_6, pq_1_18, pq_3_0, pq_3_1] (by rfl) (by decide +kernel)
set_option maxRecDepth 20000 in
theorem gX6_matches_X2_at_u334X2 : GoodIn wsX6_matches (va_wsU RX6 334 RX2 "Sashwords$Text" ⟨"Sashwords$Text", "at", "(I)I"⟩ yX2_at wsX2_at) := goodIn_app (goodIn_s seX6_matches _ [pq_1_13, pq_1_14, pq_1_15, pq_1_16, pq_1_4] (by rfl) (by decide +kernel)) ggX6_matches_X2_at
set_option maxRecDepth 20000 in
theorem ggX6_matches_X5_at : GoodIn wsX6_matches wsX5_at := goodIn_s seX6_matches _ [pq_1_21, pq_1_11, pq_1_12, pq_1_22, pq_1_23, pq_2_0, pq_1_9, pq_2_1, pq_2_2, pq_2_3, pq_4_0, pq_4_1, pq_4_2, pq_4_3, pq_4_4, pq_4_5] (by rfl) (by decide +kernel)
set_option maxRecDepth 20000 in
theorem gX6_matches_X5_at_u334X5 : GoodIn wsX6_matches (va_wsU RX6 334 RX5 "Sashwords$Text" ⟨"Sashwords$Text", "at", "(I)I"⟩ yX5_at wsX5_at) := goodIn_app (goodIn_s seX6_matches _ [pq_1_13, pq_1_14, pq_1_19, pq_1_20, pq_1_9] (by rfl) (by decide +kernel)) ggX6_matches_X5_at
def lb_sgX6_matches : List (List UInt8) := [[27, 28, 96, 42, 182, 0, 165, 163, 0, 14, 21, 4, 28, 96, 45, 182], [0, 165, 164, 0, 5, 3, 172, 3, 54, 5, 21, 5, 28, 162, 0, 31], [42, 27, 21, 5, 96, 182, 1, 78, 45, 21, 4, 21, 5, 96, 182, 1], [78, 159, 0, 5, 3, 172, 132, 5, 1, 167, 255, 225, 4, 172]]
set_option maxRecDepth 100000 in
theorem lb_seX6_matches : cX6_matches.data.toList = lb_sgX6_matches.flatten := by decide +kernel
theorem lb_lnX6_matches : ∀ s ∈ lb_sgX6_matches.dropLast, s.length = 16 := by decide +kernel
theorem lxX6_matches (k j : Nat) {b : UInt8} (h : (lb_sgX6_matches[k]?).bind (fun s => s[j]?) = some b) : lb_at cX6_matches (16 * k + j) b := by
  unfold lb_at
  rw [lb_seX6_matches]
  exact lb_flat 16 lb_sgX6_matches k j b lb_lnX6_matches h
set_option maxRecDepth 20000 in
theorem dX6_matches_0 : decode cX6_matches 0 = .ok (.iload_n 1, 1) := dc_27 (lxX6_matches 0 0 rfl)
set_option maxRecDepth 20000 in
theorem dX6_matches_1 : decode cX6_matches 1 = .ok (.iload_n 2, 1) := dc_28 (lxX6_matches 0 1 rfl)
set_option maxRecDepth 20000 in
theorem dX6_matches_2 : decode cX6_matches 2 = .ok (.iadd, 1) := dc_96 (lxX6_matches 0 2 rfl)
set_option maxRecDepth 20000 in
theorem dX6_matches_3 : decode cX6_matches 3 = .ok (.aload_n 0, 1) := dc_42 (lxX6_matches 0 3 rfl)
set_option maxRecDepth 20000 in
theorem dX6_matches_4 : decode cX6_matches 4 = .ok (.invokevirtual 165, 3) := dc_182 0 165 (lxX6_matches 0 4 rfl) (lxX6_matches 0 5 rfl) (lxX6_matches 0 6 rfl)
set_option maxRecDepth 20000 in
theorem dX6_matches_7 : decode cX6_matches 7 = .ok (.if_icmp .gt 14, 3) := dc_163 0 14 (lxX6_matches 0 7 rfl) (lxX6_matches 0 8 rfl) (lxX6_matches 0 9 rfl)
set_option maxRecDepth 20000 in
theorem dX6_matches_10 : decode cX6_matches 10 = .ok (.iload 4, 2) := dc_21 4 (lxX6_matches 0 10 rfl) (lxX6_matches 0 11 rfl)
set_option maxRecDepth 20000 in
theorem dX6_matches_12 : decode cX6_matches 12 = .ok (.iload_n 2, 1) := dc_28 (lxX6_matches 0 12 rfl)
set_option maxRecDepth 20000 in
theorem dX6_matches_13 : decode cX6_matches 13 = .ok (.iadd, 1) := dc_96 (lxX6_matches 0 13 rfl)
set_option maxRecDepth 20000 in
theorem dX6_matches_14 : decode cX6_matches 14 = .ok (.aload_n 3, 1) := dc_45 (lxX6_matches 0 14 rfl)
set_option maxRecDepth 20000 in
theorem dX6_matches_15 : decode cX6_matches 15 = .ok (.invokevirtual 165, 3) := dc_182 0 165 (lxX6_matches 0 15 rfl) (lxX6_matches 1 0 rfl) (lxX6_matches 1 1 rfl)
set_option maxRecDepth 20000 in
theorem dX6_matches_18 : decode cX6_matches 18 = .ok (.if_icmp .le 5, 3) := dc_164 0 5 (lxX6_matches 1 2 rfl) (lxX6_matches 1 3 rfl) (lxX6_matches 1 4 rfl)
set_option maxRecDepth 20000 in
theorem dX6_matches_21 : decode cX6_matches 21 = .ok (.iconst 0, 1) := dc_3 (lxX6_matches 1 5 rfl)
set_option maxRecDepth 20000 in
theorem dX6_matches_22 : decode cX6_matches 22 = .ok (.ireturn, 1) := dc_172 (lxX6_matches 1 6 rfl)
set_option maxRecDepth 20000 in
theorem dX6_matches_23 : decode cX6_matches 23 = .ok (.iconst 0, 1) := dc_3 (lxX6_matches 1 7 rfl)
set_option maxRecDepth 20000 in
theorem dX6_matches_24 : decode cX6_matches 24 = .ok (.istore 5, 2) := dc_54 5 (lxX6_matches 1 8 rfl) (lxX6_matches 1 9 rfl)
set_option maxRecDepth 20000 in
theorem dX6_matches_26 : decode cX6_matches 26 = .ok (.iload 5, 2) := dc_21 5 (lxX6_matches 1 10 rfl) (lxX6_matches 1 11 rfl)
set_option maxRecDepth 20000 in
theorem dX6_matches_28 : decode cX6_matches 28 = .ok (.iload_n 2, 1) := dc_28 (lxX6_matches 1 12 rfl)
set_option maxRecDepth 20000 in
theorem dX6_matches_29 : decode cX6_matches 29 = .ok (.if_icmp .ge 31, 3) := dc_162 0 31 (lxX6_matches 1 13 rfl) (lxX6_matches 1 14 rfl) (lxX6_matches 1 15 rfl)
set_option maxRecDepth 20000 in
theorem dX6_matches_32 : decode cX6_matches 32 = .ok (.aload_n 0, 1) := dc_42 (lxX6_matches 2 0 rfl)
set_option maxRecDepth 20000 in
theorem dX6_matches_33 : decode cX6_matches 33 = .ok (.iload_n 1, 1) := dc_27 (lxX6_matches 2 1 rfl)
set_option maxRecDepth 20000 in
theorem dX6_matches_34 : decode cX6_matches 34 = .ok (.iload 5, 2) := dc_21 5 (lxX6_matches 2 2 rfl) (lxX6_matches 2 3 rfl)
set_option maxRecDepth 20000 in
theorem dX6_matches_36 : decode cX6_matches 36 = .ok (.iadd, 1) := dc_96 (lxX6_matches 2 4 rfl)
set_option maxRecDepth 20000 in
theorem dX6_matches_37 : decode cX6_matches 37 = .ok (.invokevirtual 334, 3) := dc_182 1 78 (lxX6_matches 2 5 rfl) (lxX6_matches 2 6 rfl) (lxX6_matches 2 7 rfl)
set_option maxRecDepth 20000 in
theorem dX6_matches_40 : decode cX6_matches 40 = .ok (.aload_n 3, 1) := dc_45 (lxX6_matches 2 8 rfl)
set_option maxRecDepth 20000 in
theorem dX6_matches_41 : decode cX6_matches 41 = .ok (.iload 4, 2) := dc_21 4 (lxX6_matches 2 9 rfl) (lxX6_matches 2 10 rfl)
set_option maxRecDepth 20000 in
theorem dX6_matches_43 : decode cX6_matches 43 = .ok (.iload 5, 2) := dc_21 5 (lxX6_matches 2 11 rfl) (lxX6_matches 2 12 rfl)
set_option maxRecDepth 20000 in
theorem dX6_matches_45 : decode cX6_matches 45 = .ok (.iadd, 1) := dc_96 (lxX6_matches 2 13 rfl)
set_option maxRecDepth 20000 in
theorem dX6_matches_46 : decode cX6_matches 46 = .ok (.invokevirtual 334, 3) := dc_182 1 78 (lxX6_matches 2 14 rfl) (lxX6_matches 2 15 rfl) (lxX6_matches 3 0 rfl)
set_option maxRecDepth 20000 in
theorem dX6_matches_49 : decode cX6_matches 49 = .ok (.if_icmp .eq 5, 3) := dc_159 0 5 (lxX6_matches 3 1 rfl) (lxX6_matches 3 2 rfl) (lxX6_matches 3 3 rfl)
set_option maxRecDepth 20000 in
theorem dX6_matches_52 : decode cX6_matches 52 = .ok (.iconst 0, 1) := dc_3 (lxX6_matches 3 4 rfl)
set_option maxRecDepth 20000 in
theorem dX6_matches_53 : decode cX6_matches 53 = .ok (.ireturn, 1) := dc_172 (lxX6_matches 3 5 rfl)
set_option maxRecDepth 20000 in
theorem dX6_matches_54 : decode cX6_matches 54 = .ok (.iinc 5 1, 3) := dc_132 5 1 (lxX6_matches 3 6 rfl) (lxX6_matches 3 7 rfl) (lxX6_matches 3 8 rfl)
set_option maxRecDepth 20000 in
theorem dX6_matches_57 : decode cX6_matches 57 = .ok (.goto (-31), 3) := dc_167 255 225 (lxX6_matches 3 9 rfl) (lxX6_matches 3 10 rfl) (lxX6_matches 3 11 rfl)
set_option maxRecDepth 20000 in
theorem dX6_matches_60 : decode cX6_matches 60 = .ok (.iconst 1, 1) := dc_4 (lxX6_matches 3 12 rfl)
set_option maxRecDepth 20000 in
theorem dX6_matches_61 : decode cX6_matches 61 = .ok (.ireturn, 1) := dc_172 (lxX6_matches 3 13 rfl)
set_option maxRecDepth 20000 in
theorem dX6_mixed_0 : decode cX6_mixed 0 = .ok (.lload_n 0, 1) := dc_30 rfl
set_option maxRecDepth 20000 in
theorem dX6_mixed_1 : decode cX6_mixed 1 = .ok (.ldc2_w 353, 3) := dc_20 1 97 rfl rfl rfl
set_option maxRecDepth 20000 in
theorem dX6_mixed_4 : decode cX6_mixed 4 = .ok (.lmul, 1) := dc_105 rfl
set_option maxRecDepth 20000 in
theorem dX6_mixed_5 : decode cX6_mixed 5 = .ok (.lload_n 2, 1) := dc_32 rfl
set_option maxRecDepth 20000 in
theorem dX6_mixed_6 : decode cX6_mixed 6 = .ok (.ladd, 1) := dc_97 rfl
set_option maxRecDepth 20000 in
theorem dX6_mixed_7 : decode cX6_mixed 7 = .ok (.lreturn, 1) := dc_173 rfl
noncomputable def sgX6_mixedWithText : List (List Cond) := [[.code yX6_mixedWithText cX6_mixedWithText 6 (some .long)], wsX6_mixedWithText_r1, wsX6_mixedWithText_r2, wsX20, wsX50]
theorem seX6_mixedWithText : sgX6_mixedWithText.flatten = wsX6_mixedWithText := by simp only [sgX6_mixedWithText, wsX6_mixedWithText, List.flatten_cons, List.flatten_nil, List.append_assoc, List.append_nil, List.cons_append, List.nil_append]
set_option maxRecDepth 20000 in
theorem ggX6_mixedWithText_X2_size : GoodIn wsX6_mixedWithText wsX2_size := goodIn_s seX6_mixedWithText _ [pq_1_5, pq_1_6, pq_3_0, pq_3_1] (by rfl) (by decide +kernel)
set_option maxRecDepth 20000 in
theorem gX6_mixedWithText_X2_size_u165X2 : GoodIn wsX6_mixedWithText (va_wsU RX6 165 RX2 "Sashwords$Text" ⟨"Sashwords$Text", "size", "()I"⟩ yX2_size wsX2_size) := goodIn_app (goodIn_s seX6_mixedWithText _ [pq_1_0, pq_1_1, pq_1_2, pq_1_3, pq_1_4] (by rfl) (by decide +kernel)) ggX6_mixedWithText_X2_size
set_option maxRecDepth 20000 in
theorem ggX6_mixedWithText_X5_size : GoodIn wsX6_mixedWithText wsX5_size := goodIn_s seX6_mixedWithText _ [pq_1_10, pq_1_11, pq_1_12, pq_4_0, pq_4_1, pq_4_2, pq_4_3, pq_4_4, pq_4_5] (by rfl) (by decide +kernel)
set_option maxRecDepth 20000 in
theorem gX6_mixedWithText_X5_size_u165X5 : GoodIn wsX6_mixedWithText (va_wsU RX6 165 RX5 "Sashwords$Text" ⟨"Sashwords$Text", "size", "()I"⟩ yX5_size wsX5_size) := goodIn_app (goodIn_s seX6_mixedWithText _ [pq_1_0, pq_1_1, pq_1_7, pq_1_8, pq_1_9] (by rfl) (by decide +kernel)) ggX6_mixedWithText_X5_size
set_option maxRecDepth 20000 in
theorem ggX6_mixedWithText_X2_at : GoodIn wsX6_mixedWithText wsX2_at := goodIn_s seX6_mixedWithText _ [pq_1_17, pq_1_6, pq_1_18, pq_3_0, pq_3_1] (by rfl) (by decide +kernel)
set_option maxRecDepth 20000 in
theorem gX6_mixedWithText_X2_at_u334X2 : GoodIn wsX6_mixedWithText (va_wsU RX6 334 RX2 "Sashwords$Text" ⟨"Sashwords$Text", "at", "(I)I"⟩ yX2_at wsX2_at) := goodIn_app (goodIn_s seX6_mixedWithText _ [pq_1_13, pq_1_14, pq_1_15, pq_1_16, pq_1_4] (by rfl) (by decide +kernel)) ggX6_mixedWithText_X2_at
set_option maxRecDepth 20000 in
theorem ggX6_mixedWithText_X5_at : GoodIn wsX6_mixedWithText wsX5_at := goodIn_s seX6_mixedWithText _ [pq_1_21, pq_1_11, pq_1_12, pq_1_22, pq_1_23, pq_2_0, pq_1_9, pq_2_1, pq_2_2, pq_2_3, pq_4_0, pq_4_1, pq_4_2, pq_4_3, pq_4_4, pq_4_5] (by rfl) (by decide +kernel)
set_option maxRecDepth 20000 in
theorem gX6_mixedWithText_X5_at_u334X5 : GoodIn wsX6_mixedWithText (va_wsU RX6 334 RX5 "Sashwords$Text" ⟨"Sashwords$Text", "at", "(I)I"⟩ yX5_at wsX5_at) := goodIn_app (goodIn_s seX6_mixedWithText _ [pq_1_13, pq_1_14, pq_1_19, pq_1_20, pq_1_9] (by rfl) (by decide +kernel)) ggX6_mixedWithText_X5_at
set_option maxRecDepth 20000 in
theorem ggX6_mixedWithText_X6_mixed : GoodIn wsX6_mixedWithText wsX6_mixed := goodIn_s seX6_mixedWithText _ [pq_2_7, pq_2_8] (by rfl) (by decide +kernel)
set_option maxRecDepth 20000 in
theorem gX6_mixedWithText_X6_mixed : GoodIn wsX6_mixedWithText (va_wsS RX6 291 yX6_mixed wsX6_mixed) := goodIn_app (goodIn_s seX6_mixedWithText _ [pq_2_4, pq_2_5, pq_2_6] (by rfl) (by decide +kernel)) ggX6_mixedWithText_X6_mixed
def lb_sgX6_mixedWithText : List (List UInt8) := [[30, 66, 3, 54, 5, 21, 5, 44, 182, 0, 165, 162, 0, 21, 33, 44], [21, 5, 182, 1, 78, 133, 184, 1, 35, 66, 132, 5, 1, 167, 255, 232], [33, 173]]
set_option maxRecDepth 100000 in
theorem lb_seX6_mixedWithText : cX6_mixedWithText.data.toList = lb_sgX6_mixedWithText.flatten := by decide +kernel
theorem lb_lnX6_mixedWithText : ∀ s ∈ lb_sgX6_mixedWithText.dropLast, s.length = 16 := by decide +kernel
theorem lxX6_mixedWithText (k j : Nat) {b : UInt8} (h : (lb_sgX6_mixedWithText[k]?).bind (fun s => s[j]?) = some b) : lb_at cX6_mixedWithText (16 * k + j) b := by
  unfold lb_at
  rw [lb_seX6_mixedWithText]
  exact lb_flat 16 lb_sgX6_mixedWithText k j b lb_lnX6_mixedWithText h
set_option maxRecDepth 20000 in
theorem dX6_mixedWithText_0 : decode cX6_mixedWithText 0 = .ok (.lload_n 0, 1) := dc_30 (lxX6_mixedWithText 0 0 rfl)
set_option maxRecDepth 20000 in
theorem dX6_mixedWithText_1 : decode cX6_mixedWithText 1 = .ok (.lstore_n 3, 1) := dc_66 (lxX6_mixedWithText 0 1 rfl)
set_option maxRecDepth 20000 in
theorem dX6_mixedWithText_2 : decode cX6_mixedWithText 2 = .ok (.iconst 0, 1) := dc_3 (lxX6_mixedWithText 0 2 rfl)
set_option maxRecDepth 20000 in
theorem dX6_mixedWithText_3 : decode cX6_mixedWithText 3 = .ok (.istore 5, 2) := dc_54 5 (lxX6_mixedWithText 0 3 rfl) (lxX6_mixedWithText 0 4 rfl)
set_option maxRecDepth 20000 in
theorem dX6_mixedWithText_5 : decode cX6_mixedWithText 5 = .ok (.iload 5, 2) := dc_21 5 (lxX6_mixedWithText 0 5 rfl) (lxX6_mixedWithText 0 6 rfl)
set_option maxRecDepth 20000 in
theorem dX6_mixedWithText_7 : decode cX6_mixedWithText 7 = .ok (.aload_n 2, 1) := dc_44 (lxX6_mixedWithText 0 7 rfl)
set_option maxRecDepth 20000 in
theorem dX6_mixedWithText_8 : decode cX6_mixedWithText 8 = .ok (.invokevirtual 165, 3) := dc_182 0 165 (lxX6_mixedWithText 0 8 rfl) (lxX6_mixedWithText 0 9 rfl) (lxX6_mixedWithText 0 10 rfl)
set_option maxRecDepth 20000 in
theorem dX6_mixedWithText_11 : decode cX6_mixedWithText 11 = .ok (.if_icmp .ge 21, 3) := dc_162 0 21 (lxX6_mixedWithText 0 11 rfl) (lxX6_mixedWithText 0 12 rfl) (lxX6_mixedWithText 0 13 rfl)
set_option maxRecDepth 20000 in
theorem dX6_mixedWithText_14 : decode cX6_mixedWithText 14 = .ok (.lload_n 3, 1) := dc_33 (lxX6_mixedWithText 0 14 rfl)
set_option maxRecDepth 20000 in
theorem dX6_mixedWithText_15 : decode cX6_mixedWithText 15 = .ok (.aload_n 2, 1) := dc_44 (lxX6_mixedWithText 0 15 rfl)
set_option maxRecDepth 20000 in
theorem dX6_mixedWithText_16 : decode cX6_mixedWithText 16 = .ok (.iload 5, 2) := dc_21 5 (lxX6_mixedWithText 1 0 rfl) (lxX6_mixedWithText 1 1 rfl)
set_option maxRecDepth 20000 in
theorem dX6_mixedWithText_18 : decode cX6_mixedWithText 18 = .ok (.invokevirtual 334, 3) := dc_182 1 78 (lxX6_mixedWithText 1 2 rfl) (lxX6_mixedWithText 1 3 rfl) (lxX6_mixedWithText 1 4 rfl)
set_option maxRecDepth 20000 in
theorem dX6_mixedWithText_21 : decode cX6_mixedWithText 21 = .ok (.i2l, 1) := dc_133 (lxX6_mixedWithText 1 5 rfl)
set_option maxRecDepth 20000 in
theorem dX6_mixedWithText_22 : decode cX6_mixedWithText 22 = .ok (.invokestatic 291, 3) := dc_184 1 35 (lxX6_mixedWithText 1 6 rfl) (lxX6_mixedWithText 1 7 rfl) (lxX6_mixedWithText 1 8 rfl)
set_option maxRecDepth 20000 in
theorem dX6_mixedWithText_25 : decode cX6_mixedWithText 25 = .ok (.lstore_n 3, 1) := dc_66 (lxX6_mixedWithText 1 9 rfl)
set_option maxRecDepth 20000 in
theorem dX6_mixedWithText_26 : decode cX6_mixedWithText 26 = .ok (.iinc 5 1, 3) := dc_132 5 1 (lxX6_mixedWithText 1 10 rfl) (lxX6_mixedWithText 1 11 rfl) (lxX6_mixedWithText 1 12 rfl)
set_option maxRecDepth 20000 in
theorem dX6_mixedWithText_29 : decode cX6_mixedWithText 29 = .ok (.goto (-24), 3) := dc_167 255 232 (lxX6_mixedWithText 1 13 rfl) (lxX6_mixedWithText 1 14 rfl) (lxX6_mixedWithText 1 15 rfl)
set_option maxRecDepth 20000 in
theorem dX6_mixedWithText_32 : decode cX6_mixedWithText 32 = .ok (.lload_n 3, 1) := dc_33 (lxX6_mixedWithText 2 0 rfl)
set_option maxRecDepth 20000 in
theorem dX6_mixedWithText_33 : decode cX6_mixedWithText 33 = .ok (.lreturn, 1) := dc_173 (lxX6_mixedWithText 2 1 rfl)
noncomputable def sgX6_mixedWithWindow : List (List Cond) := [[.code yX6_mixedWithWindow cX6_mixedWithWindow 6 (some .long)], wsX6_mixedWithWindow_r1, wsX6_mixedWithWindow_r2, wsX6_mixedWithWindow_r3, wsX6_mixedWithWindow_r4, wsX50, wsX60, wsX20, wsX00, wsX30]
theorem seX6_mixedWithWindow : sgX6_mixedWithWindow.flatten = wsX6_mixedWithWindow := by simp only [sgX6_mixedWithWindow, wsX6_mixedWithWindow, List.flatten_cons, List.flatten_nil, List.append_assoc, List.append_nil, List.cons_append, List.nil_append]
set_option maxRecDepth 20000 in
theorem ggX6_mixedWithWindow_X6_mixed : GoodIn wsX6_mixedWithWindow wsX6_mixed := goodIn_s seX6_mixedWithWindow _ [pq_1_5, pq_1_6] (by rfl) (by decide +kernel)
set_option maxRecDepth 20000 in
theorem gX6_mixedWithWindow_X6_mixed : GoodIn wsX6_mixedWithWindow (va_wsS RX6 291 yX6_mixed wsX6_mixed) := goodIn_app (goodIn_s seX6_mixedWithWindow _ [pq_1_2, pq_1_3, pq_1_4] (by rfl) (by decide +kernel)) ggX6_mixedWithWindow_X6_mixed
set_option maxRecDepth 20000 in
theorem ggX6_mixedWithWindow_X6_mixedWithText : GoodIn wsX6_mixedWithWindow wsX6_mixedWithText := goodIn_s seX6_mixedWithWindow _ [pq_1_9, pq_1_10, pq_1_11, pq_1_12, pq_1_13, pq_1_14, pq_1_15, pq_1_16, pq_1_17, pq_1_18, pq_1_19, pq_1_20, pq_1_21, pq_1_22, pq_1_23, pq_2_0, pq_2_1, pq_2_2, pq_2_3, pq_2_4, pq_2_5, pq_2_6, pq_2_7, pq_2_8, pq_2_9, pq_2_10, pq_2_11, pq_2_12, pq_2_13, pq_1_2, pq_1_3, pq_1_4, pq_1_5, pq_1_6, pq_7_0, pq_7_1, pq_5_0, pq_5_1, pq_5_2, pq_5_3, pq_5_4, pq_5_5] (by rfl) (by decide +kernel)
set_option maxRecDepth 20000 in
theorem gX6_mixedWithWindow_X6_mixedWithText : GoodIn wsX6_mixedWithWindow (va_wsS RX6 295 yX6_mixedWithText wsX6_mixedWithText) := goodIn_app (goodIn_s seX6_mixedWithWindow _ [pq_1_7, pq_1_8, pq_1_4] (by rfl) (by decide +kernel)) ggX6_mixedWithWindow_X6_mixedWithText
set_option maxRecDepth 20000 in
theorem ggX6_mixedWithWindow_X6_greatestBorder : GoodIn wsX6_mixedWithWindow wsX6_greatestBorder := goodIn_s seX6_mixedWithWindow _ [pq_2_17, pq_2_18, pq_2_19, pq_2_20, pq_2_21, pq_2_22, pq_2_23, pq_3_0, pq_3_1, pq_1_11, pq_1_12, pq_1_13, pq_1_14, pq_1_15, pq_1_16, pq_1_17, pq_1_18, pq_1_19, pq_1_20, pq_1_21, pq_1_22, pq_3_2, pq_2_0, pq_2_1, pq_2_2, pq_2_3, pq_2_4, pq_2_5, pq_2_6, pq_2_7, pq_2_8, pq_2_9, pq_2_10, pq_2_11, pq_2_12, pq_2_13, pq_3_3, pq_3_4, pq_3_5, pq_3_6, pq_3_7, pq_3_8, pq_3_9, pq_3_10, pq_1_10, pq_3_11, pq_6_0, pq_6_1, pq_6_2, pq_6_3, pq_6_4, pq_6_5, pq_6_6, pq_6_7, pq_6_8, pq_6_9, pq_6_10, pq_6_11, pq_6_12, pq_6_13, pq_8_0, pq_8_1, pq_8_2, pq_7_0, pq_7_1, pq_5_0, pq_5_1, pq_5_2, pq_5_3, pq_5_4, pq_5_5] (by rfl) (by decide +kernel)
set_option maxRecDepth 20000 in
theorem gX6_mixedWithWindow_X6_greatestBorder : GoodIn wsX6_mixedWithWindow (wsV RX6 230 RX6 yX6_greatestBorder wsX6_greatestBorder) := goodIn_app (goodIn_s seX6_mixedWithWindow _ [pq_2_14, pq_2_15, pq_2_16, pq_1_4] (by rfl) (by decide +kernel)) ggX6_mixedWithWindow_X6_greatestBorder
set_option maxRecDepth 20000 in
theorem ggX6_mixedWithWindow_X3_seek : GoodIn wsX6_mixedWithWindow wsX3_seek := goodIn_s seX6_mixedWithWindow _ [pq_3_16, pq_3_17, pq_3_18, pq_3_19, pq_2_20, pq_2_21, pq_2_22, pq_2_23, pq_3_0, pq_3_1, pq_1_11, pq_1_12, pq_1_13, pq_1_14, pq_1_15, pq_1_16, pq_1_17, pq_1_18, pq_1_19, pq_1_20, pq_1_21, pq_1_22, pq_3_2, pq_2_0, pq_2_1, pq_2_2, pq_2_3, pq_2_4, pq_2_5, pq_2_6, pq_2_7, pq_2_8, pq_2_9, pq_2_10, pq_2_11, pq_2_12, pq_2_13, pq_3_3, pq_3_4, pq_3_5, pq_3_6, pq_3_7, pq_3_8, pq_3_9, pq_3_10, pq_3_20, pq_3_21, pq_3_22, pq_3_23, pq_3_15, pq_4_0, pq_4_1, pq_4_2, pq_4_3, pq_9_0, pq_9_1, pq_9_2, pq_8_0, pq_8_1, pq_8_2, pq_7_0, pq_7_1, pq_5_0, pq_5_1, pq_5_2, pq_5_3, pq_5_4, pq_5_5] (by rfl) (by decide +kernel)
set_option maxRecDepth 20000 in
theorem gX6_mixedWithWindow_X3_seek : GoodIn wsX6_mixedWithWindow (wsV RX6 220 RX3 yX3_seek wsX3_seek) := goodIn_app (goodIn_s seX6_mixedWithWindow _ [pq_3_12, pq_3_13, pq_3_14, pq_3_15] (by rfl) (by decide +kernel)) ggX6_mixedWithWindow_X3_seek
set_option maxRecDepth 20000 in
theorem ggX6_mixedWithWindow_X3_foundAt : GoodIn wsX6_mixedWithWindow wsX3_foundAt := goodIn_s seX6_mixedWithWindow _ [pq_4_7, pq_3_17, pq_4_1, pq_9_0, pq_9_1, pq_9_2] (by rfl) (by decide +kernel)
set_option maxRecDepth 20000 in
theorem gX6_mixedWithWindow_X3_foundAt : GoodIn wsX6_mixedWithWindow (wsV RX6 224 RX3 yX3_foundAt wsX3_foundAt) := goodIn_app (goodIn_s seX6_mixedWithWindow _ [pq_4_4, pq_4_5, pq_4_6, pq_3_15] (by rfl) (by decide +kernel)) ggX6_mixedWithWindow_X3_foundAt
def lb_sgX6_mixedWithWindow : List (List UInt8) := [[31, 45, 180, 0, 134, 133, 184, 1, 35, 55, 4, 22, 4, 45, 180, 0], [144, 133, 184, 1, 35, 55, 4, 22, 4, 45, 180, 0, 153, 133, 184, 1], [35, 55, 4, 22, 4, 45, 180, 0, 138, 133, 184, 1, 35, 55, 4, 22], [4, 45, 184, 1, 39, 55, 4, 22, 4, 42, 45, 182, 0, 230, 133, 184], [1, 35, 55, 4, 42, 180, 0, 48, 45, 42, 180, 0, 24, 182, 0, 220], [22, 4, 42, 180, 0, 48, 3, 182, 0, 224, 133, 184, 1, 35, 173]]
set_option maxRecDepth 100000 in
theorem lb_seX6_mixedWithWindow : cX6_mixedWithWindow.data.toList = lb_sgX6_mixedWithWindow.flatten := by decide +kernel
theorem lb_lnX6_mixedWithWindow : ∀ s ∈ lb_sgX6_mixedWithWindow.dropLast, s.length = 16 := by decide +kernel
theorem lxX6_mixedWithWindow (k j : Nat) {b : UInt8} (h : (lb_sgX6_mixedWithWindow[k]?).bind (fun s => s[j]?) = some b) : lb_at cX6_mixedWithWindow (16 * k + j) b := by
  unfold lb_at
  rw [lb_seX6_mixedWithWindow]
  exact lb_flat 16 lb_sgX6_mixedWithWindow k j b lb_lnX6_mixedWithWindow h
set_option maxRecDepth 20000 in
theorem dX6_mixedWithWindow_0 : decode cX6_mixedWithWindow 0 = .ok (.lload_n 1, 1) := dc_31 (lxX6_mixedWithWindow 0 0 rfl)
set_option maxRecDepth 20000 in
theorem dX6_mixedWithWindow_1 : decode cX6_mixedWithWindow 1 = .ok (.aload_n 3, 1) := dc_45 (lxX6_mixedWithWindow 0 1 rfl)
set_option maxRecDepth 20000 in
theorem dX6_mixedWithWindow_2 : decode cX6_mixedWithWindow 2 = .ok (.getfield 134, 3) := dc_180 0 134 (lxX6_mixedWithWindow 0 2 rfl) (lxX6_mixedWithWindow 0 3 rfl) (lxX6_mixedWithWindow 0 4 rfl)
set_option maxRecDepth 20000 in
theorem dX6_mixedWithWindow_5 : decode cX6_mixedWithWindow 5 = .ok (.i2l, 1) := dc_133 (lxX6_mixedWithWindow 0 5 rfl)
set_option maxRecDepth 20000 in
theorem dX6_mixedWithWindow_6 : decode cX6_mixedWithWindow 6 = .ok (.invokestatic 291, 3) := dc_184 1 35 (lxX6_mixedWithWindow 0 6 rfl) (lxX6_mixedWithWindow 0 7 rfl) (lxX6_mixedWithWindow 0 8 rfl)
set_option maxRecDepth 20000 in
theorem dX6_mixedWithWindow_9 : decode cX6_mixedWithWindow 9 = .ok (.lstore 4, 2) := dc_55 4 (lxX6_mixedWithWindow 0 9 rfl) (lxX6_mixedWithWindow 0 10 rfl)
set_option maxRecDepth 20000 in
theorem dX6_mixedWithWindow_11 : decode cX6_mixedWithWindow 11 = .ok (.lload 4, 2) := dc_22 4 (lxX6_mixedWithWindow 0 11 rfl) (lxX6_mixedWithWindow 0 12 rfl)
set_option maxRecDepth 20000 in
theorem dX6_mixedWithWindow_13 : decode cX6_mixedWithWindow 13 = .ok (.aload_n 3, 1) := dc_45 (lxX6_mixedWithWindow 0 13 rfl)
set_option maxRecDepth 20000 in
theorem dX6_mixedWithWindow_14 : decode cX6_mixedWithWindow 14 = .ok (.getfield 144, 3) := dc_180 0 144 (lxX6_mixedWithWindow 0 14 rfl) (lxX6_mixedWithWindow 0 15 rfl) (lxX6_mixedWithWindow 1 0 rfl)
set_option maxRecDepth 20000 in
theorem dX6_mixedWithWindow_17 : decode cX6_mixedWithWindow 17 = .ok (.i2l, 1) := dc_133 (lxX6_mixedWithWindow 1 1 rfl)
set_option maxRecDepth 20000 in
theorem dX6_mixedWithWindow_18 : decode cX6_mixedWithWindow 18 = .ok (.invokestatic 291, 3) := dc_184 1 35 (lxX6_mixedWithWindow 1 2 rfl) (lxX6_mixedWithWindow 1 3 rfl) (lxX6_mixedWithWindow 1 4 rfl)
set_option maxRecDepth 20000 in
theorem dX6_mixedWithWindow_21 : decode cX6_mixedWithWindow 21 = .ok (.lstore 4, 2) := dc_55 4 (lxX6_mixedWithWindow 1 5 rfl) (lxX6_mixedWithWindow 1 6 rfl)
set_option maxRecDepth 20000 in
theorem dX6_mixedWithWindow_23 : decode cX6_mixedWithWindow 23 = .ok (.lload 4, 2) := dc_22 4 (lxX6_mixedWithWindow 1 7 rfl) (lxX6_mixedWithWindow 1 8 rfl)
set_option maxRecDepth 20000 in
theorem dX6_mixedWithWindow_25 : decode cX6_mixedWithWindow 25 = .ok (.aload_n 3, 1) := dc_45 (lxX6_mixedWithWindow 1 9 rfl)
set_option maxRecDepth 20000 in
theorem dX6_mixedWithWindow_26 : decode cX6_mixedWithWindow 26 = .ok (.getfield 153, 3) := dc_180 0 153 (lxX6_mixedWithWindow 1 10 rfl) (lxX6_mixedWithWindow 1 11 rfl) (lxX6_mixedWithWindow 1 12 rfl)
set_option maxRecDepth 20000 in
theorem dX6_mixedWithWindow_29 : decode cX6_mixedWithWindow 29 = .ok (.i2l, 1) := dc_133 (lxX6_mixedWithWindow 1 13 rfl)
set_option maxRecDepth 20000 in
theorem dX6_mixedWithWindow_30 : decode cX6_mixedWithWindow 30 = .ok (.invokestatic 291, 3) := dc_184 1 35 (lxX6_mixedWithWindow 1 14 rfl) (lxX6_mixedWithWindow 1 15 rfl) (lxX6_mixedWithWindow 2 0 rfl)
set_option maxRecDepth 20000 in
theorem dX6_mixedWithWindow_33 : decode cX6_mixedWithWindow 33 = .ok (.lstore 4, 2) := dc_55 4 (lxX6_mixedWithWindow 2 1 rfl) (lxX6_mixedWithWindow 2 2 rfl)
set_option maxRecDepth 20000 in
theorem dX6_mixedWithWindow_35 : decode cX6_mixedWithWindow 35 = .ok (.lload 4, 2) := dc_22 4 (lxX6_mixedWithWindow 2 3 rfl) (lxX6_mixedWithWindow 2 4 rfl)
set_option maxRecDepth 20000 in
theorem dX6_mixedWithWindow_37 : decode cX6_mixedWithWindow 37 = .ok (.aload_n 3, 1) := dc_45 (lxX6_mixedWithWindow 2 5 rfl)
set_option maxRecDepth 20000 in
theorem dX6_mixedWithWindow_38 : decode cX6_mixedWithWindow 38 = .ok (.getfield 138, 3) := dc_180 0 138 (lxX6_mixedWithWindow 2 6 rfl) (lxX6_mixedWithWindow 2 7 rfl) (lxX6_mixedWithWindow 2 8 rfl)
set_option maxRecDepth 20000 in
theorem dX6_mixedWithWindow_41 : decode cX6_mixedWithWindow 41 = .ok (.i2l, 1) := dc_133 (lxX6_mixedWithWindow 2 9 rfl)
set_option maxRecDepth 20000 in
theorem dX6_mixedWithWindow_42 : decode cX6_mixedWithWindow 42 = .ok (.invokestatic 291, 3) := dc_184 1 35 (lxX6_mixedWithWindow 2 10 rfl) (lxX6_mixedWithWindow 2 11 rfl) (lxX6_mixedWithWindow 2 12 rfl)
set_option maxRecDepth 20000 in
theorem dX6_mixedWithWindow_45 : decode cX6_mixedWithWindow 45 = .ok (.lstore 4, 2) := dc_55 4 (lxX6_mixedWithWindow 2 13 rfl) (lxX6_mixedWithWindow 2 14 rfl)
set_option maxRecDepth 20000 in
theorem dX6_mixedWithWindow_47 : decode cX6_mixedWithWindow 47 = .ok (.lload 4, 2) := dc_22 4 (lxX6_mixedWithWindow 2 15 rfl) (lxX6_mixedWithWindow 3 0 rfl)
set_option maxRecDepth 20000 in
theorem dX6_mixedWithWindow_49 : decode cX6_mixedWithWindow 49 = .ok (.aload_n 3, 1) := dc_45 (lxX6_mixedWithWindow 3 1 rfl)
set_option maxRecDepth 20000 in
theorem dX6_mixedWithWindow_50 : decode cX6_mixedWithWindow 50 = .ok (.invokestatic 295, 3) := dc_184 1 39 (lxX6_mixedWithWindow 3 2 rfl) (lxX6_mixedWithWindow 3 3 rfl) (lxX6_mixedWithWindow 3 4 rfl)
set_option maxRecDepth 20000 in
theorem dX6_mixedWithWindow_53 : decode cX6_mixedWithWindow 53 = .ok (.lstore 4, 2) := dc_55 4 (lxX6_mixedWithWindow 3 5 rfl) (lxX6_mixedWithWindow 3 6 rfl)
set_option maxRecDepth 20000 in
theorem dX6_mixedWithWindow_55 : decode cX6_mixedWithWindow 55 = .ok (.lload 4, 2) := dc_22 4 (lxX6_mixedWithWindow 3 7 rfl) (lxX6_mixedWithWindow 3 8 rfl)
set_option maxRecDepth 20000 in
theorem dX6_mixedWithWindow_57 : decode cX6_mixedWithWindow 57 = .ok (.aload_n 0, 1) := dc_42 (lxX6_mixedWithWindow 3 9 rfl)
set_option maxRecDepth 20000 in
theorem dX6_mixedWithWindow_58 : decode cX6_mixedWithWindow 58 = .ok (.aload_n 3, 1) := dc_45 (lxX6_mixedWithWindow 3 10 rfl)
set_option maxRecDepth 20000 in
theorem dX6_mixedWithWindow_59 : decode cX6_mixedWithWindow 59 = .ok (.invokevirtual 230, 3) := dc_182 0 230 (lxX6_mixedWithWindow 3 11 rfl) (lxX6_mixedWithWindow 3 12 rfl) (lxX6_mixedWithWindow 3 13 rfl)
set_option maxRecDepth 20000 in
theorem dX6_mixedWithWindow_62 : decode cX6_mixedWithWindow 62 = .ok (.i2l, 1) := dc_133 (lxX6_mixedWithWindow 3 14 rfl)
set_option maxRecDepth 20000 in
theorem dX6_mixedWithWindow_63 : decode cX6_mixedWithWindow 63 = .ok (.invokestatic 291, 3) := dc_184 1 35 (lxX6_mixedWithWindow 3 15 rfl) (lxX6_mixedWithWindow 4 0 rfl) (lxX6_mixedWithWindow 4 1 rfl)
set_option maxRecDepth 20000 in
theorem dX6_mixedWithWindow_66 : decode cX6_mixedWithWindow 66 = .ok (.lstore 4, 2) := dc_55 4 (lxX6_mixedWithWindow 4 2 rfl) (lxX6_mixedWithWindow 4 3 rfl)
set_option maxRecDepth 20000 in
theorem dX6_mixedWithWindow_68 : decode cX6_mixedWithWindow 68 = .ok (.aload_n 0, 1) := dc_42 (lxX6_mixedWithWindow 4 4 rfl)
set_option maxRecDepth 20000 in
theorem dX6_mixedWithWindow_69 : decode cX6_mixedWithWindow 69 = .ok (.getfield 48, 3) := dc_180 0 48 (lxX6_mixedWithWindow 4 5 rfl) (lxX6_mixedWithWindow 4 6 rfl) (lxX6_mixedWithWindow 4 7 rfl)
set_option maxRecDepth 20000 in
theorem dX6_mixedWithWindow_72 : decode cX6_mixedWithWindow 72 = .ok (.aload_n 3, 1) := dc_45 (lxX6_mixedWithWindow 4 8 rfl)
set_option maxRecDepth 20000 in
theorem dX6_mixedWithWindow_73 : decode cX6_mixedWithWindow 73 = .ok (.aload_n 0, 1) := dc_42 (lxX6_mixedWithWindow 4 9 rfl)
set_option maxRecDepth 20000 in
theorem dX6_mixedWithWindow_74 : decode cX6_mixedWithWindow 74 = .ok (.getfield 24, 3) := dc_180 0 24 (lxX6_mixedWithWindow 4 10 rfl) (lxX6_mixedWithWindow 4 11 rfl) (lxX6_mixedWithWindow 4 12 rfl)
set_option maxRecDepth 20000 in
theorem dX6_mixedWithWindow_77 : decode cX6_mixedWithWindow 77 = .ok (.invokevirtual 220, 3) := dc_182 0 220 (lxX6_mixedWithWindow 4 13 rfl) (lxX6_mixedWithWindow 4 14 rfl) (lxX6_mixedWithWindow 4 15 rfl)
set_option maxRecDepth 20000 in
theorem dX6_mixedWithWindow_80 : decode cX6_mixedWithWindow 80 = .ok (.lload 4, 2) := dc_22 4 (lxX6_mixedWithWindow 5 0 rfl) (lxX6_mixedWithWindow 5 1 rfl)
set_option maxRecDepth 20000 in
theorem dX6_mixedWithWindow_82 : decode cX6_mixedWithWindow 82 = .ok (.aload_n 0, 1) := dc_42 (lxX6_mixedWithWindow 5 2 rfl)
set_option maxRecDepth 20000 in
theorem dX6_mixedWithWindow_83 : decode cX6_mixedWithWindow 83 = .ok (.getfield 48, 3) := dc_180 0 48 (lxX6_mixedWithWindow 5 3 rfl) (lxX6_mixedWithWindow 5 4 rfl) (lxX6_mixedWithWindow 5 5 rfl)
set_option maxRecDepth 20000 in
theorem dX6_mixedWithWindow_86 : decode cX6_mixedWithWindow 86 = .ok (.iconst 0, 1) := dc_3 (lxX6_mixedWithWindow 5 6 rfl)
set_option maxRecDepth 20000 in
theorem dX6_mixedWithWindow_87 : decode cX6_mixedWithWindow 87 = .ok (.invokevirtual 224, 3) := dc_182 0 224 (lxX6_mixedWithWindow 5 7 rfl) (lxX6_mixedWithWindow 5 8 rfl) (lxX6_mixedWithWindow 5 9 rfl)
set_option maxRecDepth 20000 in
theorem dX6_mixedWithWindow_90 : decode cX6_mixedWithWindow 90 = .ok (.i2l, 1) := dc_133 (lxX6_mixedWithWindow 5 10 rfl)
set_option maxRecDepth 20000 in
theorem dX6_mixedWithWindow_91 : decode cX6_mixedWithWindow 91 = .ok (.invokestatic 291, 3) := dc_184 1 35 (lxX6_mixedWithWindow 5 11 rfl) (lxX6_mixedWithWindow 5 12 rfl) (lxX6_mixedWithWindow 5 13 rfl)
set_option maxRecDepth 20000 in
theorem dX6_mixedWithWindow_94 : decode cX6_mixedWithWindow 94 = .ok (.lreturn, 1) := dc_173 (lxX6_mixedWithWindow 5 14 rfl)
