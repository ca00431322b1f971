noncomputable def sgX3_init : List (List Cond) := [[.code yX3_init cX3_init 1 none], [.methodLink RX3 3 objectInit, .instanceMethod objectInit, .code objectInit ⟨#[0xb1]⟩ 1 none, .classLink RX3 9 RX0, .instantiable RX0 3, .initialized RX0, .fieldLink RX3 12 "Sashwords$Seeker" "borders" "LSashwords$Borders;", .arrayClass .int, .fieldLink RX3 18 "Sashwords$Seeker" "places" "[I", .instanceMethod yX0_init, .code yX0_init cX0_init 1 none, .methodLink RX0 3 objectInit, .fieldLink RX0 9 "Sashwords$Borders" "greatest" "[I", .fieldLink RX0 15 "Sashwords$Borders" "chainRow" "[I"], wsX00, wsX30]
theorem seX3_init : sgX3_init.flatten = wsX3_init := by simp only [sgX3_init, wsX3_init, List.flatten_cons, List.flatten_nil, List.append_assoc, List.append_nil, List.cons_append, List.nil_append]
set_option maxRecDepth 20000 in
theorem ggX3_init_X0_init : GoodIn wsX3_init wsX0_init := goodIn_s seX3_init _ [pq_1_10, pq_1_11, pq_1_1, pq_1_2, pq_1_7, pq_1_12, pq_1_13, pq_2_0, pq_2_1, pq_2_2] (by rfl) gw_wsX0_init
set_option maxRecDepth 20000 in
theorem gX3_init_X0_init_n11 : GoodIn wsX3_init (wsX0_init) := ggX3_init_X0_init
def lb_sgX3_init : List (List UInt8) := [[42, 183, 0, 3, 42, 187, 0, 9, 89, 183, 0, 11, 181, 0, 12, 42], [16, 81, 188, 10, 181, 0, 18, 177]]
set_option maxRecDepth 100000 in
theorem lb_seX3_init : cX3_init.data.toList = lb_sgX3_init.flatten := by decide +kernel
theorem lb_lnX3_init : ∀ s ∈ lb_sgX3_init.dropLast, s.length = 16 := by decide +kernel
theorem lxX3_init (k j : Nat) {b : UInt8} (h : (lb_sgX3_init[k]?).bind (fun s => s[j]?) = some b) : lb_at cX3_init (16 * k + j) b := by
  unfold lb_at
  rw [lb_seX3_init]
  exact lb_flat 16 lb_sgX3_init k j b lb_lnX3_init h
set_option maxRecDepth 20000 in
theorem dX3_init_0 : decode cX3_init 0 = .ok (.aload_n 0, 1) := dc_42 (lxX3_init 0 0 rfl)
set_option maxRecDepth 20000 in
theorem dX3_init_1 : decode cX3_init 1 = .ok (.invokespecial 3, 3) := dc_183 0 3 (lxX3_init 0 1 rfl) (lxX3_init 0 2 rfl) (lxX3_init 0 3 rfl)
set_option maxRecDepth 20000 in
theorem dX3_init_4 : decode cX3_init 4 = .ok (.aload_n 0, 1) := dc_42 (lxX3_init 0 4 rfl)
set_option maxRecDepth 20000 in
theorem dX3_init_5 : decode cX3_init 5 = .ok (.new 9, 3) := dc_187 0 9 (lxX3_init 0 5 rfl) (lxX3_init 0 6 rfl) (lxX3_init 0 7 rfl)
set_option maxRecDepth 20000 in
theorem dX3_init_8 : decode cX3_init 8 = .ok (.dup, 1) := dc_89 (lxX3_init 0 8 rfl)
set_option maxRecDepth 20000 in
theorem dX3_init_9 : decode cX3_init 9 = .ok (.invokespecial 11, 3) := dc_183 0 11 (lxX3_init 0 9 rfl) (lxX3_init 0 10 rfl) (lxX3_init 0 11 rfl)
set_option maxRecDepth 20000 in
theorem dX3_init_12 : decode cX3_init 12 = .ok (.putfield 12, 3) := dc_181 0 12 (lxX3_init 0 12 rfl) (lxX3_init 0 13 rfl) (lxX3_init 0 14 rfl)
set_option maxRecDepth 20000 in
theorem dX3_init_15 : decode cX3_init 15 = .ok (.aload_n 0, 1) := dc_42 (lxX3_init 0 15 rfl)
set_option maxRecDepth 20000 in
theorem dX3_init_16 : decode cX3_init 16 = .ok (.bipush 81, 2) := dc_16 81 (lxX3_init 1 0 rfl) (lxX3_init 1 1 rfl)
theorem dX3_init_18 : decode cX3_init 18 = .ok (.newarray .int, 2) := by decide +kernel
set_option maxRecDepth 20000 in
theorem dX3_init_20 : decode cX3_init 20 = .ok (.putfield 18, 3) := dc_181 0 18 (lxX3_init 1 4 rfl) (lxX3_init 1 5 rfl) (lxX3_init 1 6 rfl)
set_option maxRecDepth 20000 in
theorem dX3_init_23 : decode cX3_init 23 = .ok (.return_, 1) := dc_177 (lxX3_init 1 7 rfl)
noncomputable def sgX3_seek : List (List Cond) := [[.code yX3_seek cX3_seek 6 none], wsX3_seek_r1, wsX3_seek_r2, wsX3_seek_r3, wsX30, wsX00, wsX20, wsX50]
theorem seX3_seek : sgX3_seek.flatten = wsX3_seek := by simp only [sgX3_seek, wsX3_seek, List.flatten_cons, List.flatten_nil, List.append_assoc, List.append_nil, List.cons_append, List.nil_append]
set_option maxRecDepth 20000 in
theorem ggX3_seek_X0_measure : GoodIn wsX3_seek wsX0_measure := goodIn_s seX3_seek _ [pq_1_6, pq_1_7, pq_1_8, pq_1_9, pq_1_10, pq_1_11, pq_1_12, pq_1_13, pq_1_14, pq_1_15, pq_1_16, pq_1_17, pq_1_18, pq_1_19, pq_1_20, pq_1_21, pq_1_22, pq_1_23, pq_2_0, pq_2_1, pq_2_2, pq_2_3, pq_2_4, pq_2_5, pq_2_6, pq_2_7, pq_2_8, pq_2_9, pq_2_10, pq_2_11, pq_2_12, pq_2_13, pq_2_14, pq_1_5, pq_2_15, pq_2_16, pq_2_17, pq_2_18, pq_2_19, pq_5_0, pq_5_1, pq_5_2, pq_6_0, pq_6_1, pq_7_0, pq_7_1, pq_7_2, pq_7_3, pq_7_4, pq_7_5] (by rfl) gw_wsX0_measure
set_option maxRecDepth 20000 in
theorem gX3_seek_X0_measure : GoodIn wsX3_seek (wsV RX3 26 RX0 yX0_measure wsX0_measure) := goodIn_app (goodIn_s seX3_seek _ [pq_1_2, pq_1_3, pq_1_4, pq_1_5] (by rfl) (by decide +kernel)) ggX3_seek_X0_measure
set_option maxRecDepth 20000 in
theorem ggX3_seek_X2_size : GoodIn wsX3_seek wsX2_size := goodIn_s seX3_seek _ [pq_1_13, pq_1_14, pq_6_0, pq_6_1] (by rfl) gw_wsX2_size
set_option maxRecDepth 20000 in
theorem gX3_seek_X2_size_u30X2 : GoodIn wsX3_seek (va_wsU RX3 30 RX2 "Sashwords$Text" ⟨"Sashwords$Text", "size", "()I"⟩ yX2_size wsX2_size) := goodIn_app (goodIn_s seX3_seek _ [pq_2_20, pq_1_9, pq_1_10, pq_1_11, pq_1_12] (by rfl) (by decide +kernel)) ggX3_seek_X2_size
set_option maxRecDepth 20000 in
theorem ggX3_seek_X5_size : GoodIn wsX3_seek wsX5_size := goodIn_s seX3_seek _ [pq_1_18, pq_1_19, pq_1_20, pq_7_0, pq_7_1, pq_7_2, pq_7_3, pq_7_4, pq_7_5] (by rfl) gw_wsX5_size
set_option maxRecDepth 20000 in
theorem gX3_seek_X5_size_u30X5 : GoodIn wsX3_seek (va_wsU RX3 30 RX5 "Sashwords$Text" ⟨"Sashwords$Text", "size", "()I"⟩ yX5_size wsX5_size) := goodIn_app (goodIn_s seX3_seek _ [pq_2_20, pq_1_9, pq_1_15, pq_1_16, pq_1_17] (by rfl) (by decide +kernel)) ggX3_seek_X5_size
set_option maxRecDepth 20000 in
theorem ggX3_seek_X3_note : GoodIn wsX3_seek wsX3_note := goodIn_s seX3_seek _ [pq_3_1, pq_1_0, pq_3_2, pq_4_0, pq_4_1, pq_4_2] (by rfl) gw_wsX3_note
set_option maxRecDepth 20000 in
theorem gX3_seek_X3_note : GoodIn wsX3_seek (wsV RX3 36 RX3 yX3_note wsX3_note) := goodIn_app (goodIn_s seX3_seek _ [pq_2_21, pq_2_22, pq_2_23, pq_3_0] (by rfl) (by decide +kernel)) ggX3_seek_X3_note
set_option maxRecDepth 20000 in
theorem ggX3_seek_X2_at : GoodIn wsX3_seek wsX2_at := goodIn_s seX3_seek _ [pq_2_1, pq_1_14, pq_2_2, pq_6_0, pq_6_1] (by rfl) gw_wsX2_at
set_option maxRecDepth 20000 in
theorem gX3_seek_X2_at_u40X2 : GoodIn wsX3_seek (va_wsU RX3 40 RX2 "Sashwords$Text" ⟨"Sashwords$Text", "at", "(I)I"⟩ yX2_at wsX2_at) := goodIn_app (goodIn_s seX3_seek _ [pq_3_3, pq_1_22, pq_1_23, pq_2_0, pq_1_12] (by rfl) (by decide +kernel)) ggX3_seek_X2_at
set_option maxRecDepth 20000 in
theorem ggX3_seek_X5_at : GoodIn wsX3_seek wsX5_at := goodIn_s seX3_seek _ [pq_2_5, pq_1_19, pq_1_20, pq_2_6, pq_2_7, pq_2_8, pq_1_17, pq_2_9, pq_2_10, pq_2_11, pq_7_0, pq_7_1, pq_7_2, pq_7_3, pq_7_4, pq_7_5] (by rfl) gw_wsX5_at
set_option maxRecDepth 20000 in
theorem gX3_seek_X5_at_u40X5 : GoodIn wsX3_seek (va_wsU RX3 40 RX5 "Sashwords$Text" ⟨"Sashwords$Text", "at", "(I)I"⟩ yX5_at wsX5_at) := goodIn_app (goodIn_s seX3_seek _ [pq_3_3, pq_1_22, pq_2_3, pq_2_4, pq_1_17] (by rfl) (by decide +kernel)) ggX3_seek_X5_at
set_option maxRecDepth 20000 in
theorem ggX3_seek_X0_grown : GoodIn wsX3_seek wsX0_grown := goodIn_s seX3_seek _ [pq_2_15, pq_1_21, pq_1_22, pq_1_23, pq_2_0, pq_1_12, pq_2_1, pq_1_14, pq_2_2, pq_2_3, pq_2_4, pq_1_17, pq_2_5, pq_1_19, pq_1_20, pq_2_6, pq_2_7, pq_2_8, pq_2_9, pq_2_10, pq_2_11, pq_2_16, pq_2_17, pq_2_18, pq_1_5, pq_2_19, pq_1_7, pq_6_0, pq_6_1, pq_7_0, pq_7_1, pq_7_2, pq_7_3, pq_7_4, pq_7_5, pq_5_0, pq_5_1, pq_5_2] (by rfl) gw_wsX0_grown
set_option maxRecDepth 20000 in
theorem gX3_seek_X0_grown : GoodIn wsX3_seek (wsV RX3 44 RX0 yX0_grown wsX0_grown) := goodIn_app (goodIn_s seX3_seek _ [pq_3_4, pq_2_13, pq_2_14, pq_1_5] (by rfl) (by decide +kernel)) ggX3_seek_X0_grown
def lb_sgX3_seek : List (List UInt8) := [[42, 3, 181, 0, 22, 42, 180, 0, 12, 44, 182, 0, 26, 44, 182, 0], [30, 62, 29, 154, 0, 8, 42, 3, 182, 0, 36, 3, 54, 4, 3, 54], [5, 21, 5, 43, 182, 0, 30, 162, 0, 43, 42, 180, 0, 12, 44, 21], [4, 43, 21, 5, 182, 0, 40, 182, 0, 44, 54, 4, 21, 4, 29, 160], [0, 13, 42, 21, 5, 4, 96, 29, 100, 182, 0, 36, 132, 5, 1, 167], [255, 210, 177]]
set_option maxRecDepth 100000 in
theorem lb_seX3_seek : cX3_seek.data.toList = lb_sgX3_seek.flatten := by decide +kernel
theorem lb_lnX3_seek : ∀ s ∈ lb_sgX3_seek.dropLast, s.length = 16 := by decide +kernel
theorem lxX3_seek (k j : Nat) {b : UInt8} (h : (lb_sgX3_seek[k]?).bind (fun s => s[j]?) = some b) : lb_at cX3_seek (16 * k + j) b := by
  unfold lb_at
  rw [lb_seX3_seek]
  exact lb_flat 16 lb_sgX3_seek k j b lb_lnX3_seek h
set_option maxRecDepth 20000 in
theorem dX3_seek_0 : decode cX3_seek 0 = .ok (.aload_n 0, 1) := dc_42 (lxX3_seek 0 0 rfl)
set_option maxRecDepth 20000 in
theorem dX3_seek_1 : decode cX3_seek 1 = .ok (.iconst 0, 1) := dc_3 (lxX3_seek 0 1 rfl)
set_option maxRecDepth 20000 in
theorem dX3_seek_2 : decode cX3_seek 2 = .ok (.putfield 22, 3) := dc_181 0 22 (lxX3_seek 0 2 rfl) (lxX3_seek 0 3 rfl) (lxX3_seek 0 4 rfl)
set_option maxRecDepth 20000 in
theorem dX3_seek_5 : decode cX3_seek 5 = .ok (.aload_n 0, 1) := dc_42 (lxX3_seek 0 5 rfl)
set_option maxRecDepth 20000 in
theorem dX3_seek_6 : decode cX3_seek 6 = .ok (.getfield 12, 3) := dc_180 0 12 (lxX3_seek 0 6 rfl) (lxX3_seek 0 7 rfl) (lxX3_seek 0 8 rfl)
set_option maxRecDepth 20000 in
theorem dX3_seek_9 : decode cX3_seek 9 = .ok (.aload_n 2, 1) := dc_44 (lxX3_seek 0 9 rfl)
set_option maxRecDepth 20000 in
theorem dX3_seek_10 : decode cX3_seek 10 = .ok (.invokevirtual 26, 3) := dc_182 0 26 (lxX3_seek 0 10 rfl) (lxX3_seek 0 11 rfl) (lxX3_seek 0 12 rfl)
set_option maxRecDepth 20000 in
theorem dX3_seek_13 : decode cX3_seek 13 = .ok (.aload_n 2, 1) := dc_44 (lxX3_seek 0 13 rfl)
set_option maxRecDepth 20000 in
theorem dX3_seek_14 : decode cX3_seek 14 = .ok (.invokevirtual 30, 3) := dc_182 0 30 (lxX3_seek 0 14 rfl) (lxX3_seek 0 15 rfl) (lxX3_seek 1 0 rfl)
set_option maxRecDepth 20000 in
theorem dX3_seek_17 : decode cX3_seek 17 = .ok (.istore_n 3, 1) := dc_62 (lxX3_seek 1 1 rfl)
set_option maxRecDepth 20000 in
theorem dX3_seek_18 : decode cX3_seek 18 = .ok (.iload_n 3, 1) := dc_29 (lxX3_seek 1 2 rfl)
set_option maxRecDepth 20000 in
theorem dX3_seek_19 : decode cX3_seek 19 = .ok (.ifCond .ne 8, 3) := dc_154 0 8 (lxX3_seek 1 3 rfl) (lxX3_seek 1 4 rfl) (lxX3_seek 1 5 rfl)
set_option maxRecDepth 20000 in
theorem dX3_seek_22 : decode cX3_seek 22 = .ok (.aload_n 0, 1) := dc_42 (lxX3_seek 1 6 rfl)
set_option maxRecDepth 20000 in
theorem dX3_seek_23 : decode cX3_seek 23 = .ok (.iconst 0, 1) := dc_3 (lxX3_seek 1 7 rfl)
set_option maxRecDepth 20000 in
theorem dX3_seek_24 : decode cX3_seek 24 = .ok (.invokevirtual 36, 3) := dc_182 0 36 (lxX3_seek 1 8 rfl) (lxX3_seek 1 9 rfl) (lxX3_seek 1 10 rfl)
set_option maxRecDepth 20000 in
theorem dX3_seek_27 : decode cX3_seek 27 = .ok (.iconst 0, 1) := dc_3 (lxX3_seek 1 11 rfl)
set_option maxRecDepth 20000 in
theorem dX3_seek_28 : decode cX3_seek 28 = .ok (.istore 4, 2) := dc_54 4 (lxX3_seek 1 12 rfl) (lxX3_seek 1 13 rfl)
set_option maxRecDepth 20000 in
theorem dX3_seek_30 : decode cX3_seek 30 = .ok (.iconst 0, 1) := dc_3 (lxX3_seek 1 14 rfl)
set_option maxRecDepth 20000 in
theorem dX3_seek_31 : decode cX3_seek 31 = .ok (.istore 5, 2) := dc_54 5 (lxX3_seek 1 15 rfl) (lxX3_seek 2 0 rfl)
set_option maxRecDepth 20000 in
theorem dX3_seek_33 : decode cX3_seek 33 = .ok (.iload 5, 2) := dc_21 5 (lxX3_seek 2 1 rfl) (lxX3_seek 2 2 rfl)
set_option maxRecDepth 20000 in
theorem dX3_seek_35 : decode cX3_seek 35 = .ok (.aload_n 1, 1) := dc_43 (lxX3_seek 2 3 rfl)
set_option maxRecDepth 20000 in
theorem dX3_seek_36 : decode cX3_seek 36 = .ok (.invokevirtual 30, 3) := dc_182 0 30 (lxX3_seek 2 4 rfl) (lxX3_seek 2 5 rfl) (lxX3_seek 2 6 rfl)
set_option maxRecDepth 20000 in
theorem dX3_seek_39 : decode cX3_seek 39 = .ok (.if_icmp .ge 43, 3) := dc_162 0 43 (lxX3_seek 2 7 rfl) (lxX3_seek 2 8 rfl) (lxX3_seek 2 9 rfl)
set_option maxRecDepth 20000 in
theorem dX3_seek_42 : decode cX3_seek 42 = .ok (.aload_n 0, 1) := dc_42 (lxX3_seek 2 10 rfl)
set_option maxRecDepth 20000 in
theorem dX3_seek_43 : decode cX3_seek 43 = .ok (.getfield 12, 3) := dc_180 0 12 (lxX3_seek 2 11 rfl) (lxX3_seek 2 12 rfl) (lxX3_seek 2 13 rfl)
set_option maxRecDepth 20000 in
theorem dX3_seek_46 : decode cX3_seek 46 = .ok (.aload_n 2, 1) := dc_44 (lxX3_seek 2 14 rfl)
set_option maxRecDepth 20000 in
theorem dX3_seek_47 : decode cX3_seek 47 = .ok (.iload 4, 2) := dc_21 4 (lxX3_seek 2 15 rfl) (lxX3_seek 3 0 rfl)
set_option maxRecDepth 20000 in
theorem dX3_seek_49 : decode cX3_seek 49 = .ok (.aload_n 1, 1) := dc_43 (lxX3_seek 3 1 rfl)
set_option maxRecDepth 20000 in
theorem dX3_seek_50 : decode cX3_seek 50 = .ok (.iload 5, 2) := dc_21 5 (lxX3_seek 3 2 rfl) (lxX3_seek 3 3 rfl)
set_option maxRecDepth 20000 in
theorem dX3_seek_52 : decode cX3_seek 52 = .ok (.invokevirtual 40, 3) := dc_182 0 40 (lxX3_seek 3 4 rfl) (lxX3_seek 3 5 rfl) (lxX3_seek 3 6 rfl)
set_option maxRecDepth 20000 in
theorem dX3_seek_55 : decode cX3_seek 55 = .ok (.invokevirtual 44, 3) := dc_182 0 44 (lxX3_seek 3 7 rfl) (lxX3_seek 3 8 rfl) (lxX3_seek 3 9 rfl)
set_option maxRecDepth 20000 in
theorem dX3_seek_58 : decode cX3_seek 58 = .ok (.istore 4, 2) := dc_54 4 (lxX3_seek 3 10 rfl) (lxX3_seek 3 11 rfl)
set_option maxRecDepth 20000 in
theorem dX3_seek_60 : decode cX3_seek 60 = .ok (.iload 4, 2) := dc_21 4 (lxX3_seek 3 12 rfl) (lxX3_seek 3 13 rfl)
set_option maxRecDepth 20000 in
theorem dX3_seek_62 : decode cX3_seek 62 = .ok (.iload_n 3, 1) := dc_29 (lxX3_seek 3 14 rfl)
set_option maxRecDepth 20000 in
theorem dX3_seek_63 : decode cX3_seek 63 = .ok (.if_icmp .ne 13, 3) := dc_160 0 13 (lxX3_seek 3 15 rfl) (lxX3_seek 4 0 rfl) (lxX3_seek 4 1 rfl)
set_option maxRecDepth 20000 in
theorem dX3_seek_66 : decode cX3_seek 66 = .ok (.aload_n 0, 1) := dc_42 (lxX3_seek 4 2 rfl)
set_option maxRecDepth 20000 in
theorem dX3_seek_67 : decode cX3_seek 67 = .ok (.iload 5, 2) := dc_21 5 (lxX3_seek 4 3 rfl) (lxX3_seek 4 4 rfl)
set_option maxRecDepth 20000 in
theorem dX3_seek_69 : decode cX3_seek 69 = .ok (.iconst 1, 1) := dc_4 (lxX3_seek 4 5 rfl)
set_option maxRecDepth 20000 in
theorem dX3_seek_70 : decode cX3_seek 70 = .ok (.iadd, 1) := dc_96 (lxX3_seek 4 6 rfl)
set_option maxRecDepth 20000 in
theorem dX3_seek_71 : decode cX3_seek 71 = .ok (.iload_n 3, 1) := dc_29 (lxX3_seek 4 7 rfl)
set_option maxRecDepth 20000 in
theorem dX3_seek_72 : decode cX3_seek 72 = .ok (.isub, 1) := dc_100 (lxX3_seek 4 8 rfl)
set_option maxRecDepth 20000 in
theorem dX3_seek_73 : decode cX3_seek 73 = .ok (.invokevirtual 36, 3) := dc_182 0 36 (lxX3_seek 4 9 rfl) (lxX3_seek 4 10 rfl) (lxX3_seek 4 11 rfl)
set_option maxRecDepth 20000 in
theorem dX3_seek_76 : decode cX3_seek 76 = .ok (.iinc 5 1, 3) := dc_132 5 1 (lxX3_seek 4 12 rfl) (lxX3_seek 4 13 rfl) (lxX3_seek 4 14 rfl)
set_option maxRecDepth 20000 in
theorem dX3_seek_79 : decode cX3_seek 79 = .ok (.goto (-46), 3) := dc_167 255 210 (lxX3_seek 4 15 rfl) (lxX3_seek 5 0 rfl) (lxX3_seek 5 1 rfl)
set_option maxRecDepth 20000 in
theorem dX3_seek_82 : decode cX3_seek 82 = .ok (.return_, 1) := dc_177 (lxX3_seek 5 2 rfl)
def lb_sgX3_foundAt : List (List UInt8) := [[27, 155, 0, 20, 27, 42, 180, 0, 22, 162, 0, 12, 27, 42, 180, 0], [18, 190, 161, 0, 7, 2, 167, 0, 9, 42, 180, 0, 18, 27, 46, 172]]
set_option maxRecDepth 100000 in
theorem lb_seX3_foundAt : cX3_foundAt.data.toList = lb_sgX3_foundAt.flatten := by decide +kernel
theorem lb_lnX3_foundAt : ∀ s ∈ lb_sgX3_foundAt.dropLast, s.length = 16 := by decide +kernel
theorem lxX3_foundAt (k j : Nat) {b : UInt8} (h : (lb_sgX3_foundAt[k]?).bind (fun s => s[j]?) = some b) : lb_at cX3_foundAt (16 * k + j) b := by
  unfold lb_at
  rw [lb_seX3_foundAt]
  exact lb_flat 16 lb_sgX3_foundAt k j b lb_lnX3_foundAt h
set_option maxRecDepth 20000 in
theorem dX3_foundAt_0 : decode cX3_foundAt 0 = .ok (.iload_n 1, 1) := dc_27 (lxX3_foundAt 0 0 rfl)
set_option maxRecDepth 20000 in
theorem dX3_foundAt_1 : decode cX3_foundAt 1 = .ok (.ifCond .lt 20, 3) := dc_155 0 20 (lxX3_foundAt 0 1 rfl) (lxX3_foundAt 0 2 rfl) (lxX3_foundAt 0 3 rfl)
set_option maxRecDepth 20000 in
theorem dX3_foundAt_4 : decode cX3_foundAt 4 = .ok (.iload_n 1, 1) := dc_27 (lxX3_foundAt 0 4 rfl)
set_option maxRecDepth 20000 in
theorem dX3_foundAt_5 : decode cX3_foundAt 5 = .ok (.aload_n 0, 1) := dc_42 (lxX3_foundAt 0 5 rfl)
set_option maxRecDepth 20000 in
theorem dX3_foundAt_6 : decode cX3_foundAt 6 = .ok (.getfield 22, 3) := dc_180 0 22 (lxX3_foundAt 0 6 rfl) (lxX3_foundAt 0 7 rfl) (lxX3_foundAt 0 8 rfl)
set_option maxRecDepth 20000 in
theorem dX3_foundAt_9 : decode cX3_foundAt 9 = .ok (.if_icmp .ge 12, 3) := dc_162 0 12 (lxX3_foundAt 0 9 rfl) (lxX3_foundAt 0 10 rfl) (lxX3_foundAt 0 11 rfl)
set_option maxRecDepth 20000 in
theorem dX3_foundAt_12 : decode cX3_foundAt 12 = .ok (.iload_n 1, 1) := dc_27 (lxX3_foundAt 0 12 rfl)
set_option maxRecDepth 20000 in
theorem dX3_foundAt_13 : decode cX3_foundAt 13 = .ok (.aload_n 0, 1) := dc_42 (lxX3_foundAt 0 13 rfl)
set_option maxRecDepth 20000 in
theorem dX3_foundAt_14 : decode cX3_foundAt 14 = .ok (.getfield 18, 3) := dc_180 0 18 (lxX3_foundAt 0 14 rfl) (lxX3_foundAt 0 15 rfl) (lxX3_foundAt 1 0 rfl)
set_option maxRecDepth 20000 in
theorem dX3_foundAt_17 : decode cX3_foundAt 17 = .ok (.arraylength, 1) := dc_190 (lxX3_foundAt 1 1 rfl)
set_option maxRecDepth 20000 in
theorem dX3_foundAt_18 : decode cX3_foundAt 18 = .ok (.if_icmp .lt 7, 3) := dc_161 0 7 (lxX3_foundAt 1 2 rfl) (lxX3_foundAt 1 3 rfl) (lxX3_foundAt 1 4 rfl)
set_option maxRecDepth 20000 in
theorem dX3_foundAt_21 : decode cX3_foundAt 21 = .ok (.iconst (-1), 1) := dc_2 (lxX3_foundAt 1 5 rfl)
set_option maxRecDepth 20000 in
theorem dX3_foundAt_22 : decode cX3_foundAt 22 = .ok (.goto 9, 3) := dc_167 0 9 (lxX3_foundAt 1 6 rfl) (lxX3_foundAt 1 7 rfl) (lxX3_foundAt 1 8 rfl)
set_option maxRecDepth 20000 in
theorem dX3_foundAt_25 : decode cX3_foundAt 25 = .ok (.aload_n 0, 1) := dc_42 (lxX3_foundAt 1 9 rfl)
set_option maxRecDepth 20000 in
theorem dX3_foundAt_26 : decode cX3_foundAt 26 = .ok (.getfield 18, 3) := dc_180 0 18 (lxX3_foundAt 1 10 rfl) (lxX3_foundAt 1 11 rfl) (lxX3_foundAt 1 12 rfl)
set_option maxRecDepth 20000 in
theorem dX3_foundAt_29 : decode cX3_foundAt 29 = .ok (.iload_n 1, 1) := dc_27 (lxX3_foundAt 1 13 rfl)
set_option maxRecDepth 20000 in
theorem dX3_foundAt_30 : decode cX3_foundAt 30 = .ok (.iaload, 1) := dc_46 (lxX3_foundAt 1 14 rfl)
set_option maxRecDepth 20000 in
theorem dX3_foundAt_31 : decode cX3_foundAt 31 = .ok (.ireturn, 1) := dc_172 (lxX3_foundAt 1 15 rfl)
def lb_sgX3_note : List (List UInt8) := [[42, 180, 0, 22, 155, 0, 35, 42, 180, 0, 22, 42, 180, 0, 18, 190], [162, 0, 23, 42, 180, 0, 18, 42, 180, 0, 22, 27, 79, 42, 89, 180], [0, 22, 4, 96, 181, 0, 22, 177]]
set_option maxRecDepth 100000 in
theorem lb_seX3_note : cX3_note.data.toList = lb_sgX3_note.flatten := by decide +kernel
theorem lb_lnX3_note : ∀ s ∈ lb_sgX3_note.dropLast, s.length = 16 := by decide +kernel
theorem lxX3_note (k j : Nat) {b : UInt8} (h : (lb_sgX3_note[k]?).bind (fun s => s[j]?) = some b) : lb_at cX3_note (16 * k + j) b := by
  unfold lb_at
  rw [lb_seX3_note]
  exact lb_flat 16 lb_sgX3_note k j b lb_lnX3_note h
set_option maxRecDepth 20000 in
theorem dX3_note_0 : decode cX3_note 0 = .ok (.aload_n 0, 1) := dc_42 (lxX3_note 0 0 rfl)
set_option maxRecDepth 20000 in
theorem dX3_note_1 : decode cX3_note 1 = .ok (.getfield 22, 3) := dc_180 0 22 (lxX3_note 0 1 rfl) (lxX3_note 0 2 rfl) (lxX3_note 0 3 rfl)
set_option maxRecDepth 20000 in
theorem dX3_note_4 : decode cX3_note 4 = .ok (.ifCond .lt 35, 3) := dc_155 0 35 (lxX3_note 0 4 rfl) (lxX3_note 0 5 rfl) (lxX3_note 0 6 rfl)
set_option maxRecDepth 20000 in
theorem dX3_note_7 : decode cX3_note 7 = .ok (.aload_n 0, 1) := dc_42 (lxX3_note 0 7 rfl)
set_option maxRecDepth 20000 in
theorem dX3_note_8 : decode cX3_note 8 = .ok (.getfield 22, 3) := dc_180 0 22 (lxX3_note 0 8 rfl) (lxX3_note 0 9 rfl) (lxX3_note 0 10 rfl)
set_option maxRecDepth 20000 in
theorem dX3_note_11 : decode cX3_note 11 = .ok (.aload_n 0, 1) := dc_42 (lxX3_note 0 11 rfl)
set_option maxRecDepth 20000 in
theorem dX3_note_12 : decode cX3_note 12 = .ok (.getfield 18, 3) := dc_180 0 18 (lxX3_note 0 12 rfl) (lxX3_note 0 13 rfl) (lxX3_note 0 14 rfl)
set_option maxRecDepth 20000 in
theorem dX3_note_15 : decode cX3_note 15 = .ok (.arraylength, 1) := dc_190 (lxX3_note 0 15 rfl)
set_option maxRecDepth 20000 in
theorem dX3_note_16 : decode cX3_note 16 = .ok (.if_icmp .ge 23, 3) := dc_162 0 23 (lxX3_note 1 0 rfl) (lxX3_note 1 1 rfl) (lxX3_note 1 2 rfl)
set_option maxRecDepth 20000 in
theorem dX3_note_19 : decode cX3_note 19 = .ok (.aload_n 0, 1) := dc_42 (lxX3_note 1 3 rfl)
set_option maxRecDepth 20000 in
theorem dX3_note_20 : decode cX3_note 20 = .ok (.getfield 18, 3) := dc_180 0 18 (lxX3_note 1 4 rfl) (lxX3_note 1 5 rfl) (lxX3_note 1 6 rfl)
set_option maxRecDepth 20000 in
theorem dX3_note_23 : decode cX3_note 23 = .ok (.aload_n 0, 1) := dc_42 (lxX3_note 1 7 rfl)
set_option maxRecDepth 20000 in
theorem dX3_note_24 : decode cX3_note 24 = .ok (.getfield 22, 3) := dc_180 0 22 (lxX3_note 1 8 rfl) (lxX3_note 1 9 rfl) (lxX3_note 1 10 rfl)
set_option maxRecDepth 20000 in
theorem dX3_note_27 : decode cX3_note 27 = .ok (.iload_n 1, 1) := dc_27 (lxX3_note 1 11 rfl)
set_option maxRecDepth 20000 in
theorem dX3_note_28 : decode cX3_note 28 = .ok (.iastore, 1) := dc_79 (lxX3_note 1 12 rfl)
set_option maxRecDepth 20000 in
theorem dX3_note_29 : decode cX3_note 29 = .ok (.aload_n 0, 1) := dc_42 (lxX3_note 1 13 rfl)
set_option maxRecDepth 20000 in
theorem dX3_note_30 : decode cX3_note 30 = .ok (.dup, 1) := dc_89 (lxX3_note 1 14 rfl)
set_option maxRecDepth 20000 in
theorem dX3_note_31 : decode cX3_note 31 = .ok (.getfield 22, 3) := dc_180 0 22 (lxX3_note 1 15 rfl) (lxX3_note 2 0 rfl) (lxX3_note 2 1 rfl)
set_option maxRecDepth 20000 in
theorem dX3_note_34 : decode cX3_note 34 = .ok (.iconst 1, 1) := dc_4 (lxX3_note 2 2 rfl)
set_option maxRecDepth 20000 in
theorem dX3_note_35 : decode cX3_note 35 = .ok (.iadd, 1) := dc_96 (lxX3_note 2 3 rfl)
set_option maxRecDepth 20000 in
theorem dX3_note_36 : decode cX3_note 36 = .ok (.putfield 22, 3) := dc_181 0 22 (lxX3_note 2 4 rfl) (lxX3_note 2 5 rfl) (lxX3_note 2 6 rfl)
set_option maxRecDepth 20000 in
theorem dX3_note_39 : decode cX3_note 39 = .ok (.return_, 1) := dc_177 (lxX3_note 2 7 rfl)
