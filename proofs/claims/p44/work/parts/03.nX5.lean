noncomputable def sgX5_init : List (List Cond) := [[.code yX5_init cX5_init 2 none], [.methodLink RX5 9 Lib.Math.max.name, .static Lib.Math.max.name, .initialized "java/lang/Math", .code Lib.Math.max.name Lib.Math.max.code 2 (some .int), .arrayClass .char, .fieldLink RX5 15 "Sashwords$Window" "row" "[C", .fieldLink RX5 21 "Sashwords$Window" "capacity" "I", .fieldLink RX5 25 "Sashwords$Window" "limit" "I", .fieldLink RX5 28 "Sashwords$Window" "mark" "I", .instanceMethod yX4_init, .initialized RX4, .code yX4_init cX4_init 1 none, .methodLink RX4 1 objectInit, .instanceMethod objectInit, .code objectInit ⟨#[0xb1]⟩ 1 none], wsX50]
theorem seX5_init : sgX5_init.flatten = wsX5_init := by simp only [sgX5_init, wsX5_init, List.flatten_cons, List.flatten_nil, List.append_assoc, List.append_nil, List.cons_append, List.nil_append]
set_option maxRecDepth 20000 in
theorem ggX5_init_X4_init : GoodIn wsX5_init wsX4_init := goodIn_s seX5_init _ [pq_1_11, pq_1_12, pq_1_13, pq_1_14] (by rfl) (by decide +kernel)
set_option maxRecDepth 20000 in
theorem gX5_init_X4_init_n3 : GoodIn wsX5_init (wsX4_init) := ggX5_init_X4_init
def lb_sgX5_init : List (List UInt8) := [[42, 183, 0, 3, 42, 27, 3, 184, 0, 9, 188, 5, 181, 0, 15, 42], [42, 180, 0, 15, 190, 181, 0, 21, 42, 42, 180, 0, 15, 190, 181, 0], [25, 42, 16, 247, 181, 0, 28, 177]]
set_option maxRecDepth 100000 in
theorem lb_seX5_init : cX5_init.data.toList = lb_sgX5_init.flatten := by decide +kernel
theorem lb_lnX5_init : ∀ s ∈ lb_sgX5_init.dropLast, s.length = 16 := by decide +kernel
theorem lxX5_init (k j : Nat) {b : UInt8} (h : (lb_sgX5_init[k]?).bind (fun s => s[j]?) = some b) : lb_at cX5_init (16 * k + j) b := by
  unfold lb_at
  rw [lb_seX5_init]
  exact lb_flat 16 lb_sgX5_init k j b lb_lnX5_init h
set_option maxRecDepth 20000 in
theorem dX5_init_0 : decode cX5_init 0 = .ok (.aload_n 0, 1) := dc_42 (lxX5_init 0 0 rfl)
set_option maxRecDepth 20000 in
theorem dX5_init_1 : decode cX5_init 1 = .ok (.invokespecial 3, 3) := dc_183 0 3 (lxX5_init 0 1 rfl) (lxX5_init 0 2 rfl) (lxX5_init 0 3 rfl)
set_option maxRecDepth 20000 in
theorem dX5_init_4 : decode cX5_init 4 = .ok (.aload_n 0, 1) := dc_42 (lxX5_init 0 4 rfl)
set_option maxRecDepth 20000 in
theorem dX5_init_5 : decode cX5_init 5 = .ok (.iload_n 1, 1) := dc_27 (lxX5_init 0 5 rfl)
set_option maxRecDepth 20000 in
theorem dX5_init_6 : decode cX5_init 6 = .ok (.iconst 0, 1) := dc_3 (lxX5_init 0 6 rfl)
set_option maxRecDepth 20000 in
theorem dX5_init_7 : decode cX5_init 7 = .ok (.invokestatic 9, 3) := dc_184 0 9 (lxX5_init 0 7 rfl) (lxX5_init 0 8 rfl) (lxX5_init 0 9 rfl)
theorem dX5_init_10 : decode cX5_init 10 = .ok (.newarray .char, 2) := by decide +kernel
set_option maxRecDepth 20000 in
theorem dX5_init_12 : decode cX5_init 12 = .ok (.putfield 15, 3) := dc_181 0 15 (lxX5_init 0 12 rfl) (lxX5_init 0 13 rfl) (lxX5_init 0 14 rfl)
set_option maxRecDepth 20000 in
theorem dX5_init_15 : decode cX5_init 15 = .ok (.aload_n 0, 1) := dc_42 (lxX5_init 0 15 rfl)
set_option maxRecDepth 20000 in
theorem dX5_init_16 : decode cX5_init 16 = .ok (.aload_n 0, 1) := dc_42 (lxX5_init 1 0 rfl)
set_option maxRecDepth 20000 in
theorem dX5_init_17 : decode cX5_init 17 = .ok (.getfield 15, 3) := dc_180 0 15 (lxX5_init 1 1 rfl) (lxX5_init 1 2 rfl) (lxX5_init 1 3 rfl)
set_option maxRecDepth 20000 in
theorem dX5_init_20 : decode cX5_init 20 = .ok (.arraylength, 1) := dc_190 (lxX5_init 1 4 rfl)
set_option maxRecDepth 20000 in
theorem dX5_init_21 : decode cX5_init 21 = .ok (.putfield 21, 3) := dc_181 0 21 (lxX5_init 1 5 rfl) (lxX5_init 1 6 rfl) (lxX5_init 1 7 rfl)
set_option maxRecDepth 20000 in
theorem dX5_init_24 : decode cX5_init 24 = .ok (.aload_n 0, 1) := dc_42 (lxX5_init 1 8 rfl)
set_option maxRecDepth 20000 in
theorem dX5_init_25 : decode cX5_init 25 = .ok (.aload_n 0, 1) := dc_42 (lxX5_init 1 9 rfl)
set_option maxRecDepth 20000 in
theorem dX5_init_26 : decode cX5_init 26 = .ok (.getfield 15, 3) := dc_180 0 15 (lxX5_init 1 10 rfl) (lxX5_init 1 11 rfl) (lxX5_init 1 12 rfl)
set_option maxRecDepth 20000 in
theorem dX5_init_29 : decode cX5_init 29 = .ok (.arraylength, 1) := dc_190 (lxX5_init 1 13 rfl)
set_option maxRecDepth 20000 in
theorem dX5_init_30 : decode cX5_init 30 = .ok (.putfield 25, 3) := dc_181 0 25 (lxX5_init 1 14 rfl) (lxX5_init 1 15 rfl) (lxX5_init 2 0 rfl)
set_option maxRecDepth 20000 in
theorem dX5_init_33 : decode cX5_init 33 = .ok (.aload_n 0, 1) := dc_42 (lxX5_init 2 1 rfl)
set_option maxRecDepth 20000 in
theorem dX5_init_34 : decode cX5_init 34 = .ok (.bipush (-9), 2) := dc_16 247 (lxX5_init 2 2 rfl) (lxX5_init 2 3 rfl)
set_option maxRecDepth 20000 in
theorem dX5_init_36 : decode cX5_init 36 = .ok (.putfield 28, 3) := dc_181 0 28 (lxX5_init 2 4 rfl) (lxX5_init 2 5 rfl) (lxX5_init 2 6 rfl)
set_option maxRecDepth 20000 in
theorem dX5_init_39 : decode cX5_init 39 = .ok (.return_, 1) := dc_177 (lxX5_init 2 7 rfl)
set_option maxRecDepth 20000 in
theorem dX5_size_0 : decode cX5_size 0 = .ok (.aload_n 0, 1) := dc_42 rfl
set_option maxRecDepth 20000 in
theorem dX5_size_1 : decode cX5_size 1 = .ok (.getfield 25, 3) := dc_180 0 25 rfl rfl rfl
set_option maxRecDepth 20000 in
theorem dX5_size_4 : decode cX5_size 4 = .ok (.aload_n 0, 1) := dc_42 rfl
set_option maxRecDepth 20000 in
theorem dX5_size_5 : decode cX5_size 5 = .ok (.getfield 31, 3) := dc_180 0 31 rfl rfl rfl
set_option maxRecDepth 20000 in
theorem dX5_size_8 : decode cX5_size 8 = .ok (.isub, 1) := dc_100 rfl
set_option maxRecDepth 20000 in
theorem dX5_size_9 : decode cX5_size 9 = .ok (.ireturn, 1) := dc_172 rfl
noncomputable def sgX5_at : List (List Cond) := [[.code yX5_at cX5_at 2 (some .int)], [.fieldLink RX5 25 "Sashwords$Window" "limit" "I", .fieldLink RX5 31 "Sashwords$Window" "position" "I", .methodLink RX5 34 yX5_atPlace, .instanceMethod yX5_atPlace, .selects RX5 yX5_atPlace yX5_atPlace, .initialized RX5, .code yX5_atPlace cX5_atPlace 3 (some .int), .fieldLink RX5 38 "Sashwords$Window" "start" "I", .fieldLink RX5 15 "Sashwords$Window" "row" "[C"], wsX50]
theorem seX5_at : sgX5_at.flatten = wsX5_at := by simp only [sgX5_at, wsX5_at, List.flatten_cons, List.flatten_nil, List.append_assoc, List.append_nil, List.cons_append, List.nil_append]
set_option maxRecDepth 20000 in
theorem ggX5_at_X5_atPlace : GoodIn wsX5_at wsX5_atPlace := goodIn_s seX5_at _ [pq_1_6, pq_1_0, pq_1_7, pq_1_8, pq_2_0, pq_2_1, pq_2_2, pq_2_3, pq_2_4, pq_2_5] (by rfl) (by decide +kernel)
set_option maxRecDepth 20000 in
theorem gX5_at_X5_atPlace : GoodIn wsX5_at (wsV RX5 34 RX5 yX5_atPlace wsX5_atPlace) := goodIn_app (goodIn_s seX5_at _ [pq_1_2, pq_1_3, pq_1_4, pq_1_5] (by rfl) (by decide +kernel)) ggX5_at_X5_atPlace
def lb_sgX5_at : List (List UInt8) := [[27, 155, 0, 16, 27, 42, 180, 0, 25, 42, 180, 0, 31, 100, 161, 0], [8, 16, 247, 167, 0, 13, 42, 42, 180, 0, 31, 27, 96, 182, 0, 34], [172]]
set_option maxRecDepth 100000 in
theorem lb_seX5_at : cX5_at.data.toList = lb_sgX5_at.flatten := by decide +kernel
theorem lb_lnX5_at : ∀ s ∈ lb_sgX5_at.dropLast, s.length = 16 := by decide +kernel
theorem lxX5_at (k j : Nat) {b : UInt8} (h : (lb_sgX5_at[k]?).bind (fun s => s[j]?) = some b) : lb_at cX5_at (16 * k + j) b := by
  unfold lb_at
  rw [lb_seX5_at]
  exact lb_flat 16 lb_sgX5_at k j b lb_lnX5_at h
set_option maxRecDepth 20000 in
theorem dX5_at_0 : decode cX5_at 0 = .ok (.iload_n 1, 1) := dc_27 (lxX5_at 0 0 rfl)
set_option maxRecDepth 20000 in
theorem dX5_at_1 : decode cX5_at 1 = .ok (.ifCond .lt 16, 3) := dc_155 0 16 (lxX5_at 0 1 rfl) (lxX5_at 0 2 rfl) (lxX5_at 0 3 rfl)
set_option maxRecDepth 20000 in
theorem dX5_at_4 : decode cX5_at 4 = .ok (.iload_n 1, 1) := dc_27 (lxX5_at 0 4 rfl)
set_option maxRecDepth 20000 in
theorem dX5_at_5 : decode cX5_at 5 = .ok (.aload_n 0, 1) := dc_42 (lxX5_at 0 5 rfl)
set_option maxRecDepth 20000 in
theorem dX5_at_6 : decode cX5_at 6 = .ok (.getfield 25, 3) := dc_180 0 25 (lxX5_at 0 6 rfl) (lxX5_at 0 7 rfl) (lxX5_at 0 8 rfl)
set_option maxRecDepth 20000 in
theorem dX5_at_9 : decode cX5_at 9 = .ok (.aload_n 0, 1) := dc_42 (lxX5_at 0 9 rfl)
set_option maxRecDepth 20000 in
theorem dX5_at_10 : decode cX5_at 10 = .ok (.getfield 31, 3) := dc_180 0 31 (lxX5_at 0 10 rfl) (lxX5_at 0 11 rfl) (lxX5_at 0 12 rfl)
set_option maxRecDepth 20000 in
theorem dX5_at_13 : decode cX5_at 13 = .ok (.isub, 1) := dc_100 (lxX5_at 0 13 rfl)
set_option maxRecDepth 20000 in
theorem dX5_at_14 : decode cX5_at 14 = .ok (.if_icmp .lt 8, 3) := dc_161 0 8 (lxX5_at 0 14 rfl) (lxX5_at 0 15 rfl) (lxX5_at 1 0 rfl)
set_option maxRecDepth 20000 in
theorem dX5_at_17 : decode cX5_at 17 = .ok (.bipush (-9), 2) := dc_16 247 (lxX5_at 1 1 rfl) (lxX5_at 1 2 rfl)
set_option maxRecDepth 20000 in
theorem dX5_at_19 : decode cX5_at 19 = .ok (.goto 13, 3) := dc_167 0 13 (lxX5_at 1 3 rfl) (lxX5_at 1 4 rfl) (lxX5_at 1 5 rfl)
set_option maxRecDepth 20000 in
theorem dX5_at_22 : decode cX5_at 22 = .ok (.aload_n 0, 1) := dc_42 (lxX5_at 1 6 rfl)
set_option maxRecDepth 20000 in
theorem dX5_at_23 : decode cX5_at 23 = .ok (.aload_n 0, 1) := dc_42 (lxX5_at 1 7 rfl)
set_option maxRecDepth 20000 in
theorem dX5_at_24 : decode cX5_at 24 = .ok (.getfield 31, 3) := dc_180 0 31 (lxX5_at 1 8 rfl) (lxX5_at 1 9 rfl) (lxX5_at 1 10 rfl)
set_option maxRecDepth 20000 in
theorem dX5_at_27 : decode cX5_at 27 = .ok (.iload_n 1, 1) := dc_27 (lxX5_at 1 11 rfl)
set_option maxRecDepth 20000 in
theorem dX5_at_28 : decode cX5_at 28 = .ok (.iadd, 1) := dc_96 (lxX5_at 1 12 rfl)
set_option maxRecDepth 20000 in
theorem dX5_at_29 : decode cX5_at 29 = .ok (.invokevirtual 34, 3) := dc_182 0 34 (lxX5_at 1 13 rfl) (lxX5_at 1 14 rfl) (lxX5_at 1 15 rfl)
set_option maxRecDepth 20000 in
theorem dX5_at_32 : decode cX5_at 32 = .ok (.ireturn, 1) := dc_172 (lxX5_at 2 0 rfl)
def lb_sgX5_atPlace : List (List UInt8) := [[27, 155, 0, 11, 27, 42, 180, 0, 25, 161, 0, 6, 16, 247, 172, 42], [180, 0, 38, 27, 96, 61, 28, 155, 0, 12, 28, 42, 180, 0, 15, 190], [161, 0, 8, 16, 247, 167, 0, 9, 42, 180, 0, 15, 28, 52, 172]]
set_option maxRecDepth 100000 in
theorem lb_seX5_atPlace : cX5_atPlace.data.toList = lb_sgX5_atPlace.flatten := by decide +kernel
theorem lb_lnX5_atPlace : ∀ s ∈ lb_sgX5_atPlace.dropLast, s.length = 16 := by decide +kernel
theorem lxX5_atPlace (k j : Nat) {b : UInt8} (h : (lb_sgX5_atPlace[k]?).bind (fun s => s[j]?) = some b) : lb_at cX5_atPlace (16 * k + j) b := by
  unfold lb_at
  rw [lb_seX5_atPlace]
  exact lb_flat 16 lb_sgX5_atPlace k j b lb_lnX5_atPlace h
set_option maxRecDepth 20000 in
theorem dX5_atPlace_0 : decode cX5_atPlace 0 = .ok (.iload_n 1, 1) := dc_27 (lxX5_atPlace 0 0 rfl)
set_option maxRecDepth 20000 in
theorem dX5_atPlace_1 : decode cX5_atPlace 1 = .ok (.ifCond .lt 11, 3) := dc_155 0 11 (lxX5_atPlace 0 1 rfl) (lxX5_atPlace 0 2 rfl) (lxX5_atPlace 0 3 rfl)
set_option maxRecDepth 20000 in
theorem dX5_atPlace_4 : decode cX5_atPlace 4 = .ok (.iload_n 1, 1) := dc_27 (lxX5_atPlace 0 4 rfl)
set_option maxRecDepth 20000 in
theorem dX5_atPlace_5 : decode cX5_atPlace 5 = .ok (.aload_n 0, 1) := dc_42 (lxX5_atPlace 0 5 rfl)
set_option maxRecDepth 20000 in
theorem dX5_atPlace_6 : decode cX5_atPlace 6 = .ok (.getfield 25, 3) := dc_180 0 25 (lxX5_atPlace 0 6 rfl) (lxX5_atPlace 0 7 rfl) (lxX5_atPlace 0 8 rfl)
set_option maxRecDepth 20000 in
theorem dX5_atPlace_9 : decode cX5_atPlace 9 = .ok (.if_icmp .lt 6, 3) := dc_161 0 6 (lxX5_atPlace 0 9 rfl) (lxX5_atPlace 0 10 rfl) (lxX5_atPlace 0 11 rfl)
set_option maxRecDepth 20000 in
theorem dX5_atPlace_12 : decode cX5_atPlace 12 = .ok (.bipush (-9), 2) := dc_16 247 (lxX5_atPlace 0 12 rfl) (lxX5_atPlace 0 13 rfl)
set_option maxRecDepth 20000 in
theorem dX5_atPlace_14 : decode cX5_atPlace 14 = .ok (.ireturn, 1) := dc_172 (lxX5_atPlace 0 14 rfl)
set_option maxRecDepth 20000 in
theorem dX5_atPlace_15 : decode cX5_atPlace 15 = .ok (.aload_n 0, 1) := dc_42 (lxX5_atPlace 0 15 rfl)
set_option maxRecDepth 20000 in
theorem dX5_atPlace_16 : decode cX5_atPlace 16 = .ok (.getfield 38, 3) := dc_180 0 38 (lxX5_atPlace 1 0 rfl) (lxX5_atPlace 1 1 rfl) (lxX5_atPlace 1 2 rfl)
set_option maxRecDepth 20000 in
theorem dX5_atPlace_19 : decode cX5_atPlace 19 = .ok (.iload_n 1, 1) := dc_27 (lxX5_atPlace 1 3 rfl)
set_option maxRecDepth 20000 in
theorem dX5_atPlace_20 : decode cX5_atPlace 20 = .ok (.iadd, 1) := dc_96 (lxX5_atPlace 1 4 rfl)
set_option maxRecDepth 20000 in
theorem dX5_atPlace_21 : decode cX5_atPlace 21 = .ok (.istore_n 2, 1) := dc_61 (lxX5_atPlace 1 5 rfl)
set_option maxRecDepth 20000 in
theorem dX5_atPlace_22 : decode cX5_atPlace 22 = .ok (.iload_n 2, 1) := dc_28 (lxX5_atPlace 1 6 rfl)
set_option maxRecDepth 20000 in
theorem dX5_atPlace_23 : decode cX5_atPlace 23 = .ok (.ifCond .lt 12, 3) := dc_155 0 12 (lxX5_atPlace 1 7 rfl) (lxX5_atPlace 1 8 rfl) (lxX5_atPlace 1 9 rfl)
set_option maxRecDepth 20000 in
theorem dX5_atPlace_26 : decode cX5_atPlace 26 = .ok (.iload_n 2, 1) := dc_28 (lxX5_atPlace 1 10 rfl)
set_option maxRecDepth 20000 in
theorem dX5_atPlace_27 : decode cX5_atPlace 27 = .ok (.aload_n 0, 1) := dc_42 (lxX5_atPlace 1 11 rfl)
set_option maxRecDepth 20000 in
theorem dX5_atPlace_28 : decode cX5_atPlace 28 = .ok (.getfield 15, 3) := dc_180 0 15 (lxX5_atPlace 1 12 rfl) (lxX5_atPlace 1 13 rfl) (lxX5_atPlace 1 14 rfl)
set_option maxRecDepth 20000 in
theorem dX5_atPlace_31 : decode cX5_atPlace 31 = .ok (.arraylength, 1) := dc_190 (lxX5_atPlace 1 15 rfl)
set_option maxRecDepth 20000 in
theorem dX5_atPlace_32 : decode cX5_atPlace 32 = .ok (.if_icmp .lt 8, 3) := dc_161 0 8 (lxX5_atPlace 2 0 rfl) (lxX5_atPlace 2 1 rfl) (lxX5_atPlace 2 2 rfl)
set_option maxRecDepth 20000 in
theorem dX5_atPlace_35 : decode cX5_atPlace 35 = .ok (.bipush (-9), 2) := dc_16 247 (lxX5_atPlace 2 3 rfl) (lxX5_atPlace 2 4 rfl)
set_option maxRecDepth 20000 in
theorem dX5_atPlace_37 : decode cX5_atPlace 37 = .ok (.goto 9, 3) := dc_167 0 9 (lxX5_atPlace 2 5 rfl) (lxX5_atPlace 2 6 rfl) (lxX5_atPlace 2 7 rfl)
set_option maxRecDepth 20000 in
theorem dX5_atPlace_40 : decode cX5_atPlace 40 = .ok (.aload_n 0, 1) := dc_42 (lxX5_atPlace 2 8 rfl)
set_option maxRecDepth 20000 in
theorem dX5_atPlace_41 : decode cX5_atPlace 41 = .ok (.getfield 15, 3) := dc_180 0 15 (lxX5_atPlace 2 9 rfl) (lxX5_atPlace 2 10 rfl) (lxX5_atPlace 2 11 rfl)
set_option maxRecDepth 20000 in
theorem dX5_atPlace_44 : decode cX5_atPlace 44 = .ok (.iload_n 2, 1) := dc_28 (lxX5_atPlace 2 12 rfl)
set_option maxRecDepth 20000 in
theorem dX5_atPlace_45 : decode cX5_atPlace 45 = .ok (.caload, 1) := dc_52 (lxX5_atPlace 2 13 rfl)
set_option maxRecDepth 20000 in
theorem dX5_atPlace_46 : decode cX5_atPlace 46 = .ok (.ireturn, 1) := dc_172 (lxX5_atPlace 2 14 rfl)
noncomputable def sgX5_becomeNew : List (List Cond) := [[.code yX5_becomeNew cX5_becomeNew 2 none], [.methodLink RX5 9 Lib.Math.max.name, .static Lib.Math.max.name, .initialized "java/lang/Math", .code Lib.Math.max.name Lib.Math.max.code 2 (some .int), .arrayClass .char, .fieldLink RX5 15 "Sashwords$Window" "row" "[C", .fieldLink RX5 38 "Sashwords$Window" "start" "I", .fieldLink RX5 21 "Sashwords$Window" "capacity" "I", .methodLink RX5 41 yX5_goTo, .instanceMethod yX5_goTo, .selects RX5 yX5_goTo yX5_goTo, .initialized RX5, .code yX5_goTo cX5_goTo 3 none, .fieldLink RX5 31 "Sashwords$Window" "position" "I", .fieldLink RX5 25 "Sashwords$Window" "limit" "I", .fieldLink RX5 28 "Sashwords$Window" "mark" "I"], wsX50]
theorem seX5_becomeNew : sgX5_becomeNew.flatten = wsX5_becomeNew := by simp only [sgX5_becomeNew, wsX5_becomeNew, List.flatten_cons, List.flatten_nil, List.append_assoc, List.append_nil, List.cons_append, List.nil_append]
set_option maxRecDepth 20000 in
theorem ggX5_becomeNew_X5_goTo : GoodIn wsX5_becomeNew wsX5_goTo := goodIn_s seX5_becomeNew _ [pq_1_12, pq_1_13, pq_1_14, pq_1_15, pq_2_0, pq_2_1, pq_2_2, pq_2_3, pq_2_4, pq_2_5] (by rfl) (by decide +kernel)
set_option maxRecDepth 20000 in
theorem gX5_becomeNew_X5_goTo : GoodIn wsX5_becomeNew (wsV RX5 41 RX5 yX5_goTo wsX5_goTo) := goodIn_app (goodIn_s seX5_becomeNew _ [pq_1_8, pq_1_9, pq_1_10, pq_1_11] (by rfl) (by decide +kernel)) ggX5_becomeNew_X5_goTo
def lb_sgX5_becomeNew : List (List UInt8) := [[42, 27, 3, 184, 0, 9, 188, 5, 181, 0, 15, 42, 3, 181, 0, 38], [42, 42, 180, 0, 15, 190, 181, 0, 21, 42, 3, 42, 180, 0, 21, 182], [0, 41, 177]]
set_option maxRecDepth 100000 in
theorem lb_seX5_becomeNew : cX5_becomeNew.data.toList = lb_sgX5_becomeNew.flatten := by decide +kernel
theorem lb_lnX5_becomeNew : ∀ s ∈ lb_sgX5_becomeNew.dropLast, s.length = 16 := by decide +kernel
theorem lxX5_becomeNew (k j : Nat) {b : UInt8} (h : (lb_sgX5_becomeNew[k]?).bind (fun s => s[j]?) = some b) : lb_at cX5_becomeNew (16 * k + j) b := by
  unfold lb_at
  rw [lb_seX5_becomeNew]
  exact lb_flat 16 lb_sgX5_becomeNew k j b lb_lnX5_becomeNew h
set_option maxRecDepth 20000 in
theorem dX5_becomeNew_0 : decode cX5_becomeNew 0 = .ok (.aload_n 0, 1) := dc_42 (lxX5_becomeNew 0 0 rfl)
set_option maxRecDepth 20000 in
theorem dX5_becomeNew_1 : decode cX5_becomeNew 1 = .ok (.iload_n 1, 1) := dc_27 (lxX5_becomeNew 0 1 rfl)
set_option maxRecDepth 20000 in
theorem dX5_becomeNew_2 : decode cX5_becomeNew 2 = .ok (.iconst 0, 1) := dc_3 (lxX5_becomeNew 0 2 rfl)
set_option maxRecDepth 20000 in
theorem dX5_becomeNew_3 : decode cX5_becomeNew 3 = .ok (.invokestatic 9, 3) := dc_184 0 9 (lxX5_becomeNew 0 3 rfl) (lxX5_becomeNew 0 4 rfl) (lxX5_becomeNew 0 5 rfl)
theorem dX5_becomeNew_6 : decode cX5_becomeNew 6 = .ok (.newarray .char, 2) := by decide +kernel
set_option maxRecDepth 20000 in
theorem dX5_becomeNew_8 : decode cX5_becomeNew 8 = .ok (.putfield 15, 3) := dc_181 0 15 (lxX5_becomeNew 0 8 rfl) (lxX5_becomeNew 0 9 rfl) (lxX5_becomeNew 0 10 rfl)
set_option maxRecDepth 20000 in
theorem dX5_becomeNew_11 : decode cX5_becomeNew 11 = .ok (.aload_n 0, 1) := dc_42 (lxX5_becomeNew 0 11 rfl)
set_option maxRecDepth 20000 in
theorem dX5_becomeNew_12 : decode cX5_becomeNew 12 = .ok (.iconst 0, 1) := dc_3 (lxX5_becomeNew 0 12 rfl)
set_option maxRecDepth 20000 in
theorem dX5_becomeNew_13 : decode cX5_becomeNew 13 = .ok (.putfield 38, 3) := dc_181 0 38 (lxX5_becomeNew 0 13 rfl) (lxX5_becomeNew 0 14 rfl) (lxX5_becomeNew 0 15 rfl)
set_option maxRecDepth 20000 in
theorem dX5_becomeNew_16 : decode cX5_becomeNew 16 = .ok (.aload_n 0, 1) := dc_42 (lxX5_becomeNew 1 0 rfl)
set_option maxRecDepth 20000 in
theorem dX5_becomeNew_17 : decode cX5_becomeNew 17 = .ok (.aload_n 0, 1) := dc_42 (lxX5_becomeNew 1 1 rfl)
set_option maxRecDepth 20000 in
theorem dX5_becomeNew_18 : decode cX5_becomeNew 18 = .ok (.getfield 15, 3) := dc_180 0 15 (lxX5_becomeNew 1 2 rfl) (lxX5_becomeNew 1 3 rfl) (lxX5_becomeNew 1 4 rfl)
set_option maxRecDepth 20000 in
theorem dX5_becomeNew_21 : decode cX5_becomeNew 21 = .ok (.arraylength, 1) := dc_190 (lxX5_becomeNew 1 5 rfl)
set_option maxRecDepth 20000 in
theorem dX5_becomeNew_22 : decode cX5_becomeNew 22 = .ok (.putfield 21, 3) := dc_181 0 21 (lxX5_becomeNew 1 6 rfl) (lxX5_becomeNew 1 7 rfl) (lxX5_becomeNew 1 8 rfl)
set_option maxRecDepth 20000 in
theorem dX5_becomeNew_25 : decode cX5_becomeNew 25 = .ok (.aload_n 0, 1) := dc_42 (lxX5_becomeNew 1 9 rfl)
set_option maxRecDepth 20000 in
theorem dX5_becomeNew_26 : decode cX5_becomeNew 26 = .ok (.iconst 0, 1) := dc_3 (lxX5_becomeNew 1 10 rfl)
set_option maxRecDepth 20000 in
theorem dX5_becomeNew_27 : decode cX5_becomeNew 27 = .ok (.aload_n 0, 1) := dc_42 (lxX5_becomeNew 1 11 rfl)
set_option maxRecDepth 20000 in
theorem dX5_becomeNew_28 : decode cX5_becomeNew 28 = .ok (.getfield 21, 3) := dc_180 0 21 (lxX5_becomeNew 1 12 rfl) (lxX5_becomeNew 1 13 rfl) (lxX5_becomeNew 1 14 rfl)
set_option maxRecDepth 20000 in
theorem dX5_becomeNew_31 : decode cX5_becomeNew 31 = .ok (.invokevirtual 41, 3) := dc_182 0 41 (lxX5_becomeNew 1 15 rfl) (lxX5_becomeNew 2 0 rfl) (lxX5_becomeNew 2 1 rfl)
set_option maxRecDepth 20000 in
theorem dX5_becomeNew_34 : decode cX5_becomeNew 34 = .ok (.return_, 1) := dc_177 (lxX5_becomeNew 2 2 rfl)
def lb_sgX5_becomeLike : List (List UInt8) := [[42, 43, 180, 0, 15, 181, 0, 15, 42, 43, 180, 0, 38, 181, 0, 38], [42, 43, 180, 0, 21, 181, 0, 21, 42, 43, 180, 0, 25, 181, 0, 25], [42, 43, 180, 0, 31, 181, 0, 31, 42, 43, 180, 0, 28, 181, 0, 28], [177]]
set_option maxRecDepth 100000 in
theorem lb_seX5_becomeLike : cX5_becomeLike.data.toList = lb_sgX5_becomeLike.flatten := by decide +kernel
theorem lb_lnX5_becomeLike : ∀ s ∈ lb_sgX5_becomeLike.dropLast, s.length = 16 := by decide +kernel
theorem lxX5_becomeLike (k j : Nat) {b : UInt8} (h : (lb_sgX5_becomeLike[k]?).bind (fun s => s[j]?) = some b) : lb_at cX5_becomeLike (16 * k + j) b := by
  unfold lb_at
  rw [lb_seX5_becomeLike]
  exact lb_flat 16 lb_sgX5_becomeLike k j b lb_lnX5_becomeLike h
set_option maxRecDepth 20000 in
theorem dX5_becomeLike_0 : decode cX5_becomeLike 0 = .ok (.aload_n 0, 1) := dc_42 (lxX5_becomeLike 0 0 rfl)
set_option maxRecDepth 20000 in
theorem dX5_becomeLike_1 : decode cX5_becomeLike 1 = .ok (.aload_n 1, 1) := dc_43 (lxX5_becomeLike 0 1 rfl)
set_option maxRecDepth 20000 in
theorem dX5_becomeLike_2 : decode cX5_becomeLike 2 = .ok (.getfield 15, 3) := dc_180 0 15 (lxX5_becomeLike 0 2 rfl) (lxX5_becomeLike 0 3 rfl) (lxX5_becomeLike 0 4 rfl)
set_option maxRecDepth 20000 in
theorem dX5_becomeLike_5 : decode cX5_becomeLike 5 = .ok (.putfield 15, 3) := dc_181 0 15 (lxX5_becomeLike 0 5 rfl) (lxX5_becomeLike 0 6 rfl) (lxX5_becomeLike 0 7 rfl)
set_option maxRecDepth 20000 in
theorem dX5_becomeLike_8 : decode cX5_becomeLike 8 = .ok (.aload_n 0, 1) := dc_42 (lxX5_becomeLike 0 8 rfl)
set_option maxRecDepth 20000 in
theorem dX5_becomeLike_9 : decode cX5_becomeLike 9 = .ok (.aload_n 1, 1) := dc_43 (lxX5_becomeLike 0 9 rfl)
set_option maxRecDepth 20000 in
theorem dX5_becomeLike_10 : decode cX5_becomeLike 10 = .ok (.getfield 38, 3) := dc_180 0 38 (lxX5_becomeLike 0 10 rfl) (lxX5_becomeLike 0 11 rfl) (lxX5_becomeLike 0 12 rfl)
set_option maxRecDepth 20000 in
theorem dX5_becomeLike_13 : decode cX5_becomeLike 13 = .ok (.putfield 38, 3) := dc_181 0 38 (lxX5_becomeLike 0 13 rfl) (lxX5_becomeLike 0 14 rfl) (lxX5_becomeLike 0 15 rfl)
set_option maxRecDepth 20000 in
theorem dX5_becomeLike_16 : decode cX5_becomeLike 16 = .ok (.aload_n 0, 1) := dc_42 (lxX5_becomeLike 1 0 rfl)
set_option maxRecDepth 20000 in
theorem dX5_becomeLike_17 : decode cX5_becomeLike 17 = .ok (.aload_n 1, 1) := dc_43 (lxX5_becomeLike 1 1 rfl)
set_option maxRecDepth 20000 in
theorem dX5_becomeLike_18 : decode cX5_becomeLike 18 = .ok (.getfield 21, 3) := dc_180 0 21 (lxX5_becomeLike 1 2 rfl) (lxX5_becomeLike 1 3 rfl) (lxX5_becomeLike 1 4 rfl)
set_option maxRecDepth 20000 in
theorem dX5_becomeLike_21 : decode cX5_becomeLike 21 = .ok (.putfield 21, 3) := dc_181 0 21 (lxX5_becomeLike 1 5 rfl) (lxX5_becomeLike 1 6 rfl) (lxX5_becomeLike 1 7 rfl)
set_option maxRecDepth 20000 in
theorem dX5_becomeLike_24 : decode cX5_becomeLike 24 = .ok (.aload_n 0, 1) := dc_42 (lxX5_becomeLike 1 8 rfl)
set_option maxRecDepth 20000 in
theorem dX5_becomeLike_25 : decode cX5_becomeLike 25 = .ok (.aload_n 1, 1) := dc_43 (lxX5_becomeLike 1 9 rfl)
set_option maxRecDepth 20000 in
theorem dX5_becomeLike_26 : decode cX5_becomeLike 26 = .ok (.getfield 25, 3) := dc_180 0 25 (lxX5_becomeLike 1 10 rfl) (lxX5_becomeLike 1 11 rfl) (lxX5_becomeLike 1 12 rfl)
set_option maxRecDepth 20000 in
theorem dX5_becomeLike_29 : decode cX5_becomeLike 29 = .ok (.putfield 25, 3) := dc_181 0 25 (lxX5_becomeLike 1 13 rfl) (lxX5_becomeLike 1 14 rfl) (lxX5_becomeLike 1 15 rfl)
set_option maxRecDepth 20000 in
theorem dX5_becomeLike_32 : decode cX5_becomeLike 32 = .ok (.aload_n 0, 1) := dc_42 (lxX5_becomeLike 2 0 rfl)
set_option maxRecDepth 20000 in
theorem dX5_becomeLike_33 : decode cX5_becomeLike 33 = .ok (.aload_n 1, 1) := dc_43 (lxX5_becomeLike 2 1 rfl)
set_option maxRecDepth 20000 in
theorem dX5_becomeLike_34 : decode cX5_becomeLike 34 = .ok (.getfield 31, 3) := dc_180 0 31 (lxX5_becomeLike 2 2 rfl) (lxX5_becomeLike 2 3 rfl) (lxX5_becomeLike 2 4 rfl)
set_option maxRecDepth 20000 in
theorem dX5_becomeLike_37 : decode cX5_becomeLike 37 = .ok (.putfield 31, 3) := dc_181 0 31 (lxX5_becomeLike 2 5 rfl) (lxX5_becomeLike 2 6 rfl) (lxX5_becomeLike 2 7 rfl)
set_option maxRecDepth 20000 in
theorem dX5_becomeLike_40 : decode cX5_becomeLike 40 = .ok (.aload_n 0, 1) := dc_42 (lxX5_becomeLike 2 8 rfl)
set_option maxRecDepth 20000 in
theorem dX5_becomeLike_41 : decode cX5_becomeLike 41 = .ok (.aload_n 1, 1) := dc_43 (lxX5_becomeLike 2 9 rfl)
set_option maxRecDepth 20000 in
theorem dX5_becomeLike_42 : decode cX5_becomeLike 42 = .ok (.getfield 28, 3) := dc_180 0 28 (lxX5_becomeLike 2 10 rfl) (lxX5_becomeLike 2 11 rfl) (lxX5_becomeLike 2 12 rfl)
set_option maxRecDepth 20000 in
theorem dX5_becomeLike_45 : decode cX5_becomeLike 45 = .ok (.putfield 28, 3) := dc_181 0 28 (lxX5_becomeLike 2 13 rfl) (lxX5_becomeLike 2 14 rfl) (lxX5_becomeLike 2 15 rfl)
set_option maxRecDepth 20000 in
theorem dX5_becomeLike_48 : decode cX5_becomeLike 48 = .ok (.return_, 1) := dc_177 (lxX5_becomeLike 3 0 rfl)
noncomputable def sgX5_becomeSlice : List (List Cond) := [[.code yX5_becomeSlice cX5_becomeSlice 3 none], [.fieldLink RX5 15 "Sashwords$Window" "row" "[C", .fieldLink RX5 38 "Sashwords$Window" "start" "I", .fieldLink RX5 31 "Sashwords$Window" "position" "I", .fieldLink RX5 21 "Sashwords$Window" "capacity" "I", .methodLink RX5 45 yX5_size, .instanceMethod yX5_size, .selects RX5 yX5_size yX5_size, .initialized RX5, .code yX5_size cX5_size 1 (some .int), .fieldLink RX5 25 "Sashwords$Window" "limit" "I", .methodLink RX5 41 yX5_goTo, .instanceMethod yX5_goTo, .selects RX5 yX5_goTo yX5_goTo, .code yX5_goTo cX5_goTo 3 none, .fieldLink RX5 28 "Sashwords$Window" "mark" "I"], wsX50]
theorem seX5_becomeSlice : sgX5_becomeSlice.flatten = wsX5_becomeSlice := by simp only [sgX5_becomeSlice, wsX5_becomeSlice, List.flatten_cons, List.flatten_nil, List.append_assoc, List.append_nil, List.cons_append, List.nil_append]
set_option maxRecDepth 20000 in
theorem ggX5_becomeSlice_X5_size : GoodIn wsX5_becomeSlice wsX5_size := goodIn_s seX5_becomeSlice _ [pq_1_8, pq_1_9, pq_1_2, pq_2_0, pq_2_1, pq_2_2, pq_2_3, pq_2_4, pq_2_5] (by rfl) (by decide +kernel)
set_option maxRecDepth 20000 in
theorem gX5_becomeSlice_X5_size : GoodIn wsX5_becomeSlice (wsV RX5 45 RX5 yX5_size wsX5_size) := goodIn_app (goodIn_s seX5_becomeSlice _ [pq_1_4, pq_1_5, pq_1_6, pq_1_7] (by rfl) (by decide +kernel)) ggX5_becomeSlice_X5_size
set_option maxRecDepth 20000 in
theorem ggX5_becomeSlice_X5_goTo : GoodIn wsX5_becomeSlice wsX5_goTo := goodIn_s seX5_becomeSlice _ [pq_1_13, pq_1_2, pq_1_9, pq_1_14, pq_2_0, pq_2_1, pq_2_2, pq_2_3, pq_2_4, pq_2_5] (by rfl) (by decide +kernel)
set_option maxRecDepth 20000 in
theorem gX5_becomeSlice_X5_goTo : GoodIn wsX5_becomeSlice (wsV RX5 41 RX5 yX5_goTo wsX5_goTo) := goodIn_app (goodIn_s seX5_becomeSlice _ [pq_1_10, pq_1_11, pq_1_12, pq_1_7] (by rfl) (by decide +kernel)) ggX5_becomeSlice_X5_goTo
def lb_sgX5_becomeSlice : List (List UInt8) := [[43, 182, 0, 45, 61, 42, 43, 180, 0, 15, 181, 0, 15, 42, 43, 180], [0, 38, 43, 180, 0, 31, 96, 181, 0, 38, 42, 28, 181, 0, 21, 42], [3, 28, 182, 0, 41, 177]]
set_option maxRecDepth 100000 in
theorem lb_seX5_becomeSlice : cX5_becomeSlice.data.toList = lb_sgX5_becomeSlice.flatten := by decide +kernel
theorem lb_lnX5_becomeSlice : ∀ s ∈ lb_sgX5_becomeSlice.dropLast, s.length = 16 := by decide +kernel
theorem lxX5_becomeSlice (k j : Nat) {b : UInt8} (h : (lb_sgX5_becomeSlice[k]?).bind (fun s => s[j]?) = some b) : lb_at cX5_becomeSlice (16 * k + j) b := by
  unfold lb_at
  rw [lb_seX5_becomeSlice]
  exact lb_flat 16 lb_sgX5_becomeSlice k j b lb_lnX5_becomeSlice h
set_option maxRecDepth 20000 in
theorem dX5_becomeSlice_0 : decode cX5_becomeSlice 0 = .ok (.aload_n 1, 1) := dc_43 (lxX5_becomeSlice 0 0 rfl)
set_option maxRecDepth 20000 in
theorem dX5_becomeSlice_1 : decode cX5_becomeSlice 1 = .ok (.invokevirtual 45, 3) := dc_182 0 45 (lxX5_becomeSlice 0 1 rfl) (lxX5_becomeSlice 0 2 rfl) (lxX5_becomeSlice 0 3 rfl)
set_option maxRecDepth 20000 in
theorem dX5_becomeSlice_4 : decode cX5_becomeSlice 4 = .ok (.istore_n 2, 1) := dc_61 (lxX5_becomeSlice 0 4 rfl)
set_option maxRecDepth 20000 in
theorem dX5_becomeSlice_5 : decode cX5_becomeSlice 5 = .ok (.aload_n 0, 1) := dc_42 (lxX5_becomeSlice 0 5 rfl)
set_option maxRecDepth 20000 in
theorem dX5_becomeSlice_6 : decode cX5_becomeSlice 6 = .ok (.aload_n 1, 1) := dc_43 (lxX5_becomeSlice 0 6 rfl)
set_option maxRecDepth 20000 in
theorem dX5_becomeSlice_7 : decode cX5_becomeSlice 7 = .ok (.getfield 15, 3) := dc_180 0 15 (lxX5_becomeSlice 0 7 rfl) (lxX5_becomeSlice 0 8 rfl) (lxX5_becomeSlice 0 9 rfl)
set_option maxRecDepth 20000 in
theorem dX5_becomeSlice_10 : decode cX5_becomeSlice 10 = .ok (.putfield 15, 3) := dc_181 0 15 (lxX5_becomeSlice 0 10 rfl) (lxX5_becomeSlice 0 11 rfl) (lxX5_becomeSlice 0 12 rfl)
set_option maxRecDepth 20000 in
theorem dX5_becomeSlice_13 : decode cX5_becomeSlice 13 = .ok (.aload_n 0, 1) := dc_42 (lxX5_becomeSlice 0 13 rfl)
set_option maxRecDepth 20000 in
theorem dX5_becomeSlice_14 : decode cX5_becomeSlice 14 = .ok (.aload_n 1, 1) := dc_43 (lxX5_becomeSlice 0 14 rfl)
set_option maxRecDepth 20000 in
theorem dX5_becomeSlice_15 : decode cX5_becomeSlice 15 = .ok (.getfield 38, 3) := dc_180 0 38 (lxX5_becomeSlice 0 15 rfl) (lxX5_becomeSlice 1 0 rfl) (lxX5_becomeSlice 1 1 rfl)
set_option maxRecDepth 20000 in
theorem dX5_becomeSlice_18 : decode cX5_becomeSlice 18 = .ok (.aload_n 1, 1) := dc_43 (lxX5_becomeSlice 1 2 rfl)
set_option maxRecDepth 20000 in
theorem dX5_becomeSlice_19 : decode cX5_becomeSlice 19 = .ok (.getfield 31, 3) := dc_180 0 31 (lxX5_becomeSlice 1 3 rfl) (lxX5_becomeSlice 1 4 rfl) (lxX5_becomeSlice 1 5 rfl)
set_option maxRecDepth 20000 in
theorem dX5_becomeSlice_22 : decode cX5_becomeSlice 22 = .ok (.iadd, 1) := dc_96 (lxX5_becomeSlice 1 6 rfl)
set_option maxRecDepth 20000 in
theorem dX5_becomeSlice_23 : decode cX5_becomeSlice 23 = .ok (.putfield 38, 3) := dc_181 0 38 (lxX5_becomeSlice 1 7 rfl) (lxX5_becomeSlice 1 8 rfl) (lxX5_becomeSlice 1 9 rfl)
set_option maxRecDepth 20000 in
theorem dX5_becomeSlice_26 : decode cX5_becomeSlice 26 = .ok (.aload_n 0, 1) := dc_42 (lxX5_becomeSlice 1 10 rfl)
set_option maxRecDepth 20000 in
theorem dX5_becomeSlice_27 : decode cX5_becomeSlice 27 = .ok (.iload_n 2, 1) := dc_28 (lxX5_becomeSlice 1 11 rfl)
set_option maxRecDepth 20000 in
theorem dX5_becomeSlice_28 : decode cX5_becomeSlice 28 = .ok (.putfield 21, 3) := dc_181 0 21 (lxX5_becomeSlice 1 12 rfl) (lxX5_becomeSlice 1 13 rfl) (lxX5_becomeSlice 1 14 rfl)
set_option maxRecDepth 20000 in
theorem dX5_becomeSlice_31 : decode cX5_becomeSlice 31 = .ok (.aload_n 0, 1) := dc_42 (lxX5_becomeSlice 1 15 rfl)
set_option maxRecDepth 20000 in
theorem dX5_becomeSlice_32 : decode cX5_becomeSlice 32 = .ok (.iconst 0, 1) := dc_3 (lxX5_becomeSlice 2 0 rfl)
set_option maxRecDepth 20000 in
theorem dX5_becomeSlice_33 : decode cX5_becomeSlice 33 = .ok (.iload_n 2, 1) := dc_28 (lxX5_becomeSlice 2 1 rfl)
set_option maxRecDepth 20000 in
theorem dX5_becomeSlice_34 : decode cX5_becomeSlice 34 = .ok (.invokevirtual 41, 3) := dc_182 0 41 (lxX5_becomeSlice 2 2 rfl) (lxX5_becomeSlice 2 3 rfl) (lxX5_becomeSlice 2 4 rfl)
set_option maxRecDepth 20000 in
theorem dX5_becomeSlice_37 : decode cX5_becomeSlice 37 = .ok (.return_, 1) := dc_177 (lxX5_becomeSlice 2 5 rfl)
def lb_sgX5_becomePart : List (List UInt8) := [[43, 180, 0, 31, 54, 4, 42, 43, 180, 0, 15, 181, 0, 15, 42, 43], [180, 0, 38, 181, 0, 38, 42, 43, 180, 0, 21, 181, 0, 21, 42, 21], [4, 28, 96, 181, 0, 31, 42, 21, 4, 29, 96, 181, 0, 25, 42, 42], [180, 0, 31, 181, 0, 28, 177]]
set_option maxRecDepth 100000 in
theorem lb_seX5_becomePart : cX5_becomePart.data.toList = lb_sgX5_becomePart.flatten := by decide +kernel
theorem lb_lnX5_becomePart : ∀ s ∈ lb_sgX5_becomePart.dropLast, s.length = 16 := by decide +kernel
theorem lxX5_becomePart (k j : Nat) {b : UInt8} (h : (lb_sgX5_becomePart[k]?).bind (fun s => s[j]?) = some b) : lb_at cX5_becomePart (16 * k + j) b := by
  unfold lb_at
  rw [lb_seX5_becomePart]
  exact lb_flat 16 lb_sgX5_becomePart k j b lb_lnX5_becomePart h
set_option maxRecDepth 20000 in
theorem dX5_becomePart_0 : decode cX5_becomePart 0 = .ok (.aload_n 1, 1) := dc_43 (lxX5_becomePart 0 0 rfl)
set_option maxRecDepth 20000 in
theorem dX5_becomePart_1 : decode cX5_becomePart 1 = .ok (.getfield 31, 3) := dc_180 0 31 (lxX5_becomePart 0 1 rfl) (lxX5_becomePart 0 2 rfl) (lxX5_becomePart 0 3 rfl)
set_option maxRecDepth 20000 in
theorem dX5_becomePart_4 : decode cX5_becomePart 4 = .ok (.istore 4, 2) := dc_54 4 (lxX5_becomePart 0 4 rfl) (lxX5_becomePart 0 5 rfl)
set_option maxRecDepth 20000 in
theorem dX5_becomePart_6 : decode cX5_becomePart 6 = .ok (.aload_n 0, 1) := dc_42 (lxX5_becomePart 0 6 rfl)
set_option maxRecDepth 20000 in
theorem dX5_becomePart_7 : decode cX5_becomePart 7 = .ok (.aload_n 1, 1) := dc_43 (lxX5_becomePart 0 7 rfl)
set_option maxRecDepth 20000 in
theorem dX5_becomePart_8 : decode cX5_becomePart 8 = .ok (.getfield 15, 3) := dc_180 0 15 (lxX5_becomePart 0 8 rfl) (lxX5_becomePart 0 9 rfl) (lxX5_becomePart 0 10 rfl)
set_option maxRecDepth 20000 in
theorem dX5_becomePart_11 : decode cX5_becomePart 11 = .ok (.putfield 15, 3) := dc_181 0 15 (lxX5_becomePart 0 11 rfl) (lxX5_becomePart 0 12 rfl) (lxX5_becomePart 0 13 rfl)
set_option maxRecDepth 20000 in
theorem dX5_becomePart_14 : decode cX5_becomePart 14 = .ok (.aload_n 0, 1) := dc_42 (lxX5_becomePart 0 14 rfl)
set_option maxRecDepth 20000 in
theorem dX5_becomePart_15 : decode cX5_becomePart 15 = .ok (.aload_n 1, 1) := dc_43 (lxX5_becomePart 0 15 rfl)
set_option maxRecDepth 20000 in
theorem dX5_becomePart_16 : decode cX5_becomePart 16 = .ok (.getfield 38, 3) := dc_180 0 38 (lxX5_becomePart 1 0 rfl) (lxX5_becomePart 1 1 rfl) (lxX5_becomePart 1 2 rfl)
set_option maxRecDepth 20000 in
theorem dX5_becomePart_19 : decode cX5_becomePart 19 = .ok (.putfield 38, 3) := dc_181 0 38 (lxX5_becomePart 1 3 rfl) (lxX5_becomePart 1 4 rfl) (lxX5_becomePart 1 5 rfl)
set_option maxRecDepth 20000 in
theorem dX5_becomePart_22 : decode cX5_becomePart 22 = .ok (.aload_n 0, 1) := dc_42 (lxX5_becomePart 1 6 rfl)
set_option maxRecDepth 20000 in
theorem dX5_becomePart_23 : decode cX5_becomePart 23 = .ok (.aload_n 1, 1) := dc_43 (lxX5_becomePart 1 7 rfl)
set_option maxRecDepth 20000 in
theorem dX5_becomePart_24 : decode cX5_becomePart 24 = .ok (.getfield 21, 3) := dc_180 0 21 (lxX5_becomePart 1 8 rfl) (lxX5_becomePart 1 9 rfl) (lxX5_becomePart 1 10 rfl)
set_option maxRecDepth 20000 in
theorem dX5_becomePart_27 : decode cX5_becomePart 27 = .ok (.putfield 21, 3) := dc_181 0 21 (lxX5_becomePart 1 11 rfl) (lxX5_becomePart 1 12 rfl) (lxX5_becomePart 1 13 rfl)
set_option maxRecDepth 20000 in
theorem dX5_becomePart_30 : decode cX5_becomePart 30 = .ok (.aload_n 0, 1) := dc_42 (lxX5_becomePart 1 14 rfl)
set_option maxRecDepth 20000 in
theorem dX5_becomePart_31 : decode cX5_becomePart 31 = .ok (.iload 4, 2) := dc_21 4 (lxX5_becomePart 1 15 rfl) (lxX5_becomePart 2 0 rfl)
set_option maxRecDepth 20000 in
theorem dX5_becomePart_33 : decode cX5_becomePart 33 = .ok (.iload_n 2, 1) := dc_28 (lxX5_becomePart 2 1 rfl)
set_option maxRecDepth 20000 in
theorem dX5_becomePart_34 : decode cX5_becomePart 34 = .ok (.iadd, 1) := dc_96 (lxX5_becomePart 2 2 rfl)
set_option maxRecDepth 20000 in
theorem dX5_becomePart_35 : decode cX5_becomePart 35 = .ok (.putfield 31, 3) := dc_181 0 31 (lxX5_becomePart 2 3 rfl) (lxX5_becomePart 2 4 rfl) (lxX5_becomePart 2 5 rfl)
set_option maxRecDepth 20000 in
theorem dX5_becomePart_38 : decode cX5_becomePart 38 = .ok (.aload_n 0, 1) := dc_42 (lxX5_becomePart 2 6 rfl)
set_option maxRecDepth 20000 in
theorem dX5_becomePart_39 : decode cX5_becomePart 39 = .ok (.iload 4, 2) := dc_21 4 (lxX5_becomePart 2 7 rfl) (lxX5_becomePart 2 8 rfl)
set_option maxRecDepth 20000 in
theorem dX5_becomePart_41 : decode cX5_becomePart 41 = .ok (.iload_n 3, 1) := dc_29 (lxX5_becomePart 2 9 rfl)
set_option maxRecDepth 20000 in
theorem dX5_becomePart_42 : decode cX5_becomePart 42 = .ok (.iadd, 1) := dc_96 (lxX5_becomePart 2 10 rfl)
set_option maxRecDepth 20000 in
theorem dX5_becomePart_43 : decode cX5_becomePart 43 = .ok (.putfield 25, 3) := dc_181 0 25 (lxX5_becomePart 2 11 rfl) (lxX5_becomePart 2 12 rfl) (lxX5_becomePart 2 13 rfl)
set_option maxRecDepth 20000 in
theorem dX5_becomePart_46 : decode cX5_becomePart 46 = .ok (.aload_n 0, 1) := dc_42 (lxX5_becomePart 2 14 rfl)
set_option maxRecDepth 20000 in
theorem dX5_becomePart_47 : decode cX5_becomePart 47 = .ok (.aload_n 0, 1) := dc_42 (lxX5_becomePart 2 15 rfl)
set_option maxRecDepth 20000 in
theorem dX5_becomePart_48 : decode cX5_becomePart 48 = .ok (.getfield 31, 3) := dc_180 0 31 (lxX5_becomePart 3 0 rfl) (lxX5_becomePart 3 1 rfl) (lxX5_becomePart 3 2 rfl)
set_option maxRecDepth 20000 in
theorem dX5_becomePart_51 : decode cX5_becomePart 51 = .ok (.putfield 28, 3) := dc_181 0 28 (lxX5_becomePart 3 3 rfl) (lxX5_becomePart 3 4 rfl) (lxX5_becomePart 3 5 rfl)
set_option maxRecDepth 20000 in
theorem dX5_becomePart_54 : decode cX5_becomePart 54 = .ok (.return_, 1) := dc_177 (lxX5_becomePart 3 6 rfl)
def lb_sgX5_goTo : List (List UInt8) := [[42, 27, 181, 0, 31, 42, 28, 181, 0, 25, 42, 16, 247, 181, 0, 28], [177]]
set_option maxRecDepth 100000 in
theorem lb_seX5_goTo : cX5_goTo.data.toList = lb_sgX5_goTo.flatten := by decide +kernel
theorem lb_lnX5_goTo : ∀ s ∈ lb_sgX5_goTo.dropLast, s.length = 16 := by decide +kernel
theorem lxX5_goTo (k j : Nat) {b : UInt8} (h : (lb_sgX5_goTo[k]?).bind (fun s => s[j]?) = some b) : lb_at cX5_goTo (16 * k + j) b := by
  unfold lb_at
  rw [lb_seX5_goTo]
  exact lb_flat 16 lb_sgX5_goTo k j b lb_lnX5_goTo h
set_option maxRecDepth 20000 in
theorem dX5_goTo_0 : decode cX5_goTo 0 = .ok (.aload_n 0, 1) := dc_42 (lxX5_goTo 0 0 rfl)
set_option maxRecDepth 20000 in
theorem dX5_goTo_1 : decode cX5_goTo 1 = .ok (.iload_n 1, 1) := dc_27 (lxX5_goTo 0 1 rfl)
set_option maxRecDepth 20000 in
theorem dX5_goTo_2 : decode cX5_goTo 2 = .ok (.putfield 31, 3) := dc_181 0 31 (lxX5_goTo 0 2 rfl) (lxX5_goTo 0 3 rfl) (lxX5_goTo 0 4 rfl)
set_option maxRecDepth 20000 in
theorem dX5_goTo_5 : decode cX5_goTo 5 = .ok (.aload_n 0, 1) := dc_42 (lxX5_goTo 0 5 rfl)
set_option maxRecDepth 20000 in
theorem dX5_goTo_6 : decode cX5_goTo 6 = .ok (.iload_n 2, 1) := dc_28 (lxX5_goTo 0 6 rfl)
set_option maxRecDepth 20000 in
theorem dX5_goTo_7 : decode cX5_goTo 7 = .ok (.putfield 25, 3) := dc_181 0 25 (lxX5_goTo 0 7 rfl) (lxX5_goTo 0 8 rfl) (lxX5_goTo 0 9 rfl)
set_option maxRecDepth 20000 in
theorem dX5_goTo_10 : decode cX5_goTo 10 = .ok (.aload_n 0, 1) := dc_42 (lxX5_goTo 0 10 rfl)
set_option maxRecDepth 20000 in
theorem dX5_goTo_11 : decode cX5_goTo 11 = .ok (.bipush (-9), 2) := dc_16 247 (lxX5_goTo 0 11 rfl) (lxX5_goTo 0 12 rfl)
set_option maxRecDepth 20000 in
theorem dX5_goTo_13 : decode cX5_goTo 13 = .ok (.putfield 28, 3) := dc_181 0 28 (lxX5_goTo 0 13 rfl) (lxX5_goTo 0 14 rfl) (lxX5_goTo 0 15 rfl)
set_option maxRecDepth 20000 in
theorem dX5_goTo_16 : decode cX5_goTo 16 = .ok (.return_, 1) := dc_177 (lxX5_goTo 1 0 rfl)
set_option maxRecDepth 20000 in
theorem dX5_setMark_0 : decode cX5_setMark 0 = .ok (.aload_n 0, 1) := dc_42 rfl
set_option maxRecDepth 20000 in
theorem dX5_setMark_1 : decode cX5_setMark 1 = .ok (.aload_n 0, 1) := dc_42 rfl
set_option maxRecDepth 20000 in
theorem dX5_setMark_2 : decode cX5_setMark 2 = .ok (.getfield 31, 3) := dc_180 0 31 rfl rfl rfl
set_option maxRecDepth 20000 in
theorem dX5_setMark_5 : decode cX5_setMark 5 = .ok (.putfield 28, 3) := dc_181 0 28 rfl rfl rfl
set_option maxRecDepth 20000 in
theorem dX5_setMark_8 : decode cX5_setMark 8 = .ok (.return_, 1) := dc_177 rfl
set_option maxRecDepth 20000 in
theorem dX5_goToMark_0 : decode cX5_goToMark 0 = .ok (.aload_n 0, 1) := dc_42 rfl
set_option maxRecDepth 20000 in
theorem dX5_goToMark_1 : decode cX5_goToMark 1 = .ok (.aload_n 0, 1) := dc_42 rfl
set_option maxRecDepth 20000 in
theorem dX5_goToMark_2 : decode cX5_goToMark 2 = .ok (.getfield 28, 3) := dc_180 0 28 rfl rfl rfl
set_option maxRecDepth 20000 in
theorem dX5_goToMark_5 : decode cX5_goToMark 5 = .ok (.putfield 31, 3) := dc_181 0 31 rfl rfl rfl
set_option maxRecDepth 20000 in
theorem dX5_goToMark_8 : decode cX5_goToMark 8 = .ok (.return_, 1) := dc_177 rfl
noncomputable def sgX5_readSign : List (List Cond) := [[.code yX5_readSign cX5_readSign 2 (some .int)], [.fieldLink RX5 31 "Sashwords$Window" "position" "I", .methodLink RX5 49 yX5_at, .instanceMethod yX5_at, .selects RX5 yX5_at yX5_at, .initialized RX5, .code yX5_at cX5_at 2 (some .int), .fieldLink RX5 25 "Sashwords$Window" "limit" "I", .methodLink RX5 34 yX5_atPlace, .instanceMethod yX5_atPlace, .selects RX5 yX5_atPlace yX5_atPlace, .code yX5_atPlace cX5_atPlace 3 (some .int), .fieldLink RX5 38 "Sashwords$Window" "start" "I", .fieldLink RX5 15 "Sashwords$Window" "row" "[C", .methodLink RX5 45 yX5_size, .instanceMethod yX5_size, .selects RX5 yX5_size yX5_size, .code yX5_size cX5_size 1 (some .int)], wsX50]
theorem seX5_readSign : sgX5_readSign.flatten = wsX5_readSign := by simp only [sgX5_readSign, wsX5_readSign, List.flatten_cons, List.flatten_nil, List.append_assoc, List.append_nil, List.cons_append, List.nil_append]
set_option maxRecDepth 20000 in
theorem ggX5_readSign_X5_at : GoodIn wsX5_readSign wsX5_at := goodIn_s seX5_readSign _ [pq_1_5, pq_1_6, pq_1_0, pq_1_7, pq_1_8, pq_1_9, pq_1_4, pq_1_10, pq_1_11, pq_1_12, pq_2_0, pq_2_1, pq_2_2, pq_2_3, pq_2_4, pq_2_5] (by rfl) (by decide +kernel)
set_option maxRecDepth 20000 in
theorem gX5_readSign_X5_at : GoodIn wsX5_readSign (wsV RX5 49 RX5 yX5_at wsX5_at) := goodIn_app (goodIn_s seX5_readSign _ [pq_1_1, pq_1_2, pq_1_3, pq_1_4] (by rfl) (by decide +kernel)) ggX5_readSign_X5_at
set_option maxRecDepth 20000 in
theorem ggX5_readSign_X5_size : GoodIn wsX5_readSign wsX5_size := goodIn_s seX5_readSign _ [pq_1_16, pq_1_6, pq_1_0, pq_2_0, pq_2_1, pq_2_2, pq_2_3, pq_2_4, pq_2_5] (by rfl) (by decide +kernel)
set_option maxRecDepth 20000 in
theorem gX5_readSign_X5_size : GoodIn wsX5_readSign (wsV RX5 45 RX5 yX5_size wsX5_size) := goodIn_app (goodIn_s seX5_readSign _ [pq_1_13, pq_1_14, pq_1_15, pq_1_4] (by rfl) (by decide +kernel)) ggX5_readSign_X5_size
def lb_sgX5_readSign : List (List UInt8) := [[42, 3, 182, 0, 49, 60, 42, 182, 0, 45, 158, 0, 13, 42, 89, 180], [0, 31, 4, 96, 181, 0, 31, 27, 172]]
set_option maxRecDepth 100000 in
theorem lb_seX5_readSign : cX5_readSign.data.toList = lb_sgX5_readSign.flatten := by decide +kernel
theorem lb_lnX5_readSign : ∀ s ∈ lb_sgX5_readSign.dropLast, s.length = 16 := by decide +kernel
theorem lxX5_readSign (k j : Nat) {b : UInt8} (h : (lb_sgX5_readSign[k]?).bind (fun s => s[j]?) = some b) : lb_at cX5_readSign (16 * k + j) b := by
  unfold lb_at
  rw [lb_seX5_readSign]
  exact lb_flat 16 lb_sgX5_readSign k j b lb_lnX5_readSign h
set_option maxRecDepth 20000 in
theorem dX5_readSign_0 : decode cX5_readSign 0 = .ok (.aload_n 0, 1) := dc_42 (lxX5_readSign 0 0 rfl)
set_option maxRecDepth 20000 in
theorem dX5_readSign_1 : decode cX5_readSign 1 = .ok (.iconst 0, 1) := dc_3 (lxX5_readSign 0 1 rfl)
set_option maxRecDepth 20000 in
theorem dX5_readSign_2 : decode cX5_readSign 2 = .ok (.invokevirtual 49, 3) := dc_182 0 49 (lxX5_readSign 0 2 rfl) (lxX5_readSign 0 3 rfl) (lxX5_readSign 0 4 rfl)
set_option maxRecDepth 20000 in
theorem dX5_readSign_5 : decode cX5_readSign 5 = .ok (.istore_n 1, 1) := dc_60 (lxX5_readSign 0 5 rfl)
set_option maxRecDepth 20000 in
theorem dX5_readSign_6 : decode cX5_readSign 6 = .ok (.aload_n 0, 1) := dc_42 (lxX5_readSign 0 6 rfl)
set_option maxRecDepth 20000 in
theorem dX5_readSign_7 : decode cX5_readSign 7 = .ok (.invokevirtual 45, 3) := dc_182 0 45 (lxX5_readSign 0 7 rfl) (lxX5_readSign 0 8 rfl) (lxX5_readSign 0 9 rfl)
set_option maxRecDepth 20000 in
theorem dX5_readSign_10 : decode cX5_readSign 10 = .ok (.ifCond .le 13, 3) := dc_158 0 13 (lxX5_readSign 0 10 rfl) (lxX5_readSign 0 11 rfl) (lxX5_readSign 0 12 rfl)
set_option maxRecDepth 20000 in
theorem dX5_readSign_13 : decode cX5_readSign 13 = .ok (.aload_n 0, 1) := dc_42 (lxX5_readSign 0 13 rfl)
set_option maxRecDepth 20000 in
theorem dX5_readSign_14 : decode cX5_readSign 14 = .ok (.dup, 1) := dc_89 (lxX5_readSign 0 14 rfl)
set_option maxRecDepth 20000 in
theorem dX5_readSign_15 : decode cX5_readSign 15 = .ok (.getfield 31, 3) := dc_180 0 31 (lxX5_readSign 0 15 rfl) (lxX5_readSign 1 0 rfl) (lxX5_readSign 1 1 rfl)
set_option maxRecDepth 20000 in
theorem dX5_readSign_18 : decode cX5_readSign 18 = .ok (.iconst 1, 1) := dc_4 (lxX5_readSign 1 2 rfl)
set_option maxRecDepth 20000 in
theorem dX5_readSign_19 : decode cX5_readSign 19 = .ok (.iadd, 1) := dc_96 (lxX5_readSign 1 3 rfl)
set_option maxRecDepth 20000 in
theorem dX5_readSign_20 : decode cX5_readSign 20 = .ok (.putfield 31, 3) := dc_181 0 31 (lxX5_readSign 1 4 rfl) (lxX5_readSign 1 5 rfl) (lxX5_readSign 1 6 rfl)
set_option maxRecDepth 20000 in
theorem dX5_readSign_23 : decode cX5_readSign 23 = .ok (.iload_n 1, 1) := dc_27 (lxX5_readSign 1 7 rfl)
set_option maxRecDepth 20000 in
theorem dX5_readSign_24 : decode cX5_readSign 24 = .ok (.ireturn, 1) := dc_172 (lxX5_readSign 1 8 rfl)
noncomputable def sgX5_writeSign : List (List Cond) := [[.code yX5_writeSign cX5_writeSign 2 (some .boolean)], [.fieldLink RX5 31 "Sashwords$Window" "position" "I", .methodLink RX5 45 yX5_size, .instanceMethod yX5_size, .selects RX5 yX5_size yX5_size, .initialized RX5, .code yX5_size cX5_size 1 (some .int), .fieldLink RX5 25 "Sashwords$Window" "limit" "I", .methodLink RX5 52 yX5_store, .instanceMethod yX5_store, .selects RX5 yX5_store yX5_store, .code yX5_store cX5_store 4 none, .fieldLink RX5 38 "Sashwords$Window" "start" "I", .fieldLink RX5 15 "Sashwords$Window" "row" "[C"], wsX50]
theorem seX5_writeSign : sgX5_writeSign.flatten = wsX5_writeSign := by simp only [sgX5_writeSign, wsX5_writeSign, List.flatten_cons, List.flatten_nil, List.append_assoc, List.append_nil, List.cons_append, List.nil_append]
set_option maxRecDepth 20000 in
theorem ggX5_writeSign_X5_size : GoodIn wsX5_writeSign wsX5_size := goodIn_s seX5_writeSign _ [pq_1_5, pq_1_6, pq_1_0, pq_2_0, pq_2_1, pq_2_2, pq_2_3, pq_2_4, pq_2_5] (by rfl) (by decide +kernel)
set_option maxRecDepth 20000 in
theorem gX5_writeSign_X5_size : GoodIn wsX5_writeSign (wsV RX5 45 RX5 yX5_size wsX5_size) := goodIn_app (goodIn_s seX5_writeSign _ [pq_1_1, pq_1_2, pq_1_3, pq_1_4] (by rfl) (by decide +kernel)) ggX5_writeSign_X5_size
set_option maxRecDepth 20000 in
theorem ggX5_writeSign_X5_store : GoodIn wsX5_writeSign wsX5_store := goodIn_s seX5_writeSign _ [pq_1_10, pq_1_11, pq_1_12, pq_2_0, pq_2_1, pq_2_2, pq_2_3, pq_2_4, pq_2_5] (by rfl) (by decide +kernel)
set_option maxRecDepth 20000 in
theorem gX5_writeSign_X5_store : GoodIn wsX5_writeSign (wsV RX5 52 RX5 yX5_store wsX5_store) := goodIn_app (goodIn_s seX5_writeSign _ [pq_1_7, pq_1_8, pq_1_9, pq_1_4] (by rfl) (by decide +kernel)) ggX5_writeSign_X5_store
def lb_sgX5_writeSign : List (List UInt8) := [[42, 182, 0, 45, 157, 0, 5, 3, 172, 42, 42, 180, 0, 31, 27, 182], [0, 52, 42, 89, 180, 0, 31, 4, 96, 181, 0, 31, 4, 172]]
set_option maxRecDepth 100000 in
theorem lb_seX5_writeSign : cX5_writeSign.data.toList = lb_sgX5_writeSign.flatten := by decide +kernel
theorem lb_lnX5_writeSign : ∀ s ∈ lb_sgX5_writeSign.dropLast, s.length = 16 := by decide +kernel
theorem lxX5_writeSign (k j : Nat) {b : UInt8} (h : (lb_sgX5_writeSign[k]?).bind (fun s => s[j]?) = some b) : lb_at cX5_writeSign (16 * k + j) b := by
  unfold lb_at
  rw [lb_seX5_writeSign]
  exact lb_flat 16 lb_sgX5_writeSign k j b lb_lnX5_writeSign h
set_option maxRecDepth 20000 in
theorem dX5_writeSign_0 : decode cX5_writeSign 0 = .ok (.aload_n 0, 1) := dc_42 (lxX5_writeSign 0 0 rfl)
set_option maxRecDepth 20000 in
theorem dX5_writeSign_1 : decode cX5_writeSign 1 = .ok (.invokevirtual 45, 3) := dc_182 0 45 (lxX5_writeSign 0 1 rfl) (lxX5_writeSign 0 2 rfl) (lxX5_writeSign 0 3 rfl)
set_option maxRecDepth 20000 in
theorem dX5_writeSign_4 : decode cX5_writeSign 4 = .ok (.ifCond .gt 5, 3) := dc_157 0 5 (lxX5_writeSign 0 4 rfl) (lxX5_writeSign 0 5 rfl) (lxX5_writeSign 0 6 rfl)
set_option maxRecDepth 20000 in
theorem dX5_writeSign_7 : decode cX5_writeSign 7 = .ok (.iconst 0, 1) := dc_3 (lxX5_writeSign 0 7 rfl)
set_option maxRecDepth 20000 in
theorem dX5_writeSign_8 : decode cX5_writeSign 8 = .ok (.ireturn, 1) := dc_172 (lxX5_writeSign 0 8 rfl)
set_option maxRecDepth 20000 in
theorem dX5_writeSign_9 : decode cX5_writeSign 9 = .ok (.aload_n 0, 1) := dc_42 (lxX5_writeSign 0 9 rfl)
set_option maxRecDepth 20000 in
theorem dX5_writeSign_10 : decode cX5_writeSign 10 = .ok (.aload_n 0, 1) := dc_42 (lxX5_writeSign 0 10 rfl)
set_option maxRecDepth 20000 in
theorem dX5_writeSign_11 : decode cX5_writeSign 11 = .ok (.getfield 31, 3) := dc_180 0 31 (lxX5_writeSign 0 11 rfl) (lxX5_writeSign 0 12 rfl) (lxX5_writeSign 0 13 rfl)
set_option maxRecDepth 20000 in
theorem dX5_writeSign_14 : decode cX5_writeSign 14 = .ok (.iload_n 1, 1) := dc_27 (lxX5_writeSign 0 14 rfl)
set_option maxRecDepth 20000 in
theorem dX5_writeSign_15 : decode cX5_writeSign 15 = .ok (.invokevirtual 52, 3) := dc_182 0 52 (lxX5_writeSign 0 15 rfl) (lxX5_writeSign 1 0 rfl) (lxX5_writeSign 1 1 rfl)
set_option maxRecDepth 20000 in
theorem dX5_writeSign_18 : decode cX5_writeSign 18 = .ok (.aload_n 0, 1) := dc_42 (lxX5_writeSign 1 2 rfl)
set_option maxRecDepth 20000 in
theorem dX5_writeSign_19 : decode cX5_writeSign 19 = .ok (.dup, 1) := dc_89 (lxX5_writeSign 1 3 rfl)
set_option maxRecDepth 20000 in
theorem dX5_writeSign_20 : decode cX5_writeSign 20 = .ok (.getfield 31, 3) := dc_180 0 31 (lxX5_writeSign 1 4 rfl) (lxX5_writeSign 1 5 rfl) (lxX5_writeSign 1 6 rfl)
set_option maxRecDepth 20000 in
theorem dX5_writeSign_23 : decode cX5_writeSign 23 = .ok (.iconst 1, 1) := dc_4 (lxX5_writeSign 1 7 rfl)
set_option maxRecDepth 20000 in
theorem dX5_writeSign_24 : decode cX5_writeSign 24 = .ok (.iadd, 1) := dc_96 (lxX5_writeSign 1 8 rfl)
set_option maxRecDepth 20000 in
theorem dX5_writeSign_25 : decode cX5_writeSign 25 = .ok (.putfield 31, 3) := dc_181 0 31 (lxX5_writeSign 1 9 rfl) (lxX5_writeSign 1 10 rfl) (lxX5_writeSign 1 11 rfl)
set_option maxRecDepth 20000 in
theorem dX5_writeSign_28 : decode cX5_writeSign 28 = .ok (.iconst 1, 1) := dc_4 (lxX5_writeSign 1 12 rfl)
set_option maxRecDepth 20000 in
theorem dX5_writeSign_29 : decode cX5_writeSign 29 = .ok (.ireturn, 1) := dc_172 (lxX5_writeSign 1 13 rfl)
noncomputable def sgX5_moveTextToFront : List (List Cond) := [[.code yX5_moveTextToFront cX5_moveTextToFront 3 none], wsX5_moveTextToFront_r1, wsX5_moveTextToFront_r2, wsX50]
theorem seX5_moveTextToFront : sgX5_moveTextToFront.flatten = wsX5_moveTextToFront := by simp only [sgX5_moveTextToFront, wsX5_moveTextToFront, List.flatten_cons, List.flatten_nil, List.append_assoc, List.append_nil, List.cons_append, List.nil_append]
set_option maxRecDepth 20000 in
theorem ggX5_moveTextToFront_X5_size : GoodIn wsX5_moveTextToFront wsX5_size := goodIn_s seX5_moveTextToFront _ [pq_1_5, pq_1_6, pq_1_7, pq_3_0, pq_3_1, pq_3_2, pq_3_3, pq_3_4, pq_3_5] (by rfl) (by decide +kernel)
set_option maxRecDepth 20000 in
theorem gX5_moveTextToFront_X5_size : GoodIn wsX5_moveTextToFront (wsV RX5 45 RX5 yX5_size wsX5_size) := goodIn_app (goodIn_s seX5_moveTextToFront _ [pq_1_1, pq_1_2, pq_1_3, pq_1_4] (by rfl) (by decide +kernel)) ggX5_moveTextToFront_X5_size
set_option maxRecDepth 20000 in
theorem ggX5_moveTextToFront_X5_at : GoodIn wsX5_moveTextToFront wsX5_at := goodIn_s seX5_moveTextToFront _ [pq_1_11, pq_1_6, pq_1_7, pq_1_12, pq_1_13, pq_1_14, pq_1_4, pq_1_15, pq_1_16, pq_1_17, pq_3_0, pq_3_1, pq_3_2, pq_3_3, pq_3_4, pq_3_5] (by rfl) (by decide +kernel)
set_option maxRecDepth 20000 in
theorem gX5_moveTextToFront_X5_at : GoodIn wsX5_moveTextToFront (wsV RX5 49 RX5 yX5_at wsX5_at) := goodIn_app (goodIn_s seX5_moveTextToFront _ [pq_1_8, pq_1_9, pq_1_10, pq_1_4] (by rfl) (by decide +kernel)) ggX5_moveTextToFront_X5_at
set_option maxRecDepth 20000 in
theorem ggX5_moveTextToFront_X5_store : GoodIn wsX5_moveTextToFront wsX5_store := goodIn_s seX5_moveTextToFront _ [pq_1_21, pq_1_16, pq_1_17, pq_3_0, pq_3_1, pq_3_2, pq_3_3, pq_3_4, pq_3_5] (by rfl) (by decide +kernel)
set_option maxRecDepth 20000 in
theorem gX5_moveTextToFront_X5_store : GoodIn wsX5_moveTextToFront (wsV RX5 52 RX5 yX5_store wsX5_store) := goodIn_app (goodIn_s seX5_moveTextToFront _ [pq_1_18, pq_1_19, pq_1_20, pq_1_4] (by rfl) (by decide +kernel)) ggX5_moveTextToFront_X5_store
set_option maxRecDepth 20000 in
theorem ggX5_moveTextToFront_X5_goTo : GoodIn wsX5_moveTextToFront wsX5_goTo := goodIn_s seX5_moveTextToFront _ [pq_2_1, pq_1_7, pq_1_6, pq_2_2, pq_3_0, pq_3_1, pq_3_2, pq_3_3, pq_3_4, pq_3_5] (by rfl) (by decide +kernel)
set_option maxRecDepth 20000 in
theorem gX5_moveTextToFront_X5_goTo : GoodIn wsX5_moveTextToFront (wsV RX5 41 RX5 yX5_goTo wsX5_goTo) := goodIn_app (goodIn_s seX5_moveTextToFront _ [pq_1_22, pq_1_23, pq_2_0, pq_1_4] (by rfl) (by decide +kernel)) ggX5_moveTextToFront_X5_goTo
def lb_sgX5_moveTextToFront : List (List UInt8) := [[42, 182, 0, 45, 60, 3, 61, 28, 27, 162, 0, 19, 42, 28, 42, 28], [182, 0, 49, 182, 0, 52, 132, 2, 1, 167, 255, 238, 42, 27, 42, 180], [0, 21, 182, 0, 41, 177]]
set_option maxRecDepth 100000 in
theorem lb_seX5_moveTextToFront : cX5_moveTextToFront.data.toList = lb_sgX5_moveTextToFront.flatten := by decide +kernel
theorem lb_lnX5_moveTextToFront : ∀ s ∈ lb_sgX5_moveTextToFront.dropLast, s.length = 16 := by decide +kernel
theorem lxX5_moveTextToFront (k j : Nat) {b : UInt8} (h : (lb_sgX5_moveTextToFront[k]?).bind (fun s => s[j]?) = some b) : lb_at cX5_moveTextToFront (16 * k + j) b := by
  unfold lb_at
  rw [lb_seX5_moveTextToFront]
  exact lb_flat 16 lb_sgX5_moveTextToFront k j b lb_lnX5_moveTextToFront h
set_option maxRecDepth 20000 in
theorem dX5_moveTextToFront_0 : decode cX5_moveTextToFront 0 = .ok (.aload_n 0, 1) := dc_42 (lxX5_moveTextToFront 0 0 rfl)
set_option maxRecDepth 20000 in
theorem dX5_moveTextToFront_1 : decode cX5_moveTextToFront 1 = .ok (.invokevirtual 45, 3) := dc_182 0 45 (lxX5_moveTextToFront 0 1 rfl) (lxX5_moveTextToFront 0 2 rfl) (lxX5_moveTextToFront 0 3 rfl)
set_option maxRecDepth 20000 in
theorem dX5_moveTextToFront_4 : decode cX5_moveTextToFront 4 = .ok (.istore_n 1, 1) := dc_60 (lxX5_moveTextToFront 0 4 rfl)
set_option maxRecDepth 20000 in
theorem dX5_moveTextToFront_5 : decode cX5_moveTextToFront 5 = .ok (.iconst 0, 1) := dc_3 (lxX5_moveTextToFront 0 5 rfl)
set_option maxRecDepth 20000 in
theorem dX5_moveTextToFront_6 : decode cX5_moveTextToFront 6 = .ok (.istore_n 2, 1) := dc_61 (lxX5_moveTextToFront 0 6 rfl)
set_option maxRecDepth 20000 in
theorem dX5_moveTextToFront_7 : decode cX5_moveTextToFront 7 = .ok (.iload_n 2, 1) := dc_28 (lxX5_moveTextToFront 0 7 rfl)
set_option maxRecDepth 20000 in
theorem dX5_moveTextToFront_8 : decode cX5_moveTextToFront 8 = .ok (.iload_n 1, 1) := dc_27 (lxX5_moveTextToFront 0 8 rfl)
set_option maxRecDepth 20000 in
theorem dX5_moveTextToFront_9 : decode cX5_moveTextToFront 9 = .ok (.if_icmp .ge 19, 3) := dc_162 0 19 (lxX5_moveTextToFront 0 9 rfl) (lxX5_moveTextToFront 0 10 rfl) (lxX5_moveTextToFront 0 11 rfl)
set_option maxRecDepth 20000 in
theorem dX5_moveTextToFront_12 : decode cX5_moveTextToFront 12 = .ok (.aload_n 0, 1) := dc_42 (lxX5_moveTextToFront 0 12 rfl)
set_option maxRecDepth 20000 in
theorem dX5_moveTextToFront_13 : decode cX5_moveTextToFront 13 = .ok (.iload_n 2, 1) := dc_28 (lxX5_moveTextToFront 0 13 rfl)
set_option maxRecDepth 20000 in
theorem dX5_moveTextToFront_14 : decode cX5_moveTextToFront 14 = .ok (.aload_n 0, 1) := dc_42 (lxX5_moveTextToFront 0 14 rfl)
set_option maxRecDepth 20000 in
theorem dX5_moveTextToFront_15 : decode cX5_moveTextToFront 15 = .ok (.iload_n 2, 1) := dc_28 (lxX5_moveTextToFront 0 15 rfl)
set_option maxRecDepth 20000 in
theorem dX5_moveTextToFront_16 : decode cX5_moveTextToFront 16 = .ok (.invokevirtual 49, 3) := dc_182 0 49 (lxX5_moveTextToFront 1 0 rfl) (lxX5_moveTextToFront 1 1 rfl) (lxX5_moveTextToFront 1 2 rfl)
set_option maxRecDepth 20000 in
theorem dX5_moveTextToFront_19 : decode cX5_moveTextToFront 19 = .ok (.invokevirtual 52, 3) := dc_182 0 52 (lxX5_moveTextToFront 1 3 rfl) (lxX5_moveTextToFront 1 4 rfl) (lxX5_moveTextToFront 1 5 rfl)
set_option maxRecDepth 20000 in
theorem dX5_moveTextToFront_22 : decode cX5_moveTextToFront 22 = .ok (.iinc 2 1, 3) := dc_132 2 1 (lxX5_moveTextToFront 1 6 rfl) (lxX5_moveTextToFront 1 7 rfl) (lxX5_moveTextToFront 1 8 rfl)
set_option maxRecDepth 20000 in
theorem dX5_moveTextToFront_25 : decode cX5_moveTextToFront 25 = .ok (.goto (-18), 3) := dc_167 255 238 (lxX5_moveTextToFront 1 9 rfl) (lxX5_moveTextToFront 1 10 rfl) (lxX5_moveTextToFront 1 11 rfl)
set_option maxRecDepth 20000 in
theorem dX5_moveTextToFront_28 : decode cX5_moveTextToFront 28 = .ok (.aload_n 0, 1) := dc_42 (lxX5_moveTextToFront 1 12 rfl)
set_option maxRecDepth 20000 in
theorem dX5_moveTextToFront_29 : decode cX5_moveTextToFront 29 = .ok (.iload_n 1, 1) := dc_27 (lxX5_moveTextToFront 1 13 rfl)
set_option maxRecDepth 20000 in
theorem dX5_moveTextToFront_30 : decode cX5_moveTextToFront 30 = .ok (.aload_n 0, 1) := dc_42 (lxX5_moveTextToFront 1 14 rfl)
set_option maxRecDepth 20000 in
theorem dX5_moveTextToFront_31 : decode cX5_moveTextToFront 31 = .ok (.getfield 21, 3) := dc_180 0 21 (lxX5_moveTextToFront 1 15 rfl) (lxX5_moveTextToFront 2 0 rfl) (lxX5_moveTextToFront 2 1 rfl)
set_option maxRecDepth 20000 in
theorem dX5_moveTextToFront_34 : decode cX5_moveTextToFront 34 = .ok (.invokevirtual 41, 3) := dc_182 0 41 (lxX5_moveTextToFront 2 2 rfl) (lxX5_moveTextToFront 2 3 rfl) (lxX5_moveTextToFront 2 4 rfl)
set_option maxRecDepth 20000 in
theorem dX5_moveTextToFront_37 : decode cX5_moveTextToFront 37 = .ok (.return_, 1) := dc_177 (lxX5_moveTextToFront 2 5 rfl)
def lb_sgX5_isOrdered : List (List UInt8) := [[42, 180, 0, 28, 16, 247, 159, 0, 22, 3, 42, 180, 0, 28, 163, 0], [18, 42, 180, 0, 28, 42, 180, 0, 31, 163, 0, 7, 4, 167, 0, 4], [3, 60, 27, 153, 0, 37, 3, 42, 180, 0, 31, 163, 0, 29, 42, 180], [0, 31, 42, 180, 0, 25, 163, 0, 18, 42, 180, 0, 25, 42, 180, 0], [21, 163, 0, 7, 4, 167, 0, 4, 3, 172]]
set_option maxRecDepth 100000 in
theorem lb_seX5_isOrdered : cX5_isOrdered.data.toList = lb_sgX5_isOrdered.flatten := by decide +kernel
theorem lb_lnX5_isOrdered : ∀ s ∈ lb_sgX5_isOrdered.dropLast, s.length = 16 := by decide +kernel
theorem lxX5_isOrdered (k j : Nat) {b : UInt8} (h : (lb_sgX5_isOrdered[k]?).bind (fun s => s[j]?) = some b) : lb_at cX5_isOrdered (16 * k + j) b := by
  unfold lb_at
  rw [lb_seX5_isOrdered]
  exact lb_flat 16 lb_sgX5_isOrdered k j b lb_lnX5_isOrdered h
set_option maxRecDepth 20000 in
theorem dX5_isOrdered_0 : decode cX5_isOrdered 0 = .ok (.aload_n 0, 1) := dc_42 (lxX5_isOrdered 0 0 rfl)
set_option maxRecDepth 20000 in
theorem dX5_isOrdered_1 : decode cX5_isOrdered 1 = .ok (.getfield 28, 3) := dc_180 0 28 (lxX5_isOrdered 0 1 rfl) (lxX5_isOrdered 0 2 rfl) (lxX5_isOrdered 0 3 rfl)
set_option maxRecDepth 20000 in
theorem dX5_isOrdered_4 : decode cX5_isOrdered 4 = .ok (.bipush (-9), 2) := dc_16 247 (lxX5_isOrdered 0 4 rfl) (lxX5_isOrdered 0 5 rfl)
set_option maxRecDepth 20000 in
theorem dX5_isOrdered_6 : decode cX5_isOrdered 6 = .ok (.if_icmp .eq 22, 3) := dc_159 0 22 (lxX5_isOrdered 0 6 rfl) (lxX5_isOrdered 0 7 rfl) (lxX5_isOrdered 0 8 rfl)
set_option maxRecDepth 20000 in
theorem dX5_isOrdered_9 : decode cX5_isOrdered 9 = .ok (.iconst 0, 1) := dc_3 (lxX5_isOrdered 0 9 rfl)
set_option maxRecDepth 20000 in
theorem dX5_isOrdered_10 : decode cX5_isOrdered 10 = .ok (.aload_n 0, 1) := dc_42 (lxX5_isOrdered 0 10 rfl)
set_option maxRecDepth 20000 in
theorem dX5_isOrdered_11 : decode cX5_isOrdered 11 = .ok (.getfield 28, 3) := dc_180 0 28 (lxX5_isOrdered 0 11 rfl) (lxX5_isOrdered 0 12 rfl) (lxX5_isOrdered 0 13 rfl)
set_option maxRecDepth 20000 in
theorem dX5_isOrdered_14 : decode cX5_isOrdered 14 = .ok (.if_icmp .gt 18, 3) := dc_163 0 18 (lxX5_isOrdered 0 14 rfl) (lxX5_isOrdered 0 15 rfl) (lxX5_isOrdered 1 0 rfl)
set_option maxRecDepth 20000 in
theorem dX5_isOrdered_17 : decode cX5_isOrdered 17 = .ok (.aload_n 0, 1) := dc_42 (lxX5_isOrdered 1 1 rfl)
set_option maxRecDepth 20000 in
theorem dX5_isOrdered_18 : decode cX5_isOrdered 18 = .ok (.getfield 28, 3) := dc_180 0 28 (lxX5_isOrdered 1 2 rfl) (lxX5_isOrdered 1 3 rfl) (lxX5_isOrdered 1 4 rfl)
set_option maxRecDepth 20000 in
theorem dX5_isOrdered_21 : decode cX5_isOrdered 21 = .ok (.aload_n 0, 1) := dc_42 (lxX5_isOrdered 1 5 rfl)
set_option maxRecDepth 20000 in
theorem dX5_isOrdered_22 : decode cX5_isOrdered 22 = .ok (.getfield 31, 3) := dc_180 0 31 (lxX5_isOrdered 1 6 rfl) (lxX5_isOrdered 1 7 rfl) (lxX5_isOrdered 1 8 rfl)
set_option maxRecDepth 20000 in
theorem dX5_isOrdered_25 : decode cX5_isOrdered 25 = .ok (.if_icmp .gt 7, 3) := dc_163 0 7 (lxX5_isOrdered 1 9 rfl) (lxX5_isOrdered 1 10 rfl) (lxX5_isOrdered 1 11 rfl)
set_option maxRecDepth 20000 in
theorem dX5_isOrdered_28 : decode cX5_isOrdered 28 = .ok (.iconst 1, 1) := dc_4 (lxX5_isOrdered 1 12 rfl)
set_option maxRecDepth 20000 in
theorem dX5_isOrdered_29 : decode cX5_isOrdered 29 = .ok (.goto 4, 3) := dc_167 0 4 (lxX5_isOrdered 1 13 rfl) (lxX5_isOrdered 1 14 rfl) (lxX5_isOrdered 1 15 rfl)
set_option maxRecDepth 20000 in
theorem dX5_isOrdered_32 : decode cX5_isOrdered 32 = .ok (.iconst 0, 1) := dc_3 (lxX5_isOrdered 2 0 rfl)
set_option maxRecDepth 20000 in
theorem dX5_isOrdered_33 : decode cX5_isOrdered 33 = .ok (.istore_n 1, 1) := dc_60 (lxX5_isOrdered 2 1 rfl)
set_option maxRecDepth 20000 in
theorem dX5_isOrdered_34 : decode cX5_isOrdered 34 = .ok (.iload_n 1, 1) := dc_27 (lxX5_isOrdered 2 2 rfl)
set_option maxRecDepth 20000 in
theorem dX5_isOrdered_35 : decode cX5_isOrdered 35 = .ok (.ifCond .eq 37, 3) := dc_153 0 37 (lxX5_isOrdered 2 3 rfl) (lxX5_isOrdered 2 4 rfl) (lxX5_isOrdered 2 5 rfl)
set_option maxRecDepth 20000 in
theorem dX5_isOrdered_38 : decode cX5_isOrdered 38 = .ok (.iconst 0, 1) := dc_3 (lxX5_isOrdered 2 6 rfl)
set_option maxRecDepth 20000 in
theorem dX5_isOrdered_39 : decode cX5_isOrdered 39 = .ok (.aload_n 0, 1) := dc_42 (lxX5_isOrdered 2 7 rfl)
set_option maxRecDepth 20000 in
theorem dX5_isOrdered_40 : decode cX5_isOrdered 40 = .ok (.getfield 31, 3) := dc_180 0 31 (lxX5_isOrdered 2 8 rfl) (lxX5_isOrdered 2 9 rfl) (lxX5_isOrdered 2 10 rfl)
set_option maxRecDepth 20000 in
theorem dX5_isOrdered_43 : decode cX5_isOrdered 43 = .ok (.if_icmp .gt 29, 3) := dc_163 0 29 (lxX5_isOrdered 2 11 rfl) (lxX5_isOrdered 2 12 rfl) (lxX5_isOrdered 2 13 rfl)
set_option maxRecDepth 20000 in
theorem dX5_isOrdered_46 : decode cX5_isOrdered 46 = .ok (.aload_n 0, 1) := dc_42 (lxX5_isOrdered 2 14 rfl)
set_option maxRecDepth 20000 in
theorem dX5_isOrdered_47 : decode cX5_isOrdered 47 = .ok (.getfield 31, 3) := dc_180 0 31 (lxX5_isOrdered 2 15 rfl) (lxX5_isOrdered 3 0 rfl) (lxX5_isOrdered 3 1 rfl)
set_option maxRecDepth 20000 in
theorem dX5_isOrdered_50 : decode cX5_isOrdered 50 = .ok (.aload_n 0, 1) := dc_42 (lxX5_isOrdered 3 2 rfl)
set_option maxRecDepth 20000 in
theorem dX5_isOrdered_51 : decode cX5_isOrdered 51 = .ok (.getfield 25, 3) := dc_180 0 25 (lxX5_isOrdered 3 3 rfl) (lxX5_isOrdered 3 4 rfl) (lxX5_isOrdered 3 5 rfl)
set_option maxRecDepth 20000 in
theorem dX5_isOrdered_54 : decode cX5_isOrdered 54 = .ok (.if_icmp .gt 18, 3) := dc_163 0 18 (lxX5_isOrdered 3 6 rfl) (lxX5_isOrdered 3 7 rfl) (lxX5_isOrdered 3 8 rfl)
set_option maxRecDepth 20000 in
theorem dX5_isOrdered_57 : decode cX5_isOrdered 57 = .ok (.aload_n 0, 1) := dc_42 (lxX5_isOrdered 3 9 rfl)
set_option maxRecDepth 20000 in
theorem dX5_isOrdered_58 : decode cX5_isOrdered 58 = .ok (.getfield 25, 3) := dc_180 0 25 (lxX5_isOrdered 3 10 rfl) (lxX5_isOrdered 3 11 rfl) (lxX5_isOrdered 3 12 rfl)
set_option maxRecDepth 20000 in
theorem dX5_isOrdered_61 : decode cX5_isOrdered 61 = .ok (.aload_n 0, 1) := dc_42 (lxX5_isOrdered 3 13 rfl)
set_option maxRecDepth 20000 in
theorem dX5_isOrdered_62 : decode cX5_isOrdered 62 = .ok (.getfield 21, 3) := dc_180 0 21 (lxX5_isOrdered 3 14 rfl) (lxX5_isOrdered 3 15 rfl) (lxX5_isOrdered 4 0 rfl)
set_option maxRecDepth 20000 in
theorem dX5_isOrdered_65 : decode cX5_isOrdered 65 = .ok (.if_icmp .gt 7, 3) := dc_163 0 7 (lxX5_isOrdered 4 1 rfl) (lxX5_isOrdered 4 2 rfl) (lxX5_isOrdered 4 3 rfl)
set_option maxRecDepth 20000 in
theorem dX5_isOrdered_68 : decode cX5_isOrdered 68 = .ok (.iconst 1, 1) := dc_4 (lxX5_isOrdered 4 4 rfl)
set_option maxRecDepth 20000 in
theorem dX5_isOrdered_69 : decode cX5_isOrdered 69 = .ok (.goto 4, 3) := dc_167 0 4 (lxX5_isOrdered 4 5 rfl) (lxX5_isOrdered 4 6 rfl) (lxX5_isOrdered 4 7 rfl)
set_option maxRecDepth 20000 in
theorem dX5_isOrdered_72 : decode cX5_isOrdered 72 = .ok (.iconst 0, 1) := dc_3 (lxX5_isOrdered 4 8 rfl)
set_option maxRecDepth 20000 in
theorem dX5_isOrdered_73 : decode cX5_isOrdered 73 = .ok (.ireturn, 1) := dc_172 (lxX5_isOrdered 4 9 rfl)
def lb_sgX5_store : List (List UInt8) := [[42, 180, 0, 38, 27, 96, 62, 29, 155, 0, 20, 29, 42, 180, 0, 15], [190, 162, 0, 11, 42, 180, 0, 15, 29, 28, 146, 85, 177]]
set_option maxRecDepth 100000 in
theorem lb_seX5_store : cX5_store.data.toList = lb_sgX5_store.flatten := by decide +kernel
theorem lb_lnX5_store : ∀ s ∈ lb_sgX5_store.dropLast, s.length = 16 := by decide +kernel
theorem lxX5_store (k j : Nat) {b : UInt8} (h : (lb_sgX5_store[k]?).bind (fun s => s[j]?) = some b) : lb_at cX5_store (16 * k + j) b := by
  unfold lb_at
  rw [lb_seX5_store]
  exact lb_flat 16 lb_sgX5_store k j b lb_lnX5_store h
set_option maxRecDepth 20000 in
theorem dX5_store_0 : decode cX5_store 0 = .ok (.aload_n 0, 1) := dc_42 (lxX5_store 0 0 rfl)
set_option maxRecDepth 20000 in
theorem dX5_store_1 : decode cX5_store 1 = .ok (.getfield 38, 3) := dc_180 0 38 (lxX5_store 0 1 rfl) (lxX5_store 0 2 rfl) (lxX5_store 0 3 rfl)
set_option maxRecDepth 20000 in
theorem dX5_store_4 : decode cX5_store 4 = .ok (.iload_n 1, 1) := dc_27 (lxX5_store 0 4 rfl)
set_option maxRecDepth 20000 in
theorem dX5_store_5 : decode cX5_store 5 = .ok (.iadd, 1) := dc_96 (lxX5_store 0 5 rfl)
set_option maxRecDepth 20000 in
theorem dX5_store_6 : decode cX5_store 6 = .ok (.istore_n 3, 1) := dc_62 (lxX5_store 0 6 rfl)
set_option maxRecDepth 20000 in
theorem dX5_store_7 : decode cX5_store 7 = .ok (.iload_n 3, 1) := dc_29 (lxX5_store 0 7 rfl)
set_option maxRecDepth 20000 in
theorem dX5_store_8 : decode cX5_store 8 = .ok (.ifCond .lt 20, 3) := dc_155 0 20 (lxX5_store 0 8 rfl) (lxX5_store 0 9 rfl) (lxX5_store 0 10 rfl)
set_option maxRecDepth 20000 in
theorem dX5_store_11 : decode cX5_store 11 = .ok (.iload_n 3, 1) := dc_29 (lxX5_store 0 11 rfl)
set_option maxRecDepth 20000 in
theorem dX5_store_12 : decode cX5_store 12 = .ok (.aload_n 0, 1) := dc_42 (lxX5_store 0 12 rfl)
set_option maxRecDepth 20000 in
theorem dX5_store_13 : decode cX5_store 13 = .ok (.getfield 15, 3) := dc_180 0 15 (lxX5_store 0 13 rfl) (lxX5_store 0 14 rfl) (lxX5_store 0 15 rfl)
set_option maxRecDepth 20000 in
theorem dX5_store_16 : decode cX5_store 16 = .ok (.arraylength, 1) := dc_190 (lxX5_store 1 0 rfl)
set_option maxRecDepth 20000 in
theorem dX5_store_17 : decode cX5_store 17 = .ok (.if_icmp .ge 11, 3) := dc_162 0 11 (lxX5_store 1 1 rfl) (lxX5_store 1 2 rfl) (lxX5_store 1 3 rfl)
set_option maxRecDepth 20000 in
theorem dX5_store_20 : decode cX5_store 20 = .ok (.aload_n 0, 1) := dc_42 (lxX5_store 1 4 rfl)
set_option maxRecDepth 20000 in
theorem dX5_store_21 : decode cX5_store 21 = .ok (.getfield 15, 3) := dc_180 0 15 (lxX5_store 1 5 rfl) (lxX5_store 1 6 rfl) (lxX5_store 1 7 rfl)
set_option maxRecDepth 20000 in
theorem dX5_store_24 : decode cX5_store 24 = .ok (.iload_n 3, 1) := dc_29 (lxX5_store 1 8 rfl)
set_option maxRecDepth 20000 in
theorem dX5_store_25 : decode cX5_store 25 = .ok (.iload_n 2, 1) := dc_28 (lxX5_store 1 9 rfl)
set_option maxRecDepth 20000 in
theorem dX5_store_26 : decode cX5_store 26 = .ok (.i2c, 1) := dc_146 (lxX5_store 1 10 rfl)
set_option maxRecDepth 20000 in
theorem dX5_store_27 : decode cX5_store 27 = .ok (.castore, 1) := dc_85 (lxX5_store 1 11 rfl)
set_option maxRecDepth 20000 in
theorem dX5_store_28 : decode cX5_store 28 = .ok (.return_, 1) := dc_177 (lxX5_store 1 12 rfl)
