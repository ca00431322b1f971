noncomputable def sgX2_init : List (List Cond) := [[.code yX2_init cX2_init 2 none], [.methodLink RX2 9 Lib.Math.max.name, .static Lib.Math.max.name, .initialized "java/lang/Math", .code Lib.Math.max.name Lib.Math.max.code 2 (some .int), .arrayClass .char, .fieldLink RX2 15 "Sashwords$Script" "signs" "[C", .instanceMethod yX4_init, .initialized RX4, .code yX4_init cX4_init 1 none, .methodLink RX4 1 objectInit, .instanceMethod objectInit, .code objectInit ⟨#[0xb1]⟩ 1 none], wsX20]
theorem seX2_init : sgX2_init.flatten = wsX2_init := by simp only [sgX2_init, wsX2_init, List.flatten_cons, List.flatten_nil, List.append_assoc, List.append_nil, List.cons_append, List.nil_append]
set_option maxRecDepth 20000 in
theorem ggX2_init_X4_init : GoodIn wsX2_init wsX4_init := goodIn_s seX2_init _ [pq_1_8, pq_1_9, pq_1_10, pq_1_11] (by rfl) gw_wsX4_init
set_option maxRecDepth 20000 in
theorem gX2_init_X4_init_n3 : GoodIn wsX2_init (wsX4_init) := ggX2_init_X4_init
def lb_sgX2_init : List (List UInt8) := [[42, 183, 0, 3, 42, 27, 3, 184, 0, 9, 188, 5, 181, 0, 15, 177]]
set_option maxRecDepth 100000 in
theorem lb_seX2_init : cX2_init.data.toList = lb_sgX2_init.flatten := by decide +kernel
theorem lb_lnX2_init : ∀ s ∈ lb_sgX2_init.dropLast, s.length = 16 := by decide +kernel
theorem lxX2_init (k j : Nat) {b : UInt8} (h : (lb_sgX2_init[k]?).bind (fun s => s[j]?) = some b) : lb_at cX2_init (16 * k + j) b := by
  unfold lb_at
  rw [lb_seX2_init]
  exact lb_flat 16 lb_sgX2_init k j b lb_lnX2_init h
set_option maxRecDepth 20000 in
theorem dX2_init_0 : decode cX2_init 0 = .ok (.aload_n 0, 1) := dc_42 (lxX2_init 0 0 rfl)
set_option maxRecDepth 20000 in
theorem dX2_init_1 : decode cX2_init 1 = .ok (.invokespecial 3, 3) := dc_183 0 3 (lxX2_init 0 1 rfl) (lxX2_init 0 2 rfl) (lxX2_init 0 3 rfl)
set_option maxRecDepth 20000 in
theorem dX2_init_4 : decode cX2_init 4 = .ok (.aload_n 0, 1) := dc_42 (lxX2_init 0 4 rfl)
set_option maxRecDepth 20000 in
theorem dX2_init_5 : decode cX2_init 5 = .ok (.iload_n 1, 1) := dc_27 (lxX2_init 0 5 rfl)
set_option maxRecDepth 20000 in
theorem dX2_init_6 : decode cX2_init 6 = .ok (.iconst 0, 1) := dc_3 (lxX2_init 0 6 rfl)
set_option maxRecDepth 20000 in
theorem dX2_init_7 : decode cX2_init 7 = .ok (.invokestatic 9, 3) := dc_184 0 9 (lxX2_init 0 7 rfl) (lxX2_init 0 8 rfl) (lxX2_init 0 9 rfl)
theorem dX2_init_10 : decode cX2_init 10 = .ok (.newarray .char, 2) := by decide +kernel
set_option maxRecDepth 20000 in
theorem dX2_init_12 : decode cX2_init 12 = .ok (.putfield 15, 3) := dc_181 0 15 (lxX2_init 0 12 rfl) (lxX2_init 0 13 rfl) (lxX2_init 0 14 rfl)
set_option maxRecDepth 20000 in
theorem dX2_init_15 : decode cX2_init 15 = .ok (.return_, 1) := dc_177 (lxX2_init 0 15 rfl)
set_option maxRecDepth 20000 in
theorem dX2_size_0 : decode cX2_size 0 = .ok (.aload_n 0, 1) := dc_42 rfl
set_option maxRecDepth 20000 in
theorem dX2_size_1 : decode cX2_size 1 = .ok (.getfield 21, 3) := dc_180 0 21 rfl rfl rfl
set_option maxRecDepth 20000 in
theorem dX2_size_4 : decode cX2_size 4 = .ok (.ireturn, 1) := dc_172 rfl
def lb_sgX2_at : List (List UInt8) := [[27, 155, 0, 20, 27, 42, 180, 0, 21, 162, 0, 12, 27, 42, 180, 0], [15, 190, 161, 0, 8, 16, 247, 167, 0, 9, 42, 180, 0, 15, 27, 52], [172]]
set_option maxRecDepth 100000 in
theorem lb_seX2_at : cX2_at.data.toList = lb_sgX2_at.flatten := by decide +kernel
theorem lb_lnX2_at : ∀ s ∈ lb_sgX2_at.dropLast, s.length = 16 := by decide +kernel
theorem lxX2_at (k j : Nat) {b : UInt8} (h : (lb_sgX2_at[k]?).bind (fun s => s[j]?) = some b) : lb_at cX2_at (16 * k + j) b := by
  unfold lb_at
  rw [lb_seX2_at]
  exact lb_flat 16 lb_sgX2_at k j b lb_lnX2_at h
set_option maxRecDepth 20000 in
theorem dX2_at_0 : decode cX2_at 0 = .ok (.iload_n 1, 1) := dc_27 (lxX2_at 0 0 rfl)
set_option maxRecDepth 20000 in
theorem dX2_at_1 : decode cX2_at 1 = .ok (.ifCond .lt 20, 3) := dc_155 0 20 (lxX2_at 0 1 rfl) (lxX2_at 0 2 rfl) (lxX2_at 0 3 rfl)
set_option maxRecDepth 20000 in
theorem dX2_at_4 : decode cX2_at 4 = .ok (.iload_n 1, 1) := dc_27 (lxX2_at 0 4 rfl)
set_option maxRecDepth 20000 in
theorem dX2_at_5 : decode cX2_at 5 = .ok (.aload_n 0, 1) := dc_42 (lxX2_at 0 5 rfl)
set_option maxRecDepth 20000 in
theorem dX2_at_6 : decode cX2_at 6 = .ok (.getfield 21, 3) := dc_180 0 21 (lxX2_at 0 6 rfl) (lxX2_at 0 7 rfl) (lxX2_at 0 8 rfl)
set_option maxRecDepth 20000 in
theorem dX2_at_9 : decode cX2_at 9 = .ok (.if_icmp .ge 12, 3) := dc_162 0 12 (lxX2_at 0 9 rfl) (lxX2_at 0 10 rfl) (lxX2_at 0 11 rfl)
set_option maxRecDepth 20000 in
theorem dX2_at_12 : decode cX2_at 12 = .ok (.iload_n 1, 1) := dc_27 (lxX2_at 0 12 rfl)
set_option maxRecDepth 20000 in
theorem dX2_at_13 : decode cX2_at 13 = .ok (.aload_n 0, 1) := dc_42 (lxX2_at 0 13 rfl)
set_option maxRecDepth 20000 in
theorem dX2_at_14 : decode cX2_at 14 = .ok (.getfield 15, 3) := dc_180 0 15 (lxX2_at 0 14 rfl) (lxX2_at 0 15 rfl) (lxX2_at 1 0 rfl)
set_option maxRecDepth 20000 in
theorem dX2_at_17 : decode cX2_at 17 = .ok (.arraylength, 1) := dc_190 (lxX2_at 1 1 rfl)
set_option maxRecDepth 20000 in
theorem dX2_at_18 : decode cX2_at 18 = .ok (.if_icmp .lt 8, 3) := dc_161 0 8 (lxX2_at 1 2 rfl) (lxX2_at 1 3 rfl) (lxX2_at 1 4 rfl)
set_option maxRecDepth 20000 in
theorem dX2_at_21 : decode cX2_at 21 = .ok (.bipush (-9), 2) := dc_16 247 (lxX2_at 1 5 rfl) (lxX2_at 1 6 rfl)
set_option maxRecDepth 20000 in
theorem dX2_at_23 : decode cX2_at 23 = .ok (.goto 9, 3) := dc_167 0 9 (lxX2_at 1 7 rfl) (lxX2_at 1 8 rfl) (lxX2_at 1 9 rfl)
set_option maxRecDepth 20000 in
theorem dX2_at_26 : decode cX2_at 26 = .ok (.aload_n 0, 1) := dc_42 (lxX2_at 1 10 rfl)
set_option maxRecDepth 20000 in
theorem dX2_at_27 : decode cX2_at 27 = .ok (.getfield 15, 3) := dc_180 0 15 (lxX2_at 1 11 rfl) (lxX2_at 1 12 rfl) (lxX2_at 1 13 rfl)
set_option maxRecDepth 20000 in
theorem dX2_at_30 : decode cX2_at 30 = .ok (.iload_n 1, 1) := dc_27 (lxX2_at 1 14 rfl)
set_option maxRecDepth 20000 in
theorem dX2_at_31 : decode cX2_at 31 = .ok (.caload, 1) := dc_52 (lxX2_at 1 15 rfl)
set_option maxRecDepth 20000 in
theorem dX2_at_32 : decode cX2_at 32 = .ok (.ireturn, 1) := dc_172 (lxX2_at 2 0 rfl)
def lb_sgX2_isFull : List (List UInt8) := [[42, 180, 0, 21, 42, 180, 0, 15, 190, 161, 0, 7, 4, 167, 0, 4], [3, 172]]
set_option maxRecDepth 100000 in
theorem lb_seX2_isFull : cX2_isFull.data.toList = lb_sgX2_isFull.flatten := by decide +kernel
theorem lb_lnX2_isFull : ∀ s ∈ lb_sgX2_isFull.dropLast, s.length = 16 := by decide +kernel
theorem lxX2_isFull (k j : Nat) {b : UInt8} (h : (lb_sgX2_isFull[k]?).bind (fun s => s[j]?) = some b) : lb_at cX2_isFull (16 * k + j) b := by
  unfold lb_at
  rw [lb_seX2_isFull]
  exact lb_flat 16 lb_sgX2_isFull k j b lb_lnX2_isFull h
set_option maxRecDepth 20000 in
theorem dX2_isFull_0 : decode cX2_isFull 0 = .ok (.aload_n 0, 1) := dc_42 (lxX2_isFull 0 0 rfl)
set_option maxRecDepth 20000 in
theorem dX2_isFull_1 : decode cX2_isFull 1 = .ok (.getfield 21, 3) := dc_180 0 21 (lxX2_isFull 0 1 rfl) (lxX2_isFull 0 2 rfl) (lxX2_isFull 0 3 rfl)
set_option maxRecDepth 20000 in
theorem dX2_isFull_4 : decode cX2_isFull 4 = .ok (.aload_n 0, 1) := dc_42 (lxX2_isFull 0 4 rfl)
set_option maxRecDepth 20000 in
theorem dX2_isFull_5 : decode cX2_isFull 5 = .ok (.getfield 15, 3) := dc_180 0 15 (lxX2_isFull 0 5 rfl) (lxX2_isFull 0 6 rfl) (lxX2_isFull 0 7 rfl)
set_option maxRecDepth 20000 in
theorem dX2_isFull_8 : decode cX2_isFull 8 = .ok (.arraylength, 1) := dc_190 (lxX2_isFull 0 8 rfl)
set_option maxRecDepth 20000 in
theorem dX2_isFull_9 : decode cX2_isFull 9 = .ok (.if_icmp .lt 7, 3) := dc_161 0 7 (lxX2_isFull 0 9 rfl) (lxX2_isFull 0 10 rfl) (lxX2_isFull 0 11 rfl)
set_option maxRecDepth 20000 in
theorem dX2_isFull_12 : decode cX2_isFull 12 = .ok (.iconst 1, 1) := dc_4 (lxX2_isFull 0 12 rfl)
set_option maxRecDepth 20000 in
theorem dX2_isFull_13 : decode cX2_isFull 13 = .ok (.goto 4, 3) := dc_167 0 4 (lxX2_isFull 0 13 rfl) (lxX2_isFull 0 14 rfl) (lxX2_isFull 0 15 rfl)
set_option maxRecDepth 20000 in
theorem dX2_isFull_16 : decode cX2_isFull 16 = .ok (.iconst 0, 1) := dc_3 (lxX2_isFull 1 0 rfl)
set_option maxRecDepth 20000 in
theorem dX2_isFull_17 : decode cX2_isFull 17 = .ok (.ireturn, 1) := dc_172 (lxX2_isFull 1 1 rfl)
set_option maxRecDepth 20000 in
theorem dX2_clear_0 : decode cX2_clear 0 = .ok (.aload_n 0, 1) := dc_42 rfl
set_option maxRecDepth 20000 in
theorem dX2_clear_1 : decode cX2_clear 1 = .ok (.iconst 0, 1) := dc_3 rfl
set_option maxRecDepth 20000 in
theorem dX2_clear_2 : decode cX2_clear 2 = .ok (.putfield 21, 3) := dc_181 0 21 rfl rfl rfl
set_option maxRecDepth 20000 in
theorem dX2_clear_5 : decode cX2_clear 5 = .ok (.return_, 1) := dc_177 rfl
def lb_sgX2_add : List (List UInt8) := [[42, 180, 0, 21, 155, 0, 36, 42, 180, 0, 21, 42, 180, 0, 15, 190], [162, 0, 24, 42, 180, 0, 15, 42, 180, 0, 21, 27, 146, 85, 42, 89], [180, 0, 21, 4, 96, 181, 0, 21, 177]]
set_option maxRecDepth 100000 in
theorem lb_seX2_add : cX2_add.data.toList = lb_sgX2_add.flatten := by decide +kernel
theorem lb_lnX2_add : ∀ s ∈ lb_sgX2_add.dropLast, s.length = 16 := by decide +kernel
theorem lxX2_add (k j : Nat) {b : UInt8} (h : (lb_sgX2_add[k]?).bind (fun s => s[j]?) = some b) : lb_at cX2_add (16 * k + j) b := by
  unfold lb_at
  rw [lb_seX2_add]
  exact lb_flat 16 lb_sgX2_add k j b lb_lnX2_add h
set_option maxRecDepth 20000 in
theorem dX2_add_0 : decode cX2_add 0 = .ok (.aload_n 0, 1) := dc_42 (lxX2_add 0 0 rfl)
set_option maxRecDepth 20000 in
theorem dX2_add_1 : decode cX2_add 1 = .ok (.getfield 21, 3) := dc_180 0 21 (lxX2_add 0 1 rfl) (lxX2_add 0 2 rfl) (lxX2_add 0 3 rfl)
set_option maxRecDepth 20000 in
theorem dX2_add_4 : decode cX2_add 4 = .ok (.ifCond .lt 36, 3) := dc_155 0 36 (lxX2_add 0 4 rfl) (lxX2_add 0 5 rfl) (lxX2_add 0 6 rfl)
set_option maxRecDepth 20000 in
theorem dX2_add_7 : decode cX2_add 7 = .ok (.aload_n 0, 1) := dc_42 (lxX2_add 0 7 rfl)
set_option maxRecDepth 20000 in
theorem dX2_add_8 : decode cX2_add 8 = .ok (.getfield 21, 3) := dc_180 0 21 (lxX2_add 0 8 rfl) (lxX2_add 0 9 rfl) (lxX2_add 0 10 rfl)
set_option maxRecDepth 20000 in
theorem dX2_add_11 : decode cX2_add 11 = .ok (.aload_n 0, 1) := dc_42 (lxX2_add 0 11 rfl)
set_option maxRecDepth 20000 in
theorem dX2_add_12 : decode cX2_add 12 = .ok (.getfield 15, 3) := dc_180 0 15 (lxX2_add 0 12 rfl) (lxX2_add 0 13 rfl) (lxX2_add 0 14 rfl)
set_option maxRecDepth 20000 in
theorem dX2_add_15 : decode cX2_add 15 = .ok (.arraylength, 1) := dc_190 (lxX2_add 0 15 rfl)
set_option maxRecDepth 20000 in
theorem dX2_add_16 : decode cX2_add 16 = .ok (.if_icmp .ge 24, 3) := dc_162 0 24 (lxX2_add 1 0 rfl) (lxX2_add 1 1 rfl) (lxX2_add 1 2 rfl)
set_option maxRecDepth 20000 in
theorem dX2_add_19 : decode cX2_add 19 = .ok (.aload_n 0, 1) := dc_42 (lxX2_add 1 3 rfl)
set_option maxRecDepth 20000 in
theorem dX2_add_20 : decode cX2_add 20 = .ok (.getfield 15, 3) := dc_180 0 15 (lxX2_add 1 4 rfl) (lxX2_add 1 5 rfl) (lxX2_add 1 6 rfl)
set_option maxRecDepth 20000 in
theorem dX2_add_23 : decode cX2_add 23 = .ok (.aload_n 0, 1) := dc_42 (lxX2_add 1 7 rfl)
set_option maxRecDepth 20000 in
theorem dX2_add_24 : decode cX2_add 24 = .ok (.getfield 21, 3) := dc_180 0 21 (lxX2_add 1 8 rfl) (lxX2_add 1 9 rfl) (lxX2_add 1 10 rfl)
set_option maxRecDepth 20000 in
theorem dX2_add_27 : decode cX2_add 27 = .ok (.iload_n 1, 1) := dc_27 (lxX2_add 1 11 rfl)
set_option maxRecDepth 20000 in
theorem dX2_add_28 : decode cX2_add 28 = .ok (.i2c, 1) := dc_146 (lxX2_add 1 12 rfl)
set_option maxRecDepth 20000 in
theorem dX2_add_29 : decode cX2_add 29 = .ok (.castore, 1) := dc_85 (lxX2_add 1 13 rfl)
set_option maxRecDepth 20000 in
theorem dX2_add_30 : decode cX2_add 30 = .ok (.aload_n 0, 1) := dc_42 (lxX2_add 1 14 rfl)
set_option maxRecDepth 20000 in
theorem dX2_add_31 : decode cX2_add 31 = .ok (.dup, 1) := dc_89 (lxX2_add 1 15 rfl)
set_option maxRecDepth 20000 in
theorem dX2_add_32 : decode cX2_add 32 = .ok (.getfield 21, 3) := dc_180 0 21 (lxX2_add 2 0 rfl) (lxX2_add 2 1 rfl) (lxX2_add 2 2 rfl)
set_option maxRecDepth 20000 in
theorem dX2_add_35 : decode cX2_add 35 = .ok (.iconst 1, 1) := dc_4 (lxX2_add 2 3 rfl)
set_option maxRecDepth 20000 in
theorem dX2_add_36 : decode cX2_add 36 = .ok (.iadd, 1) := dc_96 (lxX2_add 2 4 rfl)
set_option maxRecDepth 20000 in
theorem dX2_add_37 : decode cX2_add 37 = .ok (.putfield 21, 3) := dc_181 0 21 (lxX2_add 2 5 rfl) (lxX2_add 2 6 rfl) (lxX2_add 2 7 rfl)
set_option maxRecDepth 20000 in
theorem dX2_add_40 : decode cX2_add 40 = .ok (.return_, 1) := dc_177 (lxX2_add 2 8 rfl)
noncomputable def sgX2_append : List (List Cond) := [[.code yX2_append cX2_append 4 none], wsX2_append_r1, wsX2_append_r2, wsX20, wsX50]
theorem seX2_append : sgX2_append.flatten = wsX2_append := by simp only [sgX2_append, wsX2_append, List.flatten_cons, List.flatten_nil, List.append_assoc, List.append_nil, List.cons_append, List.nil_append]
set_option maxRecDepth 20000 in
theorem ggX2_append_X2_size : GoodIn wsX2_append wsX2_size := goodIn_s seX2_append _ [pq_1_5, pq_1_6, pq_3_0, pq_3_1] (by rfl) gw_wsX2_size
set_option maxRecDepth 20000 in
theorem gX2_append_X2_size_u25X2 : GoodIn wsX2_append (va_wsU RX2 25 RX2 "Sashwords$Text" ⟨"Sashwords$Text", "size", "()I"⟩ yX2_size wsX2_size) := goodIn_app (goodIn_s seX2_append _ [pq_1_0, pq_1_1, pq_1_2, pq_1_3, pq_1_4] (by rfl) (by decide +kernel)) ggX2_append_X2_size
set_option maxRecDepth 20000 in
theorem ggX2_append_X5_size : GoodIn wsX2_append wsX5_size := goodIn_s seX2_append _ [pq_1_10, pq_1_11, pq_1_12, pq_4_0, pq_4_1, pq_4_2, pq_4_3, pq_4_4, pq_4_5] (by rfl) gw_wsX5_size
set_option maxRecDepth 20000 in
theorem gX2_append_X5_size_u25X5 : GoodIn wsX2_append (va_wsU RX2 25 RX5 "Sashwords$Text" ⟨"Sashwords$Text", "size", "()I"⟩ yX5_size wsX5_size) := goodIn_app (goodIn_s seX2_append _ [pq_1_0, pq_1_1, pq_1_7, pq_1_8, pq_1_9] (by rfl) (by decide +kernel)) ggX2_append_X5_size
set_option maxRecDepth 20000 in
theorem ggX2_append_X2_at : GoodIn wsX2_append wsX2_at := goodIn_s seX2_append _ [pq_1_17, pq_1_6, pq_1_18, pq_3_0, pq_3_1] (by rfl) gw_wsX2_at
set_option maxRecDepth 20000 in
theorem gX2_append_X2_at_u29X2 : GoodIn wsX2_append (va_wsU RX2 29 RX2 "Sashwords$Text" ⟨"Sashwords$Text", "at", "(I)I"⟩ yX2_at wsX2_at) := goodIn_app (goodIn_s seX2_append _ [pq_1_13, pq_1_14, pq_1_15, pq_1_16, pq_1_4] (by rfl) (by decide +kernel)) ggX2_append_X2_at
set_option maxRecDepth 20000 in
theorem ggX2_append_X5_at : GoodIn wsX2_append wsX5_at := goodIn_s seX2_append _ [pq_1_21, pq_1_11, pq_1_12, pq_1_22, pq_1_23, pq_2_0, pq_1_9, pq_2_1, pq_2_2, pq_2_3, pq_4_0, pq_4_1, pq_4_2, pq_4_3, pq_4_4, pq_4_5] (by rfl) gw_wsX5_at
set_option maxRecDepth 20000 in
theorem gX2_append_X5_at_u29X5 : GoodIn wsX2_append (va_wsU RX2 29 RX5 "Sashwords$Text" ⟨"Sashwords$Text", "at", "(I)I"⟩ yX5_at wsX5_at) := goodIn_app (goodIn_s seX2_append _ [pq_1_13, pq_1_14, pq_1_19, pq_1_20, pq_1_9] (by rfl) (by decide +kernel)) ggX2_append_X5_at
set_option maxRecDepth 20000 in
theorem ggX2_append_X2_add : GoodIn wsX2_append wsX2_add := goodIn_s seX2_append _ [pq_2_7, pq_1_6, pq_1_18, pq_3_0, pq_3_1] (by rfl) gw_wsX2_add
set_option maxRecDepth 20000 in
theorem gX2_append_X2_add : GoodIn wsX2_append (wsV RX2 33 RX2 yX2_add wsX2_add) := goodIn_app (goodIn_s seX2_append _ [pq_2_4, pq_2_5, pq_2_6, pq_1_4] (by rfl) (by decide +kernel)) ggX2_append_X2_add
def lb_sgX2_append : List (List UInt8) := [[43, 182, 0, 25, 61, 3, 62, 29, 28, 162, 0, 18, 42, 43, 29, 182], [0, 29, 182, 0, 33, 132, 3, 1, 167, 255, 239, 177]]
set_option maxRecDepth 100000 in
theorem lb_seX2_append : cX2_append.data.toList = lb_sgX2_append.flatten := by decide +kernel
theorem lb_lnX2_append : ∀ s ∈ lb_sgX2_append.dropLast, s.length = 16 := by decide +kernel
theorem lxX2_append (k j : Nat) {b : UInt8} (h : (lb_sgX2_append[k]?).bind (fun s => s[j]?) = some b) : lb_at cX2_append (16 * k + j) b := by
  unfold lb_at
  rw [lb_seX2_append]
  exact lb_flat 16 lb_sgX2_append k j b lb_lnX2_append h
set_option maxRecDepth 20000 in
theorem dX2_append_0 : decode cX2_append 0 = .ok (.aload_n 1, 1) := dc_43 (lxX2_append 0 0 rfl)
set_option maxRecDepth 20000 in
theorem dX2_append_1 : decode cX2_append 1 = .ok (.invokevirtual 25, 3) := dc_182 0 25 (lxX2_append 0 1 rfl) (lxX2_append 0 2 rfl) (lxX2_append 0 3 rfl)
set_option maxRecDepth 20000 in
theorem dX2_append_4 : decode cX2_append 4 = .ok (.istore_n 2, 1) := dc_61 (lxX2_append 0 4 rfl)
set_option maxRecDepth 20000 in
theorem dX2_append_5 : decode cX2_append 5 = .ok (.iconst 0, 1) := dc_3 (lxX2_append 0 5 rfl)
set_option maxRecDepth 20000 in
theorem dX2_append_6 : decode cX2_append 6 = .ok (.istore_n 3, 1) := dc_62 (lxX2_append 0 6 rfl)
set_option maxRecDepth 20000 in
theorem dX2_append_7 : decode cX2_append 7 = .ok (.iload_n 3, 1) := dc_29 (lxX2_append 0 7 rfl)
set_option maxRecDepth 20000 in
theorem dX2_append_8 : decode cX2_append 8 = .ok (.iload_n 2, 1) := dc_28 (lxX2_append 0 8 rfl)
set_option maxRecDepth 20000 in
theorem dX2_append_9 : decode cX2_append 9 = .ok (.if_icmp .ge 18, 3) := dc_162 0 18 (lxX2_append 0 9 rfl) (lxX2_append 0 10 rfl) (lxX2_append 0 11 rfl)
set_option maxRecDepth 20000 in
theorem dX2_append_12 : decode cX2_append 12 = .ok (.aload_n 0, 1) := dc_42 (lxX2_append 0 12 rfl)
set_option maxRecDepth 20000 in
theorem dX2_append_13 : decode cX2_append 13 = .ok (.aload_n 1, 1) := dc_43 (lxX2_append 0 13 rfl)
set_option maxRecDepth 20000 in
theorem dX2_append_14 : decode cX2_append 14 = .ok (.iload_n 3, 1) := dc_29 (lxX2_append 0 14 rfl)
set_option maxRecDepth 20000 in
theorem dX2_append_15 : decode cX2_append 15 = .ok (.invokevirtual 29, 3) := dc_182 0 29 (lxX2_append 0 15 rfl) (lxX2_append 1 0 rfl) (lxX2_append 1 1 rfl)
set_option maxRecDepth 20000 in
theorem dX2_append_18 : decode cX2_append 18 = .ok (.invokevirtual 33, 3) := dc_182 0 33 (lxX2_append 1 2 rfl) (lxX2_append 1 3 rfl) (lxX2_append 1 4 rfl)
set_option maxRecDepth 20000 in
theorem dX2_append_21 : decode cX2_append 21 = .ok (.iinc 3 1, 3) := dc_132 3 1 (lxX2_append 1 5 rfl) (lxX2_append 1 6 rfl) (lxX2_append 1 7 rfl)
set_option maxRecDepth 20000 in
theorem dX2_append_24 : decode cX2_append 24 = .ok (.goto (-17), 3) := dc_167 255 239 (lxX2_append 1 8 rfl) (lxX2_append 1 9 rfl) (lxX2_append 1 10 rfl)
set_option maxRecDepth 20000 in
theorem dX2_append_27 : decode cX2_append 27 = .ok (.return_, 1) := dc_177 (lxX2_append 1 11 rfl)
noncomputable def sgX2_becomeText : List (List Cond) := [[.code yX2_becomeText cX2_becomeText 2 none], wsX2_becomeText_r1, wsX2_becomeText_r2, wsX20, wsX50]
theorem seX2_becomeText : sgX2_becomeText.flatten = wsX2_becomeText := by simp only [sgX2_becomeText, wsX2_becomeText, List.flatten_cons, List.flatten_nil, List.append_assoc, List.append_nil, List.cons_append, List.nil_append]
set_option maxRecDepth 20000 in
theorem ggX2_becomeText_X2_clear : GoodIn wsX2_becomeText wsX2_clear := goodIn_s seX2_becomeText _ [pq_1_4, pq_1_5, pq_3_0, pq_3_1] (by rfl) gw_wsX2_clear
set_option maxRecDepth 20000 in
theorem gX2_becomeText_X2_clear : GoodIn wsX2_becomeText (wsV RX2 37 RX2 yX2_clear wsX2_clear) := goodIn_app (goodIn_s seX2_becomeText _ [pq_1_0, pq_1_1, pq_1_2, pq_1_3] (by rfl) (by decide +kernel)) ggX2_becomeText_X2_clear
set_option maxRecDepth 20000 in
theorem ggX2_becomeText_X2_append : GoodIn wsX2_becomeText wsX2_append := goodIn_s seX2_becomeText _ [pq_1_9, pq_1_10, pq_1_11, pq_1_12, pq_1_13, pq_1_3, pq_1_14, pq_1_5, pq_1_15, pq_1_16, pq_1_17, pq_1_18, pq_1_19, pq_1_20, pq_1_21, pq_1_22, pq_1_23, pq_2_0, pq_2_1, pq_2_2, pq_2_3, pq_2_4, pq_2_5, pq_2_6, pq_2_7, pq_2_8, pq_2_9, pq_2_10, pq_2_11, pq_2_12, pq_2_13, pq_2_14, pq_2_15, pq_3_0, pq_3_1, pq_4_0, pq_4_1, pq_4_2, pq_4_3, pq_4_4, pq_4_5] (by rfl) gw_wsX2_append
set_option maxRecDepth 20000 in
theorem gX2_becomeText_X2_append : GoodIn wsX2_becomeText (wsV RX2 40 RX2 yX2_append wsX2_append) := goodIn_app (goodIn_s seX2_becomeText _ [pq_1_6, pq_1_7, pq_1_8, pq_1_3] (by rfl) (by decide +kernel)) ggX2_becomeText_X2_append
def lb_sgX2_becomeText : List (List UInt8) := [[43, 42, 165, 0, 12, 42, 182, 0, 37, 42, 43, 182, 0, 40, 177]]
set_option maxRecDepth 100000 in
theorem lb_seX2_becomeText : cX2_becomeText.data.toList = lb_sgX2_becomeText.flatten := by decide +kernel
theorem lb_lnX2_becomeText : ∀ s ∈ lb_sgX2_becomeText.dropLast, s.length = 16 := by decide +kernel
theorem lxX2_becomeText (k j : Nat) {b : UInt8} (h : (lb_sgX2_becomeText[k]?).bind (fun s => s[j]?) = some b) : lb_at cX2_becomeText (16 * k + j) b := by
  unfold lb_at
  rw [lb_seX2_becomeText]
  exact lb_flat 16 lb_sgX2_becomeText k j b lb_lnX2_becomeText h
set_option maxRecDepth 20000 in
theorem dX2_becomeText_0 : decode cX2_becomeText 0 = .ok (.aload_n 1, 1) := dc_43 (lxX2_becomeText 0 0 rfl)
set_option maxRecDepth 20000 in
theorem dX2_becomeText_1 : decode cX2_becomeText 1 = .ok (.aload_n 0, 1) := dc_42 (lxX2_becomeText 0 1 rfl)
set_option maxRecDepth 20000 in
theorem dX2_becomeText_2 : decode cX2_becomeText 2 = .ok (.if_acmp .eq 12, 3) := dc_165 0 12 (lxX2_becomeText 0 2 rfl) (lxX2_becomeText 0 3 rfl) (lxX2_becomeText 0 4 rfl)
set_option maxRecDepth 20000 in
theorem dX2_becomeText_5 : decode cX2_becomeText 5 = .ok (.aload_n 0, 1) := dc_42 (lxX2_becomeText 0 5 rfl)
set_option maxRecDepth 20000 in
theorem dX2_becomeText_6 : decode cX2_becomeText 6 = .ok (.invokevirtual 37, 3) := dc_182 0 37 (lxX2_becomeText 0 6 rfl) (lxX2_becomeText 0 7 rfl) (lxX2_becomeText 0 8 rfl)
set_option maxRecDepth 20000 in
theorem dX2_becomeText_9 : decode cX2_becomeText 9 = .ok (.aload_n 0, 1) := dc_42 (lxX2_becomeText 0 9 rfl)
set_option maxRecDepth 20000 in
theorem dX2_becomeText_10 : decode cX2_becomeText 10 = .ok (.aload_n 1, 1) := dc_43 (lxX2_becomeText 0 10 rfl)
set_option maxRecDepth 20000 in
theorem dX2_becomeText_11 : decode cX2_becomeText 11 = .ok (.invokevirtual 40, 3) := dc_182 0 40 (lxX2_becomeText 0 11 rfl) (lxX2_becomeText 0 12 rfl) (lxX2_becomeText 0 13 rfl)
set_option maxRecDepth 20000 in
theorem dX2_becomeText_14 : decode cX2_becomeText 14 = .ok (.return_, 1) := dc_177 (lxX2_becomeText 0 14 rfl)
noncomputable def sgX2_exchange : List (List Cond) := [[.code yX2_exchange cX2_exchange 4 (some .int)], [.fieldLink RX2 15 "Sashwords$Script" "signs" "[C", .methodLink RX2 44 yX2_at, .instanceMethod yX2_at, .selects RX2 yX2_at yX2_at, .initialized RX2, .code yX2_at cX2_at 2 (some .int), .fieldLink RX2 21 "Sashwords$Script" "length" "I"], wsX20]
theorem seX2_exchange : sgX2_exchange.flatten = wsX2_exchange := by simp only [sgX2_exchange, wsX2_exchange, List.flatten_cons, List.flatten_nil, List.append_assoc, List.append_nil, List.cons_append, List.nil_append]
set_option maxRecDepth 20000 in
theorem ggX2_exchange_X2_at : GoodIn wsX2_exchange wsX2_at := goodIn_s seX2_exchange _ [pq_1_5, pq_1_6, pq_1_0, pq_2_0, pq_2_1] (by rfl) gw_wsX2_at
set_option maxRecDepth 20000 in
theorem gX2_exchange_X2_at : GoodIn wsX2_exchange (wsV RX2 44 RX2 yX2_at wsX2_at) := goodIn_app (goodIn_s seX2_exchange _ [pq_1_1, pq_1_2, pq_1_3, pq_1_4] (by rfl) (by decide +kernel)) ggX2_exchange_X2_at
def lb_sgX2_exchange : List (List UInt8) := [[42, 27, 182, 0, 44, 62, 27, 155, 0, 20, 27, 42, 180, 0, 15, 190], [162, 0, 11, 42, 180, 0, 15, 27, 28, 146, 85, 29, 172]]
set_option maxRecDepth 100000 in
theorem lb_seX2_exchange : cX2_exchange.data.toList = lb_sgX2_exchange.flatten := by decide +kernel
theorem lb_lnX2_exchange : ∀ s ∈ lb_sgX2_exchange.dropLast, s.length = 16 := by decide +kernel
theorem lxX2_exchange (k j : Nat) {b : UInt8} (h : (lb_sgX2_exchange[k]?).bind (fun s => s[j]?) = some b) : lb_at cX2_exchange (16 * k + j) b := by
  unfold lb_at
  rw [lb_seX2_exchange]
  exact lb_flat 16 lb_sgX2_exchange k j b lb_lnX2_exchange h
set_option maxRecDepth 20000 in
theorem dX2_exchange_0 : decode cX2_exchange 0 = .ok (.aload_n 0, 1) := dc_42 (lxX2_exchange 0 0 rfl)
set_option maxRecDepth 20000 in
theorem dX2_exchange_1 : decode cX2_exchange 1 = .ok (.iload_n 1, 1) := dc_27 (lxX2_exchange 0 1 rfl)
set_option maxRecDepth 20000 in
theorem dX2_exchange_2 : decode cX2_exchange 2 = .ok (.invokevirtual 44, 3) := dc_182 0 44 (lxX2_exchange 0 2 rfl) (lxX2_exchange 0 3 rfl) (lxX2_exchange 0 4 rfl)
set_option maxRecDepth 20000 in
theorem dX2_exchange_5 : decode cX2_exchange 5 = .ok (.istore_n 3, 1) := dc_62 (lxX2_exchange 0 5 rfl)
set_option maxRecDepth 20000 in
theorem dX2_exchange_6 : decode cX2_exchange 6 = .ok (.iload_n 1, 1) := dc_27 (lxX2_exchange 0 6 rfl)
set_option maxRecDepth 20000 in
theorem dX2_exchange_7 : decode cX2_exchange 7 = .ok (.ifCond .lt 20, 3) := dc_155 0 20 (lxX2_exchange 0 7 rfl) (lxX2_exchange 0 8 rfl) (lxX2_exchange 0 9 rfl)
set_option maxRecDepth 20000 in
theorem dX2_exchange_10 : decode cX2_exchange 10 = .ok (.iload_n 1, 1) := dc_27 (lxX2_exchange 0 10 rfl)
set_option maxRecDepth 20000 in
theorem dX2_exchange_11 : decode cX2_exchange 11 = .ok (.aload_n 0, 1) := dc_42 (lxX2_exchange 0 11 rfl)
set_option maxRecDepth 20000 in
theorem dX2_exchange_12 : decode cX2_exchange 12 = .ok (.getfield 15, 3) := dc_180 0 15 (lxX2_exchange 0 12 rfl) (lxX2_exchange 0 13 rfl) (lxX2_exchange 0 14 rfl)
set_option maxRecDepth 20000 in
theorem dX2_exchange_15 : decode cX2_exchange 15 = .ok (.arraylength, 1) := dc_190 (lxX2_exchange 0 15 rfl)
set_option maxRecDepth 20000 in
theorem dX2_exchange_16 : decode cX2_exchange 16 = .ok (.if_icmp .ge 11, 3) := dc_162 0 11 (lxX2_exchange 1 0 rfl) (lxX2_exchange 1 1 rfl) (lxX2_exchange 1 2 rfl)
set_option maxRecDepth 20000 in
theorem dX2_exchange_19 : decode cX2_exchange 19 = .ok (.aload_n 0, 1) := dc_42 (lxX2_exchange 1 3 rfl)
set_option maxRecDepth 20000 in
theorem dX2_exchange_20 : decode cX2_exchange 20 = .ok (.getfield 15, 3) := dc_180 0 15 (lxX2_exchange 1 4 rfl) (lxX2_exchange 1 5 rfl) (lxX2_exchange 1 6 rfl)
set_option maxRecDepth 20000 in
theorem dX2_exchange_23 : decode cX2_exchange 23 = .ok (.iload_n 1, 1) := dc_27 (lxX2_exchange 1 7 rfl)
set_option maxRecDepth 20000 in
theorem dX2_exchange_24 : decode cX2_exchange 24 = .ok (.iload_n 2, 1) := dc_28 (lxX2_exchange 1 8 rfl)
set_option maxRecDepth 20000 in
theorem dX2_exchange_25 : decode cX2_exchange 25 = .ok (.i2c, 1) := dc_146 (lxX2_exchange 1 9 rfl)
set_option maxRecDepth 20000 in
theorem dX2_exchange_26 : decode cX2_exchange 26 = .ok (.castore, 1) := dc_85 (lxX2_exchange 1 10 rfl)
set_option maxRecDepth 20000 in
theorem dX2_exchange_27 : decode cX2_exchange 27 = .ok (.iload_n 3, 1) := dc_29 (lxX2_exchange 1 11 rfl)
set_option maxRecDepth 20000 in
theorem dX2_exchange_28 : decode cX2_exchange 28 = .ok (.ireturn, 1) := dc_172 (lxX2_exchange 1 12 rfl)
noncomputable def sgX2_turnRound : List (List Cond) := [[.code yX2_turnRound cX2_turnRound 3 none], [.fieldLink RX2 21 "Sashwords$Script" "length" "I", .methodLink RX2 44 yX2_at, .instanceMethod yX2_at, .selects RX2 yX2_at yX2_at, .initialized RX2, .code yX2_at cX2_at 2 (some .int), .fieldLink RX2 15 "Sashwords$Script" "signs" "[C", .methodLink RX2 45 yX2_exchange, .instanceMethod yX2_exchange, .selects RX2 yX2_exchange yX2_exchange, .code yX2_exchange cX2_exchange 4 (some .int)], wsX20]
theorem seX2_turnRound : sgX2_turnRound.flatten = wsX2_turnRound := by simp only [sgX2_turnRound, wsX2_turnRound, List.flatten_cons, List.flatten_nil, List.append_assoc, List.append_nil, List.cons_append, List.nil_append]
set_option maxRecDepth 20000 in
theorem ggX2_turnRound_X2_at : GoodIn wsX2_turnRound wsX2_at := goodIn_s seX2_turnRound _ [pq_1_5, pq_1_0, pq_1_6, pq_2_0, pq_2_1] (by rfl) gw_wsX2_at
set_option maxRecDepth 20000 in
theorem gX2_turnRound_X2_at : GoodIn wsX2_turnRound (wsV RX2 44 RX2 yX2_at wsX2_at) := goodIn_app (goodIn_s seX2_turnRound _ [pq_1_1, pq_1_2, pq_1_3, pq_1_4] (by rfl) (by decide +kernel)) ggX2_turnRound_X2_at
set_option maxRecDepth 20000 in
theorem ggX2_turnRound_X2_exchange : GoodIn wsX2_turnRound wsX2_exchange := goodIn_s seX2_turnRound _ [pq_1_10, pq_1_6, pq_1_1, pq_1_2, pq_1_3, pq_1_4, pq_1_5, pq_1_0, pq_2_0, pq_2_1] (by rfl) gw_wsX2_exchange
set_option maxRecDepth 20000 in
theorem gX2_turnRound_X2_exchange : GoodIn wsX2_turnRound (wsV RX2 45 RX2 yX2_exchange wsX2_exchange) := goodIn_app (goodIn_s seX2_turnRound _ [pq_1_7, pq_1_8, pq_1_9, pq_1_4] (by rfl) (by decide +kernel)) ggX2_turnRound_X2_exchange
def lb_sgX2_turnRound : List (List UInt8) := [[3, 60, 27, 42, 180, 0, 21, 5, 108, 162, 0, 34, 42, 180, 0, 21], [4, 100, 27, 100, 61, 42, 28, 42, 27, 42, 28, 182, 0, 44, 182, 0], [45, 182, 0, 45, 87, 132, 1, 1, 167, 255, 218, 177]]
set_option maxRecDepth 100000 in
theorem lb_seX2_turnRound : cX2_turnRound.data.toList = lb_sgX2_turnRound.flatten := by decide +kernel
theorem lb_lnX2_turnRound : ∀ s ∈ lb_sgX2_turnRound.dropLast, s.length = 16 := by decide +kernel
theorem lxX2_turnRound (k j : Nat) {b : UInt8} (h : (lb_sgX2_turnRound[k]?).bind (fun s => s[j]?) = some b) : lb_at cX2_turnRound (16 * k + j) b := by
  unfold lb_at
  rw [lb_seX2_turnRound]
  exact lb_flat 16 lb_sgX2_turnRound k j b lb_lnX2_turnRound h
set_option maxRecDepth 20000 in
theorem dX2_turnRound_0 : decode cX2_turnRound 0 = .ok (.iconst 0, 1) := dc_3 (lxX2_turnRound 0 0 rfl)
set_option maxRecDepth 20000 in
theorem dX2_turnRound_1 : decode cX2_turnRound 1 = .ok (.istore_n 1, 1) := dc_60 (lxX2_turnRound 0 1 rfl)
set_option maxRecDepth 20000 in
theorem dX2_turnRound_2 : decode cX2_turnRound 2 = .ok (.iload_n 1, 1) := dc_27 (lxX2_turnRound 0 2 rfl)
set_option maxRecDepth 20000 in
theorem dX2_turnRound_3 : decode cX2_turnRound 3 = .ok (.aload_n 0, 1) := dc_42 (lxX2_turnRound 0 3 rfl)
set_option maxRecDepth 20000 in
theorem dX2_turnRound_4 : decode cX2_turnRound 4 = .ok (.getfield 21, 3) := dc_180 0 21 (lxX2_turnRound 0 4 rfl) (lxX2_turnRound 0 5 rfl) (lxX2_turnRound 0 6 rfl)
set_option maxRecDepth 20000 in
theorem dX2_turnRound_7 : decode cX2_turnRound 7 = .ok (.iconst 2, 1) := dc_5 (lxX2_turnRound 0 7 rfl)
set_option maxRecDepth 20000 in
theorem dX2_turnRound_8 : decode cX2_turnRound 8 = .ok (.idiv, 1) := dc_108 (lxX2_turnRound 0 8 rfl)
set_option maxRecDepth 20000 in
theorem dX2_turnRound_9 : decode cX2_turnRound 9 = .ok (.if_icmp .ge 34, 3) := dc_162 0 34 (lxX2_turnRound 0 9 rfl) (lxX2_turnRound 0 10 rfl) (lxX2_turnRound 0 11 rfl)
set_option maxRecDepth 20000 in
theorem dX2_turnRound_12 : decode cX2_turnRound 12 = .ok (.aload_n 0, 1) := dc_42 (lxX2_turnRound 0 12 rfl)
set_option maxRecDepth 20000 in
theorem dX2_turnRound_13 : decode cX2_turnRound 13 = .ok (.getfield 21, 3) := dc_180 0 21 (lxX2_turnRound 0 13 rfl) (lxX2_turnRound 0 14 rfl) (lxX2_turnRound 0 15 rfl)
set_option maxRecDepth 20000 in
theorem dX2_turnRound_16 : decode cX2_turnRound 16 = .ok (.iconst 1, 1) := dc_4 (lxX2_turnRound 1 0 rfl)
set_option maxRecDepth 20000 in
theorem dX2_turnRound_17 : decode cX2_turnRound 17 = .ok (.isub, 1) := dc_100 (lxX2_turnRound 1 1 rfl)
set_option maxRecDepth 20000 in
theorem dX2_turnRound_18 : decode cX2_turnRound 18 = .ok (.iload_n 1, 1) := dc_27 (lxX2_turnRound 1 2 rfl)
set_option maxRecDepth 20000 in
theorem dX2_turnRound_19 : decode cX2_turnRound 19 = .ok (.isub, 1) := dc_100 (lxX2_turnRound 1 3 rfl)
set_option maxRecDepth 20000 in
theorem dX2_turnRound_20 : decode cX2_turnRound 20 = .ok (.istore_n 2, 1) := dc_61 (lxX2_turnRound 1 4 rfl)
set_option maxRecDepth 20000 in
theorem dX2_turnRound_21 : decode cX2_turnRound 21 = .ok (.aload_n 0, 1) := dc_42 (lxX2_turnRound 1 5 rfl)
set_option maxRecDepth 20000 in
theorem dX2_turnRound_22 : decode cX2_turnRound 22 = .ok (.iload_n 2, 1) := dc_28 (lxX2_turnRound 1 6 rfl)
set_option maxRecDepth 20000 in
theorem dX2_turnRound_23 : decode cX2_turnRound 23 = .ok (.aload_n 0, 1) := dc_42 (lxX2_turnRound 1 7 rfl)
set_option maxRecDepth 20000 in
theorem dX2_turnRound_24 : decode cX2_turnRound 24 = .ok (.iload_n 1, 1) := dc_27 (lxX2_turnRound 1 8 rfl)
set_option maxRecDepth 20000 in
theorem dX2_turnRound_25 : decode cX2_turnRound 25 = .ok (.aload_n 0, 1) := dc_42 (lxX2_turnRound 1 9 rfl)
set_option maxRecDepth 20000 in
theorem dX2_turnRound_26 : decode cX2_turnRound 26 = .ok (.iload_n 2, 1) := dc_28 (lxX2_turnRound 1 10 rfl)
set_option maxRecDepth 20000 in
theorem dX2_turnRound_27 : decode cX2_turnRound 27 = .ok (.invokevirtual 44, 3) := dc_182 0 44 (lxX2_turnRound 1 11 rfl) (lxX2_turnRound 1 12 rfl) (lxX2_turnRound 1 13 rfl)
set_option maxRecDepth 20000 in
theorem dX2_turnRound_30 : decode cX2_turnRound 30 = .ok (.invokevirtual 45, 3) := dc_182 0 45 (lxX2_turnRound 1 14 rfl) (lxX2_turnRound 1 15 rfl) (lxX2_turnRound 2 0 rfl)
set_option maxRecDepth 20000 in
theorem dX2_turnRound_33 : decode cX2_turnRound 33 = .ok (.invokevirtual 45, 3) := dc_182 0 45 (lxX2_turnRound 2 1 rfl) (lxX2_turnRound 2 2 rfl) (lxX2_turnRound 2 3 rfl)
set_option maxRecDepth 20000 in
theorem dX2_turnRound_36 : decode cX2_turnRound 36 = .ok (.pop, 1) := dc_87 (lxX2_turnRound 2 4 rfl)
set_option maxRecDepth 20000 in
theorem dX2_turnRound_37 : decode cX2_turnRound 37 = .ok (.iinc 1 1, 3) := dc_132 1 1 (lxX2_turnRound 2 5 rfl) (lxX2_turnRound 2 6 rfl) (lxX2_turnRound 2 7 rfl)
set_option maxRecDepth 20000 in
theorem dX2_turnRound_40 : decode cX2_turnRound 40 = .ok (.goto (-38), 3) := dc_167 255 218 (lxX2_turnRound 2 8 rfl) (lxX2_turnRound 2 9 rfl) (lxX2_turnRound 2 10 rfl)
set_option maxRecDepth 20000 in
theorem dX2_turnRound_43 : decode cX2_turnRound 43 = .ok (.return_, 1) := dc_177 (lxX2_turnRound 2 11 rfl)
noncomputable def sgX2_takeFirst : List (List Cond) := [[.code yX2_takeFirst cX2_takeFirst 3 (some .int)], [.fieldLink RX2 21 "Sashwords$Script" "length" "I", .methodLink RX2 9 Lib.Math.max.name, .static Lib.Math.max.name, .initialized "java/lang/Math", .code Lib.Math.max.name Lib.Math.max.code 2 (some .int), .methodLink RX2 44 yX2_at, .instanceMethod yX2_at, .selects RX2 yX2_at yX2_at, .initialized RX2, .code yX2_at cX2_at 2 (some .int), .fieldLink RX2 15 "Sashwords$Script" "signs" "[C", .methodLink RX2 45 yX2_exchange, .instanceMethod yX2_exchange, .selects RX2 yX2_exchange yX2_exchange, .code yX2_exchange cX2_exchange 4 (some .int)], wsX20]
theorem seX2_takeFirst : sgX2_takeFirst.flatten = wsX2_takeFirst := by simp only [sgX2_takeFirst, wsX2_takeFirst, List.flatten_cons, List.flatten_nil, List.append_assoc, List.append_nil, List.cons_append, List.nil_append]
set_option maxRecDepth 20000 in
theorem ggX2_takeFirst_X2_at : GoodIn wsX2_takeFirst wsX2_at := goodIn_s seX2_takeFirst _ [pq_1_9, pq_1_0, pq_1_10, pq_2_0, pq_2_1] (by rfl) gw_wsX2_at
set_option maxRecDepth 20000 in
theorem gX2_takeFirst_X2_at : GoodIn wsX2_takeFirst (wsV RX2 44 RX2 yX2_at wsX2_at) := goodIn_app (goodIn_s seX2_takeFirst _ [pq_1_5, pq_1_6, pq_1_7, pq_1_8] (by rfl) (by decide +kernel)) ggX2_takeFirst_X2_at
set_option maxRecDepth 20000 in
theorem ggX2_takeFirst_X2_exchange : GoodIn wsX2_takeFirst wsX2_exchange := goodIn_s seX2_takeFirst _ [pq_1_14, pq_1_10, pq_1_5, pq_1_6, pq_1_7, pq_1_8, pq_1_9, pq_1_0, pq_2_0, pq_2_1] (by rfl) gw_wsX2_exchange
set_option maxRecDepth 20000 in
theorem gX2_takeFirst_X2_exchange : GoodIn wsX2_takeFirst (wsV RX2 45 RX2 yX2_exchange wsX2_exchange) := goodIn_app (goodIn_s seX2_takeFirst _ [pq_1_11, pq_1_12, pq_1_13, pq_1_8] (by rfl) (by decide +kernel)) ggX2_takeFirst_X2_exchange
def lb_sgX2_takeFirst : List (List UInt8) := [[42, 3, 182, 0, 44, 60, 4, 61, 28, 42, 180, 0, 21, 162, 0, 22], [42, 28, 4, 100, 42, 28, 182, 0, 44, 182, 0, 45, 87, 132, 2, 1], [167, 255, 232, 42, 42, 180, 0, 21, 4, 100, 3, 184, 0, 9, 181, 0], [21, 27, 172]]
set_option maxRecDepth 100000 in
theorem lb_seX2_takeFirst : cX2_takeFirst.data.toList = lb_sgX2_takeFirst.flatten := by decide +kernel
theorem lb_lnX2_takeFirst : ∀ s ∈ lb_sgX2_takeFirst.dropLast, s.length = 16 := by decide +kernel
theorem lxX2_takeFirst (k j : Nat) {b : UInt8} (h : (lb_sgX2_takeFirst[k]?).bind (fun s => s[j]?) = some b) : lb_at cX2_takeFirst (16 * k + j) b := by
  unfold lb_at
  rw [lb_seX2_takeFirst]
  exact lb_flat 16 lb_sgX2_takeFirst k j b lb_lnX2_takeFirst h
set_option maxRecDepth 20000 in
theorem dX2_takeFirst_0 : decode cX2_takeFirst 0 = .ok (.aload_n 0, 1) := dc_42 (lxX2_takeFirst 0 0 rfl)
set_option maxRecDepth 20000 in
theorem dX2_takeFirst_1 : decode cX2_takeFirst 1 = .ok (.iconst 0, 1) := dc_3 (lxX2_takeFirst 0 1 rfl)
set_option maxRecDepth 20000 in
theorem dX2_takeFirst_2 : decode cX2_takeFirst 2 = .ok (.invokevirtual 44, 3) := dc_182 0 44 (lxX2_takeFirst 0 2 rfl) (lxX2_takeFirst 0 3 rfl) (lxX2_takeFirst 0 4 rfl)
set_option maxRecDepth 20000 in
theorem dX2_takeFirst_5 : decode cX2_takeFirst 5 = .ok (.istore_n 1, 1) := dc_60 (lxX2_takeFirst 0 5 rfl)
set_option maxRecDepth 20000 in
theorem dX2_takeFirst_6 : decode cX2_takeFirst 6 = .ok (.iconst 1, 1) := dc_4 (lxX2_takeFirst 0 6 rfl)
set_option maxRecDepth 20000 in
theorem dX2_takeFirst_7 : decode cX2_takeFirst 7 = .ok (.istore_n 2, 1) := dc_61 (lxX2_takeFirst 0 7 rfl)
set_option maxRecDepth 20000 in
theorem dX2_takeFirst_8 : decode cX2_takeFirst 8 = .ok (.iload_n 2, 1) := dc_28 (lxX2_takeFirst 0 8 rfl)
set_option maxRecDepth 20000 in
theorem dX2_takeFirst_9 : decode cX2_takeFirst 9 = .ok (.aload_n 0, 1) := dc_42 (lxX2_takeFirst 0 9 rfl)
set_option maxRecDepth 20000 in
theorem dX2_takeFirst_10 : decode cX2_takeFirst 10 = .ok (.getfield 21, 3) := dc_180 0 21 (lxX2_takeFirst 0 10 rfl) (lxX2_takeFirst 0 11 rfl) (lxX2_takeFirst 0 12 rfl)
set_option maxRecDepth 20000 in
theorem dX2_takeFirst_13 : decode cX2_takeFirst 13 = .ok (.if_icmp .ge 22, 3) := dc_162 0 22 (lxX2_takeFirst 0 13 rfl) (lxX2_takeFirst 0 14 rfl) (lxX2_takeFirst 0 15 rfl)
set_option maxRecDepth 20000 in
theorem dX2_takeFirst_16 : decode cX2_takeFirst 16 = .ok (.aload_n 0, 1) := dc_42 (lxX2_takeFirst 1 0 rfl)
set_option maxRecDepth 20000 in
theorem dX2_takeFirst_17 : decode cX2_takeFirst 17 = .ok (.iload_n 2, 1) := dc_28 (lxX2_takeFirst 1 1 rfl)
set_option maxRecDepth 20000 in
theorem dX2_takeFirst_18 : decode cX2_takeFirst 18 = .ok (.iconst 1, 1) := dc_4 (lxX2_takeFirst 1 2 rfl)
set_option maxRecDepth 20000 in
theorem dX2_takeFirst_19 : decode cX2_takeFirst 19 = .ok (.isub, 1) := dc_100 (lxX2_takeFirst 1 3 rfl)
set_option maxRecDepth 20000 in
theorem dX2_takeFirst_20 : decode cX2_takeFirst 20 = .ok (.aload_n 0, 1) := dc_42 (lxX2_takeFirst 1 4 rfl)
set_option maxRecDepth 20000 in
theorem dX2_takeFirst_21 : decode cX2_takeFirst 21 = .ok (.iload_n 2, 1) := dc_28 (lxX2_takeFirst 1 5 rfl)
set_option maxRecDepth 20000 in
theorem dX2_takeFirst_22 : decode cX2_takeFirst 22 = .ok (.invokevirtual 44, 3) := dc_182 0 44 (lxX2_takeFirst 1 6 rfl) (lxX2_takeFirst 1 7 rfl) (lxX2_takeFirst 1 8 rfl)
set_option maxRecDepth 20000 in
theorem dX2_takeFirst_25 : decode cX2_takeFirst 25 = .ok (.invokevirtual 45, 3) := dc_182 0 45 (lxX2_takeFirst 1 9 rfl) (lxX2_takeFirst 1 10 rfl) (lxX2_takeFirst 1 11 rfl)
set_option maxRecDepth 20000 in
theorem dX2_takeFirst_28 : decode cX2_takeFirst 28 = .ok (.pop, 1) := dc_87 (lxX2_takeFirst 1 12 rfl)
set_option maxRecDepth 20000 in
theorem dX2_takeFirst_29 : decode cX2_takeFirst 29 = .ok (.iinc 2 1, 3) := dc_132 2 1 (lxX2_takeFirst 1 13 rfl) (lxX2_takeFirst 1 14 rfl) (lxX2_takeFirst 1 15 rfl)
set_option maxRecDepth 20000 in
theorem dX2_takeFirst_32 : decode cX2_takeFirst 32 = .ok (.goto (-24), 3) := dc_167 255 232 (lxX2_takeFirst 2 0 rfl) (lxX2_takeFirst 2 1 rfl) (lxX2_takeFirst 2 2 rfl)
set_option maxRecDepth 20000 in
theorem dX2_takeFirst_35 : decode cX2_takeFirst 35 = .ok (.aload_n 0, 1) := dc_42 (lxX2_takeFirst 2 3 rfl)
set_option maxRecDepth 20000 in
theorem dX2_takeFirst_36 : decode cX2_takeFirst 36 = .ok (.aload_n 0, 1) := dc_42 (lxX2_takeFirst 2 4 rfl)
set_option maxRecDepth 20000 in
theorem dX2_takeFirst_37 : decode cX2_takeFirst 37 = .ok (.getfield 21, 3) := dc_180 0 21 (lxX2_takeFirst 2 5 rfl) (lxX2_takeFirst 2 6 rfl) (lxX2_takeFirst 2 7 rfl)
set_option maxRecDepth 20000 in
theorem dX2_takeFirst_40 : decode cX2_takeFirst 40 = .ok (.iconst 1, 1) := dc_4 (lxX2_takeFirst 2 8 rfl)
set_option maxRecDepth 20000 in
theorem dX2_takeFirst_41 : decode cX2_takeFirst 41 = .ok (.isub, 1) := dc_100 (lxX2_takeFirst 2 9 rfl)
set_option maxRecDepth 20000 in
theorem dX2_takeFirst_42 : decode cX2_takeFirst 42 = .ok (.iconst 0, 1) := dc_3 (lxX2_takeFirst 2 10 rfl)
set_option maxRecDepth 20000 in
theorem dX2_takeFirst_43 : decode cX2_takeFirst 43 = .ok (.invokestatic 9, 3) := dc_184 0 9 (lxX2_takeFirst 2 11 rfl) (lxX2_takeFirst 2 12 rfl) (lxX2_takeFirst 2 13 rfl)
set_option maxRecDepth 20000 in
theorem dX2_takeFirst_46 : decode cX2_takeFirst 46 = .ok (.putfield 21, 3) := dc_181 0 21 (lxX2_takeFirst 2 14 rfl) (lxX2_takeFirst 2 15 rfl) (lxX2_takeFirst 3 0 rfl)
set_option maxRecDepth 20000 in
theorem dX2_takeFirst_49 : decode cX2_takeFirst 49 = .ok (.iload_n 1, 1) := dc_27 (lxX2_takeFirst 3 1 rfl)
set_option maxRecDepth 20000 in
theorem dX2_takeFirst_50 : decode cX2_takeFirst 50 = .ok (.ireturn, 1) := dc_172 (lxX2_takeFirst 3 2 rfl)
