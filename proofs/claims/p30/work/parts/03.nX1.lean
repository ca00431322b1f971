noncomputable def sgX1_init : List (List Cond) := [[.code yX1_init cX1_init 1 none], [.methodLink RX1 3 objectInit, .instanceMethod objectInit, .code objectInit ⟨#[0xb1]⟩ 1 none, .classLink RX1 9 RX2, .instantiable RX2 2, .initialized RX2, .fieldLink RX1 14 "Sashwords$Pipe" "holds" "LSashwords$Script;", .fieldLink RX1 20 "Sashwords$Pipe" "sent" "LSashwords$Script;", .fieldLink RX1 23 "Sashwords$Pipe" "came" "LSashwords$Script;", .fieldLink RX1 26 "Sashwords$Pipe" "width" "I", .methodLink RX1 11 yX2_init, .instanceMethod yX2_init, .code yX2_init cX2_init 2 none, .methodLink RX2 9 Lib.Math.max.name, .static Lib.Math.max.name, .initialized "java/lang/Math", .code Lib.Math.max.name Lib.Math.max.code 2 (some .int), .arrayClass .char, .fieldLink RX2 15 "Sashwords$Script" "signs" "[C", .instanceMethod yX4_init, .initialized RX4, .code yX4_init cX4_init 1 none, .methodLink RX4 1 objectInit], wsX20, wsX10]
theorem seX1_init : sgX1_init.flatten = wsX1_init := by simp only [sgX1_init, wsX1_init, List.flatten_cons, List.flatten_nil, List.append_assoc, List.append_nil, List.cons_append, List.nil_append]
set_option maxRecDepth 20000 in
theorem ggX1_init_X2_init : GoodIn wsX1_init wsX2_init := goodIn_s seX1_init _ [pq_1_12, pq_1_13, pq_1_14, pq_1_15, pq_1_16, pq_1_17, pq_1_18, pq_1_19, pq_1_20, pq_1_21, pq_1_22, pq_1_1, pq_1_2, pq_2_0, pq_2_1] (by rfl) gw_wsX2_init
set_option maxRecDepth 20000 in
theorem gX1_init_X2_init : GoodIn wsX1_init (wsX2_init) := ggX1_init_X2_init
def lb_sgX1_init : List (List UInt8) := [[42, 183, 0, 3, 42, 187, 0, 9, 89, 16, 8, 183, 0, 11, 181, 0], [14, 42, 187, 0, 9, 89, 17, 0, 160, 183, 0, 11, 181, 0, 20, 42], [187, 0, 9, 89, 17, 0, 160, 183, 0, 11, 181, 0, 23, 42, 7, 181], [0, 26, 177]]
set_option maxRecDepth 100000 in
theorem lb_seX1_init : cX1_init.data.toList = lb_sgX1_init.flatten := by decide +kernel
theorem lb_lnX1_init : ∀ s ∈ lb_sgX1_init.dropLast, s.length = 16 := by decide +kernel
theorem lxX1_init (k j : Nat) {b : UInt8} (h : (lb_sgX1_init[k]?).bind (fun s => s[j]?) = some b) : lb_at cX1_init (16 * k + j) b := by
  unfold lb_at
  rw [lb_seX1_init]
  exact lb_flat 16 lb_sgX1_init k j b lb_lnX1_init h
set_option maxRecDepth 20000 in
theorem dX1_init_0 : decode cX1_init 0 = .ok (.aload_n 0, 1) := dc_42 (lxX1_init 0 0 rfl)
set_option maxRecDepth 20000 in
theorem dX1_init_1 : decode cX1_init 1 = .ok (.invokespecial 3, 3) := dc_183 0 3 (lxX1_init 0 1 rfl) (lxX1_init 0 2 rfl) (lxX1_init 0 3 rfl)
set_option maxRecDepth 20000 in
theorem dX1_init_4 : decode cX1_init 4 = .ok (.aload_n 0, 1) := dc_42 (lxX1_init 0 4 rfl)
set_option maxRecDepth 20000 in
theorem dX1_init_5 : decode cX1_init 5 = .ok (.new 9, 3) := dc_187 0 9 (lxX1_init 0 5 rfl) (lxX1_init 0 6 rfl) (lxX1_init 0 7 rfl)
set_option maxRecDepth 20000 in
theorem dX1_init_8 : decode cX1_init 8 = .ok (.dup, 1) := dc_89 (lxX1_init 0 8 rfl)
set_option maxRecDepth 20000 in
theorem dX1_init_9 : decode cX1_init 9 = .ok (.bipush 8, 2) := dc_16 8 (lxX1_init 0 9 rfl) (lxX1_init 0 10 rfl)
set_option maxRecDepth 20000 in
theorem dX1_init_11 : decode cX1_init 11 = .ok (.invokespecial 11, 3) := dc_183 0 11 (lxX1_init 0 11 rfl) (lxX1_init 0 12 rfl) (lxX1_init 0 13 rfl)
set_option maxRecDepth 20000 in
theorem dX1_init_14 : decode cX1_init 14 = .ok (.putfield 14, 3) := dc_181 0 14 (lxX1_init 0 14 rfl) (lxX1_init 0 15 rfl) (lxX1_init 1 0 rfl)
set_option maxRecDepth 20000 in
theorem dX1_init_17 : decode cX1_init 17 = .ok (.aload_n 0, 1) := dc_42 (lxX1_init 1 1 rfl)
set_option maxRecDepth 20000 in
theorem dX1_init_18 : decode cX1_init 18 = .ok (.new 9, 3) := dc_187 0 9 (lxX1_init 1 2 rfl) (lxX1_init 1 3 rfl) (lxX1_init 1 4 rfl)
set_option maxRecDepth 20000 in
theorem dX1_init_21 : decode cX1_init 21 = .ok (.dup, 1) := dc_89 (lxX1_init 1 5 rfl)
set_option maxRecDepth 20000 in
theorem dX1_init_22 : decode cX1_init 22 = .ok (.sipush 160, 3) := dc_17 0 160 (lxX1_init 1 6 rfl) (lxX1_init 1 7 rfl) (lxX1_init 1 8 rfl)
set_option maxRecDepth 20000 in
theorem dX1_init_25 : decode cX1_init 25 = .ok (.invokespecial 11, 3) := dc_183 0 11 (lxX1_init 1 9 rfl) (lxX1_init 1 10 rfl) (lxX1_init 1 11 rfl)
set_option maxRecDepth 20000 in
theorem dX1_init_28 : decode cX1_init 28 = .ok (.putfield 20, 3) := dc_181 0 20 (lxX1_init 1 12 rfl) (lxX1_init 1 13 rfl) (lxX1_init 1 14 rfl)
set_option maxRecDepth 20000 in
theorem dX1_init_31 : decode cX1_init 31 = .ok (.aload_n 0, 1) := dc_42 (lxX1_init 1 15 rfl)
set_option maxRecDepth 20000 in
theorem dX1_init_32 : decode cX1_init 32 = .ok (.new 9, 3) := dc_187 0 9 (lxX1_init 2 0 rfl) (lxX1_init 2 1 rfl) (lxX1_init 2 2 rfl)
set_option maxRecDepth 20000 in
theorem dX1_init_35 : decode cX1_init 35 = .ok (.dup, 1) := dc_89 (lxX1_init 2 3 rfl)
set_option maxRecDepth 20000 in
theorem dX1_init_36 : decode cX1_init 36 = .ok (.sipush 160, 3) := dc_17 0 160 (lxX1_init 2 4 rfl) (lxX1_init 2 5 rfl) (lxX1_init 2 6 rfl)
set_option maxRecDepth 20000 in
theorem dX1_init_39 : decode cX1_init 39 = .ok (.invokespecial 11, 3) := dc_183 0 11 (lxX1_init 2 7 rfl) (lxX1_init 2 8 rfl) (lxX1_init 2 9 rfl)
set_option maxRecDepth 20000 in
theorem dX1_init_42 : decode cX1_init 42 = .ok (.putfield 23, 3) := dc_181 0 23 (lxX1_init 2 10 rfl) (lxX1_init 2 11 rfl) (lxX1_init 2 12 rfl)
set_option maxRecDepth 20000 in
theorem dX1_init_45 : decode cX1_init 45 = .ok (.aload_n 0, 1) := dc_42 (lxX1_init 2 13 rfl)
set_option maxRecDepth 20000 in
theorem dX1_init_46 : decode cX1_init 46 = .ok (.iconst 4, 1) := dc_7 (lxX1_init 2 14 rfl)
set_option maxRecDepth 20000 in
theorem dX1_init_47 : decode cX1_init 47 = .ok (.putfield 26, 3) := dc_181 0 26 (lxX1_init 2 15 rfl) (lxX1_init 3 0 rfl) (lxX1_init 3 1 rfl)
set_option maxRecDepth 20000 in
theorem dX1_init_50 : decode cX1_init 50 = .ok (.return_, 1) := dc_177 (lxX1_init 3 2 rfl)
noncomputable def sgX1_makeNew : List (List Cond) := [[.code yX1_makeNew cX1_makeNew 2 none], [.fieldLink RX1 26 "Sashwords$Pipe" "width" "I", .fieldLink RX1 14 "Sashwords$Pipe" "holds" "LSashwords$Script;", .fieldLink RX1 20 "Sashwords$Pipe" "sent" "LSashwords$Script;", .fieldLink RX1 23 "Sashwords$Pipe" "came" "LSashwords$Script;", .methodLink RX1 30 yX2_clear, .instanceMethod yX2_clear, .selects RX2 yX2_clear yX2_clear, .initialized RX2, .code yX2_clear cX2_clear 1 none, .fieldLink RX2 21 "Sashwords$Script" "length" "I"], wsX10, wsX20]
theorem seX1_makeNew : sgX1_makeNew.flatten = wsX1_makeNew := by simp only [sgX1_makeNew, wsX1_makeNew, List.flatten_cons, List.flatten_nil, List.append_assoc, List.append_nil, List.cons_append, List.nil_append]
set_option maxRecDepth 20000 in
theorem ggX1_makeNew_X2_clear : GoodIn wsX1_makeNew wsX2_clear := goodIn_s seX1_makeNew _ [pq_1_8, pq_1_9, pq_3_0, pq_3_1] (by rfl) gw_wsX2_clear
set_option maxRecDepth 20000 in
theorem gX1_makeNew_X2_clear : GoodIn wsX1_makeNew (wsV RX1 30 RX2 yX2_clear wsX2_clear) := goodIn_app (goodIn_s seX1_makeNew _ [pq_1_4, pq_1_5, pq_1_6, pq_1_7] (by rfl) (by decide +kernel)) ggX1_makeNew_X2_clear
def lb_sgX1_makeNew : List (List UInt8) := [[42, 27, 181, 0, 26, 42, 180, 0, 14, 182, 0, 30, 42, 180, 0, 20], [182, 0, 30, 42, 180, 0, 23, 182, 0, 30, 177]]
set_option maxRecDepth 100000 in
theorem lb_seX1_makeNew : cX1_makeNew.data.toList = lb_sgX1_makeNew.flatten := by decide +kernel
theorem lb_lnX1_makeNew : ∀ s ∈ lb_sgX1_makeNew.dropLast, s.length = 16 := by decide +kernel
theorem lxX1_makeNew (k j : Nat) {b : UInt8} (h : (lb_sgX1_makeNew[k]?).bind (fun s => s[j]?) = some b) : lb_at cX1_makeNew (16 * k + j) b := by
  unfold lb_at
  rw [lb_seX1_makeNew]
  exact lb_flat 16 lb_sgX1_makeNew k j b lb_lnX1_makeNew h
set_option maxRecDepth 20000 in
theorem dX1_makeNew_0 : decode cX1_makeNew 0 = .ok (.aload_n 0, 1) := dc_42 (lxX1_makeNew 0 0 rfl)
set_option maxRecDepth 20000 in
theorem dX1_makeNew_1 : decode cX1_makeNew 1 = .ok (.iload_n 1, 1) := dc_27 (lxX1_makeNew 0 1 rfl)
set_option maxRecDepth 20000 in
theorem dX1_makeNew_2 : decode cX1_makeNew 2 = .ok (.putfield 26, 3) := dc_181 0 26 (lxX1_makeNew 0 2 rfl) (lxX1_makeNew 0 3 rfl) (lxX1_makeNew 0 4 rfl)
set_option maxRecDepth 20000 in
theorem dX1_makeNew_5 : decode cX1_makeNew 5 = .ok (.aload_n 0, 1) := dc_42 (lxX1_makeNew 0 5 rfl)
set_option maxRecDepth 20000 in
theorem dX1_makeNew_6 : decode cX1_makeNew 6 = .ok (.getfield 14, 3) := dc_180 0 14 (lxX1_makeNew 0 6 rfl) (lxX1_makeNew 0 7 rfl) (lxX1_makeNew 0 8 rfl)
set_option maxRecDepth 20000 in
theorem dX1_makeNew_9 : decode cX1_makeNew 9 = .ok (.invokevirtual 30, 3) := dc_182 0 30 (lxX1_makeNew 0 9 rfl) (lxX1_makeNew 0 10 rfl) (lxX1_makeNew 0 11 rfl)
set_option maxRecDepth 20000 in
theorem dX1_makeNew_12 : decode cX1_makeNew 12 = .ok (.aload_n 0, 1) := dc_42 (lxX1_makeNew 0 12 rfl)
set_option maxRecDepth 20000 in
theorem dX1_makeNew_13 : decode cX1_makeNew 13 = .ok (.getfield 20, 3) := dc_180 0 20 (lxX1_makeNew 0 13 rfl) (lxX1_makeNew 0 14 rfl) (lxX1_makeNew 0 15 rfl)
set_option maxRecDepth 20000 in
theorem dX1_makeNew_16 : decode cX1_makeNew 16 = .ok (.invokevirtual 30, 3) := dc_182 0 30 (lxX1_makeNew 1 0 rfl) (lxX1_makeNew 1 1 rfl) (lxX1_makeNew 1 2 rfl)
set_option maxRecDepth 20000 in
theorem dX1_makeNew_19 : decode cX1_makeNew 19 = .ok (.aload_n 0, 1) := dc_42 (lxX1_makeNew 1 3 rfl)
set_option maxRecDepth 20000 in
theorem dX1_makeNew_20 : decode cX1_makeNew 20 = .ok (.getfield 23, 3) := dc_180 0 23 (lxX1_makeNew 1 4 rfl) (lxX1_makeNew 1 5 rfl) (lxX1_makeNew 1 6 rfl)
set_option maxRecDepth 20000 in
theorem dX1_makeNew_23 : decode cX1_makeNew 23 = .ok (.invokevirtual 30, 3) := dc_182 0 30 (lxX1_makeNew 1 7 rfl) (lxX1_makeNew 1 8 rfl) (lxX1_makeNew 1 9 rfl)
set_option maxRecDepth 20000 in
theorem dX1_makeNew_26 : decode cX1_makeNew 26 = .ok (.return_, 1) := dc_177 (lxX1_makeNew 1 10 rfl)
noncomputable def sgX1_takeIn : List (List Cond) := [[.code yX1_takeIn cX1_takeIn 2 (some .boolean)], [.fieldLink RX1 14 "Sashwords$Pipe" "holds" "LSashwords$Script;", .fieldLink RX1 26 "Sashwords$Pipe" "width" "I", .fieldLink RX1 20 "Sashwords$Pipe" "sent" "LSashwords$Script;", .methodLink RX1 33 yX2_size, .instanceMethod yX2_size, .selects RX2 yX2_size yX2_size, .initialized RX2, .code yX2_size cX2_size 1 (some .int), .fieldLink RX2 21 "Sashwords$Script" "length" "I", .methodLink RX1 37 yX2_isFull, .instanceMethod yX2_isFull, .selects RX2 yX2_isFull yX2_isFull, .code yX2_isFull cX2_isFull 1 (some .boolean), .fieldLink RX2 15 "Sashwords$Script" "signs" "[C", .methodLink RX1 41 yX2_add, .instanceMethod yX2_add, .selects RX2 yX2_add yX2_add, .code yX2_add cX2_add 2 none], wsX10, wsX20]
theorem seX1_takeIn : sgX1_takeIn.flatten = wsX1_takeIn := by simp only [sgX1_takeIn, wsX1_takeIn, List.flatten_cons, List.flatten_nil, List.append_assoc, List.append_nil, List.cons_append, List.nil_append]
set_option maxRecDepth 20000 in
theorem ggX1_takeIn_X2_size : GoodIn wsX1_takeIn wsX2_size := goodIn_s seX1_takeIn _ [pq_1_7, pq_1_8, pq_3_0, pq_3_1] (by rfl) gw_wsX2_size
set_option maxRecDepth 20000 in
theorem gX1_takeIn_X2_size : GoodIn wsX1_takeIn (wsV RX1 33 RX2 yX2_size wsX2_size) := goodIn_app (goodIn_s seX1_takeIn _ [pq_1_3, pq_1_4, pq_1_5, pq_1_6] (by rfl) (by decide +kernel)) ggX1_takeIn_X2_size
set_option maxRecDepth 20000 in
theorem ggX1_takeIn_X2_isFull : GoodIn wsX1_takeIn wsX2_isFull := goodIn_s seX1_takeIn _ [pq_1_12, pq_1_8, pq_1_13, pq_3_0, pq_3_1] (by rfl) gw_wsX2_isFull
set_option maxRecDepth 20000 in
theorem gX1_takeIn_X2_isFull : GoodIn wsX1_takeIn (wsV RX1 37 RX2 yX2_isFull wsX2_isFull) := goodIn_app (goodIn_s seX1_takeIn _ [pq_1_9, pq_1_10, pq_1_11, pq_1_6] (by rfl) (by decide +kernel)) ggX1_takeIn_X2_isFull
set_option maxRecDepth 20000 in
theorem ggX1_takeIn_X2_add : GoodIn wsX1_takeIn wsX2_add := goodIn_s seX1_takeIn _ [pq_1_17, pq_1_8, pq_1_13, pq_3_0, pq_3_1] (by rfl) gw_wsX2_add
set_option maxRecDepth 20000 in
theorem gX1_takeIn_X2_add : GoodIn wsX1_takeIn (wsV RX1 41 RX2 yX2_add wsX2_add) := goodIn_app (goodIn_s seX1_takeIn _ [pq_1_14, pq_1_15, pq_1_16, pq_1_6] (by rfl) (by decide +kernel)) ggX1_takeIn_X2_add
def lb_sgX1_takeIn : List (List UInt8) := [[42, 180, 0, 14, 182, 0, 33, 42, 180, 0, 26, 162, 0, 13, 42, 180], [0, 20, 182, 0, 37, 153, 0, 5, 3, 172, 42, 180, 0, 14, 27, 182], [0, 41, 42, 180, 0, 20, 27, 182, 0, 41, 4, 172]]
set_option maxRecDepth 100000 in
theorem lb_seX1_takeIn : cX1_takeIn.data.toList = lb_sgX1_takeIn.flatten := by decide +kernel
theorem lb_lnX1_takeIn : ∀ s ∈ lb_sgX1_takeIn.dropLast, s.length = 16 := by decide +kernel
theorem lxX1_takeIn (k j : Nat) {b : UInt8} (h : (lb_sgX1_takeIn[k]?).bind (fun s => s[j]?) = some b) : lb_at cX1_takeIn (16 * k + j) b := by
  unfold lb_at
  rw [lb_seX1_takeIn]
  exact lb_flat 16 lb_sgX1_takeIn k j b lb_lnX1_takeIn h
set_option maxRecDepth 20000 in
theorem dX1_takeIn_0 : decode cX1_takeIn 0 = .ok (.aload_n 0, 1) := dc_42 (lxX1_takeIn 0 0 rfl)
set_option maxRecDepth 20000 in
theorem dX1_takeIn_1 : decode cX1_takeIn 1 = .ok (.getfield 14, 3) := dc_180 0 14 (lxX1_takeIn 0 1 rfl) (lxX1_takeIn 0 2 rfl) (lxX1_takeIn 0 3 rfl)
set_option maxRecDepth 20000 in
theorem dX1_takeIn_4 : decode cX1_takeIn 4 = .ok (.invokevirtual 33, 3) := dc_182 0 33 (lxX1_takeIn 0 4 rfl) (lxX1_takeIn 0 5 rfl) (lxX1_takeIn 0 6 rfl)
set_option maxRecDepth 20000 in
theorem dX1_takeIn_7 : decode cX1_takeIn 7 = .ok (.aload_n 0, 1) := dc_42 (lxX1_takeIn 0 7 rfl)
set_option maxRecDepth 20000 in
theorem dX1_takeIn_8 : decode cX1_takeIn 8 = .ok (.getfield 26, 3) := dc_180 0 26 (lxX1_takeIn 0 8 rfl) (lxX1_takeIn 0 9 rfl) (lxX1_takeIn 0 10 rfl)
set_option maxRecDepth 20000 in
theorem dX1_takeIn_11 : decode cX1_takeIn 11 = .ok (.if_icmp .ge 13, 3) := dc_162 0 13 (lxX1_takeIn 0 11 rfl) (lxX1_takeIn 0 12 rfl) (lxX1_takeIn 0 13 rfl)
set_option maxRecDepth 20000 in
theorem dX1_takeIn_14 : decode cX1_takeIn 14 = .ok (.aload_n 0, 1) := dc_42 (lxX1_takeIn 0 14 rfl)
set_option maxRecDepth 20000 in
theorem dX1_takeIn_15 : decode cX1_takeIn 15 = .ok (.getfield 20, 3) := dc_180 0 20 (lxX1_takeIn 0 15 rfl) (lxX1_takeIn 1 0 rfl) (lxX1_takeIn 1 1 rfl)
set_option maxRecDepth 20000 in
theorem dX1_takeIn_18 : decode cX1_takeIn 18 = .ok (.invokevirtual 37, 3) := dc_182 0 37 (lxX1_takeIn 1 2 rfl) (lxX1_takeIn 1 3 rfl) (lxX1_takeIn 1 4 rfl)
set_option maxRecDepth 20000 in
theorem dX1_takeIn_21 : decode cX1_takeIn 21 = .ok (.ifCond .eq 5, 3) := dc_153 0 5 (lxX1_takeIn 1 5 rfl) (lxX1_takeIn 1 6 rfl) (lxX1_takeIn 1 7 rfl)
set_option maxRecDepth 20000 in
theorem dX1_takeIn_24 : decode cX1_takeIn 24 = .ok (.iconst 0, 1) := dc_3 (lxX1_takeIn 1 8 rfl)
set_option maxRecDepth 20000 in
theorem dX1_takeIn_25 : decode cX1_takeIn 25 = .ok (.ireturn, 1) := dc_172 (lxX1_takeIn 1 9 rfl)
set_option maxRecDepth 20000 in
theorem dX1_takeIn_26 : decode cX1_takeIn 26 = .ok (.aload_n 0, 1) := dc_42 (lxX1_takeIn 1 10 rfl)
set_option maxRecDepth 20000 in
theorem dX1_takeIn_27 : decode cX1_takeIn 27 = .ok (.getfield 14, 3) := dc_180 0 14 (lxX1_takeIn 1 11 rfl) (lxX1_takeIn 1 12 rfl) (lxX1_takeIn 1 13 rfl)
set_option maxRecDepth 20000 in
theorem dX1_takeIn_30 : decode cX1_takeIn 30 = .ok (.iload_n 1, 1) := dc_27 (lxX1_takeIn 1 14 rfl)
set_option maxRecDepth 20000 in
theorem dX1_takeIn_31 : decode cX1_takeIn 31 = .ok (.invokevirtual 41, 3) := dc_182 0 41 (lxX1_takeIn 1 15 rfl) (lxX1_takeIn 2 0 rfl) (lxX1_takeIn 2 1 rfl)
set_option maxRecDepth 20000 in
theorem dX1_takeIn_34 : decode cX1_takeIn 34 = .ok (.aload_n 0, 1) := dc_42 (lxX1_takeIn 2 2 rfl)
set_option maxRecDepth 20000 in
theorem dX1_takeIn_35 : decode cX1_takeIn 35 = .ok (.getfield 20, 3) := dc_180 0 20 (lxX1_takeIn 2 3 rfl) (lxX1_takeIn 2 4 rfl) (lxX1_takeIn 2 5 rfl)
set_option maxRecDepth 20000 in
theorem dX1_takeIn_38 : decode cX1_takeIn 38 = .ok (.iload_n 1, 1) := dc_27 (lxX1_takeIn 2 6 rfl)
set_option maxRecDepth 20000 in
theorem dX1_takeIn_39 : decode cX1_takeIn 39 = .ok (.invokevirtual 41, 3) := dc_182 0 41 (lxX1_takeIn 2 7 rfl) (lxX1_takeIn 2 8 rfl) (lxX1_takeIn 2 9 rfl)
set_option maxRecDepth 20000 in
theorem dX1_takeIn_42 : decode cX1_takeIn 42 = .ok (.iconst 1, 1) := dc_4 (lxX1_takeIn 2 10 rfl)
set_option maxRecDepth 20000 in
theorem dX1_takeIn_43 : decode cX1_takeIn 43 = .ok (.ireturn, 1) := dc_172 (lxX1_takeIn 2 11 rfl)
noncomputable def sgX1_giveOut : List (List Cond) := [[.code yX1_giveOut cX1_giveOut 2 (some .int)], wsX1_giveOut_r1, wsX1_giveOut_r2, wsX10, wsX20]
theorem seX1_giveOut : sgX1_giveOut.flatten = wsX1_giveOut := by simp only [sgX1_giveOut, wsX1_giveOut, List.flatten_cons, List.flatten_nil, List.append_assoc, List.append_nil, List.cons_append, List.nil_append]
set_option maxRecDepth 20000 in
theorem ggX1_giveOut_X2_takeFirst : GoodIn wsX1_giveOut wsX2_takeFirst := goodIn_s seX1_giveOut _ [pq_1_6, pq_1_7, pq_1_8, pq_1_9, pq_1_10, pq_1_11, pq_1_12, pq_1_13, pq_1_14, pq_1_5, pq_1_15, pq_1_16, pq_1_17, pq_1_18, pq_1_19, pq_1_20, pq_4_0, pq_4_1] (by rfl) gw_wsX2_takeFirst
set_option maxRecDepth 20000 in
theorem gX1_giveOut_X2_takeFirst : GoodIn wsX1_giveOut (wsV RX1 44 RX2 yX2_takeFirst wsX2_takeFirst) := goodIn_app (goodIn_s seX1_giveOut _ [pq_1_2, pq_1_3, pq_1_4, pq_1_5] (by rfl) (by decide +kernel)) ggX1_giveOut_X2_takeFirst
set_option maxRecDepth 20000 in
theorem ggX1_giveOut_X2_add : GoodIn wsX1_giveOut wsX2_add := goodIn_s seX1_giveOut _ [pq_2_0, pq_1_7, pq_1_16, pq_4_0, pq_4_1] (by rfl) gw_wsX2_add
set_option maxRecDepth 20000 in
theorem gX1_giveOut_X2_add : GoodIn wsX1_giveOut (wsV RX1 41 RX2 yX2_add wsX2_add) := goodIn_app (goodIn_s seX1_giveOut _ [pq_1_21, pq_1_22, pq_1_23, pq_1_5] (by rfl) (by decide +kernel)) ggX1_giveOut_X2_add
def lb_sgX1_giveOut : List (List UInt8) := [[42, 180, 0, 14, 182, 0, 44, 60, 42, 180, 0, 23, 27, 182, 0, 41], [27, 172]]
set_option maxRecDepth 100000 in
theorem lb_seX1_giveOut : cX1_giveOut.data.toList = lb_sgX1_giveOut.flatten := by decide +kernel
theorem lb_lnX1_giveOut : ∀ s ∈ lb_sgX1_giveOut.dropLast, s.length = 16 := by decide +kernel
theorem lxX1_giveOut (k j : Nat) {b : UInt8} (h : (lb_sgX1_giveOut[k]?).bind (fun s => s[j]?) = some b) : lb_at cX1_giveOut (16 * k + j) b := by
  unfold lb_at
  rw [lb_seX1_giveOut]
  exact lb_flat 16 lb_sgX1_giveOut k j b lb_lnX1_giveOut h
set_option maxRecDepth 20000 in
theorem dX1_giveOut_0 : decode cX1_giveOut 0 = .ok (.aload_n 0, 1) := dc_42 (lxX1_giveOut 0 0 rfl)
set_option maxRecDepth 20000 in
theorem dX1_giveOut_1 : decode cX1_giveOut 1 = .ok (.getfield 14, 3) := dc_180 0 14 (lxX1_giveOut 0 1 rfl) (lxX1_giveOut 0 2 rfl) (lxX1_giveOut 0 3 rfl)
set_option maxRecDepth 20000 in
theorem dX1_giveOut_4 : decode cX1_giveOut 4 = .ok (.invokevirtual 44, 3) := dc_182 0 44 (lxX1_giveOut 0 4 rfl) (lxX1_giveOut 0 5 rfl) (lxX1_giveOut 0 6 rfl)
set_option maxRecDepth 20000 in
theorem dX1_giveOut_7 : decode cX1_giveOut 7 = .ok (.istore_n 1, 1) := dc_60 (lxX1_giveOut 0 7 rfl)
set_option maxRecDepth 20000 in
theorem dX1_giveOut_8 : decode cX1_giveOut 8 = .ok (.aload_n 0, 1) := dc_42 (lxX1_giveOut 0 8 rfl)
set_option maxRecDepth 20000 in
theorem dX1_giveOut_9 : decode cX1_giveOut 9 = .ok (.getfield 23, 3) := dc_180 0 23 (lxX1_giveOut 0 9 rfl) (lxX1_giveOut 0 10 rfl) (lxX1_giveOut 0 11 rfl)
set_option maxRecDepth 20000 in
theorem dX1_giveOut_12 : decode cX1_giveOut 12 = .ok (.iload_n 1, 1) := dc_27 (lxX1_giveOut 0 12 rfl)
set_option maxRecDepth 20000 in
theorem dX1_giveOut_13 : decode cX1_giveOut 13 = .ok (.invokevirtual 41, 3) := dc_182 0 41 (lxX1_giveOut 0 13 rfl) (lxX1_giveOut 0 14 rfl) (lxX1_giveOut 0 15 rfl)
set_option maxRecDepth 20000 in
theorem dX1_giveOut_16 : decode cX1_giveOut 16 = .ok (.iload_n 1, 1) := dc_27 (lxX1_giveOut 1 0 rfl)
set_option maxRecDepth 20000 in
theorem dX1_giveOut_17 : decode cX1_giveOut 17 = .ok (.ireturn, 1) := dc_172 (lxX1_giveOut 1 1 rfl)
noncomputable def sgX1_isWhole : List (List Cond) := [[.code yX1_isWhole cX1_isWhole 1 (some .boolean)], wsX1_isWhole_r1, wsX1_isWhole_r2, wsX10, wsX20, wsX50]
theorem seX1_isWhole : sgX1_isWhole.flatten = wsX1_isWhole := by simp only [sgX1_isWhole, wsX1_isWhole, List.flatten_cons, List.flatten_nil, List.append_assoc, List.append_nil, List.cons_append, List.nil_append]
set_option maxRecDepth 20000 in
theorem ggX1_isWhole_X2_size : GoodIn wsX1_isWhole wsX2_size := goodIn_s seX1_isWhole _ [pq_1_7, pq_1_8, pq_4_0, pq_4_1] (by rfl) gw_wsX2_size
set_option maxRecDepth 20000 in
theorem gX1_isWhole_X2_size : GoodIn wsX1_isWhole (wsV RX1 33 RX2 yX2_size wsX2_size) := goodIn_app (goodIn_s seX1_isWhole _ [pq_1_3, pq_1_4, pq_1_5, pq_1_6] (by rfl) (by decide +kernel)) ggX1_isWhole_X2_size
set_option maxRecDepth 20000 in
theorem ggX1_isWhole_X6_matches : GoodIn wsX1_isWhole wsX6_matches := goodIn_s seX1_isWhole _ [pq_1_11, pq_1_12, pq_1_13, pq_1_14, pq_1_4, pq_1_6, pq_1_7, pq_1_8, pq_1_15, pq_1_16, pq_1_17, pq_1_18, pq_1_19, pq_1_20, pq_1_21, pq_1_22, pq_1_23, pq_2_0, pq_2_1, pq_2_2, pq_2_3, pq_2_4, pq_2_5, pq_2_6, pq_2_7, pq_2_8, pq_2_9, pq_2_10, pq_2_11, pq_4_0, pq_4_1, pq_5_0, pq_5_1, pq_5_2, pq_5_3, pq_5_4, pq_5_5] (by rfl) gw_wsX6_matches
set_option maxRecDepth 20000 in
theorem gX1_isWhole_X6_matches_n47 : GoodIn wsX1_isWhole (wsX6_matches) := ggX1_isWhole_X6_matches
def lb_sgX1_isWhole : List (List UInt8) := [[42, 180, 0, 23, 182, 0, 33, 42, 180, 0, 14, 182, 0, 33, 96, 42], [180, 0, 20, 182, 0, 33, 160, 0, 59, 42, 180, 0, 23, 3, 42, 180], [0, 23, 182, 0, 33, 42, 180, 0, 20, 3, 184, 0, 47, 153, 0, 36], [42, 180, 0, 14, 3, 42, 180, 0, 14, 182, 0, 33, 42, 180, 0, 20], [42, 180, 0, 23, 182, 0, 33, 184, 0, 47, 153, 0, 7, 4, 167, 0], [4, 3, 172]]
set_option maxRecDepth 100000 in
theorem lb_seX1_isWhole : cX1_isWhole.data.toList = lb_sgX1_isWhole.flatten := by decide +kernel
theorem lb_lnX1_isWhole : ∀ s ∈ lb_sgX1_isWhole.dropLast, s.length = 16 := by decide +kernel
theorem lxX1_isWhole (k j : Nat) {b : UInt8} (h : (lb_sgX1_isWhole[k]?).bind (fun s => s[j]?) = some b) : lb_at cX1_isWhole (16 * k + j) b := by
  unfold lb_at
  rw [lb_seX1_isWhole]
  exact lb_flat 16 lb_sgX1_isWhole k j b lb_lnX1_isWhole h
set_option maxRecDepth 20000 in
theorem dX1_isWhole_0 : decode cX1_isWhole 0 = .ok (.aload_n 0, 1) := dc_42 (lxX1_isWhole 0 0 rfl)
set_option maxRecDepth 20000 in
theorem dX1_isWhole_1 : decode cX1_isWhole 1 = .ok (.getfield 23, 3) := dc_180 0 23 (lxX1_isWhole 0 1 rfl) (lxX1_isWhole 0 2 rfl) (lxX1_isWhole 0 3 rfl)
set_option maxRecDepth 20000 in
theorem dX1_isWhole_4 : decode cX1_isWhole 4 = .ok (.invokevirtual 33, 3) := dc_182 0 33 (lxX1_isWhole 0 4 rfl) (lxX1_isWhole 0 5 rfl) (lxX1_isWhole 0 6 rfl)
set_option maxRecDepth 20000 in
theorem dX1_isWhole_7 : decode cX1_isWhole 7 = .ok (.aload_n 0, 1) := dc_42 (lxX1_isWhole 0 7 rfl)
set_option maxRecDepth 20000 in
theorem dX1_isWhole_8 : decode cX1_isWhole 8 = .ok (.getfield 14, 3) := dc_180 0 14 (lxX1_isWhole 0 8 rfl) (lxX1_isWhole 0 9 rfl) (lxX1_isWhole 0 10 rfl)
set_option maxRecDepth 20000 in
theorem dX1_isWhole_11 : decode cX1_isWhole 11 = .ok (.invokevirtual 33, 3) := dc_182 0 33 (lxX1_isWhole 0 11 rfl) (lxX1_isWhole 0 12 rfl) (lxX1_isWhole 0 13 rfl)
set_option maxRecDepth 20000 in
theorem dX1_isWhole_14 : decode cX1_isWhole 14 = .ok (.iadd, 1) := dc_96 (lxX1_isWhole 0 14 rfl)
set_option maxRecDepth 20000 in
theorem dX1_isWhole_15 : decode cX1_isWhole 15 = .ok (.aload_n 0, 1) := dc_42 (lxX1_isWhole 0 15 rfl)
set_option maxRecDepth 20000 in
theorem dX1_isWhole_16 : decode cX1_isWhole 16 = .ok (.getfield 20, 3) := dc_180 0 20 (lxX1_isWhole 1 0 rfl) (lxX1_isWhole 1 1 rfl) (lxX1_isWhole 1 2 rfl)
set_option maxRecDepth 20000 in
theorem dX1_isWhole_19 : decode cX1_isWhole 19 = .ok (.invokevirtual 33, 3) := dc_182 0 33 (lxX1_isWhole 1 3 rfl) (lxX1_isWhole 1 4 rfl) (lxX1_isWhole 1 5 rfl)
set_option maxRecDepth 20000 in
theorem dX1_isWhole_22 : decode cX1_isWhole 22 = .ok (.if_icmp .ne 59, 3) := dc_160 0 59 (lxX1_isWhole 1 6 rfl) (lxX1_isWhole 1 7 rfl) (lxX1_isWhole 1 8 rfl)
set_option maxRecDepth 20000 in
theorem dX1_isWhole_25 : decode cX1_isWhole 25 = .ok (.aload_n 0, 1) := dc_42 (lxX1_isWhole 1 9 rfl)
set_option maxRecDepth 20000 in
theorem dX1_isWhole_26 : decode cX1_isWhole 26 = .ok (.getfield 23, 3) := dc_180 0 23 (lxX1_isWhole 1 10 rfl) (lxX1_isWhole 1 11 rfl) (lxX1_isWhole 1 12 rfl)
set_option maxRecDepth 20000 in
theorem dX1_isWhole_29 : decode cX1_isWhole 29 = .ok (.iconst 0, 1) := dc_3 (lxX1_isWhole 1 13 rfl)
set_option maxRecDepth 20000 in
theorem dX1_isWhole_30 : decode cX1_isWhole 30 = .ok (.aload_n 0, 1) := dc_42 (lxX1_isWhole 1 14 rfl)
set_option maxRecDepth 20000 in
theorem dX1_isWhole_31 : decode cX1_isWhole 31 = .ok (.getfield 23, 3) := dc_180 0 23 (lxX1_isWhole 1 15 rfl) (lxX1_isWhole 2 0 rfl) (lxX1_isWhole 2 1 rfl)
set_option maxRecDepth 20000 in
theorem dX1_isWhole_34 : decode cX1_isWhole 34 = .ok (.invokevirtual 33, 3) := dc_182 0 33 (lxX1_isWhole 2 2 rfl) (lxX1_isWhole 2 3 rfl) (lxX1_isWhole 2 4 rfl)
set_option maxRecDepth 20000 in
theorem dX1_isWhole_37 : decode cX1_isWhole 37 = .ok (.aload_n 0, 1) := dc_42 (lxX1_isWhole 2 5 rfl)
set_option maxRecDepth 20000 in
theorem dX1_isWhole_38 : decode cX1_isWhole 38 = .ok (.getfield 20, 3) := dc_180 0 20 (lxX1_isWhole 2 6 rfl) (lxX1_isWhole 2 7 rfl) (lxX1_isWhole 2 8 rfl)
set_option maxRecDepth 20000 in
theorem dX1_isWhole_41 : decode cX1_isWhole 41 = .ok (.iconst 0, 1) := dc_3 (lxX1_isWhole 2 9 rfl)
set_option maxRecDepth 20000 in
theorem dX1_isWhole_42 : decode cX1_isWhole 42 = .ok (.invokestatic 47, 3) := dc_184 0 47 (lxX1_isWhole 2 10 rfl) (lxX1_isWhole 2 11 rfl) (lxX1_isWhole 2 12 rfl)
set_option maxRecDepth 20000 in
theorem dX1_isWhole_45 : decode cX1_isWhole 45 = .ok (.ifCond .eq 36, 3) := dc_153 0 36 (lxX1_isWhole 2 13 rfl) (lxX1_isWhole 2 14 rfl) (lxX1_isWhole 2 15 rfl)
set_option maxRecDepth 20000 in
theorem dX1_isWhole_48 : decode cX1_isWhole 48 = .ok (.aload_n 0, 1) := dc_42 (lxX1_isWhole 3 0 rfl)
set_option maxRecDepth 20000 in
theorem dX1_isWhole_49 : decode cX1_isWhole 49 = .ok (.getfield 14, 3) := dc_180 0 14 (lxX1_isWhole 3 1 rfl) (lxX1_isWhole 3 2 rfl) (lxX1_isWhole 3 3 rfl)
set_option maxRecDepth 20000 in
theorem dX1_isWhole_52 : decode cX1_isWhole 52 = .ok (.iconst 0, 1) := dc_3 (lxX1_isWhole 3 4 rfl)
set_option maxRecDepth 20000 in
theorem dX1_isWhole_53 : decode cX1_isWhole 53 = .ok (.aload_n 0, 1) := dc_42 (lxX1_isWhole 3 5 rfl)
set_option maxRecDepth 20000 in
theorem dX1_isWhole_54 : decode cX1_isWhole 54 = .ok (.getfield 14, 3) := dc_180 0 14 (lxX1_isWhole 3 6 rfl) (lxX1_isWhole 3 7 rfl) (lxX1_isWhole 3 8 rfl)
set_option maxRecDepth 20000 in
theorem dX1_isWhole_57 : decode cX1_isWhole 57 = .ok (.invokevirtual 33, 3) := dc_182 0 33 (lxX1_isWhole 3 9 rfl) (lxX1_isWhole 3 10 rfl) (lxX1_isWhole 3 11 rfl)
set_option maxRecDepth 20000 in
theorem dX1_isWhole_60 : decode cX1_isWhole 60 = .ok (.aload_n 0, 1) := dc_42 (lxX1_isWhole 3 12 rfl)
set_option maxRecDepth 20000 in
theorem dX1_isWhole_61 : decode cX1_isWhole 61 = .ok (.getfield 20, 3) := dc_180 0 20 (lxX1_isWhole 3 13 rfl) (lxX1_isWhole 3 14 rfl) (lxX1_isWhole 3 15 rfl)
set_option maxRecDepth 20000 in
theorem dX1_isWhole_64 : decode cX1_isWhole 64 = .ok (.aload_n 0, 1) := dc_42 (lxX1_isWhole 4 0 rfl)
set_option maxRecDepth 20000 in
theorem dX1_isWhole_65 : decode cX1_isWhole 65 = .ok (.getfield 23, 3) := dc_180 0 23 (lxX1_isWhole 4 1 rfl) (lxX1_isWhole 4 2 rfl) (lxX1_isWhole 4 3 rfl)
set_option maxRecDepth 20000 in
theorem dX1_isWhole_68 : decode cX1_isWhole 68 = .ok (.invokevirtual 33, 3) := dc_182 0 33 (lxX1_isWhole 4 4 rfl) (lxX1_isWhole 4 5 rfl) (lxX1_isWhole 4 6 rfl)
set_option maxRecDepth 20000 in
theorem dX1_isWhole_71 : decode cX1_isWhole 71 = .ok (.invokestatic 47, 3) := dc_184 0 47 (lxX1_isWhole 4 7 rfl) (lxX1_isWhole 4 8 rfl) (lxX1_isWhole 4 9 rfl)
set_option maxRecDepth 20000 in
theorem dX1_isWhole_74 : decode cX1_isWhole 74 = .ok (.ifCond .eq 7, 3) := dc_153 0 7 (lxX1_isWhole 4 10 rfl) (lxX1_isWhole 4 11 rfl) (lxX1_isWhole 4 12 rfl)
set_option maxRecDepth 20000 in
theorem dX1_isWhole_77 : decode cX1_isWhole 77 = .ok (.iconst 1, 1) := dc_4 (lxX1_isWhole 4 13 rfl)
set_option maxRecDepth 20000 in
theorem dX1_isWhole_78 : decode cX1_isWhole 78 = .ok (.goto 4, 3) := dc_167 0 4 (lxX1_isWhole 4 14 rfl) (lxX1_isWhole 4 15 rfl) (lxX1_isWhole 5 0 rfl)
set_option maxRecDepth 20000 in
theorem dX1_isWhole_81 : decode cX1_isWhole 81 = .ok (.iconst 0, 1) := dc_3 (lxX1_isWhole 5 1 rfl)
set_option maxRecDepth 20000 in
theorem dX1_isWhole_82 : decode cX1_isWhole 82 = .ok (.ireturn, 1) := dc_172 (lxX1_isWhole 5 2 rfl)
