noncomputable def sgX8_init : List (List Cond) := [[.code yX8_init cX8_init 2 none], [.methodLink RX8 1 objectInit, .instanceMethod objectInit, .code objectInit ⟨#[0xb1]⟩ 1 none, .arrayClass .int, .fieldLink RX8 7 "SashwordsModel" "tape" "[I", .classLink RX8 13 "[I", .fieldLink RX8 14 "SashwordsModel" "windows" "[[I", .fieldLink RX8 18 "SashwordsModel" "built" "[I", .fieldLink RX8 21 "SashwordsModel" "kept" "[I", .fieldLink RX8 24 "SashwordsModel" "sent" "[I", .fieldLink RX8 27 "SashwordsModel" "size" "I", .fieldLink RX8 31 "SashwordsModel" "tallies" "[I", .methodLink RX8 34 yX8_fresh, .instanceMethod yX8_fresh, .selects RX8 yX8_fresh yX8_fresh, .initialized RX8, .code yX8_fresh cX8_fresh 3 (some (.array .int)), .fieldLink RX8 45 "SashwordsModel" "end" "I", .methodLink RX8 48 arraycopyName, .native arraycopyName, .static arraycopyName, .initialized "java/lang/System"], wsX80]
theorem seX8_init : sgX8_init.flatten = wsX8_init := by simp only [sgX8_init, wsX8_init, List.flatten_cons, List.flatten_nil, List.append_assoc, List.append_nil, List.cons_append, List.nil_append]
set_option maxRecDepth 20000 in
theorem ggX8_init_X8_fresh : GoodIn wsX8_init wsX8_fresh := goodIn_s seX8_init _ [pq_1_16, pq_1_17, pq_1_4, pq_1_3, pq_1_18, pq_1_19, pq_1_20, pq_1_21, pq_2_0, pq_2_1, pq_2_2, pq_2_3, pq_2_4, pq_2_5, pq_2_6, pq_2_7, pq_2_8, pq_2_9, pq_2_10] (by rfl) (by decide +kernel)
set_option maxRecDepth 20000 in
theorem gX8_init_X8_fresh : GoodIn wsX8_init (wsV RX8 34 RX8 yX8_fresh wsX8_fresh) := goodIn_app (goodIn_s seX8_init _ [pq_1_12, pq_1_13, pq_1_14, pq_1_15] (by rfl) (by decide +kernel)) ggX8_init_X8_fresh
def lb_sgX8_init : List (List UInt8) := [[42, 183, 0, 1, 42, 17, 0, 200, 188, 10, 181, 0, 7, 42, 16, 6], [189, 0, 13, 181, 0, 14, 42, 3, 188, 10, 181, 0, 18, 42, 3, 188], [10, 181, 0, 21, 42, 17, 0, 160, 188, 10, 181, 0, 24, 42, 7, 181], [0, 27, 42, 7, 188, 10, 181, 0, 31, 3, 60, 27, 16, 6, 162, 0], [21, 42, 180, 0, 14, 27, 42, 16, 12, 182, 0, 34, 83, 132, 1, 1], [167, 255, 235, 177]]
set_option maxRecDepth 100000 in
theorem lb_seX8_init : cX8_init.data.toList = lb_sgX8_init.flatten := by decide +kernel
theorem lb_lnX8_init : ∀ s ∈ lb_sgX8_init.dropLast, s.length = 16 := by decide +kernel
theorem lxX8_init (k j : Nat) {b : UInt8} (h : (lb_sgX8_init[k]?).bind (fun s => s[j]?) = some b) : lb_at cX8_init (16 * k + j) b := by
  unfold lb_at
  rw [lb_seX8_init]
  exact lb_flat 16 lb_sgX8_init k j b lb_lnX8_init h
set_option maxRecDepth 20000 in
theorem dX8_init_0 : decode cX8_init 0 = .ok (.aload_n 0, 1) := dc_42 (lxX8_init 0 0 rfl)
set_option maxRecDepth 20000 in
theorem dX8_init_1 : decode cX8_init 1 = .ok (.invokespecial 1, 3) := dc_183 0 1 (lxX8_init 0 1 rfl) (lxX8_init 0 2 rfl) (lxX8_init 0 3 rfl)
set_option maxRecDepth 20000 in
theorem dX8_init_4 : decode cX8_init 4 = .ok (.aload_n 0, 1) := dc_42 (lxX8_init 0 4 rfl)
set_option maxRecDepth 20000 in
theorem dX8_init_5 : decode cX8_init 5 = .ok (.sipush 200, 3) := dc_17 0 200 (lxX8_init 0 5 rfl) (lxX8_init 0 6 rfl) (lxX8_init 0 7 rfl)
theorem dX8_init_8 : decode cX8_init 8 = .ok (.newarray .int, 2) := by decide +kernel
set_option maxRecDepth 20000 in
theorem dX8_init_10 : decode cX8_init 10 = .ok (.putfield 7, 3) := dc_181 0 7 (lxX8_init 0 10 rfl) (lxX8_init 0 11 rfl) (lxX8_init 0 12 rfl)
set_option maxRecDepth 20000 in
theorem dX8_init_13 : decode cX8_init 13 = .ok (.aload_n 0, 1) := dc_42 (lxX8_init 0 13 rfl)
set_option maxRecDepth 20000 in
theorem dX8_init_14 : decode cX8_init 14 = .ok (.bipush 6, 2) := dc_16 6 (lxX8_init 0 14 rfl) (lxX8_init 0 15 rfl)
set_option maxRecDepth 20000 in
theorem dX8_init_16 : decode cX8_init 16 = .ok (.anewarray 13, 3) := dc_189 0 13 (lxX8_init 1 0 rfl) (lxX8_init 1 1 rfl) (lxX8_init 1 2 rfl)
set_option maxRecDepth 20000 in
theorem dX8_init_19 : decode cX8_init 19 = .ok (.putfield 14, 3) := dc_181 0 14 (lxX8_init 1 3 rfl) (lxX8_init 1 4 rfl) (lxX8_init 1 5 rfl)
set_option maxRecDepth 20000 in
theorem dX8_init_22 : decode cX8_init 22 = .ok (.aload_n 0, 1) := dc_42 (lxX8_init 1 6 rfl)
set_option maxRecDepth 20000 in
theorem dX8_init_23 : decode cX8_init 23 = .ok (.iconst 0, 1) := dc_3 (lxX8_init 1 7 rfl)
theorem dX8_init_24 : decode cX8_init 24 = .ok (.newarray .int, 2) := by decide +kernel
set_option maxRecDepth 20000 in
theorem dX8_init_26 : decode cX8_init 26 = .ok (.putfield 18, 3) := dc_181 0 18 (lxX8_init 1 10 rfl) (lxX8_init 1 11 rfl) (lxX8_init 1 12 rfl)
set_option maxRecDepth 20000 in
theorem dX8_init_29 : decode cX8_init 29 = .ok (.aload_n 0, 1) := dc_42 (lxX8_init 1 13 rfl)
set_option maxRecDepth 20000 in
theorem dX8_init_30 : decode cX8_init 30 = .ok (.iconst 0, 1) := dc_3 (lxX8_init 1 14 rfl)
theorem dX8_init_31 : decode cX8_init 31 = .ok (.newarray .int, 2) := by decide +kernel
set_option maxRecDepth 20000 in
theorem dX8_init_33 : decode cX8_init 33 = .ok (.putfield 21, 3) := dc_181 0 21 (lxX8_init 2 1 rfl) (lxX8_init 2 2 rfl) (lxX8_init 2 3 rfl)
set_option maxRecDepth 20000 in
theorem dX8_init_36 : decode cX8_init 36 = .ok (.aload_n 0, 1) := dc_42 (lxX8_init 2 4 rfl)
set_option maxRecDepth 20000 in
theorem dX8_init_37 : decode cX8_init 37 = .ok (.sipush 160, 3) := dc_17 0 160 (lxX8_init 2 5 rfl) (lxX8_init 2 6 rfl) (lxX8_init 2 7 rfl)
theorem dX8_init_40 : decode cX8_init 40 = .ok (.newarray .int, 2) := by decide +kernel
set_option maxRecDepth 20000 in
theorem dX8_init_42 : decode cX8_init 42 = .ok (.putfield 24, 3) := dc_181 0 24 (lxX8_init 2 10 rfl) (lxX8_init 2 11 rfl) (lxX8_init 2 12 rfl)
set_option maxRecDepth 20000 in
theorem dX8_init_45 : decode cX8_init 45 = .ok (.aload_n 0, 1) := dc_42 (lxX8_init 2 13 rfl)
set_option maxRecDepth 20000 in
theorem dX8_init_46 : decode cX8_init 46 = .ok (.iconst 4, 1) := dc_7 (lxX8_init 2 14 rfl)
set_option maxRecDepth 20000 in
theorem dX8_init_47 : decode cX8_init 47 = .ok (.putfield 27, 3) := dc_181 0 27 (lxX8_init 2 15 rfl) (lxX8_init 3 0 rfl) (lxX8_init 3 1 rfl)
set_option maxRecDepth 20000 in
theorem dX8_init_50 : decode cX8_init 50 = .ok (.aload_n 0, 1) := dc_42 (lxX8_init 3 2 rfl)
set_option maxRecDepth 20000 in
theorem dX8_init_51 : decode cX8_init 51 = .ok (.iconst 4, 1) := dc_7 (lxX8_init 3 3 rfl)
theorem dX8_init_52 : decode cX8_init 52 = .ok (.newarray .int, 2) := by decide +kernel
set_option maxRecDepth 20000 in
theorem dX8_init_54 : decode cX8_init 54 = .ok (.putfield 31, 3) := dc_181 0 31 (lxX8_init 3 6 rfl) (lxX8_init 3 7 rfl) (lxX8_init 3 8 rfl)
set_option maxRecDepth 20000 in
theorem dX8_init_57 : decode cX8_init 57 = .ok (.iconst 0, 1) := dc_3 (lxX8_init 3 9 rfl)
set_option maxRecDepth 20000 in
theorem dX8_init_58 : decode cX8_init 58 = .ok (.istore_n 1, 1) := dc_60 (lxX8_init 3 10 rfl)
set_option maxRecDepth 20000 in
theorem dX8_init_59 : decode cX8_init 59 = .ok (.iload_n 1, 1) := dc_27 (lxX8_init 3 11 rfl)
set_option maxRecDepth 20000 in
theorem dX8_init_60 : decode cX8_init 60 = .ok (.bipush 6, 2) := dc_16 6 (lxX8_init 3 12 rfl) (lxX8_init 3 13 rfl)
set_option maxRecDepth 20000 in
theorem dX8_init_62 : decode cX8_init 62 = .ok (.if_icmp .ge 21, 3) := dc_162 0 21 (lxX8_init 3 14 rfl) (lxX8_init 3 15 rfl) (lxX8_init 4 0 rfl)
set_option maxRecDepth 20000 in
theorem dX8_init_65 : decode cX8_init 65 = .ok (.aload_n 0, 1) := dc_42 (lxX8_init 4 1 rfl)
set_option maxRecDepth 20000 in
theorem dX8_init_66 : decode cX8_init 66 = .ok (.getfield 14, 3) := dc_180 0 14 (lxX8_init 4 2 rfl) (lxX8_init 4 3 rfl) (lxX8_init 4 4 rfl)
set_option maxRecDepth 20000 in
theorem dX8_init_69 : decode cX8_init 69 = .ok (.iload_n 1, 1) := dc_27 (lxX8_init 4 5 rfl)
set_option maxRecDepth 20000 in
theorem dX8_init_70 : decode cX8_init 70 = .ok (.aload_n 0, 1) := dc_42 (lxX8_init 4 6 rfl)
set_option maxRecDepth 20000 in
theorem dX8_init_71 : decode cX8_init 71 = .ok (.bipush 12, 2) := dc_16 12 (lxX8_init 4 7 rfl) (lxX8_init 4 8 rfl)
set_option maxRecDepth 20000 in
theorem dX8_init_73 : decode cX8_init 73 = .ok (.invokevirtual 34, 3) := dc_182 0 34 (lxX8_init 4 9 rfl) (lxX8_init 4 10 rfl) (lxX8_init 4 11 rfl)
set_option maxRecDepth 20000 in
theorem dX8_init_76 : decode cX8_init 76 = .ok (.aastore, 1) := dc_83 (lxX8_init 4 12 rfl)
set_option maxRecDepth 20000 in
theorem dX8_init_77 : decode cX8_init 77 = .ok (.iinc 1 1, 3) := dc_132 1 1 (lxX8_init 4 13 rfl) (lxX8_init 4 14 rfl) (lxX8_init 4 15 rfl)
set_option maxRecDepth 20000 in
theorem dX8_init_80 : decode cX8_init 80 = .ok (.goto (-21), 3) := dc_167 255 235 (lxX8_init 5 0 rfl) (lxX8_init 5 1 rfl) (lxX8_init 5 2 rfl)
set_option maxRecDepth 20000 in
theorem dX8_init_83 : decode cX8_init 83 = .ok (.return_, 1) := dc_177 (lxX8_init 5 3 rfl)
set_option maxRecDepth 20000 in
theorem dX8_thrown_0 : decode cX8_thrown 0 = .ok (.aload_n 0, 1) := dc_42 rfl
set_option maxRecDepth 20000 in
theorem dX8_thrown_1 : decode cX8_thrown 1 = .ok (.getfield 38, 3) := dc_180 0 38 rfl rfl rfl
set_option maxRecDepth 20000 in
theorem dX8_thrown_4 : decode cX8_thrown 4 = .ok (.ireturn, 1) := dc_172 rfl
def lb_sgX8_isThrown : List (List UInt8) := [[42, 27, 153, 0, 7, 4, 167, 0, 12, 28, 153, 0, 7, 5, 167, 0], [4, 3, 181, 0, 38, 42, 180, 0, 38, 158, 0, 7, 4, 167, 0, 4], [3, 172]]
set_option maxRecDepth 100000 in
theorem lb_seX8_isThrown : cX8_isThrown.data.toList = lb_sgX8_isThrown.flatten := by decide +kernel
theorem lb_lnX8_isThrown : ∀ s ∈ lb_sgX8_isThrown.dropLast, s.length = 16 := by decide +kernel
theorem lxX8_isThrown (k j : Nat) {b : UInt8} (h : (lb_sgX8_isThrown[k]?).bind (fun s => s[j]?) = some b) : lb_at cX8_isThrown (16 * k + j) b := by
  unfold lb_at
  rw [lb_seX8_isThrown]
  exact lb_flat 16 lb_sgX8_isThrown k j b lb_lnX8_isThrown h
set_option maxRecDepth 20000 in
theorem dX8_isThrown_0 : decode cX8_isThrown 0 = .ok (.aload_n 0, 1) := dc_42 (lxX8_isThrown 0 0 rfl)
set_option maxRecDepth 20000 in
theorem dX8_isThrown_1 : decode cX8_isThrown 1 = .ok (.iload_n 1, 1) := dc_27 (lxX8_isThrown 0 1 rfl)
set_option maxRecDepth 20000 in
theorem dX8_isThrown_2 : decode cX8_isThrown 2 = .ok (.ifCond .eq 7, 3) := dc_153 0 7 (lxX8_isThrown 0 2 rfl) (lxX8_isThrown 0 3 rfl) (lxX8_isThrown 0 4 rfl)
set_option maxRecDepth 20000 in
theorem dX8_isThrown_5 : decode cX8_isThrown 5 = .ok (.iconst 1, 1) := dc_4 (lxX8_isThrown 0 5 rfl)
set_option maxRecDepth 20000 in
theorem dX8_isThrown_6 : decode cX8_isThrown 6 = .ok (.goto 12, 3) := dc_167 0 12 (lxX8_isThrown 0 6 rfl) (lxX8_isThrown 0 7 rfl) (lxX8_isThrown 0 8 rfl)
set_option maxRecDepth 20000 in
theorem dX8_isThrown_9 : decode cX8_isThrown 9 = .ok (.iload_n 2, 1) := dc_28 (lxX8_isThrown 0 9 rfl)
set_option maxRecDepth 20000 in
theorem dX8_isThrown_10 : decode cX8_isThrown 10 = .ok (.ifCond .eq 7, 3) := dc_153 0 7 (lxX8_isThrown 0 10 rfl) (lxX8_isThrown 0 11 rfl) (lxX8_isThrown 0 12 rfl)
set_option maxRecDepth 20000 in
theorem dX8_isThrown_13 : decode cX8_isThrown 13 = .ok (.iconst 2, 1) := dc_5 (lxX8_isThrown 0 13 rfl)
set_option maxRecDepth 20000 in
theorem dX8_isThrown_14 : decode cX8_isThrown 14 = .ok (.goto 4, 3) := dc_167 0 4 (lxX8_isThrown 0 14 rfl) (lxX8_isThrown 0 15 rfl) (lxX8_isThrown 1 0 rfl)
set_option maxRecDepth 20000 in
theorem dX8_isThrown_17 : decode cX8_isThrown 17 = .ok (.iconst 0, 1) := dc_3 (lxX8_isThrown 1 1 rfl)
set_option maxRecDepth 20000 in
theorem dX8_isThrown_18 : decode cX8_isThrown 18 = .ok (.putfield 38, 3) := dc_181 0 38 (lxX8_isThrown 1 2 rfl) (lxX8_isThrown 1 3 rfl) (lxX8_isThrown 1 4 rfl)
set_option maxRecDepth 20000 in
theorem dX8_isThrown_21 : decode cX8_isThrown 21 = .ok (.aload_n 0, 1) := dc_42 (lxX8_isThrown 1 5 rfl)
set_option maxRecDepth 20000 in
theorem dX8_isThrown_22 : decode cX8_isThrown 22 = .ok (.getfield 38, 3) := dc_180 0 38 (lxX8_isThrown 1 6 rfl) (lxX8_isThrown 1 7 rfl) (lxX8_isThrown 1 8 rfl)
set_option maxRecDepth 20000 in
theorem dX8_isThrown_25 : decode cX8_isThrown 25 = .ok (.ifCond .le 7, 3) := dc_158 0 7 (lxX8_isThrown 1 9 rfl) (lxX8_isThrown 1 10 rfl) (lxX8_isThrown 1 11 rfl)
set_option maxRecDepth 20000 in
theorem dX8_isThrown_28 : decode cX8_isThrown 28 = .ok (.iconst 1, 1) := dc_4 (lxX8_isThrown 1 12 rfl)
set_option maxRecDepth 20000 in
theorem dX8_isThrown_29 : decode cX8_isThrown 29 = .ok (.goto 4, 3) := dc_167 0 4 (lxX8_isThrown 1 13 rfl) (lxX8_isThrown 1 14 rfl) (lxX8_isThrown 1 15 rfl)
set_option maxRecDepth 20000 in
theorem dX8_isThrown_32 : decode cX8_isThrown 32 = .ok (.iconst 0, 1) := dc_3 (lxX8_isThrown 2 0 rfl)
set_option maxRecDepth 20000 in
theorem dX8_isThrown_33 : decode cX8_isThrown 33 = .ok (.ireturn, 1) := dc_172 (lxX8_isThrown 2 1 rfl)
def lb_sgX8_isNo : List (List UInt8) := [[26, 27, 161, 0, 8, 26, 28, 164, 0, 7, 4, 167, 0, 4, 3, 172]]
set_option maxRecDepth 100000 in
theorem lb_seX8_isNo : cX8_isNo.data.toList = lb_sgX8_isNo.flatten := by decide +kernel
theorem lb_lnX8_isNo : ∀ s ∈ lb_sgX8_isNo.dropLast, s.length = 16 := by decide +kernel
theorem lxX8_isNo (k j : Nat) {b : UInt8} (h : (lb_sgX8_isNo[k]?).bind (fun s => s[j]?) = some b) : lb_at cX8_isNo (16 * k + j) b := by
  unfold lb_at
  rw [lb_seX8_isNo]
  exact lb_flat 16 lb_sgX8_isNo k j b lb_lnX8_isNo h
set_option maxRecDepth 20000 in
theorem dX8_isNo_0 : decode cX8_isNo 0 = .ok (.iload_n 0, 1) := dc_26 (lxX8_isNo 0 0 rfl)
set_option maxRecDepth 20000 in
theorem dX8_isNo_1 : decode cX8_isNo 1 = .ok (.iload_n 1, 1) := dc_27 (lxX8_isNo 0 1 rfl)
set_option maxRecDepth 20000 in
theorem dX8_isNo_2 : decode cX8_isNo 2 = .ok (.if_icmp .lt 8, 3) := dc_161 0 8 (lxX8_isNo 0 2 rfl) (lxX8_isNo 0 3 rfl) (lxX8_isNo 0 4 rfl)
set_option maxRecDepth 20000 in
theorem dX8_isNo_5 : decode cX8_isNo 5 = .ok (.iload_n 0, 1) := dc_26 (lxX8_isNo 0 5 rfl)
set_option maxRecDepth 20000 in
theorem dX8_isNo_6 : decode cX8_isNo 6 = .ok (.iload_n 2, 1) := dc_28 (lxX8_isNo 0 6 rfl)
set_option maxRecDepth 20000 in
theorem dX8_isNo_7 : decode cX8_isNo 7 = .ok (.if_icmp .le 7, 3) := dc_164 0 7 (lxX8_isNo 0 7 rfl) (lxX8_isNo 0 8 rfl) (lxX8_isNo 0 9 rfl)
set_option maxRecDepth 20000 in
theorem dX8_isNo_10 : decode cX8_isNo 10 = .ok (.iconst 1, 1) := dc_4 (lxX8_isNo 0 10 rfl)
set_option maxRecDepth 20000 in
theorem dX8_isNo_11 : decode cX8_isNo 11 = .ok (.goto 4, 3) := dc_167 0 4 (lxX8_isNo 0 11 rfl) (lxX8_isNo 0 12 rfl) (lxX8_isNo 0 13 rfl)
set_option maxRecDepth 20000 in
theorem dX8_isNo_14 : decode cX8_isNo 14 = .ok (.iconst 0, 1) := dc_3 (lxX8_isNo 0 14 rfl)
set_option maxRecDepth 20000 in
theorem dX8_isNo_15 : decode cX8_isNo 15 = .ok (.ireturn, 1) := dc_172 (lxX8_isNo 0 15 rfl)
noncomputable def sgX8_isNoWindow : List (List Cond) := [[.code yX8_isNoWindow cX8_isNoWindow 1 (some .boolean)], [.methodLink RX8 41 yX8_isNo, .static yX8_isNo, .initialized RX8, .code yX8_isNo cX8_isNo 3 (some .boolean)]]
theorem seX8_isNoWindow : sgX8_isNoWindow.flatten = wsX8_isNoWindow := by simp only [sgX8_isNoWindow, wsX8_isNoWindow, List.flatten_cons, List.flatten_nil, List.append_assoc, List.append_nil, List.cons_append, List.nil_append]
set_option maxRecDepth 20000 in
theorem ggX8_isNoWindow_X8_isNo : GoodIn wsX8_isNoWindow wsX8_isNo := goodIn_s seX8_isNoWindow _ [pq_1_3] (by rfl) (by decide +kernel)
set_option maxRecDepth 20000 in
theorem gX8_isNoWindow_X8_isNo : GoodIn wsX8_isNoWindow (va_wsS RX8 41 yX8_isNo wsX8_isNo) := goodIn_app (goodIn_s seX8_isNoWindow _ [pq_1_0, pq_1_1, pq_1_2] (by rfl) (by decide +kernel)) ggX8_isNoWindow_X8_isNo
set_option maxRecDepth 20000 in
theorem dX8_isNoWindow_0 : decode cX8_isNoWindow 0 = .ok (.iload_n 0, 1) := dc_26 rfl
set_option maxRecDepth 20000 in
theorem dX8_isNoWindow_1 : decode cX8_isNoWindow 1 = .ok (.iconst 0, 1) := dc_3 rfl
set_option maxRecDepth 20000 in
theorem dX8_isNoWindow_2 : decode cX8_isNoWindow 2 = .ok (.iconst 5, 1) := dc_8 rfl
set_option maxRecDepth 20000 in
theorem dX8_isNoWindow_3 : decode cX8_isNoWindow 3 = .ok (.invokestatic 41, 3) := dc_184 0 41 rfl rfl rfl
set_option maxRecDepth 20000 in
theorem dX8_isNoWindow_6 : decode cX8_isNoWindow 6 = .ok (.ireturn, 1) := dc_172 rfl
noncomputable def sgX8_isNoSource : List (List Cond) := [[.code yX8_isNoSource cX8_isNoSource 1 (some .boolean)], [.methodLink RX8 41 yX8_isNo, .static yX8_isNo, .initialized RX8, .code yX8_isNo cX8_isNo 3 (some .boolean)]]
theorem seX8_isNoSource : sgX8_isNoSource.flatten = wsX8_isNoSource := by simp only [sgX8_isNoSource, wsX8_isNoSource, List.flatten_cons, List.flatten_nil, List.append_assoc, List.append_nil, List.cons_append, List.nil_append]
set_option maxRecDepth 20000 in
theorem ggX8_isNoSource_X8_isNo : GoodIn wsX8_isNoSource wsX8_isNo := goodIn_s seX8_isNoSource _ [pq_1_3] (by rfl) (by decide +kernel)
set_option maxRecDepth 20000 in
theorem gX8_isNoSource_X8_isNo : GoodIn wsX8_isNoSource (va_wsS RX8 41 yX8_isNo wsX8_isNo) := goodIn_app (goodIn_s seX8_isNoSource _ [pq_1_0, pq_1_1, pq_1_2] (by rfl) (by decide +kernel)) ggX8_isNoSource_X8_isNo
set_option maxRecDepth 20000 in
theorem dX8_isNoSource_0 : decode cX8_isNoSource 0 = .ok (.iload_n 0, 1) := dc_26 rfl
set_option maxRecDepth 20000 in
theorem dX8_isNoSource_1 : decode cX8_isNoSource 1 = .ok (.iconst 0, 1) := dc_3 rfl
set_option maxRecDepth 20000 in
theorem dX8_isNoSource_2 : decode cX8_isNoSource 2 = .ok (.bipush 7, 2) := dc_16 7 rfl rfl
set_option maxRecDepth 20000 in
theorem dX8_isNoSource_4 : decode cX8_isNoSource 4 = .ok (.invokestatic 41, 3) := dc_184 0 41 rfl rfl rfl
set_option maxRecDepth 20000 in
theorem dX8_isNoSource_7 : decode cX8_isNoSource 7 = .ok (.ireturn, 1) := dc_172 rfl
set_option maxRecDepth 20000 in
theorem dX8_done_0 : decode cX8_done 0 = .ok (.aload_n 0, 1) := dc_42 rfl
set_option maxRecDepth 20000 in
theorem dX8_done_1 : decode cX8_done 1 = .ok (.getfield 31, 3) := dc_180 0 31 rfl rfl rfl
set_option maxRecDepth 20000 in
theorem dX8_done_4 : decode cX8_done 4 = .ok (.iconst 0, 1) := dc_3 rfl
set_option maxRecDepth 20000 in
theorem dX8_done_5 : decode cX8_done 5 = .ok (.dup2, 1) := dc_92 rfl
set_option maxRecDepth 20000 in
theorem dX8_done_6 : decode cX8_done 6 = .ok (.iaload, 1) := dc_46 rfl
set_option maxRecDepth 20000 in
theorem dX8_done_7 : decode cX8_done 7 = .ok (.iconst 1, 1) := dc_4 rfl
set_option maxRecDepth 20000 in
theorem dX8_done_8 : decode cX8_done 8 = .ok (.iadd, 1) := dc_96 rfl
set_option maxRecDepth 20000 in
theorem dX8_done_9 : decode cX8_done 9 = .ok (.iastore, 1) := dc_79 rfl
set_option maxRecDepth 20000 in
theorem dX8_done_10 : decode cX8_done 10 = .ok (.iload_n 1, 1) := dc_27 rfl
set_option maxRecDepth 20000 in
theorem dX8_done_11 : decode cX8_done 11 = .ok (.ireturn, 1) := dc_172 rfl
def lb_sgX8_refused : List (List UInt8) := [[42, 180, 0, 31, 4, 92, 46, 4, 96, 79, 16, 247, 172]]
set_option maxRecDepth 100000 in
theorem lb_seX8_refused : cX8_refused.data.toList = lb_sgX8_refused.flatten := by decide +kernel
theorem lb_lnX8_refused : ∀ s ∈ lb_sgX8_refused.dropLast, s.length = 16 := by decide +kernel
theorem lxX8_refused (k j : Nat) {b : UInt8} (h : (lb_sgX8_refused[k]?).bind (fun s => s[j]?) = some b) : lb_at cX8_refused (16 * k + j) b := by
  unfold lb_at
  rw [lb_seX8_refused]
  exact lb_flat 16 lb_sgX8_refused k j b lb_lnX8_refused h
set_option maxRecDepth 20000 in
theorem dX8_refused_0 : decode cX8_refused 0 = .ok (.aload_n 0, 1) := dc_42 (lxX8_refused 0 0 rfl)
set_option maxRecDepth 20000 in
theorem dX8_refused_1 : decode cX8_refused 1 = .ok (.getfield 31, 3) := dc_180 0 31 (lxX8_refused 0 1 rfl) (lxX8_refused 0 2 rfl) (lxX8_refused 0 3 rfl)
set_option maxRecDepth 20000 in
theorem dX8_refused_4 : decode cX8_refused 4 = .ok (.iconst 1, 1) := dc_4 (lxX8_refused 0 4 rfl)
set_option maxRecDepth 20000 in
theorem dX8_refused_5 : decode cX8_refused 5 = .ok (.dup2, 1) := dc_92 (lxX8_refused 0 5 rfl)
set_option maxRecDepth 20000 in
theorem dX8_refused_6 : decode cX8_refused 6 = .ok (.iaload, 1) := dc_46 (lxX8_refused 0 6 rfl)
set_option maxRecDepth 20000 in
theorem dX8_refused_7 : decode cX8_refused 7 = .ok (.iconst 1, 1) := dc_4 (lxX8_refused 0 7 rfl)
set_option maxRecDepth 20000 in
theorem dX8_refused_8 : decode cX8_refused 8 = .ok (.iadd, 1) := dc_96 (lxX8_refused 0 8 rfl)
set_option maxRecDepth 20000 in
theorem dX8_refused_9 : decode cX8_refused 9 = .ok (.iastore, 1) := dc_79 (lxX8_refused 0 9 rfl)
set_option maxRecDepth 20000 in
theorem dX8_refused_10 : decode cX8_refused 10 = .ok (.bipush (-9), 2) := dc_16 247 (lxX8_refused 0 10 rfl) (lxX8_refused 0 11 rfl)
set_option maxRecDepth 20000 in
theorem dX8_refused_12 : decode cX8_refused 12 = .ok (.ireturn, 1) := dc_172 (lxX8_refused 0 12 rfl)
def lb_sgX8_fresh : List (List UInt8) := [[42, 180, 0, 45, 27, 96, 42, 180, 0, 7, 190, 164, 0, 33, 5, 42], [180, 0, 45, 27, 96, 104, 188, 10, 77, 42, 180, 0, 7, 3, 44, 3], [42, 180, 0, 45, 184, 0, 48, 42, 44, 181, 0, 7, 42, 89, 180, 0], [45, 27, 96, 181, 0, 45, 8, 188, 10, 89, 3, 42, 180, 0, 45, 27], [100, 79, 89, 4, 27, 79, 89, 5, 27, 79, 89, 6, 3, 79, 89, 7], [2, 79, 176]]
set_option maxRecDepth 100000 in
theorem lb_seX8_fresh : cX8_fresh.data.toList = lb_sgX8_fresh.flatten := by decide +kernel
theorem lb_lnX8_fresh : ∀ s ∈ lb_sgX8_fresh.dropLast, s.length = 16 := by decide +kernel
theorem lxX8_fresh (k j : Nat) {b : UInt8} (h : (lb_sgX8_fresh[k]?).bind (fun s => s[j]?) = some b) : lb_at cX8_fresh (16 * k + j) b := by
  unfold lb_at
  rw [lb_seX8_fresh]
  exact lb_flat 16 lb_sgX8_fresh k j b lb_lnX8_fresh h
set_option maxRecDepth 20000 in
theorem dX8_fresh_0 : decode cX8_fresh 0 = .ok (.aload_n 0, 1) := dc_42 (lxX8_fresh 0 0 rfl)
set_option maxRecDepth 20000 in
theorem dX8_fresh_1 : decode cX8_fresh 1 = .ok (.getfield 45, 3) := dc_180 0 45 (lxX8_fresh 0 1 rfl) (lxX8_fresh 0 2 rfl) (lxX8_fresh 0 3 rfl)
set_option maxRecDepth 20000 in
theorem dX8_fresh_4 : decode cX8_fresh 4 = .ok (.iload_n 1, 1) := dc_27 (lxX8_fresh 0 4 rfl)
set_option maxRecDepth 20000 in
theorem dX8_fresh_5 : decode cX8_fresh 5 = .ok (.iadd, 1) := dc_96 (lxX8_fresh 0 5 rfl)
set_option maxRecDepth 20000 in
theorem dX8_fresh_6 : decode cX8_fresh 6 = .ok (.aload_n 0, 1) := dc_42 (lxX8_fresh 0 6 rfl)
set_option maxRecDepth 20000 in
theorem dX8_fresh_7 : decode cX8_fresh 7 = .ok (.getfield 7, 3) := dc_180 0 7 (lxX8_fresh 0 7 rfl) (lxX8_fresh 0 8 rfl) (lxX8_fresh 0 9 rfl)
set_option maxRecDepth 20000 in
theorem dX8_fresh_10 : decode cX8_fresh 10 = .ok (.arraylength, 1) := dc_190 (lxX8_fresh 0 10 rfl)
set_option maxRecDepth 20000 in
theorem dX8_fresh_11 : decode cX8_fresh 11 = .ok (.if_icmp .le 33, 3) := dc_164 0 33 (lxX8_fresh 0 11 rfl) (lxX8_fresh 0 12 rfl) (lxX8_fresh 0 13 rfl)
set_option maxRecDepth 20000 in
theorem dX8_fresh_14 : decode cX8_fresh 14 = .ok (.iconst 2, 1) := dc_5 (lxX8_fresh 0 14 rfl)
set_option maxRecDepth 20000 in
theorem dX8_fresh_15 : decode cX8_fresh 15 = .ok (.aload_n 0, 1) := dc_42 (lxX8_fresh 0 15 rfl)
set_option maxRecDepth 20000 in
theorem dX8_fresh_16 : decode cX8_fresh 16 = .ok (.getfield 45, 3) := dc_180 0 45 (lxX8_fresh 1 0 rfl) (lxX8_fresh 1 1 rfl) (lxX8_fresh 1 2 rfl)
set_option maxRecDepth 20000 in
theorem dX8_fresh_19 : decode cX8_fresh 19 = .ok (.iload_n 1, 1) := dc_27 (lxX8_fresh 1 3 rfl)
set_option maxRecDepth 20000 in
theorem dX8_fresh_20 : decode cX8_fresh 20 = .ok (.iadd, 1) := dc_96 (lxX8_fresh 1 4 rfl)
set_option maxRecDepth 20000 in
theorem dX8_fresh_21 : decode cX8_fresh 21 = .ok (.imul, 1) := dc_104 (lxX8_fresh 1 5 rfl)
theorem dX8_fresh_22 : decode cX8_fresh 22 = .ok (.newarray .int, 2) := by decide +kernel
set_option maxRecDepth 20000 in
theorem dX8_fresh_24 : decode cX8_fresh 24 = .ok (.astore_n 2, 1) := dc_77 (lxX8_fresh 1 8 rfl)
set_option maxRecDepth 20000 in
theorem dX8_fresh_25 : decode cX8_fresh 25 = .ok (.aload_n 0, 1) := dc_42 (lxX8_fresh 1 9 rfl)
set_option maxRecDepth 20000 in
theorem dX8_fresh_26 : decode cX8_fresh 26 = .ok (.getfield 7, 3) := dc_180 0 7 (lxX8_fresh 1 10 rfl) (lxX8_fresh 1 11 rfl) (lxX8_fresh 1 12 rfl)
set_option maxRecDepth 20000 in
theorem dX8_fresh_29 : decode cX8_fresh 29 = .ok (.iconst 0, 1) := dc_3 (lxX8_fresh 1 13 rfl)
set_option maxRecDepth 20000 in
theorem dX8_fresh_30 : decode cX8_fresh 30 = .ok (.aload_n 2, 1) := dc_44 (lxX8_fresh 1 14 rfl)
set_option maxRecDepth 20000 in
theorem dX8_fresh_31 : decode cX8_fresh 31 = .ok (.iconst 0, 1) := dc_3 (lxX8_fresh 1 15 rfl)
set_option maxRecDepth 20000 in
theorem dX8_fresh_32 : decode cX8_fresh 32 = .ok (.aload_n 0, 1) := dc_42 (lxX8_fresh 2 0 rfl)
set_option maxRecDepth 20000 in
theorem dX8_fresh_33 : decode cX8_fresh 33 = .ok (.getfield 45, 3) := dc_180 0 45 (lxX8_fresh 2 1 rfl) (lxX8_fresh 2 2 rfl) (lxX8_fresh 2 3 rfl)
set_option maxRecDepth 20000 in
theorem dX8_fresh_36 : decode cX8_fresh 36 = .ok (.invokestatic 48, 3) := dc_184 0 48 (lxX8_fresh 2 4 rfl) (lxX8_fresh 2 5 rfl) (lxX8_fresh 2 6 rfl)
set_option maxRecDepth 20000 in
theorem dX8_fresh_39 : decode cX8_fresh 39 = .ok (.aload_n 0, 1) := dc_42 (lxX8_fresh 2 7 rfl)
set_option maxRecDepth 20000 in
theorem dX8_fresh_40 : decode cX8_fresh 40 = .ok (.aload_n 2, 1) := dc_44 (lxX8_fresh 2 8 rfl)
set_option maxRecDepth 20000 in
theorem dX8_fresh_41 : decode cX8_fresh 41 = .ok (.putfield 7, 3) := dc_181 0 7 (lxX8_fresh 2 9 rfl) (lxX8_fresh 2 10 rfl) (lxX8_fresh 2 11 rfl)
set_option maxRecDepth 20000 in
theorem dX8_fresh_44 : decode cX8_fresh 44 = .ok (.aload_n 0, 1) := dc_42 (lxX8_fresh 2 12 rfl)
set_option maxRecDepth 20000 in
theorem dX8_fresh_45 : decode cX8_fresh 45 = .ok (.dup, 1) := dc_89 (lxX8_fresh 2 13 rfl)
set_option maxRecDepth 20000 in
theorem dX8_fresh_46 : decode cX8_fresh 46 = .ok (.getfield 45, 3) := dc_180 0 45 (lxX8_fresh 2 14 rfl) (lxX8_fresh 2 15 rfl) (lxX8_fresh 3 0 rfl)
set_option maxRecDepth 20000 in
theorem dX8_fresh_49 : decode cX8_fresh 49 = .ok (.iload_n 1, 1) := dc_27 (lxX8_fresh 3 1 rfl)
set_option maxRecDepth 20000 in
theorem dX8_fresh_50 : decode cX8_fresh 50 = .ok (.iadd, 1) := dc_96 (lxX8_fresh 3 2 rfl)
set_option maxRecDepth 20000 in
theorem dX8_fresh_51 : decode cX8_fresh 51 = .ok (.putfield 45, 3) := dc_181 0 45 (lxX8_fresh 3 3 rfl) (lxX8_fresh 3 4 rfl) (lxX8_fresh 3 5 rfl)
set_option maxRecDepth 20000 in
theorem dX8_fresh_54 : decode cX8_fresh 54 = .ok (.iconst 5, 1) := dc_8 (lxX8_fresh 3 6 rfl)
theorem dX8_fresh_55 : decode cX8_fresh 55 = .ok (.newarray .int, 2) := by decide +kernel
set_option maxRecDepth 20000 in
theorem dX8_fresh_57 : decode cX8_fresh 57 = .ok (.dup, 1) := dc_89 (lxX8_fresh 3 9 rfl)
set_option maxRecDepth 20000 in
theorem dX8_fresh_58 : decode cX8_fresh 58 = .ok (.iconst 0, 1) := dc_3 (lxX8_fresh 3 10 rfl)
set_option maxRecDepth 20000 in
theorem dX8_fresh_59 : decode cX8_fresh 59 = .ok (.aload_n 0, 1) := dc_42 (lxX8_fresh 3 11 rfl)
set_option maxRecDepth 20000 in
theorem dX8_fresh_60 : decode cX8_fresh 60 = .ok (.getfield 45, 3) := dc_180 0 45 (lxX8_fresh 3 12 rfl) (lxX8_fresh 3 13 rfl) (lxX8_fresh 3 14 rfl)
set_option maxRecDepth 20000 in
theorem dX8_fresh_63 : decode cX8_fresh 63 = .ok (.iload_n 1, 1) := dc_27 (lxX8_fresh 3 15 rfl)
set_option maxRecDepth 20000 in
theorem dX8_fresh_64 : decode cX8_fresh 64 = .ok (.isub, 1) := dc_100 (lxX8_fresh 4 0 rfl)
set_option maxRecDepth 20000 in
theorem dX8_fresh_65 : decode cX8_fresh 65 = .ok (.iastore, 1) := dc_79 (lxX8_fresh 4 1 rfl)
set_option maxRecDepth 20000 in
theorem dX8_fresh_66 : decode cX8_fresh 66 = .ok (.dup, 1) := dc_89 (lxX8_fresh 4 2 rfl)
set_option maxRecDepth 20000 in
theorem dX8_fresh_67 : decode cX8_fresh 67 = .ok (.iconst 1, 1) := dc_4 (lxX8_fresh 4 3 rfl)
set_option maxRecDepth 20000 in
theorem dX8_fresh_68 : decode cX8_fresh 68 = .ok (.iload_n 1, 1) := dc_27 (lxX8_fresh 4 4 rfl)
set_option maxRecDepth 20000 in
theorem dX8_fresh_69 : decode cX8_fresh 69 = .ok (.iastore, 1) := dc_79 (lxX8_fresh 4 5 rfl)
set_option maxRecDepth 20000 in
theorem dX8_fresh_70 : decode cX8_fresh 70 = .ok (.dup, 1) := dc_89 (lxX8_fresh 4 6 rfl)
set_option maxRecDepth 20000 in
theorem dX8_fresh_71 : decode cX8_fresh 71 = .ok (.iconst 2, 1) := dc_5 (lxX8_fresh 4 7 rfl)
set_option maxRecDepth 20000 in
theorem dX8_fresh_72 : decode cX8_fresh 72 = .ok (.iload_n 1, 1) := dc_27 (lxX8_fresh 4 8 rfl)
set_option maxRecDepth 20000 in
theorem dX8_fresh_73 : decode cX8_fresh 73 = .ok (.iastore, 1) := dc_79 (lxX8_fresh 4 9 rfl)
set_option maxRecDepth 20000 in
theorem dX8_fresh_74 : decode cX8_fresh 74 = .ok (.dup, 1) := dc_89 (lxX8_fresh 4 10 rfl)
set_option maxRecDepth 20000 in
theorem dX8_fresh_75 : decode cX8_fresh 75 = .ok (.iconst 3, 1) := dc_6 (lxX8_fresh 4 11 rfl)
set_option maxRecDepth 20000 in
theorem dX8_fresh_76 : decode cX8_fresh 76 = .ok (.iconst 0, 1) := dc_3 (lxX8_fresh 4 12 rfl)
set_option maxRecDepth 20000 in
theorem dX8_fresh_77 : decode cX8_fresh 77 = .ok (.iastore, 1) := dc_79 (lxX8_fresh 4 13 rfl)
set_option maxRecDepth 20000 in
theorem dX8_fresh_78 : decode cX8_fresh 78 = .ok (.dup, 1) := dc_89 (lxX8_fresh 4 14 rfl)
set_option maxRecDepth 20000 in
theorem dX8_fresh_79 : decode cX8_fresh 79 = .ok (.iconst 4, 1) := dc_7 (lxX8_fresh 4 15 rfl)
set_option maxRecDepth 20000 in
theorem dX8_fresh_80 : decode cX8_fresh 80 = .ok (.iconst (-1), 1) := dc_2 (lxX8_fresh 5 0 rfl)
set_option maxRecDepth 20000 in
theorem dX8_fresh_81 : decode cX8_fresh 81 = .ok (.iastore, 1) := dc_79 (lxX8_fresh 5 1 rfl)
set_option maxRecDepth 20000 in
theorem dX8_fresh_82 : decode cX8_fresh 82 = .ok (.areturn, 1) := dc_176 (lxX8_fresh 5 2 rfl)
set_option maxRecDepth 20000 in
theorem dX8_length_0 : decode cX8_length 0 = .ok (.aload_n 0, 1) := dc_42 rfl
set_option maxRecDepth 20000 in
theorem dX8_length_1 : decode cX8_length 1 = .ok (.iconst 2, 1) := dc_5 rfl
set_option maxRecDepth 20000 in
theorem dX8_length_2 : decode cX8_length 2 = .ok (.iaload, 1) := dc_46 rfl
set_option maxRecDepth 20000 in
theorem dX8_length_3 : decode cX8_length 3 = .ok (.aload_n 0, 1) := dc_42 rfl
set_option maxRecDepth 20000 in
theorem dX8_length_4 : decode cX8_length 4 = .ok (.iconst 3, 1) := dc_6 rfl
set_option maxRecDepth 20000 in
theorem dX8_length_5 : decode cX8_length 5 = .ok (.iaload, 1) := dc_46 rfl
set_option maxRecDepth 20000 in
theorem dX8_length_6 : decode cX8_length 6 = .ok (.isub, 1) := dc_100 rfl
set_option maxRecDepth 20000 in
theorem dX8_length_7 : decode cX8_length 7 = .ok (.ireturn, 1) := dc_172 rfl
noncomputable def sgX8_text : List (List Cond) := [[.code yX8_text cX8_text 4 (some (.array .int))], [.arrayClass .int, .fieldLink RX8 7 "SashwordsModel" "tape" "[I", .methodLink RX8 54 yX8_length, .static yX8_length, .initialized RX8, .code yX8_length cX8_length 1 (some .int)], wsX80]
theorem seX8_text : sgX8_text.flatten = wsX8_text := by simp only [sgX8_text, wsX8_text, List.flatten_cons, List.flatten_nil, List.append_assoc, List.append_nil, List.cons_append, List.nil_append]
set_option maxRecDepth 20000 in
theorem ggX8_text_X8_length : GoodIn wsX8_text wsX8_length := goodIn_s seX8_text _ [pq_1_5] (by rfl) (by decide +kernel)
set_option maxRecDepth 20000 in
theorem gX8_text_X8_length : GoodIn wsX8_text (va_wsS RX8 54 yX8_length wsX8_length) := goodIn_app (goodIn_s seX8_text _ [pq_1_2, pq_1_3, pq_1_4] (by rfl) (by decide +kernel)) ggX8_text_X8_length
def lb_sgX8_text : List (List UInt8) := [[43, 184, 0, 54, 188, 10, 77, 3, 62, 29, 44, 190, 162, 0, 26, 44], [29, 42, 180, 0, 7, 43, 3, 46, 43, 6, 46, 96, 29, 96, 46, 79], [132, 3, 1, 167, 255, 230, 44, 176]]
set_option maxRecDepth 100000 in
theorem lb_seX8_text : cX8_text.data.toList = lb_sgX8_text.flatten := by decide +kernel
theorem lb_lnX8_text : ∀ s ∈ lb_sgX8_text.dropLast, s.length = 16 := by decide +kernel
theorem lxX8_text (k j : Nat) {b : UInt8} (h : (lb_sgX8_text[k]?).bind (fun s => s[j]?) = some b) : lb_at cX8_text (16 * k + j) b := by
  unfold lb_at
  rw [lb_seX8_text]
  exact lb_flat 16 lb_sgX8_text k j b lb_lnX8_text h
set_option maxRecDepth 20000 in
theorem dX8_text_0 : decode cX8_text 0 = .ok (.aload_n 1, 1) := dc_43 (lxX8_text 0 0 rfl)
set_option maxRecDepth 20000 in
theorem dX8_text_1 : decode cX8_text 1 = .ok (.invokestatic 54, 3) := dc_184 0 54 (lxX8_text 0 1 rfl) (lxX8_text 0 2 rfl) (lxX8_text 0 3 rfl)
theorem dX8_text_4 : decode cX8_text 4 = .ok (.newarray .int, 2) := by decide +kernel
set_option maxRecDepth 20000 in
theorem dX8_text_6 : decode cX8_text 6 = .ok (.astore_n 2, 1) := dc_77 (lxX8_text 0 6 rfl)
set_option maxRecDepth 20000 in
theorem dX8_text_7 : decode cX8_text 7 = .ok (.iconst 0, 1) := dc_3 (lxX8_text 0 7 rfl)
set_option maxRecDepth 20000 in
theorem dX8_text_8 : decode cX8_text 8 = .ok (.istore_n 3, 1) := dc_62 (lxX8_text 0 8 rfl)
set_option maxRecDepth 20000 in
theorem dX8_text_9 : decode cX8_text 9 = .ok (.iload_n 3, 1) := dc_29 (lxX8_text 0 9 rfl)
set_option maxRecDepth 20000 in
theorem dX8_text_10 : decode cX8_text 10 = .ok (.aload_n 2, 1) := dc_44 (lxX8_text 0 10 rfl)
set_option maxRecDepth 20000 in
theorem dX8_text_11 : decode cX8_text 11 = .ok (.arraylength, 1) := dc_190 (lxX8_text 0 11 rfl)
set_option maxRecDepth 20000 in
theorem dX8_text_12 : decode cX8_text 12 = .ok (.if_icmp .ge 26, 3) := dc_162 0 26 (lxX8_text 0 12 rfl) (lxX8_text 0 13 rfl) (lxX8_text 0 14 rfl)
set_option maxRecDepth 20000 in
theorem dX8_text_15 : decode cX8_text 15 = .ok (.aload_n 2, 1) := dc_44 (lxX8_text 0 15 rfl)
set_option maxRecDepth 20000 in
theorem dX8_text_16 : decode cX8_text 16 = .ok (.iload_n 3, 1) := dc_29 (lxX8_text 1 0 rfl)
set_option maxRecDepth 20000 in
theorem dX8_text_17 : decode cX8_text 17 = .ok (.aload_n 0, 1) := dc_42 (lxX8_text 1 1 rfl)
set_option maxRecDepth 20000 in
theorem dX8_text_18 : decode cX8_text 18 = .ok (.getfield 7, 3) := dc_180 0 7 (lxX8_text 1 2 rfl) (lxX8_text 1 3 rfl) (lxX8_text 1 4 rfl)
set_option maxRecDepth 20000 in
theorem dX8_text_21 : decode cX8_text 21 = .ok (.aload_n 1, 1) := dc_43 (lxX8_text 1 5 rfl)
set_option maxRecDepth 20000 in
theorem dX8_text_22 : decode cX8_text 22 = .ok (.iconst 0, 1) := dc_3 (lxX8_text 1 6 rfl)
set_option maxRecDepth 20000 in
theorem dX8_text_23 : decode cX8_text 23 = .ok (.iaload, 1) := dc_46 (lxX8_text 1 7 rfl)
set_option maxRecDepth 20000 in
theorem dX8_text_24 : decode cX8_text 24 = .ok (.aload_n 1, 1) := dc_43 (lxX8_text 1 8 rfl)
set_option maxRecDepth 20000 in
theorem dX8_text_25 : decode cX8_text 25 = .ok (.iconst 3, 1) := dc_6 (lxX8_text 1 9 rfl)
set_option maxRecDepth 20000 in
theorem dX8_text_26 : decode cX8_text 26 = .ok (.iaload, 1) := dc_46 (lxX8_text 1 10 rfl)
set_option maxRecDepth 20000 in
theorem dX8_text_27 : decode cX8_text 27 = .ok (.iadd, 1) := dc_96 (lxX8_text 1 11 rfl)
set_option maxRecDepth 20000 in
theorem dX8_text_28 : decode cX8_text 28 = .ok (.iload_n 3, 1) := dc_29 (lxX8_text 1 12 rfl)
set_option maxRecDepth 20000 in
theorem dX8_text_29 : decode cX8_text 29 = .ok (.iadd, 1) := dc_96 (lxX8_text 1 13 rfl)
set_option maxRecDepth 20000 in
theorem dX8_text_30 : decode cX8_text 30 = .ok (.iaload, 1) := dc_46 (lxX8_text 1 14 rfl)
set_option maxRecDepth 20000 in
theorem dX8_text_31 : decode cX8_text 31 = .ok (.iastore, 1) := dc_79 (lxX8_text 1 15 rfl)
set_option maxRecDepth 20000 in
theorem dX8_text_32 : decode cX8_text 32 = .ok (.iinc 3 1, 3) := dc_132 3 1 (lxX8_text 2 0 rfl) (lxX8_text 2 1 rfl) (lxX8_text 2 2 rfl)
set_option maxRecDepth 20000 in
theorem dX8_text_35 : decode cX8_text 35 = .ok (.goto (-26), 3) := dc_167 255 230 (lxX8_text 2 3 rfl) (lxX8_text 2 4 rfl) (lxX8_text 2 5 rfl)
set_option maxRecDepth 20000 in
theorem dX8_text_38 : decode cX8_text 38 = .ok (.aload_n 2, 1) := dc_44 (lxX8_text 2 6 rfl)
set_option maxRecDepth 20000 in
theorem dX8_text_39 : decode cX8_text 39 = .ok (.areturn, 1) := dc_176 (lxX8_text 2 7 rfl)
noncomputable def sgX8_textOf : List (List Cond) := [[.code yX8_textOf cX8_textOf 2 (some (.array .int))], [.fieldLink RX8 18 "SashwordsModel" "built" "[I", .fieldLink RX8 21 "SashwordsModel" "kept" "[I", .fieldLink RX8 14 "SashwordsModel" "windows" "[[I", .methodLink RX8 58 yX8_text, .instanceMethod yX8_text, .selects RX8 yX8_text yX8_text, .initialized RX8, .code yX8_text cX8_text 4 (some (.array .int)), .arrayClass .int, .fieldLink RX8 7 "SashwordsModel" "tape" "[I", .methodLink RX8 54 yX8_length, .static yX8_length, .code yX8_length cX8_length 1 (some .int)], wsX80]
theorem seX8_textOf : sgX8_textOf.flatten = wsX8_textOf := by simp only [sgX8_textOf, wsX8_textOf, List.flatten_cons, List.flatten_nil, List.append_assoc, List.append_nil, List.cons_append, List.nil_append]
set_option maxRecDepth 20000 in
theorem ggX8_textOf_X8_text : GoodIn wsX8_textOf wsX8_text := goodIn_s seX8_textOf _ [pq_1_7, pq_1_8, pq_1_9, pq_1_10, pq_1_11, pq_1_6, pq_1_12, pq_2_0, pq_2_1, pq_2_2, pq_2_3, pq_2_4, pq_2_5, pq_2_6, pq_2_7, pq_2_8, pq_2_9, pq_2_10] (by rfl) (by decide +kernel)
set_option maxRecDepth 20000 in
theorem gX8_textOf_X8_text : GoodIn wsX8_textOf (wsV RX8 58 RX8 yX8_text wsX8_text) := goodIn_app (goodIn_s seX8_textOf _ [pq_1_3, pq_1_4, pq_1_5, pq_1_6] (by rfl) (by decide +kernel)) ggX8_textOf_X8_text
def lb_sgX8_textOf : List (List UInt8) := [[27, 16, 6, 160, 0, 10, 42, 180, 0, 18, 167, 0, 26, 27, 16, 7], [160, 0, 10, 42, 180, 0, 21, 167, 0, 13, 42, 42, 180, 0, 14, 27], [50, 182, 0, 58, 176]]
set_option maxRecDepth 100000 in
theorem lb_seX8_textOf : cX8_textOf.data.toList = lb_sgX8_textOf.flatten := by decide +kernel
theorem lb_lnX8_textOf : ∀ s ∈ lb_sgX8_textOf.dropLast, s.length = 16 := by decide +kernel
theorem lxX8_textOf (k j : Nat) {b : UInt8} (h : (lb_sgX8_textOf[k]?).bind (fun s => s[j]?) = some b) : lb_at cX8_textOf (16 * k + j) b := by
  unfold lb_at
  rw [lb_seX8_textOf]
  exact lb_flat 16 lb_sgX8_textOf k j b lb_lnX8_textOf h
set_option maxRecDepth 20000 in
theorem dX8_textOf_0 : decode cX8_textOf 0 = .ok (.iload_n 1, 1) := dc_27 (lxX8_textOf 0 0 rfl)
set_option maxRecDepth 20000 in
theorem dX8_textOf_1 : decode cX8_textOf 1 = .ok (.bipush 6, 2) := dc_16 6 (lxX8_textOf 0 1 rfl) (lxX8_textOf 0 2 rfl)
set_option maxRecDepth 20000 in
theorem dX8_textOf_3 : decode cX8_textOf 3 = .ok (.if_icmp .ne 10, 3) := dc_160 0 10 (lxX8_textOf 0 3 rfl) (lxX8_textOf 0 4 rfl) (lxX8_textOf 0 5 rfl)
set_option maxRecDepth 20000 in
theorem dX8_textOf_6 : decode cX8_textOf 6 = .ok (.aload_n 0, 1) := dc_42 (lxX8_textOf 0 6 rfl)
set_option maxRecDepth 20000 in
theorem dX8_textOf_7 : decode cX8_textOf 7 = .ok (.getfield 18, 3) := dc_180 0 18 (lxX8_textOf 0 7 rfl) (lxX8_textOf 0 8 rfl) (lxX8_textOf 0 9 rfl)
set_option maxRecDepth 20000 in
theorem dX8_textOf_10 : decode cX8_textOf 10 = .ok (.goto 26, 3) := dc_167 0 26 (lxX8_textOf 0 10 rfl) (lxX8_textOf 0 11 rfl) (lxX8_textOf 0 12 rfl)
set_option maxRecDepth 20000 in
theorem dX8_textOf_13 : decode cX8_textOf 13 = .ok (.iload_n 1, 1) := dc_27 (lxX8_textOf 0 13 rfl)
set_option maxRecDepth 20000 in
theorem dX8_textOf_14 : decode cX8_textOf 14 = .ok (.bipush 7, 2) := dc_16 7 (lxX8_textOf 0 14 rfl) (lxX8_textOf 0 15 rfl)
set_option maxRecDepth 20000 in
theorem dX8_textOf_16 : decode cX8_textOf 16 = .ok (.if_icmp .ne 10, 3) := dc_160 0 10 (lxX8_textOf 1 0 rfl) (lxX8_textOf 1 1 rfl) (lxX8_textOf 1 2 rfl)
set_option maxRecDepth 20000 in
theorem dX8_textOf_19 : decode cX8_textOf 19 = .ok (.aload_n 0, 1) := dc_42 (lxX8_textOf 1 3 rfl)
set_option maxRecDepth 20000 in
theorem dX8_textOf_20 : decode cX8_textOf 20 = .ok (.getfield 21, 3) := dc_180 0 21 (lxX8_textOf 1 4 rfl) (lxX8_textOf 1 5 rfl) (lxX8_textOf 1 6 rfl)
set_option maxRecDepth 20000 in
theorem dX8_textOf_23 : decode cX8_textOf 23 = .ok (.goto 13, 3) := dc_167 0 13 (lxX8_textOf 1 7 rfl) (lxX8_textOf 1 8 rfl) (lxX8_textOf 1 9 rfl)
set_option maxRecDepth 20000 in
theorem dX8_textOf_26 : decode cX8_textOf 26 = .ok (.aload_n 0, 1) := dc_42 (lxX8_textOf 1 10 rfl)
set_option maxRecDepth 20000 in
theorem dX8_textOf_27 : decode cX8_textOf 27 = .ok (.aload_n 0, 1) := dc_42 (lxX8_textOf 1 11 rfl)
set_option maxRecDepth 20000 in
theorem dX8_textOf_28 : decode cX8_textOf 28 = .ok (.getfield 14, 3) := dc_180 0 14 (lxX8_textOf 1 12 rfl) (lxX8_textOf 1 13 rfl) (lxX8_textOf 1 14 rfl)
set_option maxRecDepth 20000 in
theorem dX8_textOf_31 : decode cX8_textOf 31 = .ok (.iload_n 1, 1) := dc_27 (lxX8_textOf 1 15 rfl)
set_option maxRecDepth 20000 in
theorem dX8_textOf_32 : decode cX8_textOf 32 = .ok (.aaload, 1) := dc_50 (lxX8_textOf 2 0 rfl)
set_option maxRecDepth 20000 in
theorem dX8_textOf_33 : decode cX8_textOf 33 = .ok (.invokevirtual 58, 3) := dc_182 0 58 (lxX8_textOf 2 1 rfl) (lxX8_textOf 2 2 rfl) (lxX8_textOf 2 3 rfl)
set_option maxRecDepth 20000 in
theorem dX8_textOf_36 : decode cX8_textOf 36 = .ok (.areturn, 1) := dc_176 (lxX8_textOf 2 4 rfl)
noncomputable def sgX8_became : List (List Cond) := [[.code yX8_became cX8_became 7 (some .int)], [.fieldLink RX8 14 "SashwordsModel" "windows" "[[I", .arrayClass .int, .methodLink RX8 62 yX8_done, .instanceMethod yX8_done, .selects RX8 yX8_done yX8_done, .initialized RX8, .code yX8_done cX8_done 2 (some .int), .fieldLink RX8 31 "SashwordsModel" "tallies" "[I"], wsX80]
theorem seX8_became : sgX8_became.flatten = wsX8_became := by simp only [sgX8_became, wsX8_became, List.flatten_cons, List.flatten_nil, List.append_assoc, List.append_nil, List.cons_append, List.nil_append]
set_option maxRecDepth 20000 in
theorem ggX8_became_X8_done : GoodIn wsX8_became wsX8_done := goodIn_s seX8_became _ [pq_1_6, pq_1_7, pq_2_0, pq_2_1, pq_2_2, pq_2_3, pq_2_4, pq_2_5, pq_2_6, pq_2_7, pq_2_8, pq_2_9, pq_2_10] (by rfl) (by decide +kernel)
set_option maxRecDepth 20000 in
theorem gX8_became_X8_done : GoodIn wsX8_became (wsV RX8 62 RX8 yX8_done wsX8_done) := goodIn_app (goodIn_s seX8_became _ [pq_1_2, pq_1_3, pq_1_4, pq_1_5] (by rfl) (by decide +kernel)) ggX8_became_X8_done
def lb_sgX8_became : List (List UInt8) := [[42, 180, 0, 14, 27, 8, 188, 10, 89, 3, 28, 79, 89, 4, 29, 79], [89, 5, 21, 4, 79, 89, 6, 21, 5, 79, 89, 7, 21, 6, 79, 83], [42, 21, 4, 21, 5, 100, 182, 0, 62, 172]]
set_option maxRecDepth 100000 in
theorem lb_seX8_became : cX8_became.data.toList = lb_sgX8_became.flatten := by decide +kernel
theorem lb_lnX8_became : ∀ s ∈ lb_sgX8_became.dropLast, s.length = 16 := by decide +kernel
theorem lxX8_became (k j : Nat) {b : UInt8} (h : (lb_sgX8_became[k]?).bind (fun s => s[j]?) = some b) : lb_at cX8_became (16 * k + j) b := by
  unfold lb_at
  rw [lb_seX8_became]
  exact lb_flat 16 lb_sgX8_became k j b lb_lnX8_became h
set_option maxRecDepth 20000 in
theorem dX8_became_0 : decode cX8_became 0 = .ok (.aload_n 0, 1) := dc_42 (lxX8_became 0 0 rfl)
set_option maxRecDepth 20000 in
theorem dX8_became_1 : decode cX8_became 1 = .ok (.getfield 14, 3) := dc_180 0 14 (lxX8_became 0 1 rfl) (lxX8_became 0 2 rfl) (lxX8_became 0 3 rfl)
set_option maxRecDepth 20000 in
theorem dX8_became_4 : decode cX8_became 4 = .ok (.iload_n 1, 1) := dc_27 (lxX8_became 0 4 rfl)
set_option maxRecDepth 20000 in
theorem dX8_became_5 : decode cX8_became 5 = .ok (.iconst 5, 1) := dc_8 (lxX8_became 0 5 rfl)
theorem dX8_became_6 : decode cX8_became 6 = .ok (.newarray .int, 2) := by decide +kernel
set_option maxRecDepth 20000 in
theorem dX8_became_8 : decode cX8_became 8 = .ok (.dup, 1) := dc_89 (lxX8_became 0 8 rfl)
set_option maxRecDepth 20000 in
theorem dX8_became_9 : decode cX8_became 9 = .ok (.iconst 0, 1) := dc_3 (lxX8_became 0 9 rfl)
set_option maxRecDepth 20000 in
theorem dX8_became_10 : decode cX8_became 10 = .ok (.iload_n 2, 1) := dc_28 (lxX8_became 0 10 rfl)
set_option maxRecDepth 20000 in
theorem dX8_became_11 : decode cX8_became 11 = .ok (.iastore, 1) := dc_79 (lxX8_became 0 11 rfl)
set_option maxRecDepth 20000 in
theorem dX8_became_12 : decode cX8_became 12 = .ok (.dup, 1) := dc_89 (lxX8_became 0 12 rfl)
set_option maxRecDepth 20000 in
theorem dX8_became_13 : decode cX8_became 13 = .ok (.iconst 1, 1) := dc_4 (lxX8_became 0 13 rfl)
set_option maxRecDepth 20000 in
theorem dX8_became_14 : decode cX8_became 14 = .ok (.iload_n 3, 1) := dc_29 (lxX8_became 0 14 rfl)
set_option maxRecDepth 20000 in
theorem dX8_became_15 : decode cX8_became 15 = .ok (.iastore, 1) := dc_79 (lxX8_became 0 15 rfl)
set_option maxRecDepth 20000 in
theorem dX8_became_16 : decode cX8_became 16 = .ok (.dup, 1) := dc_89 (lxX8_became 1 0 rfl)
set_option maxRecDepth 20000 in
theorem dX8_became_17 : decode cX8_became 17 = .ok (.iconst 2, 1) := dc_5 (lxX8_became 1 1 rfl)
set_option maxRecDepth 20000 in
theorem dX8_became_18 : decode cX8_became 18 = .ok (.iload 4, 2) := dc_21 4 (lxX8_became 1 2 rfl) (lxX8_became 1 3 rfl)
set_option maxRecDepth 20000 in
theorem dX8_became_20 : decode cX8_became 20 = .ok (.iastore, 1) := dc_79 (lxX8_became 1 4 rfl)
set_option maxRecDepth 20000 in
theorem dX8_became_21 : decode cX8_became 21 = .ok (.dup, 1) := dc_89 (lxX8_became 1 5 rfl)
set_option maxRecDepth 20000 in
theorem dX8_became_22 : decode cX8_became 22 = .ok (.iconst 3, 1) := dc_6 (lxX8_became 1 6 rfl)
set_option maxRecDepth 20000 in
theorem dX8_became_23 : decode cX8_became 23 = .ok (.iload 5, 2) := dc_21 5 (lxX8_became 1 7 rfl) (lxX8_became 1 8 rfl)
set_option maxRecDepth 20000 in
theorem dX8_became_25 : decode cX8_became 25 = .ok (.iastore, 1) := dc_79 (lxX8_became 1 9 rfl)
set_option maxRecDepth 20000 in
theorem dX8_became_26 : decode cX8_became 26 = .ok (.dup, 1) := dc_89 (lxX8_became 1 10 rfl)
set_option maxRecDepth 20000 in
theorem dX8_became_27 : decode cX8_became 27 = .ok (.iconst 4, 1) := dc_7 (lxX8_became 1 11 rfl)
set_option maxRecDepth 20000 in
theorem dX8_became_28 : decode cX8_became 28 = .ok (.iload 6, 2) := dc_21 6 (lxX8_became 1 12 rfl) (lxX8_became 1 13 rfl)
set_option maxRecDepth 20000 in
theorem dX8_became_30 : decode cX8_became 30 = .ok (.iastore, 1) := dc_79 (lxX8_became 1 14 rfl)
set_option maxRecDepth 20000 in
theorem dX8_became_31 : decode cX8_became 31 = .ok (.aastore, 1) := dc_83 (lxX8_became 1 15 rfl)
set_option maxRecDepth 20000 in
theorem dX8_became_32 : decode cX8_became 32 = .ok (.aload_n 0, 1) := dc_42 (lxX8_became 2 0 rfl)
set_option maxRecDepth 20000 in
theorem dX8_became_33 : decode cX8_became 33 = .ok (.iload 4, 2) := dc_21 4 (lxX8_became 2 1 rfl) (lxX8_became 2 2 rfl)
set_option maxRecDepth 20000 in
theorem dX8_became_35 : decode cX8_became 35 = .ok (.iload 5, 2) := dc_21 5 (lxX8_became 2 3 rfl) (lxX8_became 2 4 rfl)
set_option maxRecDepth 20000 in
theorem dX8_became_37 : decode cX8_became 37 = .ok (.isub, 1) := dc_100 (lxX8_became 2 5 rfl)
set_option maxRecDepth 20000 in
theorem dX8_became_38 : decode cX8_became 38 = .ok (.invokevirtual 62, 3) := dc_182 0 62 (lxX8_became 2 6 rfl) (lxX8_became 2 7 rfl) (lxX8_became 2 8 rfl)
set_option maxRecDepth 20000 in
theorem dX8_became_41 : decode cX8_became 41 = .ok (.ireturn, 1) := dc_172 (lxX8_became 2 9 rfl)
def lb_sgX8_write : List (List UInt8) := [[42, 180, 0, 7, 43, 3, 46, 43, 6, 92, 46, 91, 4, 96, 79, 96], [28, 79, 177]]
set_option maxRecDepth 100000 in
theorem lb_seX8_write : cX8_write.data.toList = lb_sgX8_write.flatten := by decide +kernel
theorem lb_lnX8_write : ∀ s ∈ lb_sgX8_write.dropLast, s.length = 16 := by decide +kernel
theorem lxX8_write (k j : Nat) {b : UInt8} (h : (lb_sgX8_write[k]?).bind (fun s => s[j]?) = some b) : lb_at cX8_write (16 * k + j) b := by
  unfold lb_at
  rw [lb_seX8_write]
  exact lb_flat 16 lb_sgX8_write k j b lb_lnX8_write h
set_option maxRecDepth 20000 in
theorem dX8_write_0 : decode cX8_write 0 = .ok (.aload_n 0, 1) := dc_42 (lxX8_write 0 0 rfl)
set_option maxRecDepth 20000 in
theorem dX8_write_1 : decode cX8_write 1 = .ok (.getfield 7, 3) := dc_180 0 7 (lxX8_write 0 1 rfl) (lxX8_write 0 2 rfl) (lxX8_write 0 3 rfl)
set_option maxRecDepth 20000 in
theorem dX8_write_4 : decode cX8_write 4 = .ok (.aload_n 1, 1) := dc_43 (lxX8_write 0 4 rfl)
set_option maxRecDepth 20000 in
theorem dX8_write_5 : decode cX8_write 5 = .ok (.iconst 0, 1) := dc_3 (lxX8_write 0 5 rfl)
set_option maxRecDepth 20000 in
theorem dX8_write_6 : decode cX8_write 6 = .ok (.iaload, 1) := dc_46 (lxX8_write 0 6 rfl)
set_option maxRecDepth 20000 in
theorem dX8_write_7 : decode cX8_write 7 = .ok (.aload_n 1, 1) := dc_43 (lxX8_write 0 7 rfl)
set_option maxRecDepth 20000 in
theorem dX8_write_8 : decode cX8_write 8 = .ok (.iconst 3, 1) := dc_6 (lxX8_write 0 8 rfl)
set_option maxRecDepth 20000 in
theorem dX8_write_9 : decode cX8_write 9 = .ok (.dup2, 1) := dc_92 (lxX8_write 0 9 rfl)
set_option maxRecDepth 20000 in
theorem dX8_write_10 : decode cX8_write 10 = .ok (.iaload, 1) := dc_46 (lxX8_write 0 10 rfl)
set_option maxRecDepth 20000 in
theorem dX8_write_11 : decode cX8_write 11 = .ok (.dup_x2, 1) := dc_91 (lxX8_write 0 11 rfl)
set_option maxRecDepth 20000 in
theorem dX8_write_12 : decode cX8_write 12 = .ok (.iconst 1, 1) := dc_4 (lxX8_write 0 12 rfl)
set_option maxRecDepth 20000 in
theorem dX8_write_13 : decode cX8_write 13 = .ok (.iadd, 1) := dc_96 (lxX8_write 0 13 rfl)
set_option maxRecDepth 20000 in
theorem dX8_write_14 : decode cX8_write 14 = .ok (.iastore, 1) := dc_79 (lxX8_write 0 14 rfl)
set_option maxRecDepth 20000 in
theorem dX8_write_15 : decode cX8_write 15 = .ok (.iadd, 1) := dc_96 (lxX8_write 0 15 rfl)
set_option maxRecDepth 20000 in
theorem dX8_write_16 : decode cX8_write 16 = .ok (.iload_n 2, 1) := dc_28 (lxX8_write 1 0 rfl)
set_option maxRecDepth 20000 in
theorem dX8_write_17 : decode cX8_write 17 = .ok (.iastore, 1) := dc_79 (lxX8_write 1 1 rfl)
set_option maxRecDepth 20000 in
theorem dX8_write_18 : decode cX8_write 18 = .ok (.return_, 1) := dc_177 (lxX8_write 1 2 rfl)
def lb_sgX8_read : List (List UInt8) := [[42, 180, 0, 7, 43, 3, 46, 43, 6, 92, 46, 91, 4, 96, 79, 96], [46, 172]]
set_option maxRecDepth 100000 in
theorem lb_seX8_read : cX8_read.data.toList = lb_sgX8_read.flatten := by decide +kernel
theorem lb_lnX8_read : ∀ s ∈ lb_sgX8_read.dropLast, s.length = 16 := by decide +kernel
theorem lxX8_read (k j : Nat) {b : UInt8} (h : (lb_sgX8_read[k]?).bind (fun s => s[j]?) = some b) : lb_at cX8_read (16 * k + j) b := by
  unfold lb_at
  rw [lb_seX8_read]
  exact lb_flat 16 lb_sgX8_read k j b lb_lnX8_read h
set_option maxRecDepth 20000 in
theorem dX8_read_0 : decode cX8_read 0 = .ok (.aload_n 0, 1) := dc_42 (lxX8_read 0 0 rfl)
set_option maxRecDepth 20000 in
theorem dX8_read_1 : decode cX8_read 1 = .ok (.getfield 7, 3) := dc_180 0 7 (lxX8_read 0 1 rfl) (lxX8_read 0 2 rfl) (lxX8_read 0 3 rfl)
set_option maxRecDepth 20000 in
theorem dX8_read_4 : decode cX8_read 4 = .ok (.aload_n 1, 1) := dc_43 (lxX8_read 0 4 rfl)
set_option maxRecDepth 20000 in
theorem dX8_read_5 : decode cX8_read 5 = .ok (.iconst 0, 1) := dc_3 (lxX8_read 0 5 rfl)
set_option maxRecDepth 20000 in
theorem dX8_read_6 : decode cX8_read 6 = .ok (.iaload, 1) := dc_46 (lxX8_read 0 6 rfl)
set_option maxRecDepth 20000 in
theorem dX8_read_7 : decode cX8_read 7 = .ok (.aload_n 1, 1) := dc_43 (lxX8_read 0 7 rfl)
set_option maxRecDepth 20000 in
theorem dX8_read_8 : decode cX8_read 8 = .ok (.iconst 3, 1) := dc_6 (lxX8_read 0 8 rfl)
set_option maxRecDepth 20000 in
theorem dX8_read_9 : decode cX8_read 9 = .ok (.dup2, 1) := dc_92 (lxX8_read 0 9 rfl)
set_option maxRecDepth 20000 in
theorem dX8_read_10 : decode cX8_read 10 = .ok (.iaload, 1) := dc_46 (lxX8_read 0 10 rfl)
set_option maxRecDepth 20000 in
theorem dX8_read_11 : decode cX8_read 11 = .ok (.dup_x2, 1) := dc_91 (lxX8_read 0 11 rfl)
set_option maxRecDepth 20000 in
theorem dX8_read_12 : decode cX8_read 12 = .ok (.iconst 1, 1) := dc_4 (lxX8_read 0 12 rfl)
set_option maxRecDepth 20000 in
theorem dX8_read_13 : decode cX8_read 13 = .ok (.iadd, 1) := dc_96 (lxX8_read 0 13 rfl)
set_option maxRecDepth 20000 in
theorem dX8_read_14 : decode cX8_read 14 = .ok (.iastore, 1) := dc_79 (lxX8_read 0 14 rfl)
set_option maxRecDepth 20000 in
theorem dX8_read_15 : decode cX8_read 15 = .ok (.iadd, 1) := dc_96 (lxX8_read 0 15 rfl)
set_option maxRecDepth 20000 in
theorem dX8_read_16 : decode cX8_read 16 = .ok (.iaload, 1) := dc_46 (lxX8_read 1 0 rfl)
set_option maxRecDepth 20000 in
theorem dX8_read_17 : decode cX8_read 17 = .ok (.ireturn, 1) := dc_172 (lxX8_read 1 1 rfl)
def lb_sgX8_place : List (List UInt8) := [[42, 6, 27, 79, 42, 5, 28, 79, 42, 7, 29, 79, 177]]
set_option maxRecDepth 100000 in
theorem lb_seX8_place : cX8_place.data.toList = lb_sgX8_place.flatten := by decide +kernel
theorem lb_lnX8_place : ∀ s ∈ lb_sgX8_place.dropLast, s.length = 16 := by decide +kernel
theorem lxX8_place (k j : Nat) {b : UInt8} (h : (lb_sgX8_place[k]?).bind (fun s => s[j]?) = some b) : lb_at cX8_place (16 * k + j) b := by
  unfold lb_at
  rw [lb_seX8_place]
  exact lb_flat 16 lb_sgX8_place k j b lb_lnX8_place h
set_option maxRecDepth 20000 in
theorem dX8_place_0 : decode cX8_place 0 = .ok (.aload_n 0, 1) := dc_42 (lxX8_place 0 0 rfl)
set_option maxRecDepth 20000 in
theorem dX8_place_1 : decode cX8_place 1 = .ok (.iconst 3, 1) := dc_6 (lxX8_place 0 1 rfl)
set_option maxRecDepth 20000 in
theorem dX8_place_2 : decode cX8_place 2 = .ok (.iload_n 1, 1) := dc_27 (lxX8_place 0 2 rfl)
set_option maxRecDepth 20000 in
theorem dX8_place_3 : decode cX8_place 3 = .ok (.iastore, 1) := dc_79 (lxX8_place 0 3 rfl)
set_option maxRecDepth 20000 in
theorem dX8_place_4 : decode cX8_place 4 = .ok (.aload_n 0, 1) := dc_42 (lxX8_place 0 4 rfl)
set_option maxRecDepth 20000 in
theorem dX8_place_5 : decode cX8_place 5 = .ok (.iconst 2, 1) := dc_5 (lxX8_place 0 5 rfl)
set_option maxRecDepth 20000 in
theorem dX8_place_6 : decode cX8_place 6 = .ok (.iload_n 2, 1) := dc_28 (lxX8_place 0 6 rfl)
set_option maxRecDepth 20000 in
theorem dX8_place_7 : decode cX8_place 7 = .ok (.iastore, 1) := dc_79 (lxX8_place 0 7 rfl)
set_option maxRecDepth 20000 in
theorem dX8_place_8 : decode cX8_place 8 = .ok (.aload_n 0, 1) := dc_42 (lxX8_place 0 8 rfl)
set_option maxRecDepth 20000 in
theorem dX8_place_9 : decode cX8_place 9 = .ok (.iconst 4, 1) := dc_7 (lxX8_place 0 9 rfl)
set_option maxRecDepth 20000 in
theorem dX8_place_10 : decode cX8_place 10 = .ok (.iload_n 3, 1) := dc_29 (lxX8_place 0 10 rfl)
set_option maxRecDepth 20000 in
theorem dX8_place_11 : decode cX8_place 11 = .ok (.iastore, 1) := dc_79 (lxX8_place 0 11 rfl)
set_option maxRecDepth 20000 in
theorem dX8_place_12 : decode cX8_place 12 = .ok (.return_, 1) := dc_177 (lxX8_place 0 12 rfl)
noncomputable def sgX8_told : List (List Cond) := [[.code yX8_told cX8_told 5 (some (.object "java/lang/String"))], wsX8_told_r1, wsX8_told_r2, wsX8_told_r3, wsX8_told_r4, wsX8_told_r5, wsX8_told_r6, wsX8_told_r7, wsX8_told_r8, wsJ40, wsJ00]
theorem seX8_told : sgX8_told.flatten = wsX8_told := by simp only [sgX8_told, wsX8_told, List.flatten_cons, List.flatten_nil, List.append_assoc, List.append_nil, List.cons_append, List.nil_append]
set_option maxRecDepth 20000 in
theorem ggX8_told_J4_init_da8c8 : GoodIn wsX8_told wsJ4_init_da8c8 := goodIn_s seX8_told _ [pq_1_5, pq_1_6, pq_1_7, pq_1_8, pq_1_9, pq_1_10, pq_1_11, pq_1_12, pq_1_13, pq_1_14, pq_1_15, pq_1_16, pq_1_17, pq_1_18, pq_1_19, pq_1_20, pq_1_21, pq_1_22, pq_1_23, pq_2_0, pq_9_0, pq_9_1, pq_9_2, pq_9_3] (by rfl) (by decide +kernel)
set_option maxRecDepth 20000 in
theorem gX8_told_J4_init_da8c8 : GoodIn wsX8_told (wsJ4_init_da8c8) := ggX8_told_J4_init_da8c8
set_option maxRecDepth 20000 in
theorem ggX8_told_J4_append_cf468 : GoodIn wsX8_told wsJ4_append_cf468 := goodIn_s seX8_told _ [pq_2_4, pq_2_5, pq_2_6, pq_2_7, pq_2_8, pq_1_8, pq_2_9, pq_2_10, pq_1_15, pq_2_11, pq_2_12, pq_2_13, pq_2_14, pq_2_15, pq_1_16, pq_2_16, pq_2_17, pq_2_18, pq_2_19, pq_2_20, pq_2_21, pq_2_22, pq_2_23, pq_3_0, pq_3_1, pq_3_2, pq_3_3, pq_3_4, pq_3_5, pq_3_6, pq_3_7, pq_3_8, pq_3_9, pq_3_10, pq_3_11, pq_3_12, pq_3_13, pq_3_14, pq_3_15, pq_3_16, pq_3_17, pq_3_18, pq_3_19, pq_1_14, pq_3_20, pq_3_21, pq_3_22, pq_3_23, pq_4_0, pq_4_1, pq_4_2, pq_4_3, pq_4_4, pq_4_5, pq_4_6, pq_4_7, pq_1_13, pq_4_8, pq_4_9, pq_4_10, pq_4_11, pq_4_12, pq_4_13, pq_4_14, pq_4_15, pq_4_16, pq_1_17, pq_1_18, pq_1_19, pq_1_20, pq_1_21, pq_1_22, pq_1_23, pq_2_0, pq_4_17, pq_4_18, pq_4_19, pq_4_20, pq_4_21, pq_4_22, pq_4_23, pq_5_0, pq_5_1, pq_5_2, pq_5_3, pq_5_4, pq_5_5, pq_5_6, pq_5_7, pq_5_8, pq_5_9, pq_5_10, pq_5_11, pq_5_12, pq_5_13, pq_5_14, pq_5_15, pq_5_16, pq_5_17, pq_5_18, pq_5_19, pq_5_20, pq_5_21, pq_5_22, pq_5_23, pq_6_0, pq_6_1, pq_6_2, pq_6_3, pq_6_4, pq_6_5, pq_6_6, pq_6_7, pq_9_0, pq_9_1, pq_9_2, pq_9_3] (by rfl) (by decide +kernel)
set_option maxRecDepth 20000 in
theorem gX8_told_J4_append_cf468 : GoodIn wsX8_told (wsV RX8 69 RJ4 yJ4_append_cf468 wsJ4_append_cf468) := goodIn_app (goodIn_s seX8_told _ [pq_2_1, pq_2_2, pq_2_3, pq_1_2] (by rfl) (by decide +kernel)) ggX8_told_J4_append_cf468
set_option maxRecDepth 20000 in
theorem ggX8_told_J4_toString_0e30d : GoodIn wsX8_told wsJ4_toString_0e30d := goodIn_s seX8_told _ [pq_6_11, pq_6_12, pq_6_13, pq_5_7, pq_6_14, pq_6_15, pq_6_16, pq_6_17, pq_6_18, pq_6_19, pq_6_20, pq_1_11, pq_1_12, pq_6_21, pq_6_22, pq_6_23, pq_7_0, pq_7_1, pq_7_2, pq_7_3, pq_7_4, pq_1_8, pq_7_5, pq_1_15, pq_7_6, pq_7_7, pq_7_8, pq_7_9, pq_7_10, pq_1_2, pq_7_11, pq_7_12, pq_2_7, pq_7_13, pq_7_14, pq_2_10, pq_7_15, pq_4_4, pq_4_5, pq_4_6, pq_4_7, pq_1_13, pq_1_16, pq_7_16, pq_7_17, pq_3_12, pq_7_18, pq_3_14, pq_3_15, pq_3_16, pq_3_17, pq_3_18, pq_3_19, pq_7_19, pq_7_20, pq_7_21, pq_1_14, pq_3_20, pq_3_21, pq_3_4, pq_3_22, pq_3_23, pq_4_0, pq_4_1, pq_4_2, pq_7_22, pq_7_23, pq_8_0, pq_8_1, pq_1_1, pq_8_2, pq_8_3, pq_1_19, pq_8_4, pq_8_5, pq_8_6, pq_8_7, pq_4_23, pq_5_0, pq_5_1, pq_5_2, pq_5_3, pq_5_4, pq_5_5, pq_5_6, pq_5_8, pq_5_9, pq_5_10, pq_5_11, pq_5_12, pq_5_13, pq_8_8, pq_8_9, pq_8_10, pq_5_17, pq_5_18, pq_5_19, pq_1_21, pq_1_22, pq_1_23, pq_2_0, pq_8_11, pq_8_12, pq_8_13, pq_8_14, pq_10_0, pq_10_1, pq_10_2, pq_10_3, pq_9_0, pq_9_1, pq_9_2, pq_9_3] (by rfl) (by decide +kernel)
set_option maxRecDepth 20000 in
theorem gX8_told_J4_toString_0e30d : GoodIn wsX8_told (wsV RX8 73 RJ4 yJ4_toString_0e30d wsJ4_toString_0e30d) := goodIn_app (goodIn_s seX8_told _ [pq_6_8, pq_6_9, pq_6_10, pq_1_2] (by rfl) (by decide +kernel)) ggX8_told_J4_toString_0e30d
def lb_sgX8_told : List (List UInt8) := [[187, 0, 66, 89, 183, 0, 68, 78, 27, 54, 4, 21, 4, 28, 162, 0], [19, 45, 42, 21, 4, 46, 146, 182, 0, 69, 87, 132, 4, 1, 167, 255], [237, 45, 182, 0, 73, 176]]
set_option maxRecDepth 100000 in
theorem lb_seX8_told : cX8_told.data.toList = lb_sgX8_told.flatten := by decide +kernel
theorem lb_lnX8_told : ∀ s ∈ lb_sgX8_told.dropLast, s.length = 16 := by decide +kernel
theorem lxX8_told (k j : Nat) {b : UInt8} (h : (lb_sgX8_told[k]?).bind (fun s => s[j]?) = some b) : lb_at cX8_told (16 * k + j) b := by
  unfold lb_at
  rw [lb_seX8_told]
  exact lb_flat 16 lb_sgX8_told k j b lb_lnX8_told h
set_option maxRecDepth 20000 in
theorem dX8_told_0 : decode cX8_told 0 = .ok (.new 66, 3) := dc_187 0 66 (lxX8_told 0 0 rfl) (lxX8_told 0 1 rfl) (lxX8_told 0 2 rfl)
set_option maxRecDepth 20000 in
theorem dX8_told_3 : decode cX8_told 3 = .ok (.dup, 1) := dc_89 (lxX8_told 0 3 rfl)
set_option maxRecDepth 20000 in
theorem dX8_told_4 : decode cX8_told 4 = .ok (.invokespecial 68, 3) := dc_183 0 68 (lxX8_told 0 4 rfl) (lxX8_told 0 5 rfl) (lxX8_told 0 6 rfl)
set_option maxRecDepth 20000 in
theorem dX8_told_7 : decode cX8_told 7 = .ok (.astore_n 3, 1) := dc_78 (lxX8_told 0 7 rfl)
set_option maxRecDepth 20000 in
theorem dX8_told_8 : decode cX8_told 8 = .ok (.iload_n 1, 1) := dc_27 (lxX8_told 0 8 rfl)
set_option maxRecDepth 20000 in
theorem dX8_told_9 : decode cX8_told 9 = .ok (.istore 4, 2) := dc_54 4 (lxX8_told 0 9 rfl) (lxX8_told 0 10 rfl)
set_option maxRecDepth 20000 in
theorem dX8_told_11 : decode cX8_told 11 = .ok (.iload 4, 2) := dc_21 4 (lxX8_told 0 11 rfl) (lxX8_told 0 12 rfl)
set_option maxRecDepth 20000 in
theorem dX8_told_13 : decode cX8_told 13 = .ok (.iload_n 2, 1) := dc_28 (lxX8_told 0 13 rfl)
set_option maxRecDepth 20000 in
theorem dX8_told_14 : decode cX8_told 14 = .ok (.if_icmp .ge 19, 3) := dc_162 0 19 (lxX8_told 0 14 rfl) (lxX8_told 0 15 rfl) (lxX8_told 1 0 rfl)
set_option maxRecDepth 20000 in
theorem dX8_told_17 : decode cX8_told 17 = .ok (.aload_n 3, 1) := dc_45 (lxX8_told 1 1 rfl)
set_option maxRecDepth 20000 in
theorem dX8_told_18 : decode cX8_told 18 = .ok (.aload_n 0, 1) := dc_42 (lxX8_told 1 2 rfl)
set_option maxRecDepth 20000 in
theorem dX8_told_19 : decode cX8_told 19 = .ok (.iload 4, 2) := dc_21 4 (lxX8_told 1 3 rfl) (lxX8_told 1 4 rfl)
set_option maxRecDepth 20000 in
theorem dX8_told_21 : decode cX8_told 21 = .ok (.iaload, 1) := dc_46 (lxX8_told 1 5 rfl)
set_option maxRecDepth 20000 in
theorem dX8_told_22 : decode cX8_told 22 = .ok (.i2c, 1) := dc_146 (lxX8_told 1 6 rfl)
set_option maxRecDepth 20000 in
theorem dX8_told_23 : decode cX8_told 23 = .ok (.invokevirtual 69, 3) := dc_182 0 69 (lxX8_told 1 7 rfl) (lxX8_told 1 8 rfl) (lxX8_told 1 9 rfl)
set_option maxRecDepth 20000 in
theorem dX8_told_26 : decode cX8_told 26 = .ok (.pop, 1) := dc_87 (lxX8_told 1 10 rfl)
set_option maxRecDepth 20000 in
theorem dX8_told_27 : decode cX8_told 27 = .ok (.iinc 4 1, 3) := dc_132 4 1 (lxX8_told 1 11 rfl) (lxX8_told 1 12 rfl) (lxX8_told 1 13 rfl)
set_option maxRecDepth 20000 in
theorem dX8_told_30 : decode cX8_told 30 = .ok (.goto (-19), 3) := dc_167 255 237 (lxX8_told 1 14 rfl) (lxX8_told 1 15 rfl) (lxX8_told 2 0 rfl)
set_option maxRecDepth 20000 in
theorem dX8_told_33 : decode cX8_told 33 = .ok (.aload_n 3, 1) := dc_45 (lxX8_told 2 1 rfl)
set_option maxRecDepth 20000 in
theorem dX8_told_34 : decode cX8_told 34 = .ok (.invokevirtual 73, 3) := dc_182 0 73 (lxX8_told 2 2 rfl) (lxX8_told 2 3 rfl) (lxX8_told 2 4 rfl)
set_option maxRecDepth 20000 in
theorem dX8_told_37 : decode cX8_told 37 = .ok (.areturn, 1) := dc_176 (lxX8_told 2 5 rfl)
def lb_sgX8_letter : List (List UInt8) := [[26, 61, 3, 62, 29, 27, 162, 0, 13, 28, 6, 108, 61, 132, 3, 1], [167, 255, 244, 16, 97, 28, 6, 112, 96, 172]]
set_option maxRecDepth 100000 in
theorem lb_seX8_letter : cX8_letter.data.toList = lb_sgX8_letter.flatten := by decide +kernel
theorem lb_lnX8_letter : ∀ s ∈ lb_sgX8_letter.dropLast, s.length = 16 := by decide +kernel
theorem lxX8_letter (k j : Nat) {b : UInt8} (h : (lb_sgX8_letter[k]?).bind (fun s => s[j]?) = some b) : lb_at cX8_letter (16 * k + j) b := by
  unfold lb_at
  rw [lb_seX8_letter]
  exact lb_flat 16 lb_sgX8_letter k j b lb_lnX8_letter h
set_option maxRecDepth 20000 in
theorem dX8_letter_0 : decode cX8_letter 0 = .ok (.iload_n 0, 1) := dc_26 (lxX8_letter 0 0 rfl)
set_option maxRecDepth 20000 in
theorem dX8_letter_1 : decode cX8_letter 1 = .ok (.istore_n 2, 1) := dc_61 (lxX8_letter 0 1 rfl)
set_option maxRecDepth 20000 in
theorem dX8_letter_2 : decode cX8_letter 2 = .ok (.iconst 0, 1) := dc_3 (lxX8_letter 0 2 rfl)
set_option maxRecDepth 20000 in
theorem dX8_letter_3 : decode cX8_letter 3 = .ok (.istore_n 3, 1) := dc_62 (lxX8_letter 0 3 rfl)
set_option maxRecDepth 20000 in
theorem dX8_letter_4 : decode cX8_letter 4 = .ok (.iload_n 3, 1) := dc_29 (lxX8_letter 0 4 rfl)
set_option maxRecDepth 20000 in
theorem dX8_letter_5 : decode cX8_letter 5 = .ok (.iload_n 1, 1) := dc_27 (lxX8_letter 0 5 rfl)
set_option maxRecDepth 20000 in
theorem dX8_letter_6 : decode cX8_letter 6 = .ok (.if_icmp .ge 13, 3) := dc_162 0 13 (lxX8_letter 0 6 rfl) (lxX8_letter 0 7 rfl) (lxX8_letter 0 8 rfl)
set_option maxRecDepth 20000 in
theorem dX8_letter_9 : decode cX8_letter 9 = .ok (.iload_n 2, 1) := dc_28 (lxX8_letter 0 9 rfl)
set_option maxRecDepth 20000 in
theorem dX8_letter_10 : decode cX8_letter 10 = .ok (.iconst 3, 1) := dc_6 (lxX8_letter 0 10 rfl)
set_option maxRecDepth 20000 in
theorem dX8_letter_11 : decode cX8_letter 11 = .ok (.idiv, 1) := dc_108 (lxX8_letter 0 11 rfl)
set_option maxRecDepth 20000 in
theorem dX8_letter_12 : decode cX8_letter 12 = .ok (.istore_n 2, 1) := dc_61 (lxX8_letter 0 12 rfl)
set_option maxRecDepth 20000 in
theorem dX8_letter_13 : decode cX8_letter 13 = .ok (.iinc 3 1, 3) := dc_132 3 1 (lxX8_letter 0 13 rfl) (lxX8_letter 0 14 rfl) (lxX8_letter 0 15 rfl)
set_option maxRecDepth 20000 in
theorem dX8_letter_16 : decode cX8_letter 16 = .ok (.goto (-12), 3) := dc_167 255 244 (lxX8_letter 1 0 rfl) (lxX8_letter 1 1 rfl) (lxX8_letter 1 2 rfl)
set_option maxRecDepth 20000 in
theorem dX8_letter_19 : decode cX8_letter 19 = .ok (.bipush 97, 2) := dc_16 97 (lxX8_letter 1 3 rfl) (lxX8_letter 1 4 rfl)
set_option maxRecDepth 20000 in
theorem dX8_letter_21 : decode cX8_letter 21 = .ok (.iload_n 2, 1) := dc_28 (lxX8_letter 1 5 rfl)
set_option maxRecDepth 20000 in
theorem dX8_letter_22 : decode cX8_letter 22 = .ok (.iconst 3, 1) := dc_6 (lxX8_letter 1 6 rfl)
set_option maxRecDepth 20000 in
theorem dX8_letter_23 : decode cX8_letter 23 = .ok (.irem, 1) := dc_112 (lxX8_letter 1 7 rfl)
set_option maxRecDepth 20000 in
theorem dX8_letter_24 : decode cX8_letter 24 = .ok (.iadd, 1) := dc_96 (lxX8_letter 1 8 rfl)
set_option maxRecDepth 20000 in
theorem dX8_letter_25 : decode cX8_letter 25 = .ok (.ireturn, 1) := dc_172 (lxX8_letter 1 9 rfl)
noncomputable def sgX8_allocate : List (List Cond) := [[.code yX8_allocate cX8_allocate 3 (some .int)], wsX8_allocate_r1, wsX8_allocate_r2, wsX80]
theorem seX8_allocate : sgX8_allocate.flatten = wsX8_allocate := by simp only [sgX8_allocate, wsX8_allocate, List.flatten_cons, List.flatten_nil, List.append_assoc, List.append_nil, List.cons_append, List.nil_append]
set_option maxRecDepth 20000 in
theorem ggX8_allocate_X8_isNoWindow : GoodIn wsX8_allocate wsX8_isNoWindow := goodIn_s seX8_allocate _ [pq_1_4, pq_1_5, pq_1_6, pq_1_3, pq_1_7] (by rfl) (by decide +kernel)
set_option maxRecDepth 20000 in
theorem gX8_allocate_X8_isNoWindow : GoodIn wsX8_allocate (va_wsS RX8 77 yX8_isNoWindow wsX8_isNoWindow) := goodIn_app (goodIn_s seX8_allocate _ [pq_1_1, pq_1_2, pq_1_3] (by rfl) (by decide +kernel)) ggX8_allocate_X8_isNoWindow
set_option maxRecDepth 20000 in
theorem ggX8_allocate_X8_isNo : GoodIn wsX8_allocate wsX8_isNo := goodIn_s seX8_allocate _ [pq_1_7] (by rfl) (by decide +kernel)
set_option maxRecDepth 20000 in
theorem gX8_allocate_X8_isNo : GoodIn wsX8_allocate (va_wsS RX8 41 yX8_isNo wsX8_isNo) := goodIn_app (goodIn_s seX8_allocate _ [pq_1_5, pq_1_6, pq_1_3] (by rfl) (by decide +kernel)) ggX8_allocate_X8_isNo
set_option maxRecDepth 20000 in
theorem ggX8_allocate_X8_isThrown : GoodIn wsX8_allocate wsX8_isThrown := goodIn_s seX8_allocate _ [pq_1_11, pq_1_12, pq_3_0, pq_3_1, pq_3_2, pq_3_3, pq_3_4, pq_3_5, pq_3_6, pq_3_7, pq_3_8, pq_3_9, pq_3_10] (by rfl) (by decide +kernel)
set_option maxRecDepth 20000 in
theorem gX8_allocate_X8_isThrown : GoodIn wsX8_allocate (wsV RX8 81 RX8 yX8_isThrown wsX8_isThrown) := goodIn_app (goodIn_s seX8_allocate _ [pq_1_8, pq_1_9, pq_1_10, pq_1_3] (by rfl) (by decide +kernel)) ggX8_allocate_X8_isThrown
set_option maxRecDepth 20000 in
theorem ggX8_allocate_X8_fresh : GoodIn wsX8_allocate wsX8_fresh := goodIn_s seX8_allocate _ [pq_1_16, pq_1_17, pq_1_18, pq_1_19, pq_1_20, pq_1_21, pq_1_22, pq_1_23, pq_3_0, pq_3_1, pq_3_2, pq_3_3, pq_3_4, pq_3_5, pq_3_6, pq_3_7, pq_3_8, pq_3_9, pq_3_10] (by rfl) (by decide +kernel)
set_option maxRecDepth 20000 in
theorem gX8_allocate_X8_fresh : GoodIn wsX8_allocate (wsV RX8 34 RX8 yX8_fresh wsX8_fresh) := goodIn_app (goodIn_s seX8_allocate _ [pq_1_13, pq_1_14, pq_1_15, pq_1_3] (by rfl) (by decide +kernel)) ggX8_allocate_X8_fresh
set_option maxRecDepth 20000 in
theorem ggX8_allocate_X8_done : GoodIn wsX8_allocate wsX8_done := goodIn_s seX8_allocate _ [pq_2_3, pq_2_4, pq_3_0, pq_3_1, pq_3_2, pq_3_3, pq_3_4, pq_3_5, pq_3_6, pq_3_7, pq_3_8, pq_3_9, pq_3_10] (by rfl) (by decide +kernel)
set_option maxRecDepth 20000 in
theorem gX8_allocate_X8_done : GoodIn wsX8_allocate (wsV RX8 62 RX8 yX8_done wsX8_done) := goodIn_app (goodIn_s seX8_allocate _ [pq_2_0, pq_2_1, pq_2_2, pq_1_3] (by rfl) (by decide +kernel)) ggX8_allocate_X8_done
def lb_sgX8_allocate : List (List UInt8) := [[42, 27, 184, 0, 77, 28, 3, 16, 40, 184, 0, 41, 182, 0, 81, 153], [0, 5, 3, 172, 42, 180, 0, 14, 27, 42, 28, 182, 0, 34, 83, 42], [28, 182, 0, 62, 172]]
set_option maxRecDepth 100000 in
theorem lb_seX8_allocate : cX8_allocate.data.toList = lb_sgX8_allocate.flatten := by decide +kernel
theorem lb_lnX8_allocate : ∀ s ∈ lb_sgX8_allocate.dropLast, s.length = 16 := by decide +kernel
theorem lxX8_allocate (k j : Nat) {b : UInt8} (h : (lb_sgX8_allocate[k]?).bind (fun s => s[j]?) = some b) : lb_at cX8_allocate (16 * k + j) b := by
  unfold lb_at
  rw [lb_seX8_allocate]
  exact lb_flat 16 lb_sgX8_allocate k j b lb_lnX8_allocate h
set_option maxRecDepth 20000 in
theorem dX8_allocate_0 : decode cX8_allocate 0 = .ok (.aload_n 0, 1) := dc_42 (lxX8_allocate 0 0 rfl)
set_option maxRecDepth 20000 in
theorem dX8_allocate_1 : decode cX8_allocate 1 = .ok (.iload_n 1, 1) := dc_27 (lxX8_allocate 0 1 rfl)
set_option maxRecDepth 20000 in
theorem dX8_allocate_2 : decode cX8_allocate 2 = .ok (.invokestatic 77, 3) := dc_184 0 77 (lxX8_allocate 0 2 rfl) (lxX8_allocate 0 3 rfl) (lxX8_allocate 0 4 rfl)
set_option maxRecDepth 20000 in
theorem dX8_allocate_5 : decode cX8_allocate 5 = .ok (.iload_n 2, 1) := dc_28 (lxX8_allocate 0 5 rfl)
set_option maxRecDepth 20000 in
theorem dX8_allocate_6 : decode cX8_allocate 6 = .ok (.iconst 0, 1) := dc_3 (lxX8_allocate 0 6 rfl)
set_option maxRecDepth 20000 in
theorem dX8_allocate_7 : decode cX8_allocate 7 = .ok (.bipush 40, 2) := dc_16 40 (lxX8_allocate 0 7 rfl) (lxX8_allocate 0 8 rfl)
set_option maxRecDepth 20000 in
theorem dX8_allocate_9 : decode cX8_allocate 9 = .ok (.invokestatic 41, 3) := dc_184 0 41 (lxX8_allocate 0 9 rfl) (lxX8_allocate 0 10 rfl) (lxX8_allocate 0 11 rfl)
set_option maxRecDepth 20000 in
theorem dX8_allocate_12 : decode cX8_allocate 12 = .ok (.invokevirtual 81, 3) := dc_182 0 81 (lxX8_allocate 0 12 rfl) (lxX8_allocate 0 13 rfl) (lxX8_allocate 0 14 rfl)
set_option maxRecDepth 20000 in
theorem dX8_allocate_15 : decode cX8_allocate 15 = .ok (.ifCond .eq 5, 3) := dc_153 0 5 (lxX8_allocate 0 15 rfl) (lxX8_allocate 1 0 rfl) (lxX8_allocate 1 1 rfl)
set_option maxRecDepth 20000 in
theorem dX8_allocate_18 : decode cX8_allocate 18 = .ok (.iconst 0, 1) := dc_3 (lxX8_allocate 1 2 rfl)
set_option maxRecDepth 20000 in
theorem dX8_allocate_19 : decode cX8_allocate 19 = .ok (.ireturn, 1) := dc_172 (lxX8_allocate 1 3 rfl)
set_option maxRecDepth 20000 in
theorem dX8_allocate_20 : decode cX8_allocate 20 = .ok (.aload_n 0, 1) := dc_42 (lxX8_allocate 1 4 rfl)
set_option maxRecDepth 20000 in
theorem dX8_allocate_21 : decode cX8_allocate 21 = .ok (.getfield 14, 3) := dc_180 0 14 (lxX8_allocate 1 5 rfl) (lxX8_allocate 1 6 rfl) (lxX8_allocate 1 7 rfl)
set_option maxRecDepth 20000 in
theorem dX8_allocate_24 : decode cX8_allocate 24 = .ok (.iload_n 1, 1) := dc_27 (lxX8_allocate 1 8 rfl)
set_option maxRecDepth 20000 in
theorem dX8_allocate_25 : decode cX8_allocate 25 = .ok (.aload_n 0, 1) := dc_42 (lxX8_allocate 1 9 rfl)
set_option maxRecDepth 20000 in
theorem dX8_allocate_26 : decode cX8_allocate 26 = .ok (.iload_n 2, 1) := dc_28 (lxX8_allocate 1 10 rfl)
set_option maxRecDepth 20000 in
theorem dX8_allocate_27 : decode cX8_allocate 27 = .ok (.invokevirtual 34, 3) := dc_182 0 34 (lxX8_allocate 1 11 rfl) (lxX8_allocate 1 12 rfl) (lxX8_allocate 1 13 rfl)
set_option maxRecDepth 20000 in
theorem dX8_allocate_30 : decode cX8_allocate 30 = .ok (.aastore, 1) := dc_83 (lxX8_allocate 1 14 rfl)
set_option maxRecDepth 20000 in
theorem dX8_allocate_31 : decode cX8_allocate 31 = .ok (.aload_n 0, 1) := dc_42 (lxX8_allocate 1 15 rfl)
set_option maxRecDepth 20000 in
theorem dX8_allocate_32 : decode cX8_allocate 32 = .ok (.iload_n 2, 1) := dc_28 (lxX8_allocate 2 0 rfl)
set_option maxRecDepth 20000 in
theorem dX8_allocate_33 : decode cX8_allocate 33 = .ok (.invokevirtual 62, 3) := dc_182 0 62 (lxX8_allocate 2 1 rfl) (lxX8_allocate 2 2 rfl) (lxX8_allocate 2 3 rfl)
set_option maxRecDepth 20000 in
theorem dX8_allocate_36 : decode cX8_allocate 36 = .ok (.ireturn, 1) := dc_172 (lxX8_allocate 2 4 rfl)
noncomputable def sgX8_slice : List (List Cond) := [[.code yX8_slice cX8_slice 4 (some .int)], wsX8_slice_r1, wsX8_slice_r2, wsX80]
theorem seX8_slice : sgX8_slice.flatten = wsX8_slice := by simp only [sgX8_slice, wsX8_slice, List.flatten_cons, List.flatten_nil, List.append_assoc, List.append_nil, List.cons_append, List.nil_append]
set_option maxRecDepth 20000 in
theorem ggX8_slice_X8_isNoWindow : GoodIn wsX8_slice wsX8_isNoWindow := goodIn_s seX8_slice _ [pq_1_4, pq_1_5, pq_1_6, pq_1_3, pq_1_7] (by rfl) (by decide +kernel)
set_option maxRecDepth 20000 in
theorem gX8_slice_X8_isNoWindow : GoodIn wsX8_slice (va_wsS RX8 77 yX8_isNoWindow wsX8_isNoWindow) := goodIn_app (goodIn_s seX8_slice _ [pq_1_1, pq_1_2, pq_1_3] (by rfl) (by decide +kernel)) ggX8_slice_X8_isNoWindow
set_option maxRecDepth 20000 in
theorem ggX8_slice_X8_isThrown : GoodIn wsX8_slice wsX8_isThrown := goodIn_s seX8_slice _ [pq_1_11, pq_1_12, pq_3_0, pq_3_1, pq_3_2, pq_3_3, pq_3_4, pq_3_5, pq_3_6, pq_3_7, pq_3_8, pq_3_9, pq_3_10] (by rfl) (by decide +kernel)
set_option maxRecDepth 20000 in
theorem gX8_slice_X8_isThrown : GoodIn wsX8_slice (wsV RX8 81 RX8 yX8_isThrown wsX8_isThrown) := goodIn_app (goodIn_s seX8_slice _ [pq_1_8, pq_1_9, pq_1_10, pq_1_3] (by rfl) (by decide +kernel)) ggX8_slice_X8_isThrown
set_option maxRecDepth 20000 in
theorem ggX8_slice_X8_length : GoodIn wsX8_slice wsX8_length := goodIn_s seX8_slice _ [pq_1_15] (by rfl) (by decide +kernel)
set_option maxRecDepth 20000 in
theorem gX8_slice_X8_length : GoodIn wsX8_slice (va_wsS RX8 54 yX8_length wsX8_length) := goodIn_app (goodIn_s seX8_slice _ [pq_1_13, pq_1_14, pq_1_3] (by rfl) (by decide +kernel)) ggX8_slice_X8_length
set_option maxRecDepth 20000 in
theorem ggX8_slice_X8_became : GoodIn wsX8_slice wsX8_became := goodIn_s seX8_slice _ [pq_1_19, pq_1_0, pq_1_20, pq_1_21, pq_1_22, pq_1_23, pq_1_3, pq_2_0, pq_2_1, pq_3_0, pq_3_1, pq_3_2, pq_3_3, pq_3_4, pq_3_5, pq_3_6, pq_3_7, pq_3_8, pq_3_9, pq_3_10] (by rfl) (by decide +kernel)
set_option maxRecDepth 20000 in
theorem gX8_slice_X8_became : GoodIn wsX8_slice (wsV RX8 85 RX8 yX8_became wsX8_became) := goodIn_app (goodIn_s seX8_slice _ [pq_1_16, pq_1_17, pq_1_18, pq_1_3] (by rfl) (by decide +kernel)) ggX8_slice_X8_became
def lb_sgX8_slice : List (List UInt8) := [[42, 27, 184, 0, 77, 154, 0, 10, 28, 184, 0, 77, 153, 0, 7, 4], [167, 0, 4, 3, 3, 182, 0, 81, 153, 0, 5, 3, 172, 42, 180, 0], [14, 27, 50, 78, 42, 28, 45, 3, 46, 45, 6, 46, 96, 45, 184, 0], [54, 45, 184, 0, 54, 3, 2, 182, 0, 85, 172]]
set_option maxRecDepth 100000 in
theorem lb_seX8_slice : cX8_slice.data.toList = lb_sgX8_slice.flatten := by decide +kernel
theorem lb_lnX8_slice : ∀ s ∈ lb_sgX8_slice.dropLast, s.length = 16 := by decide +kernel
theorem lxX8_slice (k j : Nat) {b : UInt8} (h : (lb_sgX8_slice[k]?).bind (fun s => s[j]?) = some b) : lb_at cX8_slice (16 * k + j) b := by
  unfold lb_at
  rw [lb_seX8_slice]
  exact lb_flat 16 lb_sgX8_slice k j b lb_lnX8_slice h
set_option maxRecDepth 20000 in
theorem dX8_slice_0 : decode cX8_slice 0 = .ok (.aload_n 0, 1) := dc_42 (lxX8_slice 0 0 rfl)
set_option maxRecDepth 20000 in
theorem dX8_slice_1 : decode cX8_slice 1 = .ok (.iload_n 1, 1) := dc_27 (lxX8_slice 0 1 rfl)
set_option maxRecDepth 20000 in
theorem dX8_slice_2 : decode cX8_slice 2 = .ok (.invokestatic 77, 3) := dc_184 0 77 (lxX8_slice 0 2 rfl) (lxX8_slice 0 3 rfl) (lxX8_slice 0 4 rfl)
set_option maxRecDepth 20000 in
theorem dX8_slice_5 : decode cX8_slice 5 = .ok (.ifCond .ne 10, 3) := dc_154 0 10 (lxX8_slice 0 5 rfl) (lxX8_slice 0 6 rfl) (lxX8_slice 0 7 rfl)
set_option maxRecDepth 20000 in
theorem dX8_slice_8 : decode cX8_slice 8 = .ok (.iload_n 2, 1) := dc_28 (lxX8_slice 0 8 rfl)
set_option maxRecDepth 20000 in
theorem dX8_slice_9 : decode cX8_slice 9 = .ok (.invokestatic 77, 3) := dc_184 0 77 (lxX8_slice 0 9 rfl) (lxX8_slice 0 10 rfl) (lxX8_slice 0 11 rfl)
set_option maxRecDepth 20000 in
theorem dX8_slice_12 : decode cX8_slice 12 = .ok (.ifCond .eq 7, 3) := dc_153 0 7 (lxX8_slice 0 12 rfl) (lxX8_slice 0 13 rfl) (lxX8_slice 0 14 rfl)
set_option maxRecDepth 20000 in
theorem dX8_slice_15 : decode cX8_slice 15 = .ok (.iconst 1, 1) := dc_4 (lxX8_slice 0 15 rfl)
set_option maxRecDepth 20000 in
theorem dX8_slice_16 : decode cX8_slice 16 = .ok (.goto 4, 3) := dc_167 0 4 (lxX8_slice 1 0 rfl) (lxX8_slice 1 1 rfl) (lxX8_slice 1 2 rfl)
set_option maxRecDepth 20000 in
theorem dX8_slice_19 : decode cX8_slice 19 = .ok (.iconst 0, 1) := dc_3 (lxX8_slice 1 3 rfl)
set_option maxRecDepth 20000 in
theorem dX8_slice_20 : decode cX8_slice 20 = .ok (.iconst 0, 1) := dc_3 (lxX8_slice 1 4 rfl)
set_option maxRecDepth 20000 in
theorem dX8_slice_21 : decode cX8_slice 21 = .ok (.invokevirtual 81, 3) := dc_182 0 81 (lxX8_slice 1 5 rfl) (lxX8_slice 1 6 rfl) (lxX8_slice 1 7 rfl)
set_option maxRecDepth 20000 in
theorem dX8_slice_24 : decode cX8_slice 24 = .ok (.ifCond .eq 5, 3) := dc_153 0 5 (lxX8_slice 1 8 rfl) (lxX8_slice 1 9 rfl) (lxX8_slice 1 10 rfl)
set_option maxRecDepth 20000 in
theorem dX8_slice_27 : decode cX8_slice 27 = .ok (.iconst 0, 1) := dc_3 (lxX8_slice 1 11 rfl)
set_option maxRecDepth 20000 in
theorem dX8_slice_28 : decode cX8_slice 28 = .ok (.ireturn, 1) := dc_172 (lxX8_slice 1 12 rfl)
set_option maxRecDepth 20000 in
theorem dX8_slice_29 : decode cX8_slice 29 = .ok (.aload_n 0, 1) := dc_42 (lxX8_slice 1 13 rfl)
set_option maxRecDepth 20000 in
theorem dX8_slice_30 : decode cX8_slice 30 = .ok (.getfield 14, 3) := dc_180 0 14 (lxX8_slice 1 14 rfl) (lxX8_slice 1 15 rfl) (lxX8_slice 2 0 rfl)
set_option maxRecDepth 20000 in
theorem dX8_slice_33 : decode cX8_slice 33 = .ok (.iload_n 1, 1) := dc_27 (lxX8_slice 2 1 rfl)
set_option maxRecDepth 20000 in
theorem dX8_slice_34 : decode cX8_slice 34 = .ok (.aaload, 1) := dc_50 (lxX8_slice 2 2 rfl)
set_option maxRecDepth 20000 in
theorem dX8_slice_35 : decode cX8_slice 35 = .ok (.astore_n 3, 1) := dc_78 (lxX8_slice 2 3 rfl)
set_option maxRecDepth 20000 in
theorem dX8_slice_36 : decode cX8_slice 36 = .ok (.aload_n 0, 1) := dc_42 (lxX8_slice 2 4 rfl)
set_option maxRecDepth 20000 in
theorem dX8_slice_37 : decode cX8_slice 37 = .ok (.iload_n 2, 1) := dc_28 (lxX8_slice 2 5 rfl)
set_option maxRecDepth 20000 in
theorem dX8_slice_38 : decode cX8_slice 38 = .ok (.aload_n 3, 1) := dc_45 (lxX8_slice 2 6 rfl)
set_option maxRecDepth 20000 in
theorem dX8_slice_39 : decode cX8_slice 39 = .ok (.iconst 0, 1) := dc_3 (lxX8_slice 2 7 rfl)
set_option maxRecDepth 20000 in
theorem dX8_slice_40 : decode cX8_slice 40 = .ok (.iaload, 1) := dc_46 (lxX8_slice 2 8 rfl)
set_option maxRecDepth 20000 in
theorem dX8_slice_41 : decode cX8_slice 41 = .ok (.aload_n 3, 1) := dc_45 (lxX8_slice 2 9 rfl)
set_option maxRecDepth 20000 in
theorem dX8_slice_42 : decode cX8_slice 42 = .ok (.iconst 3, 1) := dc_6 (lxX8_slice 2 10 rfl)
set_option maxRecDepth 20000 in
theorem dX8_slice_43 : decode cX8_slice 43 = .ok (.iaload, 1) := dc_46 (lxX8_slice 2 11 rfl)
set_option maxRecDepth 20000 in
theorem dX8_slice_44 : decode cX8_slice 44 = .ok (.iadd, 1) := dc_96 (lxX8_slice 2 12 rfl)
set_option maxRecDepth 20000 in
theorem dX8_slice_45 : decode cX8_slice 45 = .ok (.aload_n 3, 1) := dc_45 (lxX8_slice 2 13 rfl)
set_option maxRecDepth 20000 in
theorem dX8_slice_46 : decode cX8_slice 46 = .ok (.invokestatic 54, 3) := dc_184 0 54 (lxX8_slice 2 14 rfl) (lxX8_slice 2 15 rfl) (lxX8_slice 3 0 rfl)
set_option maxRecDepth 20000 in
theorem dX8_slice_49 : decode cX8_slice 49 = .ok (.aload_n 3, 1) := dc_45 (lxX8_slice 3 1 rfl)
set_option maxRecDepth 20000 in
theorem dX8_slice_50 : decode cX8_slice 50 = .ok (.invokestatic 54, 3) := dc_184 0 54 (lxX8_slice 3 2 rfl) (lxX8_slice 3 3 rfl) (lxX8_slice 3 4 rfl)
set_option maxRecDepth 20000 in
theorem dX8_slice_53 : decode cX8_slice 53 = .ok (.iconst 0, 1) := dc_3 (lxX8_slice 3 5 rfl)
set_option maxRecDepth 20000 in
theorem dX8_slice_54 : decode cX8_slice 54 = .ok (.iconst (-1), 1) := dc_2 (lxX8_slice 3 6 rfl)
set_option maxRecDepth 20000 in
theorem dX8_slice_55 : decode cX8_slice 55 = .ok (.invokevirtual 85, 3) := dc_182 0 85 (lxX8_slice 3 7 rfl) (lxX8_slice 3 8 rfl) (lxX8_slice 3 9 rfl)
set_option maxRecDepth 20000 in
theorem dX8_slice_58 : decode cX8_slice 58 = .ok (.ireturn, 1) := dc_172 (lxX8_slice 3 10 rfl)
noncomputable def sgX8_duplicate : List (List Cond) := [[.code yX8_duplicate cX8_duplicate 4 (some .int)], [.fieldLink RX8 14 "SashwordsModel" "windows" "[[I", .methodLink RX8 77 yX8_isNoWindow, .static yX8_isNoWindow, .initialized RX8, .code yX8_isNoWindow cX8_isNoWindow 1 (some .boolean), .methodLink RX8 41 yX8_isNo, .static yX8_isNo, .code yX8_isNo cX8_isNo 3 (some .boolean), .methodLink RX8 81 yX8_isThrown, .instanceMethod yX8_isThrown, .selects RX8 yX8_isThrown yX8_isThrown, .code yX8_isThrown cX8_isThrown 3 (some .boolean), .fieldLink RX8 38 "SashwordsModel" "thrown" "I", .methodLink RX8 85 yX8_became, .instanceMethod yX8_became, .selects RX8 yX8_became yX8_became, .code yX8_became cX8_became 7 (some .int), .arrayClass .int, .methodLink RX8 62 yX8_done, .instanceMethod yX8_done, .selects RX8 yX8_done yX8_done, .code yX8_done cX8_done 2 (some .int), .fieldLink RX8 31 "SashwordsModel" "tallies" "[I"], wsX80]
theorem seX8_duplicate : sgX8_duplicate.flatten = wsX8_duplicate := by simp only [sgX8_duplicate, wsX8_duplicate, List.flatten_cons, List.flatten_nil, List.append_assoc, List.append_nil, List.cons_append, List.nil_append]
set_option maxRecDepth 20000 in
theorem ggX8_duplicate_X8_isNoWindow : GoodIn wsX8_duplicate wsX8_isNoWindow := goodIn_s seX8_duplicate _ [pq_1_4, pq_1_5, pq_1_6, pq_1_3, pq_1_7] (by rfl) (by decide +kernel)
set_option maxRecDepth 20000 in
theorem gX8_duplicate_X8_isNoWindow : GoodIn wsX8_duplicate (va_wsS RX8 77 yX8_isNoWindow wsX8_isNoWindow) := goodIn_app (goodIn_s seX8_duplicate _ [pq_1_1, pq_1_2, pq_1_3] (by rfl) (by decide +kernel)) ggX8_duplicate_X8_isNoWindow
set_option maxRecDepth 20000 in
theorem ggX8_duplicate_X8_isThrown : GoodIn wsX8_duplicate wsX8_isThrown := goodIn_s seX8_duplicate _ [pq_1_11, pq_1_12, pq_2_0, pq_2_1, pq_2_2, pq_2_3, pq_2_4, pq_2_5, pq_2_6, pq_2_7, pq_2_8, pq_2_9, pq_2_10] (by rfl) (by decide +kernel)
set_option maxRecDepth 20000 in
theorem gX8_duplicate_X8_isThrown : GoodIn wsX8_duplicate (wsV RX8 81 RX8 yX8_isThrown wsX8_isThrown) := goodIn_app (goodIn_s seX8_duplicate _ [pq_1_8, pq_1_9, pq_1_10, pq_1_3] (by rfl) (by decide +kernel)) ggX8_duplicate_X8_isThrown
set_option maxRecDepth 20000 in
theorem ggX8_duplicate_X8_became : GoodIn wsX8_duplicate wsX8_became := goodIn_s seX8_duplicate _ [pq_1_16, pq_1_0, pq_1_17, pq_1_18, pq_1_19, pq_1_20, pq_1_3, pq_1_21, pq_1_22, pq_2_0, pq_2_1, pq_2_2, pq_2_3, pq_2_4, pq_2_5, pq_2_6, pq_2_7, pq_2_8, pq_2_9, pq_2_10] (by rfl) (by decide +kernel)
set_option maxRecDepth 20000 in
theorem gX8_duplicate_X8_became : GoodIn wsX8_duplicate (wsV RX8 85 RX8 yX8_became wsX8_became) := goodIn_app (goodIn_s seX8_duplicate _ [pq_1_13, pq_1_14, pq_1_15, pq_1_3] (by rfl) (by decide +kernel)) ggX8_duplicate_X8_became
def lb_sgX8_duplicate : List (List UInt8) := [[42, 27, 184, 0, 77, 154, 0, 10, 28, 184, 0, 77, 153, 0, 7, 4], [167, 0, 4, 3, 3, 182, 0, 81, 153, 0, 5, 3, 172, 42, 180, 0], [14, 27, 50, 78, 42, 28, 45, 3, 46, 45, 4, 46, 45, 5, 46, 45], [6, 46, 45, 7, 46, 182, 0, 85, 172]]
set_option maxRecDepth 100000 in
theorem lb_seX8_duplicate : cX8_duplicate.data.toList = lb_sgX8_duplicate.flatten := by decide +kernel
theorem lb_lnX8_duplicate : ∀ s ∈ lb_sgX8_duplicate.dropLast, s.length = 16 := by decide +kernel
theorem lxX8_duplicate (k j : Nat) {b : UInt8} (h : (lb_sgX8_duplicate[k]?).bind (fun s => s[j]?) = some b) : lb_at cX8_duplicate (16 * k + j) b := by
  unfold lb_at
  rw [lb_seX8_duplicate]
  exact lb_flat 16 lb_sgX8_duplicate k j b lb_lnX8_duplicate h
set_option maxRecDepth 20000 in
theorem dX8_duplicate_0 : decode cX8_duplicate 0 = .ok (.aload_n 0, 1) := dc_42 (lxX8_duplicate 0 0 rfl)
set_option maxRecDepth 20000 in
theorem dX8_duplicate_1 : decode cX8_duplicate 1 = .ok (.iload_n 1, 1) := dc_27 (lxX8_duplicate 0 1 rfl)
set_option maxRecDepth 20000 in
theorem dX8_duplicate_2 : decode cX8_duplicate 2 = .ok (.invokestatic 77, 3) := dc_184 0 77 (lxX8_duplicate 0 2 rfl) (lxX8_duplicate 0 3 rfl) (lxX8_duplicate 0 4 rfl)
set_option maxRecDepth 20000 in
theorem dX8_duplicate_5 : decode cX8_duplicate 5 = .ok (.ifCond .ne 10, 3) := dc_154 0 10 (lxX8_duplicate 0 5 rfl) (lxX8_duplicate 0 6 rfl) (lxX8_duplicate 0 7 rfl)
set_option maxRecDepth 20000 in
theorem dX8_duplicate_8 : decode cX8_duplicate 8 = .ok (.iload_n 2, 1) := dc_28 (lxX8_duplicate 0 8 rfl)
set_option maxRecDepth 20000 in
theorem dX8_duplicate_9 : decode cX8_duplicate 9 = .ok (.invokestatic 77, 3) := dc_184 0 77 (lxX8_duplicate 0 9 rfl) (lxX8_duplicate 0 10 rfl) (lxX8_duplicate 0 11 rfl)
set_option maxRecDepth 20000 in
theorem dX8_duplicate_12 : decode cX8_duplicate 12 = .ok (.ifCond .eq 7, 3) := dc_153 0 7 (lxX8_duplicate 0 12 rfl) (lxX8_duplicate 0 13 rfl) (lxX8_duplicate 0 14 rfl)
set_option maxRecDepth 20000 in
theorem dX8_duplicate_15 : decode cX8_duplicate 15 = .ok (.iconst 1, 1) := dc_4 (lxX8_duplicate 0 15 rfl)
set_option maxRecDepth 20000 in
theorem dX8_duplicate_16 : decode cX8_duplicate 16 = .ok (.goto 4, 3) := dc_167 0 4 (lxX8_duplicate 1 0 rfl) (lxX8_duplicate 1 1 rfl) (lxX8_duplicate 1 2 rfl)
set_option maxRecDepth 20000 in
theorem dX8_duplicate_19 : decode cX8_duplicate 19 = .ok (.iconst 0, 1) := dc_3 (lxX8_duplicate 1 3 rfl)
set_option maxRecDepth 20000 in
theorem dX8_duplicate_20 : decode cX8_duplicate 20 = .ok (.iconst 0, 1) := dc_3 (lxX8_duplicate 1 4 rfl)
set_option maxRecDepth 20000 in
theorem dX8_duplicate_21 : decode cX8_duplicate 21 = .ok (.invokevirtual 81, 3) := dc_182 0 81 (lxX8_duplicate 1 5 rfl) (lxX8_duplicate 1 6 rfl) (lxX8_duplicate 1 7 rfl)
set_option maxRecDepth 20000 in
theorem dX8_duplicate_24 : decode cX8_duplicate 24 = .ok (.ifCond .eq 5, 3) := dc_153 0 5 (lxX8_duplicate 1 8 rfl) (lxX8_duplicate 1 9 rfl) (lxX8_duplicate 1 10 rfl)
set_option maxRecDepth 20000 in
theorem dX8_duplicate_27 : decode cX8_duplicate 27 = .ok (.iconst 0, 1) := dc_3 (lxX8_duplicate 1 11 rfl)
set_option maxRecDepth 20000 in
theorem dX8_duplicate_28 : decode cX8_duplicate 28 = .ok (.ireturn, 1) := dc_172 (lxX8_duplicate 1 12 rfl)
set_option maxRecDepth 20000 in
theorem dX8_duplicate_29 : decode cX8_duplicate 29 = .ok (.aload_n 0, 1) := dc_42 (lxX8_duplicate 1 13 rfl)
set_option maxRecDepth 20000 in
theorem dX8_duplicate_30 : decode cX8_duplicate 30 = .ok (.getfield 14, 3) := dc_180 0 14 (lxX8_duplicate 1 14 rfl) (lxX8_duplicate 1 15 rfl) (lxX8_duplicate 2 0 rfl)
set_option maxRecDepth 20000 in
theorem dX8_duplicate_33 : decode cX8_duplicate 33 = .ok (.iload_n 1, 1) := dc_27 (lxX8_duplicate 2 1 rfl)
set_option maxRecDepth 20000 in
theorem dX8_duplicate_34 : decode cX8_duplicate 34 = .ok (.aaload, 1) := dc_50 (lxX8_duplicate 2 2 rfl)
set_option maxRecDepth 20000 in
theorem dX8_duplicate_35 : decode cX8_duplicate 35 = .ok (.astore_n 3, 1) := dc_78 (lxX8_duplicate 2 3 rfl)
set_option maxRecDepth 20000 in
theorem dX8_duplicate_36 : decode cX8_duplicate 36 = .ok (.aload_n 0, 1) := dc_42 (lxX8_duplicate 2 4 rfl)
set_option maxRecDepth 20000 in
theorem dX8_duplicate_37 : decode cX8_duplicate 37 = .ok (.iload_n 2, 1) := dc_28 (lxX8_duplicate 2 5 rfl)
set_option maxRecDepth 20000 in
theorem dX8_duplicate_38 : decode cX8_duplicate 38 = .ok (.aload_n 3, 1) := dc_45 (lxX8_duplicate 2 6 rfl)
set_option maxRecDepth 20000 in
theorem dX8_duplicate_39 : decode cX8_duplicate 39 = .ok (.iconst 0, 1) := dc_3 (lxX8_duplicate 2 7 rfl)
set_option maxRecDepth 20000 in
theorem dX8_duplicate_40 : decode cX8_duplicate 40 = .ok (.iaload, 1) := dc_46 (lxX8_duplicate 2 8 rfl)
set_option maxRecDepth 20000 in
theorem dX8_duplicate_41 : decode cX8_duplicate 41 = .ok (.aload_n 3, 1) := dc_45 (lxX8_duplicate 2 9 rfl)
set_option maxRecDepth 20000 in
theorem dX8_duplicate_42 : decode cX8_duplicate 42 = .ok (.iconst 1, 1) := dc_4 (lxX8_duplicate 2 10 rfl)
set_option maxRecDepth 20000 in
theorem dX8_duplicate_43 : decode cX8_duplicate 43 = .ok (.iaload, 1) := dc_46 (lxX8_duplicate 2 11 rfl)
set_option maxRecDepth 20000 in
theorem dX8_duplicate_44 : decode cX8_duplicate 44 = .ok (.aload_n 3, 1) := dc_45 (lxX8_duplicate 2 12 rfl)
set_option maxRecDepth 20000 in
theorem dX8_duplicate_45 : decode cX8_duplicate 45 = .ok (.iconst 2, 1) := dc_5 (lxX8_duplicate 2 13 rfl)
set_option maxRecDepth 20000 in
theorem dX8_duplicate_46 : decode cX8_duplicate 46 = .ok (.iaload, 1) := dc_46 (lxX8_duplicate 2 14 rfl)
set_option maxRecDepth 20000 in
theorem dX8_duplicate_47 : decode cX8_duplicate 47 = .ok (.aload_n 3, 1) := dc_45 (lxX8_duplicate 2 15 rfl)
set_option maxRecDepth 20000 in
theorem dX8_duplicate_48 : decode cX8_duplicate 48 = .ok (.iconst 3, 1) := dc_6 (lxX8_duplicate 3 0 rfl)
set_option maxRecDepth 20000 in
theorem dX8_duplicate_49 : decode cX8_duplicate 49 = .ok (.iaload, 1) := dc_46 (lxX8_duplicate 3 1 rfl)
set_option maxRecDepth 20000 in
theorem dX8_duplicate_50 : decode cX8_duplicate 50 = .ok (.aload_n 3, 1) := dc_45 (lxX8_duplicate 3 2 rfl)
set_option maxRecDepth 20000 in
theorem dX8_duplicate_51 : decode cX8_duplicate 51 = .ok (.iconst 4, 1) := dc_7 (lxX8_duplicate 3 3 rfl)
set_option maxRecDepth 20000 in
theorem dX8_duplicate_52 : decode cX8_duplicate 52 = .ok (.iaload, 1) := dc_46 (lxX8_duplicate 3 4 rfl)
set_option maxRecDepth 20000 in
theorem dX8_duplicate_53 : decode cX8_duplicate 53 = .ok (.invokevirtual 85, 3) := dc_182 0 85 (lxX8_duplicate 3 5 rfl) (lxX8_duplicate 3 6 rfl) (lxX8_duplicate 3 7 rfl)
set_option maxRecDepth 20000 in
theorem dX8_duplicate_56 : decode cX8_duplicate 56 = .ok (.ireturn, 1) := dc_172 (lxX8_duplicate 3 8 rfl)
noncomputable def sgX8_part : List (List Cond) := [[.code yX8_part cX8_part 6 (some .int)], wsX8_part_r1, wsX8_part_r2, wsX80]
theorem seX8_part : sgX8_part.flatten = wsX8_part := by simp only [sgX8_part, wsX8_part, List.flatten_cons, List.flatten_nil, List.append_assoc, List.append_nil, List.cons_append, List.nil_append]
set_option maxRecDepth 20000 in
theorem ggX8_part_X8_isNoWindow : GoodIn wsX8_part wsX8_isNoWindow := goodIn_s seX8_part _ [pq_1_4, pq_1_5, pq_1_6, pq_1_3, pq_1_7] (by rfl) (by decide +kernel)
set_option maxRecDepth 20000 in
theorem gX8_part_X8_isNoWindow : GoodIn wsX8_part (va_wsS RX8 77 yX8_isNoWindow wsX8_isNoWindow) := goodIn_app (goodIn_s seX8_part _ [pq_1_1, pq_1_2, pq_1_3] (by rfl) (by decide +kernel)) ggX8_part_X8_isNoWindow
set_option maxRecDepth 20000 in
theorem ggX8_part_X8_isThrown : GoodIn wsX8_part wsX8_isThrown := goodIn_s seX8_part _ [pq_1_11, pq_1_12, pq_3_0, pq_3_1, pq_3_2, pq_3_3, pq_3_4, pq_3_5, pq_3_6, pq_3_7, pq_3_8, pq_3_9, pq_3_10] (by rfl) (by decide +kernel)
set_option maxRecDepth 20000 in
theorem gX8_part_X8_isThrown : GoodIn wsX8_part (wsV RX8 81 RX8 yX8_isThrown wsX8_isThrown) := goodIn_app (goodIn_s seX8_part _ [pq_1_8, pq_1_9, pq_1_10, pq_1_3] (by rfl) (by decide +kernel)) ggX8_part_X8_isThrown
set_option maxRecDepth 20000 in
theorem ggX8_part_X8_length : GoodIn wsX8_part wsX8_length := goodIn_s seX8_part _ [pq_1_15] (by rfl) (by decide +kernel)
set_option maxRecDepth 20000 in
theorem gX8_part_X8_length : GoodIn wsX8_part (va_wsS RX8 54 yX8_length wsX8_length) := goodIn_app (goodIn_s seX8_part _ [pq_1_13, pq_1_14, pq_1_3] (by rfl) (by decide +kernel)) ggX8_part_X8_length
set_option maxRecDepth 20000 in
theorem ggX8_part_X8_refused : GoodIn wsX8_part wsX8_refused := goodIn_s seX8_part _ [pq_1_19, pq_1_20, pq_3_0, pq_3_1, pq_3_2, pq_3_3, pq_3_4, pq_3_5, pq_3_6, pq_3_7, pq_3_8, pq_3_9, pq_3_10] (by rfl) (by decide +kernel)
set_option maxRecDepth 20000 in
theorem gX8_part_X8_refused : GoodIn wsX8_part (wsV RX8 89 RX8 yX8_refused wsX8_refused) := goodIn_app (goodIn_s seX8_part _ [pq_1_16, pq_1_17, pq_1_18, pq_1_3] (by rfl) (by decide +kernel)) ggX8_part_X8_refused
set_option maxRecDepth 20000 in
theorem ggX8_part_X8_became : GoodIn wsX8_part wsX8_became := goodIn_s seX8_part _ [pq_2_0, pq_1_0, pq_2_1, pq_2_2, pq_2_3, pq_2_4, pq_1_3, pq_2_5, pq_1_20, pq_3_0, pq_3_1, pq_3_2, pq_3_3, pq_3_4, pq_3_5, pq_3_6, pq_3_7, pq_3_8, pq_3_9, pq_3_10] (by rfl) (by decide +kernel)
set_option maxRecDepth 20000 in
theorem gX8_part_X8_became : GoodIn wsX8_part (wsV RX8 85 RX8 yX8_became wsX8_became) := goodIn_app (goodIn_s seX8_part _ [pq_1_21, pq_1_22, pq_1_23, pq_1_3] (by rfl) (by decide +kernel)) ggX8_part_X8_became
def lb_sgX8_part : List (List UInt8) := [[42, 27, 184, 0, 77, 154, 0, 11, 21, 4, 184, 0, 77, 153, 0, 7], [4, 167, 0, 4, 3, 3, 182, 0, 81, 153, 0, 5, 3, 172, 42, 180], [0, 14, 27, 50, 58, 5, 28, 155, 0, 17, 29, 28, 161, 0, 12, 29], [25, 5, 184, 0, 54, 164, 0, 8, 42, 182, 0, 89, 172, 42, 21, 4], [25, 5, 3, 46, 25, 5, 4, 46, 25, 5, 6, 46, 29, 96, 25, 5], [6, 46, 28, 96, 25, 5, 6, 46, 28, 96, 182, 0, 85, 172]]
set_option maxRecDepth 100000 in
theorem lb_seX8_part : cX8_part.data.toList = lb_sgX8_part.flatten := by decide +kernel
theorem lb_lnX8_part : ∀ s ∈ lb_sgX8_part.dropLast, s.length = 16 := by decide +kernel
theorem lxX8_part (k j : Nat) {b : UInt8} (h : (lb_sgX8_part[k]?).bind (fun s => s[j]?) = some b) : lb_at cX8_part (16 * k + j) b := by
  unfold lb_at
  rw [lb_seX8_part]
  exact lb_flat 16 lb_sgX8_part k j b lb_lnX8_part h
set_option maxRecDepth 20000 in
theorem dX8_part_0 : decode cX8_part 0 = .ok (.aload_n 0, 1) := dc_42 (lxX8_part 0 0 rfl)
set_option maxRecDepth 20000 in
theorem dX8_part_1 : decode cX8_part 1 = .ok (.iload_n 1, 1) := dc_27 (lxX8_part 0 1 rfl)
set_option maxRecDepth 20000 in
theorem dX8_part_2 : decode cX8_part 2 = .ok (.invokestatic 77, 3) := dc_184 0 77 (lxX8_part 0 2 rfl) (lxX8_part 0 3 rfl) (lxX8_part 0 4 rfl)
set_option maxRecDepth 20000 in
theorem dX8_part_5 : decode cX8_part 5 = .ok (.ifCond .ne 11, 3) := dc_154 0 11 (lxX8_part 0 5 rfl) (lxX8_part 0 6 rfl) (lxX8_part 0 7 rfl)
set_option maxRecDepth 20000 in
theorem dX8_part_8 : decode cX8_part 8 = .ok (.iload 4, 2) := dc_21 4 (lxX8_part 0 8 rfl) (lxX8_part 0 9 rfl)
set_option maxRecDepth 20000 in
theorem dX8_part_10 : decode cX8_part 10 = .ok (.invokestatic 77, 3) := dc_184 0 77 (lxX8_part 0 10 rfl) (lxX8_part 0 11 rfl) (lxX8_part 0 12 rfl)
set_option maxRecDepth 20000 in
theorem dX8_part_13 : decode cX8_part 13 = .ok (.ifCond .eq 7, 3) := dc_153 0 7 (lxX8_part 0 13 rfl) (lxX8_part 0 14 rfl) (lxX8_part 0 15 rfl)
set_option maxRecDepth 20000 in
theorem dX8_part_16 : decode cX8_part 16 = .ok (.iconst 1, 1) := dc_4 (lxX8_part 1 0 rfl)
set_option maxRecDepth 20000 in
theorem dX8_part_17 : decode cX8_part 17 = .ok (.goto 4, 3) := dc_167 0 4 (lxX8_part 1 1 rfl) (lxX8_part 1 2 rfl) (lxX8_part 1 3 rfl)
set_option maxRecDepth 20000 in
theorem dX8_part_20 : decode cX8_part 20 = .ok (.iconst 0, 1) := dc_3 (lxX8_part 1 4 rfl)
set_option maxRecDepth 20000 in
theorem dX8_part_21 : decode cX8_part 21 = .ok (.iconst 0, 1) := dc_3 (lxX8_part 1 5 rfl)
set_option maxRecDepth 20000 in
theorem dX8_part_22 : decode cX8_part 22 = .ok (.invokevirtual 81, 3) := dc_182 0 81 (lxX8_part 1 6 rfl) (lxX8_part 1 7 rfl) (lxX8_part 1 8 rfl)
set_option maxRecDepth 20000 in
theorem dX8_part_25 : decode cX8_part 25 = .ok (.ifCond .eq 5, 3) := dc_153 0 5 (lxX8_part 1 9 rfl) (lxX8_part 1 10 rfl) (lxX8_part 1 11 rfl)
set_option maxRecDepth 20000 in
theorem dX8_part_28 : decode cX8_part 28 = .ok (.iconst 0, 1) := dc_3 (lxX8_part 1 12 rfl)
set_option maxRecDepth 20000 in
theorem dX8_part_29 : decode cX8_part 29 = .ok (.ireturn, 1) := dc_172 (lxX8_part 1 13 rfl)
set_option maxRecDepth 20000 in
theorem dX8_part_30 : decode cX8_part 30 = .ok (.aload_n 0, 1) := dc_42 (lxX8_part 1 14 rfl)
set_option maxRecDepth 20000 in
theorem dX8_part_31 : decode cX8_part 31 = .ok (.getfield 14, 3) := dc_180 0 14 (lxX8_part 1 15 rfl) (lxX8_part 2 0 rfl) (lxX8_part 2 1 rfl)
set_option maxRecDepth 20000 in
theorem dX8_part_34 : decode cX8_part 34 = .ok (.iload_n 1, 1) := dc_27 (lxX8_part 2 2 rfl)
set_option maxRecDepth 20000 in
theorem dX8_part_35 : decode cX8_part 35 = .ok (.aaload, 1) := dc_50 (lxX8_part 2 3 rfl)
set_option maxRecDepth 20000 in
theorem dX8_part_36 : decode cX8_part 36 = .ok (.astore 5, 2) := dc_58 5 (lxX8_part 2 4 rfl) (lxX8_part 2 5 rfl)
set_option maxRecDepth 20000 in
theorem dX8_part_38 : decode cX8_part 38 = .ok (.iload_n 2, 1) := dc_28 (lxX8_part 2 6 rfl)
set_option maxRecDepth 20000 in
theorem dX8_part_39 : decode cX8_part 39 = .ok (.ifCond .lt 17, 3) := dc_155 0 17 (lxX8_part 2 7 rfl) (lxX8_part 2 8 rfl) (lxX8_part 2 9 rfl)
set_option maxRecDepth 20000 in
theorem dX8_part_42 : decode cX8_part 42 = .ok (.iload_n 3, 1) := dc_29 (lxX8_part 2 10 rfl)
set_option maxRecDepth 20000 in
theorem dX8_part_43 : decode cX8_part 43 = .ok (.iload_n 2, 1) := dc_28 (lxX8_part 2 11 rfl)
set_option maxRecDepth 20000 in
theorem dX8_part_44 : decode cX8_part 44 = .ok (.if_icmp .lt 12, 3) := dc_161 0 12 (lxX8_part 2 12 rfl) (lxX8_part 2 13 rfl) (lxX8_part 2 14 rfl)
set_option maxRecDepth 20000 in
theorem dX8_part_47 : decode cX8_part 47 = .ok (.iload_n 3, 1) := dc_29 (lxX8_part 2 15 rfl)
set_option maxRecDepth 20000 in
theorem dX8_part_48 : decode cX8_part 48 = .ok (.aload 5, 2) := dc_25 5 (lxX8_part 3 0 rfl) (lxX8_part 3 1 rfl)
set_option maxRecDepth 20000 in
theorem dX8_part_50 : decode cX8_part 50 = .ok (.invokestatic 54, 3) := dc_184 0 54 (lxX8_part 3 2 rfl) (lxX8_part 3 3 rfl) (lxX8_part 3 4 rfl)
set_option maxRecDepth 20000 in
theorem dX8_part_53 : decode cX8_part 53 = .ok (.if_icmp .le 8, 3) := dc_164 0 8 (lxX8_part 3 5 rfl) (lxX8_part 3 6 rfl) (lxX8_part 3 7 rfl)
set_option maxRecDepth 20000 in
theorem dX8_part_56 : decode cX8_part 56 = .ok (.aload_n 0, 1) := dc_42 (lxX8_part 3 8 rfl)
set_option maxRecDepth 20000 in
theorem dX8_part_57 : decode cX8_part 57 = .ok (.invokevirtual 89, 3) := dc_182 0 89 (lxX8_part 3 9 rfl) (lxX8_part 3 10 rfl) (lxX8_part 3 11 rfl)
set_option maxRecDepth 20000 in
theorem dX8_part_60 : decode cX8_part 60 = .ok (.ireturn, 1) := dc_172 (lxX8_part 3 12 rfl)
set_option maxRecDepth 20000 in
theorem dX8_part_61 : decode cX8_part 61 = .ok (.aload_n 0, 1) := dc_42 (lxX8_part 3 13 rfl)
set_option maxRecDepth 20000 in
theorem dX8_part_62 : decode cX8_part 62 = .ok (.iload 4, 2) := dc_21 4 (lxX8_part 3 14 rfl) (lxX8_part 3 15 rfl)
set_option maxRecDepth 20000 in
theorem dX8_part_64 : decode cX8_part 64 = .ok (.aload 5, 2) := dc_25 5 (lxX8_part 4 0 rfl) (lxX8_part 4 1 rfl)
set_option maxRecDepth 20000 in
theorem dX8_part_66 : decode cX8_part 66 = .ok (.iconst 0, 1) := dc_3 (lxX8_part 4 2 rfl)
set_option maxRecDepth 20000 in
theorem dX8_part_67 : decode cX8_part 67 = .ok (.iaload, 1) := dc_46 (lxX8_part 4 3 rfl)
set_option maxRecDepth 20000 in
theorem dX8_part_68 : decode cX8_part 68 = .ok (.aload 5, 2) := dc_25 5 (lxX8_part 4 4 rfl) (lxX8_part 4 5 rfl)
set_option maxRecDepth 20000 in
theorem dX8_part_70 : decode cX8_part 70 = .ok (.iconst 1, 1) := dc_4 (lxX8_part 4 6 rfl)
set_option maxRecDepth 20000 in
theorem dX8_part_71 : decode cX8_part 71 = .ok (.iaload, 1) := dc_46 (lxX8_part 4 7 rfl)
set_option maxRecDepth 20000 in
theorem dX8_part_72 : decode cX8_part 72 = .ok (.aload 5, 2) := dc_25 5 (lxX8_part 4 8 rfl) (lxX8_part 4 9 rfl)
set_option maxRecDepth 20000 in
theorem dX8_part_74 : decode cX8_part 74 = .ok (.iconst 3, 1) := dc_6 (lxX8_part 4 10 rfl)
set_option maxRecDepth 20000 in
theorem dX8_part_75 : decode cX8_part 75 = .ok (.iaload, 1) := dc_46 (lxX8_part 4 11 rfl)
set_option maxRecDepth 20000 in
theorem dX8_part_76 : decode cX8_part 76 = .ok (.iload_n 3, 1) := dc_29 (lxX8_part 4 12 rfl)
set_option maxRecDepth 20000 in
theorem dX8_part_77 : decode cX8_part 77 = .ok (.iadd, 1) := dc_96 (lxX8_part 4 13 rfl)
set_option maxRecDepth 20000 in
theorem dX8_part_78 : decode cX8_part 78 = .ok (.aload 5, 2) := dc_25 5 (lxX8_part 4 14 rfl) (lxX8_part 4 15 rfl)
set_option maxRecDepth 20000 in
theorem dX8_part_80 : decode cX8_part 80 = .ok (.iconst 3, 1) := dc_6 (lxX8_part 5 0 rfl)
set_option maxRecDepth 20000 in
theorem dX8_part_81 : decode cX8_part 81 = .ok (.iaload, 1) := dc_46 (lxX8_part 5 1 rfl)
set_option maxRecDepth 20000 in
theorem dX8_part_82 : decode cX8_part 82 = .ok (.iload_n 2, 1) := dc_28 (lxX8_part 5 2 rfl)
set_option maxRecDepth 20000 in
theorem dX8_part_83 : decode cX8_part 83 = .ok (.iadd, 1) := dc_96 (lxX8_part 5 3 rfl)
set_option maxRecDepth 20000 in
theorem dX8_part_84 : decode cX8_part 84 = .ok (.aload 5, 2) := dc_25 5 (lxX8_part 5 4 rfl) (lxX8_part 5 5 rfl)
set_option maxRecDepth 20000 in
theorem dX8_part_86 : decode cX8_part 86 = .ok (.iconst 3, 1) := dc_6 (lxX8_part 5 6 rfl)
set_option maxRecDepth 20000 in
theorem dX8_part_87 : decode cX8_part 87 = .ok (.iaload, 1) := dc_46 (lxX8_part 5 7 rfl)
set_option maxRecDepth 20000 in
theorem dX8_part_88 : decode cX8_part 88 = .ok (.iload_n 2, 1) := dc_28 (lxX8_part 5 8 rfl)
set_option maxRecDepth 20000 in
theorem dX8_part_89 : decode cX8_part 89 = .ok (.iadd, 1) := dc_96 (lxX8_part 5 9 rfl)
set_option maxRecDepth 20000 in
theorem dX8_part_90 : decode cX8_part 90 = .ok (.invokevirtual 85, 3) := dc_182 0 85 (lxX8_part 5 10 rfl) (lxX8_part 5 11 rfl) (lxX8_part 5 12 rfl)
set_option maxRecDepth 20000 in
theorem dX8_part_93 : decode cX8_part 93 = .ok (.ireturn, 1) := dc_172 (lxX8_part 5 13 rfl)
noncomputable def sgX8_put : List (List Cond) := [[.code yX8_put cX8_put 4 (some .int)], wsX8_put_r1, wsX8_put_r2, wsX80]
theorem seX8_put : sgX8_put.flatten = wsX8_put := by simp only [sgX8_put, wsX8_put, List.flatten_cons, List.flatten_nil, List.append_assoc, List.append_nil, List.cons_append, List.nil_append]
set_option maxRecDepth 20000 in
theorem ggX8_put_X8_isNoWindow : GoodIn wsX8_put wsX8_isNoWindow := goodIn_s seX8_put _ [pq_1_4, pq_1_5, pq_1_6, pq_1_3, pq_1_7] (by rfl) (by decide +kernel)
set_option maxRecDepth 20000 in
theorem gX8_put_X8_isNoWindow : GoodIn wsX8_put (va_wsS RX8 77 yX8_isNoWindow wsX8_isNoWindow) := goodIn_app (goodIn_s seX8_put _ [pq_1_1, pq_1_2, pq_1_3] (by rfl) (by decide +kernel)) ggX8_put_X8_isNoWindow
set_option maxRecDepth 20000 in
theorem ggX8_put_X8_isNo : GoodIn wsX8_put wsX8_isNo := goodIn_s seX8_put _ [pq_1_7] (by rfl) (by decide +kernel)
set_option maxRecDepth 20000 in
theorem gX8_put_X8_isNo : GoodIn wsX8_put (va_wsS RX8 41 yX8_isNo wsX8_isNo) := goodIn_app (goodIn_s seX8_put _ [pq_1_5, pq_1_6, pq_1_3] (by rfl) (by decide +kernel)) ggX8_put_X8_isNo
set_option maxRecDepth 20000 in
theorem ggX8_put_X8_isThrown : GoodIn wsX8_put wsX8_isThrown := goodIn_s seX8_put _ [pq_1_11, pq_1_12, pq_3_0, pq_3_1, pq_3_2, pq_3_3, pq_3_4, pq_3_5, pq_3_6, pq_3_7, pq_3_8, pq_3_9, pq_3_10] (by rfl) (by decide +kernel)
set_option maxRecDepth 20000 in
theorem gX8_put_X8_isThrown : GoodIn wsX8_put (wsV RX8 81 RX8 yX8_isThrown wsX8_isThrown) := goodIn_app (goodIn_s seX8_put _ [pq_1_8, pq_1_9, pq_1_10, pq_1_3] (by rfl) (by decide +kernel)) ggX8_put_X8_isThrown
set_option maxRecDepth 20000 in
theorem ggX8_put_X8_length : GoodIn wsX8_put wsX8_length := goodIn_s seX8_put _ [pq_1_15] (by rfl) (by decide +kernel)
set_option maxRecDepth 20000 in
theorem gX8_put_X8_length : GoodIn wsX8_put (va_wsS RX8 54 yX8_length wsX8_length) := goodIn_app (goodIn_s seX8_put _ [pq_1_13, pq_1_14, pq_1_3] (by rfl) (by decide +kernel)) ggX8_put_X8_length
set_option maxRecDepth 20000 in
theorem ggX8_put_X8_refused : GoodIn wsX8_put wsX8_refused := goodIn_s seX8_put _ [pq_1_19, pq_1_20, pq_3_0, pq_3_1, pq_3_2, pq_3_3, pq_3_4, pq_3_5, pq_3_6, pq_3_7, pq_3_8, pq_3_9, pq_3_10] (by rfl) (by decide +kernel)
set_option maxRecDepth 20000 in
theorem gX8_put_X8_refused : GoodIn wsX8_put (wsV RX8 89 RX8 yX8_refused wsX8_refused) := goodIn_app (goodIn_s seX8_put _ [pq_1_16, pq_1_17, pq_1_18, pq_1_3] (by rfl) (by decide +kernel)) ggX8_put_X8_refused
set_option maxRecDepth 20000 in
theorem ggX8_put_X8_write : GoodIn wsX8_put wsX8_write := goodIn_s seX8_put _ [pq_2_0, pq_2_1, pq_3_0, pq_3_1, pq_3_2, pq_3_3, pq_3_4, pq_3_5, pq_3_6, pq_3_7, pq_3_8, pq_3_9, pq_3_10] (by rfl) (by decide +kernel)
set_option maxRecDepth 20000 in
theorem gX8_put_X8_write : GoodIn wsX8_put (wsV RX8 93 RX8 yX8_write wsX8_write) := goodIn_app (goodIn_s seX8_put _ [pq_1_21, pq_1_22, pq_1_23, pq_1_3] (by rfl) (by decide +kernel)) ggX8_put_X8_write
set_option maxRecDepth 20000 in
theorem ggX8_put_X8_done : GoodIn wsX8_put wsX8_done := goodIn_s seX8_put _ [pq_2_5, pq_1_20, pq_3_0, pq_3_1, pq_3_2, pq_3_3, pq_3_4, pq_3_5, pq_3_6, pq_3_7, pq_3_8, pq_3_9, pq_3_10] (by rfl) (by decide +kernel)
set_option maxRecDepth 20000 in
theorem gX8_put_X8_done : GoodIn wsX8_put (wsV RX8 62 RX8 yX8_done wsX8_done) := goodIn_app (goodIn_s seX8_put _ [pq_2_2, pq_2_3, pq_2_4, pq_1_3] (by rfl) (by decide +kernel)) ggX8_put_X8_done
def lb_sgX8_put : List (List UInt8) := [[42, 27, 184, 0, 77, 28, 3, 17, 0, 255, 184, 0, 41, 182, 0, 81], [153, 0, 5, 3, 172, 42, 180, 0, 14, 27, 50, 78, 45, 184, 0, 54], [154, 0, 8, 42, 182, 0, 89, 172, 42, 45, 28, 182, 0, 93, 42, 45], [184, 0, 54, 182, 0, 62, 172]]
set_option maxRecDepth 100000 in
theorem lb_seX8_put : cX8_put.data.toList = lb_sgX8_put.flatten := by decide +kernel
theorem lb_lnX8_put : ∀ s ∈ lb_sgX8_put.dropLast, s.length = 16 := by decide +kernel
theorem lxX8_put (k j : Nat) {b : UInt8} (h : (lb_sgX8_put[k]?).bind (fun s => s[j]?) = some b) : lb_at cX8_put (16 * k + j) b := by
  unfold lb_at
  rw [lb_seX8_put]
  exact lb_flat 16 lb_sgX8_put k j b lb_lnX8_put h
set_option maxRecDepth 20000 in
theorem dX8_put_0 : decode cX8_put 0 = .ok (.aload_n 0, 1) := dc_42 (lxX8_put 0 0 rfl)
set_option maxRecDepth 20000 in
theorem dX8_put_1 : decode cX8_put 1 = .ok (.iload_n 1, 1) := dc_27 (lxX8_put 0 1 rfl)
set_option maxRecDepth 20000 in
theorem dX8_put_2 : decode cX8_put 2 = .ok (.invokestatic 77, 3) := dc_184 0 77 (lxX8_put 0 2 rfl) (lxX8_put 0 3 rfl) (lxX8_put 0 4 rfl)
set_option maxRecDepth 20000 in
theorem dX8_put_5 : decode cX8_put 5 = .ok (.iload_n 2, 1) := dc_28 (lxX8_put 0 5 rfl)
set_option maxRecDepth 20000 in
theorem dX8_put_6 : decode cX8_put 6 = .ok (.iconst 0, 1) := dc_3 (lxX8_put 0 6 rfl)
set_option maxRecDepth 20000 in
theorem dX8_put_7 : decode cX8_put 7 = .ok (.sipush 255, 3) := dc_17 0 255 (lxX8_put 0 7 rfl) (lxX8_put 0 8 rfl) (lxX8_put 0 9 rfl)
set_option maxRecDepth 20000 in
theorem dX8_put_10 : decode cX8_put 10 = .ok (.invokestatic 41, 3) := dc_184 0 41 (lxX8_put 0 10 rfl) (lxX8_put 0 11 rfl) (lxX8_put 0 12 rfl)
set_option maxRecDepth 20000 in
theorem dX8_put_13 : decode cX8_put 13 = .ok (.invokevirtual 81, 3) := dc_182 0 81 (lxX8_put 0 13 rfl) (lxX8_put 0 14 rfl) (lxX8_put 0 15 rfl)
set_option maxRecDepth 20000 in
theorem dX8_put_16 : decode cX8_put 16 = .ok (.ifCond .eq 5, 3) := dc_153 0 5 (lxX8_put 1 0 rfl) (lxX8_put 1 1 rfl) (lxX8_put 1 2 rfl)
set_option maxRecDepth 20000 in
theorem dX8_put_19 : decode cX8_put 19 = .ok (.iconst 0, 1) := dc_3 (lxX8_put 1 3 rfl)
set_option maxRecDepth 20000 in
theorem dX8_put_20 : decode cX8_put 20 = .ok (.ireturn, 1) := dc_172 (lxX8_put 1 4 rfl)
set_option maxRecDepth 20000 in
theorem dX8_put_21 : decode cX8_put 21 = .ok (.aload_n 0, 1) := dc_42 (lxX8_put 1 5 rfl)
set_option maxRecDepth 20000 in
theorem dX8_put_22 : decode cX8_put 22 = .ok (.getfield 14, 3) := dc_180 0 14 (lxX8_put 1 6 rfl) (lxX8_put 1 7 rfl) (lxX8_put 1 8 rfl)
set_option maxRecDepth 20000 in
theorem dX8_put_25 : decode cX8_put 25 = .ok (.iload_n 1, 1) := dc_27 (lxX8_put 1 9 rfl)
set_option maxRecDepth 20000 in
theorem dX8_put_26 : decode cX8_put 26 = .ok (.aaload, 1) := dc_50 (lxX8_put 1 10 rfl)
set_option maxRecDepth 20000 in
theorem dX8_put_27 : decode cX8_put 27 = .ok (.astore_n 3, 1) := dc_78 (lxX8_put 1 11 rfl)
set_option maxRecDepth 20000 in
theorem dX8_put_28 : decode cX8_put 28 = .ok (.aload_n 3, 1) := dc_45 (lxX8_put 1 12 rfl)
set_option maxRecDepth 20000 in
theorem dX8_put_29 : decode cX8_put 29 = .ok (.invokestatic 54, 3) := dc_184 0 54 (lxX8_put 1 13 rfl) (lxX8_put 1 14 rfl) (lxX8_put 1 15 rfl)
set_option maxRecDepth 20000 in
theorem dX8_put_32 : decode cX8_put 32 = .ok (.ifCond .ne 8, 3) := dc_154 0 8 (lxX8_put 2 0 rfl) (lxX8_put 2 1 rfl) (lxX8_put 2 2 rfl)
set_option maxRecDepth 20000 in
theorem dX8_put_35 : decode cX8_put 35 = .ok (.aload_n 0, 1) := dc_42 (lxX8_put 2 3 rfl)
set_option maxRecDepth 20000 in
theorem dX8_put_36 : decode cX8_put 36 = .ok (.invokevirtual 89, 3) := dc_182 0 89 (lxX8_put 2 4 rfl) (lxX8_put 2 5 rfl) (lxX8_put 2 6 rfl)
set_option maxRecDepth 20000 in
theorem dX8_put_39 : decode cX8_put 39 = .ok (.ireturn, 1) := dc_172 (lxX8_put 2 7 rfl)
set_option maxRecDepth 20000 in
theorem dX8_put_40 : decode cX8_put 40 = .ok (.aload_n 0, 1) := dc_42 (lxX8_put 2 8 rfl)
set_option maxRecDepth 20000 in
theorem dX8_put_41 : decode cX8_put 41 = .ok (.aload_n 3, 1) := dc_45 (lxX8_put 2 9 rfl)
set_option maxRecDepth 20000 in
theorem dX8_put_42 : decode cX8_put 42 = .ok (.iload_n 2, 1) := dc_28 (lxX8_put 2 10 rfl)
set_option maxRecDepth 20000 in
theorem dX8_put_43 : decode cX8_put 43 = .ok (.invokevirtual 93, 3) := dc_182 0 93 (lxX8_put 2 11 rfl) (lxX8_put 2 12 rfl) (lxX8_put 2 13 rfl)
set_option maxRecDepth 20000 in
theorem dX8_put_46 : decode cX8_put 46 = .ok (.aload_n 0, 1) := dc_42 (lxX8_put 2 14 rfl)
set_option maxRecDepth 20000 in
theorem dX8_put_47 : decode cX8_put 47 = .ok (.aload_n 3, 1) := dc_45 (lxX8_put 2 15 rfl)
set_option maxRecDepth 20000 in
theorem dX8_put_48 : decode cX8_put 48 = .ok (.invokestatic 54, 3) := dc_184 0 54 (lxX8_put 3 0 rfl) (lxX8_put 3 1 rfl) (lxX8_put 3 2 rfl)
set_option maxRecDepth 20000 in
theorem dX8_put_51 : decode cX8_put 51 = .ok (.invokevirtual 62, 3) := dc_182 0 62 (lxX8_put 3 3 rfl) (lxX8_put 3 4 rfl) (lxX8_put 3 5 rfl)
set_option maxRecDepth 20000 in
theorem dX8_put_54 : decode cX8_put 54 = .ok (.ireturn, 1) := dc_172 (lxX8_put 3 6 rfl)
noncomputable def sgX8_run : List (List Cond) := [[.code yX8_run cX8_run 8 (some .int)], wsX8_run_r1, wsX8_run_r2, wsX80]
theorem seX8_run : sgX8_run.flatten = wsX8_run := by simp only [sgX8_run, wsX8_run, List.flatten_cons, List.flatten_nil, List.append_assoc, List.append_nil, List.cons_append, List.nil_append]
set_option maxRecDepth 20000 in
theorem ggX8_run_X8_isNoWindow : GoodIn wsX8_run wsX8_isNoWindow := goodIn_s seX8_run _ [pq_1_8, pq_1_9, pq_1_10, pq_1_7, pq_1_11] (by rfl) (by decide +kernel)
set_option maxRecDepth 20000 in
theorem gX8_run_X8_isNoWindow : GoodIn wsX8_run (va_wsS RX8 77 yX8_isNoWindow wsX8_isNoWindow) := goodIn_app (goodIn_s seX8_run _ [pq_1_5, pq_1_6, pq_1_7] (by rfl) (by decide +kernel)) ggX8_run_X8_isNoWindow
set_option maxRecDepth 20000 in
theorem ggX8_run_X8_isNo : GoodIn wsX8_run wsX8_isNo := goodIn_s seX8_run _ [pq_1_11] (by rfl) (by decide +kernel)
set_option maxRecDepth 20000 in
theorem gX8_run_X8_isNo : GoodIn wsX8_run (va_wsS RX8 41 yX8_isNo wsX8_isNo) := goodIn_app (goodIn_s seX8_run _ [pq_1_9, pq_1_10, pq_1_7] (by rfl) (by decide +kernel)) ggX8_run_X8_isNo
set_option maxRecDepth 20000 in
theorem ggX8_run_X8_isThrown : GoodIn wsX8_run wsX8_isThrown := goodIn_s seX8_run _ [pq_1_15, pq_1_16, pq_3_0, pq_3_1, pq_3_2, pq_3_3, pq_3_4, pq_3_5, pq_3_6, pq_3_7, pq_3_8, pq_3_9, pq_3_10] (by rfl) (by decide +kernel)
set_option maxRecDepth 20000 in
theorem gX8_run_X8_isThrown : GoodIn wsX8_run (wsV RX8 81 RX8 yX8_isThrown wsX8_isThrown) := goodIn_app (goodIn_s seX8_run _ [pq_1_12, pq_1_13, pq_1_14, pq_1_7] (by rfl) (by decide +kernel)) ggX8_run_X8_isThrown
set_option maxRecDepth 20000 in
theorem ggX8_run_X8_length : GoodIn wsX8_run wsX8_length := goodIn_s seX8_run _ [pq_1_19] (by rfl) (by decide +kernel)
set_option maxRecDepth 20000 in
theorem gX8_run_X8_length : GoodIn wsX8_run (va_wsS RX8 54 yX8_length wsX8_length) := goodIn_app (goodIn_s seX8_run _ [pq_1_17, pq_1_18, pq_1_7] (by rfl) (by decide +kernel)) ggX8_run_X8_length
set_option maxRecDepth 20000 in
theorem ggX8_run_X8_write : GoodIn wsX8_run wsX8_write := goodIn_s seX8_run _ [pq_1_23, pq_2_0, pq_3_0, pq_3_1, pq_3_2, pq_3_3, pq_3_4, pq_3_5, pq_3_6, pq_3_7, pq_3_8, pq_3_9, pq_3_10] (by rfl) (by decide +kernel)
set_option maxRecDepth 20000 in
theorem gX8_run_X8_write : GoodIn wsX8_run (wsV RX8 93 RX8 yX8_write wsX8_write) := goodIn_app (goodIn_s seX8_run _ [pq_1_20, pq_1_21, pq_1_22, pq_1_7] (by rfl) (by decide +kernel)) ggX8_run_X8_write
set_option maxRecDepth 20000 in
theorem ggX8_run_X8_done : GoodIn wsX8_run wsX8_done := goodIn_s seX8_run _ [pq_2_4, pq_2_5, pq_3_0, pq_3_1, pq_3_2, pq_3_3, pq_3_4, pq_3_5, pq_3_6, pq_3_7, pq_3_8, pq_3_9, pq_3_10] (by rfl) (by decide +kernel)
set_option maxRecDepth 20000 in
theorem gX8_run_X8_done : GoodIn wsX8_run (wsV RX8 62 RX8 yX8_done wsX8_done) := goodIn_app (goodIn_s seX8_run _ [pq_2_1, pq_2_2, pq_2_3, pq_1_7] (by rfl) (by decide +kernel)) ggX8_run_X8_done
def lb_sgX8_run : List (List UInt8) := [[42, 27, 184, 0, 77, 28, 3, 17, 0, 255, 184, 0, 41, 154, 0, 25], [29, 3, 17, 0, 255, 184, 0, 41, 154, 0, 14, 21, 4, 3, 16, 40], [184, 0, 41, 153, 0, 7, 4, 167, 0, 4, 3, 182, 0, 81, 153, 0], [5, 3, 172, 42, 180, 0, 14, 27, 50, 58, 5, 21, 4, 25, 5, 184], [0, 54, 184, 0, 97, 54, 6, 3, 54, 7, 21, 7, 21, 6, 162, 0], [25, 42, 25, 5, 28, 21, 7, 29, 104, 96, 17, 1, 0, 112, 182, 0], [93, 132, 7, 1, 167, 255, 230, 42, 21, 6, 182, 0, 62, 172]]
set_option maxRecDepth 100000 in
theorem lb_seX8_run : cX8_run.data.toList = lb_sgX8_run.flatten := by decide +kernel
theorem lb_lnX8_run : ∀ s ∈ lb_sgX8_run.dropLast, s.length = 16 := by decide +kernel
theorem lxX8_run (k j : Nat) {b : UInt8} (h : (lb_sgX8_run[k]?).bind (fun s => s[j]?) = some b) : lb_at cX8_run (16 * k + j) b := by
  unfold lb_at
  rw [lb_seX8_run]
  exact lb_flat 16 lb_sgX8_run k j b lb_lnX8_run h
set_option maxRecDepth 20000 in
theorem dX8_run_0 : decode cX8_run 0 = .ok (.aload_n 0, 1) := dc_42 (lxX8_run 0 0 rfl)
set_option maxRecDepth 20000 in
theorem dX8_run_1 : decode cX8_run 1 = .ok (.iload_n 1, 1) := dc_27 (lxX8_run 0 1 rfl)
set_option maxRecDepth 20000 in
theorem dX8_run_2 : decode cX8_run 2 = .ok (.invokestatic 77, 3) := dc_184 0 77 (lxX8_run 0 2 rfl) (lxX8_run 0 3 rfl) (lxX8_run 0 4 rfl)
set_option maxRecDepth 20000 in
theorem dX8_run_5 : decode cX8_run 5 = .ok (.iload_n 2, 1) := dc_28 (lxX8_run 0 5 rfl)
set_option maxRecDepth 20000 in
theorem dX8_run_6 : decode cX8_run 6 = .ok (.iconst 0, 1) := dc_3 (lxX8_run 0 6 rfl)
set_option maxRecDepth 20000 in
theorem dX8_run_7 : decode cX8_run 7 = .ok (.sipush 255, 3) := dc_17 0 255 (lxX8_run 0 7 rfl) (lxX8_run 0 8 rfl) (lxX8_run 0 9 rfl)
set_option maxRecDepth 20000 in
theorem dX8_run_10 : decode cX8_run 10 = .ok (.invokestatic 41, 3) := dc_184 0 41 (lxX8_run 0 10 rfl) (lxX8_run 0 11 rfl) (lxX8_run 0 12 rfl)
set_option maxRecDepth 20000 in
theorem dX8_run_13 : decode cX8_run 13 = .ok (.ifCond .ne 25, 3) := dc_154 0 25 (lxX8_run 0 13 rfl) (lxX8_run 0 14 rfl) (lxX8_run 0 15 rfl)
set_option maxRecDepth 20000 in
theorem dX8_run_16 : decode cX8_run 16 = .ok (.iload_n 3, 1) := dc_29 (lxX8_run 1 0 rfl)
set_option maxRecDepth 20000 in
theorem dX8_run_17 : decode cX8_run 17 = .ok (.iconst 0, 1) := dc_3 (lxX8_run 1 1 rfl)
set_option maxRecDepth 20000 in
theorem dX8_run_18 : decode cX8_run 18 = .ok (.sipush 255, 3) := dc_17 0 255 (lxX8_run 1 2 rfl) (lxX8_run 1 3 rfl) (lxX8_run 1 4 rfl)
set_option maxRecDepth 20000 in
theorem dX8_run_21 : decode cX8_run 21 = .ok (.invokestatic 41, 3) := dc_184 0 41 (lxX8_run 1 5 rfl) (lxX8_run 1 6 rfl) (lxX8_run 1 7 rfl)
set_option maxRecDepth 20000 in
theorem dX8_run_24 : decode cX8_run 24 = .ok (.ifCond .ne 14, 3) := dc_154 0 14 (lxX8_run 1 8 rfl) (lxX8_run 1 9 rfl) (lxX8_run 1 10 rfl)
set_option maxRecDepth 20000 in
theorem dX8_run_27 : decode cX8_run 27 = .ok (.iload 4, 2) := dc_21 4 (lxX8_run 1 11 rfl) (lxX8_run 1 12 rfl)
set_option maxRecDepth 20000 in
theorem dX8_run_29 : decode cX8_run 29 = .ok (.iconst 0, 1) := dc_3 (lxX8_run 1 13 rfl)
set_option maxRecDepth 20000 in
theorem dX8_run_30 : decode cX8_run 30 = .ok (.bipush 40, 2) := dc_16 40 (lxX8_run 1 14 rfl) (lxX8_run 1 15 rfl)
set_option maxRecDepth 20000 in
theorem dX8_run_32 : decode cX8_run 32 = .ok (.invokestatic 41, 3) := dc_184 0 41 (lxX8_run 2 0 rfl) (lxX8_run 2 1 rfl) (lxX8_run 2 2 rfl)
set_option maxRecDepth 20000 in
theorem dX8_run_35 : decode cX8_run 35 = .ok (.ifCond .eq 7, 3) := dc_153 0 7 (lxX8_run 2 3 rfl) (lxX8_run 2 4 rfl) (lxX8_run 2 5 rfl)
set_option maxRecDepth 20000 in
theorem dX8_run_38 : decode cX8_run 38 = .ok (.iconst 1, 1) := dc_4 (lxX8_run 2 6 rfl)
set_option maxRecDepth 20000 in
theorem dX8_run_39 : decode cX8_run 39 = .ok (.goto 4, 3) := dc_167 0 4 (lxX8_run 2 7 rfl) (lxX8_run 2 8 rfl) (lxX8_run 2 9 rfl)
set_option maxRecDepth 20000 in
theorem dX8_run_42 : decode cX8_run 42 = .ok (.iconst 0, 1) := dc_3 (lxX8_run 2 10 rfl)
set_option maxRecDepth 20000 in
theorem dX8_run_43 : decode cX8_run 43 = .ok (.invokevirtual 81, 3) := dc_182 0 81 (lxX8_run 2 11 rfl) (lxX8_run 2 12 rfl) (lxX8_run 2 13 rfl)
set_option maxRecDepth 20000 in
theorem dX8_run_46 : decode cX8_run 46 = .ok (.ifCond .eq 5, 3) := dc_153 0 5 (lxX8_run 2 14 rfl) (lxX8_run 2 15 rfl) (lxX8_run 3 0 rfl)
set_option maxRecDepth 20000 in
theorem dX8_run_49 : decode cX8_run 49 = .ok (.iconst 0, 1) := dc_3 (lxX8_run 3 1 rfl)
set_option maxRecDepth 20000 in
theorem dX8_run_50 : decode cX8_run 50 = .ok (.ireturn, 1) := dc_172 (lxX8_run 3 2 rfl)
set_option maxRecDepth 20000 in
theorem dX8_run_51 : decode cX8_run 51 = .ok (.aload_n 0, 1) := dc_42 (lxX8_run 3 3 rfl)
set_option maxRecDepth 20000 in
theorem dX8_run_52 : decode cX8_run 52 = .ok (.getfield 14, 3) := dc_180 0 14 (lxX8_run 3 4 rfl) (lxX8_run 3 5 rfl) (lxX8_run 3 6 rfl)
set_option maxRecDepth 20000 in
theorem dX8_run_55 : decode cX8_run 55 = .ok (.iload_n 1, 1) := dc_27 (lxX8_run 3 7 rfl)
set_option maxRecDepth 20000 in
theorem dX8_run_56 : decode cX8_run 56 = .ok (.aaload, 1) := dc_50 (lxX8_run 3 8 rfl)
set_option maxRecDepth 20000 in
theorem dX8_run_57 : decode cX8_run 57 = .ok (.astore 5, 2) := dc_58 5 (lxX8_run 3 9 rfl) (lxX8_run 3 10 rfl)
set_option maxRecDepth 20000 in
theorem dX8_run_59 : decode cX8_run 59 = .ok (.iload 4, 2) := dc_21 4 (lxX8_run 3 11 rfl) (lxX8_run 3 12 rfl)
set_option maxRecDepth 20000 in
theorem dX8_run_61 : decode cX8_run 61 = .ok (.aload 5, 2) := dc_25 5 (lxX8_run 3 13 rfl) (lxX8_run 3 14 rfl)
set_option maxRecDepth 20000 in
theorem dX8_run_63 : decode cX8_run 63 = .ok (.invokestatic 54, 3) := dc_184 0 54 (lxX8_run 3 15 rfl) (lxX8_run 4 0 rfl) (lxX8_run 4 1 rfl)
set_option maxRecDepth 20000 in
theorem dX8_run_66 : decode cX8_run 66 = .ok (.invokestatic 97, 3) := dc_184 0 97 (lxX8_run 4 2 rfl) (lxX8_run 4 3 rfl) (lxX8_run 4 4 rfl)
set_option maxRecDepth 20000 in
theorem dX8_run_69 : decode cX8_run 69 = .ok (.istore 6, 2) := dc_54 6 (lxX8_run 4 5 rfl) (lxX8_run 4 6 rfl)
set_option maxRecDepth 20000 in
theorem dX8_run_71 : decode cX8_run 71 = .ok (.iconst 0, 1) := dc_3 (lxX8_run 4 7 rfl)
set_option maxRecDepth 20000 in
theorem dX8_run_72 : decode cX8_run 72 = .ok (.istore 7, 2) := dc_54 7 (lxX8_run 4 8 rfl) (lxX8_run 4 9 rfl)
set_option maxRecDepth 20000 in
theorem dX8_run_74 : decode cX8_run 74 = .ok (.iload 7, 2) := dc_21 7 (lxX8_run 4 10 rfl) (lxX8_run 4 11 rfl)
set_option maxRecDepth 20000 in
theorem dX8_run_76 : decode cX8_run 76 = .ok (.iload 6, 2) := dc_21 6 (lxX8_run 4 12 rfl) (lxX8_run 4 13 rfl)
set_option maxRecDepth 20000 in
theorem dX8_run_78 : decode cX8_run 78 = .ok (.if_icmp .ge 25, 3) := dc_162 0 25 (lxX8_run 4 14 rfl) (lxX8_run 4 15 rfl) (lxX8_run 5 0 rfl)
set_option maxRecDepth 20000 in
theorem dX8_run_81 : decode cX8_run 81 = .ok (.aload_n 0, 1) := dc_42 (lxX8_run 5 1 rfl)
set_option maxRecDepth 20000 in
theorem dX8_run_82 : decode cX8_run 82 = .ok (.aload 5, 2) := dc_25 5 (lxX8_run 5 2 rfl) (lxX8_run 5 3 rfl)
set_option maxRecDepth 20000 in
theorem dX8_run_84 : decode cX8_run 84 = .ok (.iload_n 2, 1) := dc_28 (lxX8_run 5 4 rfl)
set_option maxRecDepth 20000 in
theorem dX8_run_85 : decode cX8_run 85 = .ok (.iload 7, 2) := dc_21 7 (lxX8_run 5 5 rfl) (lxX8_run 5 6 rfl)
set_option maxRecDepth 20000 in
theorem dX8_run_87 : decode cX8_run 87 = .ok (.iload_n 3, 1) := dc_29 (lxX8_run 5 7 rfl)
set_option maxRecDepth 20000 in
theorem dX8_run_88 : decode cX8_run 88 = .ok (.imul, 1) := dc_104 (lxX8_run 5 8 rfl)
set_option maxRecDepth 20000 in
theorem dX8_run_89 : decode cX8_run 89 = .ok (.iadd, 1) := dc_96 (lxX8_run 5 9 rfl)
set_option maxRecDepth 20000 in
theorem dX8_run_90 : decode cX8_run 90 = .ok (.sipush 256, 3) := dc_17 1 0 (lxX8_run 5 10 rfl) (lxX8_run 5 11 rfl) (lxX8_run 5 12 rfl)
set_option maxRecDepth 20000 in
theorem dX8_run_93 : decode cX8_run 93 = .ok (.irem, 1) := dc_112 (lxX8_run 5 13 rfl)
set_option maxRecDepth 20000 in
theorem dX8_run_94 : decode cX8_run 94 = .ok (.invokevirtual 93, 3) := dc_182 0 93 (lxX8_run 5 14 rfl) (lxX8_run 5 15 rfl) (lxX8_run 6 0 rfl)
set_option maxRecDepth 20000 in
theorem dX8_run_97 : decode cX8_run 97 = .ok (.iinc 7 1, 3) := dc_132 7 1 (lxX8_run 6 1 rfl) (lxX8_run 6 2 rfl) (lxX8_run 6 3 rfl)
set_option maxRecDepth 20000 in
theorem dX8_run_100 : decode cX8_run 100 = .ok (.goto (-26), 3) := dc_167 255 230 (lxX8_run 6 4 rfl) (lxX8_run 6 5 rfl) (lxX8_run 6 6 rfl)
set_option maxRecDepth 20000 in
theorem dX8_run_103 : decode cX8_run 103 = .ok (.aload_n 0, 1) := dc_42 (lxX8_run 6 7 rfl)
set_option maxRecDepth 20000 in
theorem dX8_run_104 : decode cX8_run 104 = .ok (.iload 6, 2) := dc_21 6 (lxX8_run 6 8 rfl) (lxX8_run 6 9 rfl)
set_option maxRecDepth 20000 in
theorem dX8_run_106 : decode cX8_run 106 = .ok (.invokevirtual 62, 3) := dc_182 0 62 (lxX8_run 6 10 rfl) (lxX8_run 6 11 rfl) (lxX8_run 6 12 rfl)
set_option maxRecDepth 20000 in
theorem dX8_run_109 : decode cX8_run 109 = .ok (.ireturn, 1) := dc_172 (lxX8_run 6 13 rfl)
noncomputable def sgX8_write_ : List (List Cond) := [[.code yX8_write_ cX8_write_ 7 (some .int)], wsX8_write__r1, wsX8_write__r2, wsX80]
theorem seX8_write_ : sgX8_write_.flatten = wsX8_write_ := by simp only [sgX8_write_, wsX8_write_, List.flatten_cons, List.flatten_nil, List.append_assoc, List.append_nil, List.cons_append, List.nil_append]
set_option maxRecDepth 20000 in
theorem ggX8_write__X8_isNoWindow : GoodIn wsX8_write_ wsX8_isNoWindow := goodIn_s seX8_write_ _ [pq_1_8, pq_1_9, pq_1_10, pq_1_7, pq_1_11] (by rfl) (by decide +kernel)
set_option maxRecDepth 20000 in
theorem gX8_write__X8_isNoWindow : GoodIn wsX8_write_ (va_wsS RX8 77 yX8_isNoWindow wsX8_isNoWindow) := goodIn_app (goodIn_s seX8_write_ _ [pq_1_5, pq_1_6, pq_1_7] (by rfl) (by decide +kernel)) ggX8_write__X8_isNoWindow
set_option maxRecDepth 20000 in
theorem ggX8_write__X8_isNo : GoodIn wsX8_write_ wsX8_isNo := goodIn_s seX8_write_ _ [pq_1_11] (by rfl) (by decide +kernel)
set_option maxRecDepth 20000 in
theorem gX8_write__X8_isNo : GoodIn wsX8_write_ (va_wsS RX8 41 yX8_isNo wsX8_isNo) := goodIn_app (goodIn_s seX8_write_ _ [pq_1_9, pq_1_10, pq_1_7] (by rfl) (by decide +kernel)) ggX8_write__X8_isNo
set_option maxRecDepth 20000 in
theorem ggX8_write__X8_isThrown : GoodIn wsX8_write_ wsX8_isThrown := goodIn_s seX8_write_ _ [pq_1_15, pq_1_16, pq_3_0, pq_3_1, pq_3_2, pq_3_3, pq_3_4, pq_3_5, pq_3_6, pq_3_7, pq_3_8, pq_3_9, pq_3_10] (by rfl) (by decide +kernel)
set_option maxRecDepth 20000 in
theorem gX8_write__X8_isThrown : GoodIn wsX8_write_ (wsV RX8 81 RX8 yX8_isThrown wsX8_isThrown) := goodIn_app (goodIn_s seX8_write_ _ [pq_1_12, pq_1_13, pq_1_14, pq_1_7] (by rfl) (by decide +kernel)) ggX8_write__X8_isThrown
set_option maxRecDepth 20000 in
theorem ggX8_write__X8_length : GoodIn wsX8_write_ wsX8_length := goodIn_s seX8_write_ _ [pq_1_19] (by rfl) (by decide +kernel)
set_option maxRecDepth 20000 in
theorem gX8_write__X8_length : GoodIn wsX8_write_ (va_wsS RX8 54 yX8_length wsX8_length) := goodIn_app (goodIn_s seX8_write_ _ [pq_1_17, pq_1_18, pq_1_7] (by rfl) (by decide +kernel)) ggX8_write__X8_length
set_option maxRecDepth 20000 in
theorem ggX8_write__X8_letter : GoodIn wsX8_write_ wsX8_letter := goodIn_s seX8_write_ _ [pq_1_22] (by rfl) (by decide +kernel)
set_option maxRecDepth 20000 in
theorem gX8_write__X8_letter : GoodIn wsX8_write_ (va_wsS RX8 103 yX8_letter wsX8_letter) := goodIn_app (goodIn_s seX8_write_ _ [pq_1_20, pq_1_21, pq_1_7] (by rfl) (by decide +kernel)) ggX8_write__X8_letter
set_option maxRecDepth 20000 in
theorem ggX8_write__X8_write : GoodIn wsX8_write_ wsX8_write := goodIn_s seX8_write_ _ [pq_2_2, pq_2_3, pq_3_0, pq_3_1, pq_3_2, pq_3_3, pq_3_4, pq_3_5, pq_3_6, pq_3_7, pq_3_8, pq_3_9, pq_3_10] (by rfl) (by decide +kernel)
set_option maxRecDepth 20000 in
theorem gX8_write__X8_write : GoodIn wsX8_write_ (wsV RX8 93 RX8 yX8_write wsX8_write) := goodIn_app (goodIn_s seX8_write_ _ [pq_1_23, pq_2_0, pq_2_1, pq_1_7] (by rfl) (by decide +kernel)) ggX8_write__X8_write
set_option maxRecDepth 20000 in
theorem ggX8_write__X8_done : GoodIn wsX8_write_ wsX8_done := goodIn_s seX8_write_ _ [pq_2_7, pq_2_8, pq_3_0, pq_3_1, pq_3_2, pq_3_3, pq_3_4, pq_3_5, pq_3_6, pq_3_7, pq_3_8, pq_3_9, pq_3_10] (by rfl) (by decide +kernel)
set_option maxRecDepth 20000 in
theorem gX8_write__X8_done : GoodIn wsX8_write_ (wsV RX8 62 RX8 yX8_done wsX8_done) := goodIn_app (goodIn_s seX8_write_ _ [pq_2_4, pq_2_5, pq_2_6, pq_1_7] (by rfl) (by decide +kernel)) ggX8_write__X8_done
def lb_sgX8_write_ : List (List UInt8) := [[42, 27, 184, 0, 77, 28, 155, 0, 13, 29, 3, 16, 20, 184, 0, 41], [153, 0, 7, 4, 167, 0, 4, 3, 182, 0, 81, 153, 0, 5, 3, 172], [42, 180, 0, 14, 27, 50, 58, 4, 29, 25, 4, 184, 0, 54, 184, 0], [97, 54, 5, 3, 54, 6, 21, 6, 21, 5, 162, 0, 21, 42, 25, 4], [28, 21, 6, 184, 0, 103, 182, 0, 93, 132, 6, 1, 167, 255, 234, 42], [21, 5, 182, 0, 62, 172]]
set_option maxRecDepth 100000 in
theorem lb_seX8_write_ : cX8_write_.data.toList = lb_sgX8_write_.flatten := by decide +kernel
theorem lb_lnX8_write_ : ∀ s ∈ lb_sgX8_write_.dropLast, s.length = 16 := by decide +kernel
theorem lxX8_write_ (k j : Nat) {b : UInt8} (h : (lb_sgX8_write_[k]?).bind (fun s => s[j]?) = some b) : lb_at cX8_write_ (16 * k + j) b := by
  unfold lb_at
  rw [lb_seX8_write_]
  exact lb_flat 16 lb_sgX8_write_ k j b lb_lnX8_write_ h
set_option maxRecDepth 20000 in
theorem dX8_write__0 : decode cX8_write_ 0 = .ok (.aload_n 0, 1) := dc_42 (lxX8_write_ 0 0 rfl)
set_option maxRecDepth 20000 in
theorem dX8_write__1 : decode cX8_write_ 1 = .ok (.iload_n 1, 1) := dc_27 (lxX8_write_ 0 1 rfl)
set_option maxRecDepth 20000 in
theorem dX8_write__2 : decode cX8_write_ 2 = .ok (.invokestatic 77, 3) := dc_184 0 77 (lxX8_write_ 0 2 rfl) (lxX8_write_ 0 3 rfl) (lxX8_write_ 0 4 rfl)
set_option maxRecDepth 20000 in
theorem dX8_write__5 : decode cX8_write_ 5 = .ok (.iload_n 2, 1) := dc_28 (lxX8_write_ 0 5 rfl)
set_option maxRecDepth 20000 in
theorem dX8_write__6 : decode cX8_write_ 6 = .ok (.ifCond .lt 13, 3) := dc_155 0 13 (lxX8_write_ 0 6 rfl) (lxX8_write_ 0 7 rfl) (lxX8_write_ 0 8 rfl)
set_option maxRecDepth 20000 in
theorem dX8_write__9 : decode cX8_write_ 9 = .ok (.iload_n 3, 1) := dc_29 (lxX8_write_ 0 9 rfl)
set_option maxRecDepth 20000 in
theorem dX8_write__10 : decode cX8_write_ 10 = .ok (.iconst 0, 1) := dc_3 (lxX8_write_ 0 10 rfl)
set_option maxRecDepth 20000 in
theorem dX8_write__11 : decode cX8_write_ 11 = .ok (.bipush 20, 2) := dc_16 20 (lxX8_write_ 0 11 rfl) (lxX8_write_ 0 12 rfl)
set_option maxRecDepth 20000 in
theorem dX8_write__13 : decode cX8_write_ 13 = .ok (.invokestatic 41, 3) := dc_184 0 41 (lxX8_write_ 0 13 rfl) (lxX8_write_ 0 14 rfl) (lxX8_write_ 0 15 rfl)
set_option maxRecDepth 20000 in
theorem dX8_write__16 : decode cX8_write_ 16 = .ok (.ifCond .eq 7, 3) := dc_153 0 7 (lxX8_write_ 1 0 rfl) (lxX8_write_ 1 1 rfl) (lxX8_write_ 1 2 rfl)
set_option maxRecDepth 20000 in
theorem dX8_write__19 : decode cX8_write_ 19 = .ok (.iconst 1, 1) := dc_4 (lxX8_write_ 1 3 rfl)
set_option maxRecDepth 20000 in
theorem dX8_write__20 : decode cX8_write_ 20 = .ok (.goto 4, 3) := dc_167 0 4 (lxX8_write_ 1 4 rfl) (lxX8_write_ 1 5 rfl) (lxX8_write_ 1 6 rfl)
set_option maxRecDepth 20000 in
theorem dX8_write__23 : decode cX8_write_ 23 = .ok (.iconst 0, 1) := dc_3 (lxX8_write_ 1 7 rfl)
set_option maxRecDepth 20000 in
theorem dX8_write__24 : decode cX8_write_ 24 = .ok (.invokevirtual 81, 3) := dc_182 0 81 (lxX8_write_ 1 8 rfl) (lxX8_write_ 1 9 rfl) (lxX8_write_ 1 10 rfl)
set_option maxRecDepth 20000 in
theorem dX8_write__27 : decode cX8_write_ 27 = .ok (.ifCond .eq 5, 3) := dc_153 0 5 (lxX8_write_ 1 11 rfl) (lxX8_write_ 1 12 rfl) (lxX8_write_ 1 13 rfl)
set_option maxRecDepth 20000 in
theorem dX8_write__30 : decode cX8_write_ 30 = .ok (.iconst 0, 1) := dc_3 (lxX8_write_ 1 14 rfl)
set_option maxRecDepth 20000 in
theorem dX8_write__31 : decode cX8_write_ 31 = .ok (.ireturn, 1) := dc_172 (lxX8_write_ 1 15 rfl)
set_option maxRecDepth 20000 in
theorem dX8_write__32 : decode cX8_write_ 32 = .ok (.aload_n 0, 1) := dc_42 (lxX8_write_ 2 0 rfl)
set_option maxRecDepth 20000 in
theorem dX8_write__33 : decode cX8_write_ 33 = .ok (.getfield 14, 3) := dc_180 0 14 (lxX8_write_ 2 1 rfl) (lxX8_write_ 2 2 rfl) (lxX8_write_ 2 3 rfl)
set_option maxRecDepth 20000 in
theorem dX8_write__36 : decode cX8_write_ 36 = .ok (.iload_n 1, 1) := dc_27 (lxX8_write_ 2 4 rfl)
set_option maxRecDepth 20000 in
theorem dX8_write__37 : decode cX8_write_ 37 = .ok (.aaload, 1) := dc_50 (lxX8_write_ 2 5 rfl)
set_option maxRecDepth 20000 in
theorem dX8_write__38 : decode cX8_write_ 38 = .ok (.astore 4, 2) := dc_58 4 (lxX8_write_ 2 6 rfl) (lxX8_write_ 2 7 rfl)
set_option maxRecDepth 20000 in
theorem dX8_write__40 : decode cX8_write_ 40 = .ok (.iload_n 3, 1) := dc_29 (lxX8_write_ 2 8 rfl)
set_option maxRecDepth 20000 in
theorem dX8_write__41 : decode cX8_write_ 41 = .ok (.aload 4, 2) := dc_25 4 (lxX8_write_ 2 9 rfl) (lxX8_write_ 2 10 rfl)
set_option maxRecDepth 20000 in
theorem dX8_write__43 : decode cX8_write_ 43 = .ok (.invokestatic 54, 3) := dc_184 0 54 (lxX8_write_ 2 11 rfl) (lxX8_write_ 2 12 rfl) (lxX8_write_ 2 13 rfl)
set_option maxRecDepth 20000 in
theorem dX8_write__46 : decode cX8_write_ 46 = .ok (.invokestatic 97, 3) := dc_184 0 97 (lxX8_write_ 2 14 rfl) (lxX8_write_ 2 15 rfl) (lxX8_write_ 3 0 rfl)
set_option maxRecDepth 20000 in
theorem dX8_write__49 : decode cX8_write_ 49 = .ok (.istore 5, 2) := dc_54 5 (lxX8_write_ 3 1 rfl) (lxX8_write_ 3 2 rfl)
set_option maxRecDepth 20000 in
theorem dX8_write__51 : decode cX8_write_ 51 = .ok (.iconst 0, 1) := dc_3 (lxX8_write_ 3 3 rfl)
set_option maxRecDepth 20000 in
theorem dX8_write__52 : decode cX8_write_ 52 = .ok (.istore 6, 2) := dc_54 6 (lxX8_write_ 3 4 rfl) (lxX8_write_ 3 5 rfl)
set_option maxRecDepth 20000 in
theorem dX8_write__54 : decode cX8_write_ 54 = .ok (.iload 6, 2) := dc_21 6 (lxX8_write_ 3 6 rfl) (lxX8_write_ 3 7 rfl)
set_option maxRecDepth 20000 in
theorem dX8_write__56 : decode cX8_write_ 56 = .ok (.iload 5, 2) := dc_21 5 (lxX8_write_ 3 8 rfl) (lxX8_write_ 3 9 rfl)
set_option maxRecDepth 20000 in
theorem dX8_write__58 : decode cX8_write_ 58 = .ok (.if_icmp .ge 21, 3) := dc_162 0 21 (lxX8_write_ 3 10 rfl) (lxX8_write_ 3 11 rfl) (lxX8_write_ 3 12 rfl)
set_option maxRecDepth 20000 in
theorem dX8_write__61 : decode cX8_write_ 61 = .ok (.aload_n 0, 1) := dc_42 (lxX8_write_ 3 13 rfl)
set_option maxRecDepth 20000 in
theorem dX8_write__62 : decode cX8_write_ 62 = .ok (.aload 4, 2) := dc_25 4 (lxX8_write_ 3 14 rfl) (lxX8_write_ 3 15 rfl)
set_option maxRecDepth 20000 in
theorem dX8_write__64 : decode cX8_write_ 64 = .ok (.iload_n 2, 1) := dc_28 (lxX8_write_ 4 0 rfl)
set_option maxRecDepth 20000 in
theorem dX8_write__65 : decode cX8_write_ 65 = .ok (.iload 6, 2) := dc_21 6 (lxX8_write_ 4 1 rfl) (lxX8_write_ 4 2 rfl)
set_option maxRecDepth 20000 in
theorem dX8_write__67 : decode cX8_write_ 67 = .ok (.invokestatic 103, 3) := dc_184 0 103 (lxX8_write_ 4 3 rfl) (lxX8_write_ 4 4 rfl) (lxX8_write_ 4 5 rfl)
set_option maxRecDepth 20000 in
theorem dX8_write__70 : decode cX8_write_ 70 = .ok (.invokevirtual 93, 3) := dc_182 0 93 (lxX8_write_ 4 6 rfl) (lxX8_write_ 4 7 rfl) (lxX8_write_ 4 8 rfl)
set_option maxRecDepth 20000 in
theorem dX8_write__73 : decode cX8_write_ 73 = .ok (.iinc 6 1, 3) := dc_132 6 1 (lxX8_write_ 4 9 rfl) (lxX8_write_ 4 10 rfl) (lxX8_write_ 4 11 rfl)
set_option maxRecDepth 20000 in
theorem dX8_write__76 : decode cX8_write_ 76 = .ok (.goto (-22), 3) := dc_167 255 234 (lxX8_write_ 4 12 rfl) (lxX8_write_ 4 13 rfl) (lxX8_write_ 4 14 rfl)
set_option maxRecDepth 20000 in
theorem dX8_write__79 : decode cX8_write_ 79 = .ok (.aload_n 0, 1) := dc_42 (lxX8_write_ 4 15 rfl)
set_option maxRecDepth 20000 in
theorem dX8_write__80 : decode cX8_write_ 80 = .ok (.iload 5, 2) := dc_21 5 (lxX8_write_ 5 0 rfl) (lxX8_write_ 5 1 rfl)
set_option maxRecDepth 20000 in
theorem dX8_write__82 : decode cX8_write_ 82 = .ok (.invokevirtual 62, 3) := dc_182 0 62 (lxX8_write_ 5 2 rfl) (lxX8_write_ 5 3 rfl) (lxX8_write_ 5 4 rfl)
set_option maxRecDepth 20000 in
theorem dX8_write__85 : decode cX8_write_ 85 = .ok (.ireturn, 1) := dc_172 (lxX8_write_ 5 5 rfl)
noncomputable def sgX8_get : List (List Cond) := [[.code yX8_get cX8_get 2 (some .int)], wsX8_get_r1, wsX8_get_r2, wsX80]
theorem seX8_get : sgX8_get.flatten = wsX8_get := by simp only [sgX8_get, wsX8_get, List.flatten_cons, List.flatten_nil, List.append_assoc, List.append_nil, List.cons_append, List.nil_append]
set_option maxRecDepth 20000 in
theorem ggX8_get_X8_isNoWindow : GoodIn wsX8_get wsX8_isNoWindow := goodIn_s seX8_get _ [pq_1_4, pq_1_5, pq_1_6, pq_1_3, pq_1_7] (by rfl) (by decide +kernel)
set_option maxRecDepth 20000 in
theorem gX8_get_X8_isNoWindow : GoodIn wsX8_get (va_wsS RX8 77 yX8_isNoWindow wsX8_isNoWindow) := goodIn_app (goodIn_s seX8_get _ [pq_1_1, pq_1_2, pq_1_3] (by rfl) (by decide +kernel)) ggX8_get_X8_isNoWindow
set_option maxRecDepth 20000 in
theorem ggX8_get_X8_isThrown : GoodIn wsX8_get wsX8_isThrown := goodIn_s seX8_get _ [pq_1_11, pq_1_12, pq_3_0, pq_3_1, pq_3_2, pq_3_3, pq_3_4, pq_3_5, pq_3_6, pq_3_7, pq_3_8, pq_3_9, pq_3_10] (by rfl) (by decide +kernel)
set_option maxRecDepth 20000 in
theorem gX8_get_X8_isThrown : GoodIn wsX8_get (wsV RX8 81 RX8 yX8_isThrown wsX8_isThrown) := goodIn_app (goodIn_s seX8_get _ [pq_1_8, pq_1_9, pq_1_10, pq_1_3] (by rfl) (by decide +kernel)) ggX8_get_X8_isThrown
set_option maxRecDepth 20000 in
theorem ggX8_get_X8_length : GoodIn wsX8_get wsX8_length := goodIn_s seX8_get _ [pq_1_15] (by rfl) (by decide +kernel)
set_option maxRecDepth 20000 in
theorem gX8_get_X8_length : GoodIn wsX8_get (va_wsS RX8 54 yX8_length wsX8_length) := goodIn_app (goodIn_s seX8_get _ [pq_1_13, pq_1_14, pq_1_3] (by rfl) (by decide +kernel)) ggX8_get_X8_length
set_option maxRecDepth 20000 in
theorem ggX8_get_X8_refused : GoodIn wsX8_get wsX8_refused := goodIn_s seX8_get _ [pq_1_19, pq_1_20, pq_3_0, pq_3_1, pq_3_2, pq_3_3, pq_3_4, pq_3_5, pq_3_6, pq_3_7, pq_3_8, pq_3_9, pq_3_10] (by rfl) (by decide +kernel)
set_option maxRecDepth 20000 in
theorem gX8_get_X8_refused : GoodIn wsX8_get (wsV RX8 89 RX8 yX8_refused wsX8_refused) := goodIn_app (goodIn_s seX8_get _ [pq_1_16, pq_1_17, pq_1_18, pq_1_3] (by rfl) (by decide +kernel)) ggX8_get_X8_refused
set_option maxRecDepth 20000 in
theorem ggX8_get_X8_read : GoodIn wsX8_get wsX8_read := goodIn_s seX8_get _ [pq_2_0, pq_2_1, pq_3_0, pq_3_1, pq_3_2, pq_3_3, pq_3_4, pq_3_5, pq_3_6, pq_3_7, pq_3_8, pq_3_9, pq_3_10] (by rfl) (by decide +kernel)
set_option maxRecDepth 20000 in
theorem gX8_get_X8_read : GoodIn wsX8_get (wsV RX8 106 RX8 yX8_read wsX8_read) := goodIn_app (goodIn_s seX8_get _ [pq_1_21, pq_1_22, pq_1_23, pq_1_3] (by rfl) (by decide +kernel)) ggX8_get_X8_read
set_option maxRecDepth 20000 in
theorem ggX8_get_X8_done : GoodIn wsX8_get wsX8_done := goodIn_s seX8_get _ [pq_2_5, pq_1_20, pq_3_0, pq_3_1, pq_3_2, pq_3_3, pq_3_4, pq_3_5, pq_3_6, pq_3_7, pq_3_8, pq_3_9, pq_3_10] (by rfl) (by decide +kernel)
set_option maxRecDepth 20000 in
theorem gX8_get_X8_done : GoodIn wsX8_get (wsV RX8 62 RX8 yX8_done wsX8_done) := goodIn_app (goodIn_s seX8_get _ [pq_2_2, pq_2_3, pq_2_4, pq_1_3] (by rfl) (by decide +kernel)) ggX8_get_X8_done
def lb_sgX8_get : List (List UInt8) := [[42, 27, 184, 0, 77, 3, 182, 0, 81, 153, 0, 5, 3, 172, 42, 180], [0, 14, 27, 50, 184, 0, 54, 154, 0, 10, 42, 182, 0, 89, 167, 0], [17, 42, 42, 42, 180, 0, 14, 27, 50, 182, 0, 106, 182, 0, 62, 172]]
set_option maxRecDepth 100000 in
theorem lb_seX8_get : cX8_get.data.toList = lb_sgX8_get.flatten := by decide +kernel
theorem lb_lnX8_get : ∀ s ∈ lb_sgX8_get.dropLast, s.length = 16 := by decide +kernel
theorem lxX8_get (k j : Nat) {b : UInt8} (h : (lb_sgX8_get[k]?).bind (fun s => s[j]?) = some b) : lb_at cX8_get (16 * k + j) b := by
  unfold lb_at
  rw [lb_seX8_get]
  exact lb_flat 16 lb_sgX8_get k j b lb_lnX8_get h
set_option maxRecDepth 20000 in
theorem dX8_get_0 : decode cX8_get 0 = .ok (.aload_n 0, 1) := dc_42 (lxX8_get 0 0 rfl)
set_option maxRecDepth 20000 in
theorem dX8_get_1 : decode cX8_get 1 = .ok (.iload_n 1, 1) := dc_27 (lxX8_get 0 1 rfl)
set_option maxRecDepth 20000 in
theorem dX8_get_2 : decode cX8_get 2 = .ok (.invokestatic 77, 3) := dc_184 0 77 (lxX8_get 0 2 rfl) (lxX8_get 0 3 rfl) (lxX8_get 0 4 rfl)
set_option maxRecDepth 20000 in
theorem dX8_get_5 : decode cX8_get 5 = .ok (.iconst 0, 1) := dc_3 (lxX8_get 0 5 rfl)
set_option maxRecDepth 20000 in
theorem dX8_get_6 : decode cX8_get 6 = .ok (.invokevirtual 81, 3) := dc_182 0 81 (lxX8_get 0 6 rfl) (lxX8_get 0 7 rfl) (lxX8_get 0 8 rfl)
set_option maxRecDepth 20000 in
theorem dX8_get_9 : decode cX8_get 9 = .ok (.ifCond .eq 5, 3) := dc_153 0 5 (lxX8_get 0 9 rfl) (lxX8_get 0 10 rfl) (lxX8_get 0 11 rfl)
set_option maxRecDepth 20000 in
theorem dX8_get_12 : decode cX8_get 12 = .ok (.iconst 0, 1) := dc_3 (lxX8_get 0 12 rfl)
set_option maxRecDepth 20000 in
theorem dX8_get_13 : decode cX8_get 13 = .ok (.ireturn, 1) := dc_172 (lxX8_get 0 13 rfl)
set_option maxRecDepth 20000 in
theorem dX8_get_14 : decode cX8_get 14 = .ok (.aload_n 0, 1) := dc_42 (lxX8_get 0 14 rfl)
set_option maxRecDepth 20000 in
theorem dX8_get_15 : decode cX8_get 15 = .ok (.getfield 14, 3) := dc_180 0 14 (lxX8_get 0 15 rfl) (lxX8_get 1 0 rfl) (lxX8_get 1 1 rfl)
set_option maxRecDepth 20000 in
theorem dX8_get_18 : decode cX8_get 18 = .ok (.iload_n 1, 1) := dc_27 (lxX8_get 1 2 rfl)
set_option maxRecDepth 20000 in
theorem dX8_get_19 : decode cX8_get 19 = .ok (.aaload, 1) := dc_50 (lxX8_get 1 3 rfl)
set_option maxRecDepth 20000 in
theorem dX8_get_20 : decode cX8_get 20 = .ok (.invokestatic 54, 3) := dc_184 0 54 (lxX8_get 1 4 rfl) (lxX8_get 1 5 rfl) (lxX8_get 1 6 rfl)
set_option maxRecDepth 20000 in
theorem dX8_get_23 : decode cX8_get 23 = .ok (.ifCond .ne 10, 3) := dc_154 0 10 (lxX8_get 1 7 rfl) (lxX8_get 1 8 rfl) (lxX8_get 1 9 rfl)
set_option maxRecDepth 20000 in
theorem dX8_get_26 : decode cX8_get 26 = .ok (.aload_n 0, 1) := dc_42 (lxX8_get 1 10 rfl)
set_option maxRecDepth 20000 in
theorem dX8_get_27 : decode cX8_get 27 = .ok (.invokevirtual 89, 3) := dc_182 0 89 (lxX8_get 1 11 rfl) (lxX8_get 1 12 rfl) (lxX8_get 1 13 rfl)
set_option maxRecDepth 20000 in
theorem dX8_get_30 : decode cX8_get 30 = .ok (.goto 17, 3) := dc_167 0 17 (lxX8_get 1 14 rfl) (lxX8_get 1 15 rfl) (lxX8_get 2 0 rfl)
set_option maxRecDepth 20000 in
theorem dX8_get_33 : decode cX8_get 33 = .ok (.aload_n 0, 1) := dc_42 (lxX8_get 2 1 rfl)
set_option maxRecDepth 20000 in
theorem dX8_get_34 : decode cX8_get 34 = .ok (.aload_n 0, 1) := dc_42 (lxX8_get 2 2 rfl)
set_option maxRecDepth 20000 in
theorem dX8_get_35 : decode cX8_get 35 = .ok (.aload_n 0, 1) := dc_42 (lxX8_get 2 3 rfl)
set_option maxRecDepth 20000 in
theorem dX8_get_36 : decode cX8_get 36 = .ok (.getfield 14, 3) := dc_180 0 14 (lxX8_get 2 4 rfl) (lxX8_get 2 5 rfl) (lxX8_get 2 6 rfl)
set_option maxRecDepth 20000 in
theorem dX8_get_39 : decode cX8_get 39 = .ok (.iload_n 1, 1) := dc_27 (lxX8_get 2 7 rfl)
set_option maxRecDepth 20000 in
theorem dX8_get_40 : decode cX8_get 40 = .ok (.aaload, 1) := dc_50 (lxX8_get 2 8 rfl)
set_option maxRecDepth 20000 in
theorem dX8_get_41 : decode cX8_get 41 = .ok (.invokevirtual 106, 3) := dc_182 0 106 (lxX8_get 2 9 rfl) (lxX8_get 2 10 rfl) (lxX8_get 2 11 rfl)
set_option maxRecDepth 20000 in
theorem dX8_get_44 : decode cX8_get 44 = .ok (.invokevirtual 62, 3) := dc_182 0 62 (lxX8_get 2 12 rfl) (lxX8_get 2 13 rfl) (lxX8_get 2 14 rfl)
set_option maxRecDepth 20000 in
theorem dX8_get_47 : decode cX8_get 47 = .ok (.ireturn, 1) := dc_172 (lxX8_get 2 15 rfl)
noncomputable def sgX8_read_ : List (List Cond) := [[.code yX8_read_ cX8_read_ 6 (some (.object "java/lang/String"))], wsX8_read__r1, wsX8_read__r2, wsX8_read__r3, wsX8_read__r4, wsX8_read__r5, wsX8_read__r6, wsX8_read__r7, wsX8_read__r8, wsX8_read__r9, wsX80, wsJ40, wsJ00]
theorem seX8_read_ : sgX8_read_.flatten = wsX8_read_ := by simp only [sgX8_read_, wsX8_read_, List.flatten_cons, List.flatten_nil, List.append_assoc, List.append_nil, List.cons_append, List.nil_append]
set_option maxRecDepth 20000 in
theorem ggX8_read__X8_isNoWindow : GoodIn wsX8_read_ wsX8_isNoWindow := goodIn_s seX8_read_ _ [pq_1_8, pq_1_9, pq_1_10, pq_1_7, pq_1_11] (by rfl) (by decide +kernel)
set_option maxRecDepth 20000 in
theorem gX8_read__X8_isNoWindow : GoodIn wsX8_read_ (va_wsS RX8 77 yX8_isNoWindow wsX8_isNoWindow) := goodIn_app (goodIn_s seX8_read_ _ [pq_1_5, pq_1_6, pq_1_7] (by rfl) (by decide +kernel)) ggX8_read__X8_isNoWindow
set_option maxRecDepth 20000 in
theorem ggX8_read__X8_isNo : GoodIn wsX8_read_ wsX8_isNo := goodIn_s seX8_read_ _ [pq_1_11] (by rfl) (by decide +kernel)
set_option maxRecDepth 20000 in
theorem gX8_read__X8_isNo : GoodIn wsX8_read_ (va_wsS RX8 41 yX8_isNo wsX8_isNo) := goodIn_app (goodIn_s seX8_read_ _ [pq_1_9, pq_1_10, pq_1_7] (by rfl) (by decide +kernel)) ggX8_read__X8_isNo
set_option maxRecDepth 20000 in
theorem ggX8_read__X8_isThrown : GoodIn wsX8_read_ wsX8_isThrown := goodIn_s seX8_read_ _ [pq_1_15, pq_1_16, pq_10_0, pq_10_1, pq_10_2, pq_10_3, pq_10_4, pq_10_5, pq_10_6, pq_10_7, pq_10_8, pq_10_9, pq_10_10] (by rfl) (by decide +kernel)
set_option maxRecDepth 20000 in
theorem gX8_read__X8_isThrown : GoodIn wsX8_read_ (wsV RX8 81 RX8 yX8_isThrown wsX8_isThrown) := goodIn_app (goodIn_s seX8_read_ _ [pq_1_12, pq_1_13, pq_1_14, pq_1_7] (by rfl) (by decide +kernel)) ggX8_read__X8_isThrown
set_option maxRecDepth 20000 in
theorem ggX8_read__X8_text : GoodIn wsX8_read_ wsX8_text := goodIn_s seX8_read_ _ [pq_1_20, pq_1_21, pq_1_22, pq_1_23, pq_2_0, pq_1_7, pq_2_1, pq_10_0, pq_10_1, pq_10_2, pq_10_3, pq_10_4, pq_10_5, pq_10_6, pq_10_7, pq_10_8, pq_10_9, pq_10_10] (by rfl) (by decide +kernel)
set_option maxRecDepth 20000 in
theorem gX8_read__X8_text : GoodIn wsX8_read_ (wsV RX8 58 RX8 yX8_text wsX8_text) := goodIn_app (goodIn_s seX8_read_ _ [pq_1_17, pq_1_18, pq_1_19, pq_1_7] (by rfl) (by decide +kernel)) ggX8_read__X8_text
set_option maxRecDepth 20000 in
theorem ggX8_read__X8_done : GoodIn wsX8_read_ wsX8_done := goodIn_s seX8_read_ _ [pq_2_5, pq_2_6, pq_10_0, pq_10_1, pq_10_2, pq_10_3, pq_10_4, pq_10_5, pq_10_6, pq_10_7, pq_10_8, pq_10_9, pq_10_10] (by rfl) (by decide +kernel)
set_option maxRecDepth 20000 in
theorem gX8_read__X8_done : GoodIn wsX8_read_ (wsV RX8 62 RX8 yX8_done wsX8_done) := goodIn_app (goodIn_s seX8_read_ _ [pq_2_2, pq_2_3, pq_2_4, pq_1_7] (by rfl) (by decide +kernel)) ggX8_read__X8_done
set_option maxRecDepth 20000 in
theorem ggX8_read__X8_told : GoodIn wsX8_read_ wsX8_told := goodIn_s seX8_read_ _ [pq_2_9, pq_2_10, pq_2_11, pq_2_12, pq_2_13, pq_2_14, pq_2_15, pq_2_16, pq_2_17, pq_2_18, pq_2_19, pq_2_20, pq_2_21, pq_2_22, pq_2_23, pq_3_0, pq_3_1, pq_3_2, pq_3_3, pq_3_4, pq_3_5, pq_3_6, pq_3_7, pq_3_8, pq_3_9, pq_3_10, pq_3_11, pq_3_12, pq_3_13, pq_3_14, pq_3_15, pq_3_16, pq_3_17, pq_3_18, pq_3_19, pq_3_20, pq_3_21, pq_3_22, pq_3_23, pq_4_0, pq_4_1, pq_4_2, pq_4_3, pq_4_4, pq_4_5, pq_4_6, pq_4_7, pq_4_8, pq_4_9, pq_4_10, pq_4_11, pq_4_12, pq_4_13, pq_1_3, pq_4_14, pq_4_15, pq_4_16, pq_4_17, pq_4_18, pq_4_19, pq_4_20, pq_4_21, pq_4_22, pq_4_23, pq_5_0, pq_5_1, pq_5_2, pq_5_3, pq_5_4, pq_5_5, pq_1_2, pq_1_4, pq_5_6, pq_5_7, pq_5_8, pq_5_9, pq_5_10, pq_5_11, pq_5_12, pq_5_13, pq_5_14, pq_5_15, pq_5_16, pq_5_17, pq_5_18, pq_5_19, pq_5_20, pq_5_21, pq_5_22, pq_5_23, pq_6_0, pq_6_1, pq_6_2, pq_6_3, pq_6_4, pq_6_5, pq_6_6, pq_6_7, pq_6_8, pq_6_9, pq_6_10, pq_6_11, pq_6_12, pq_6_13, pq_6_14, pq_6_15, pq_6_16, pq_6_17, pq_6_18, pq_6_19, pq_6_20, pq_6_21, pq_6_22, pq_6_23, pq_7_0, pq_7_1, pq_7_2, pq_7_3, pq_7_4, pq_7_5, pq_7_6, pq_7_7, pq_7_8, pq_7_9, pq_7_10, pq_7_11, pq_7_12, pq_7_13, pq_7_14, pq_7_15, pq_7_16, pq_7_17, pq_7_18, pq_7_19, pq_7_20, pq_7_21, pq_7_22, pq_7_23, pq_8_0, pq_8_1, pq_8_2, pq_8_3, pq_8_4, pq_8_5, pq_8_6, pq_8_7, pq_8_8, pq_8_9, pq_8_10, pq_8_11, pq_8_12, pq_8_13, pq_8_14, pq_8_15, pq_8_16, pq_8_17, pq_8_18, pq_8_19, pq_8_20, pq_8_21, pq_8_22, pq_8_23, pq_9_0, pq_9_1, pq_9_2, pq_9_3, pq_9_4, pq_9_5, pq_9_6, pq_9_7, pq_9_8, pq_9_9, pq_9_10, pq_9_11, pq_9_12, pq_9_13, pq_9_14, pq_9_15, pq_9_16, pq_9_17, pq_9_18, pq_9_19, pq_9_20, pq_9_21, pq_11_0, pq_11_1, pq_11_2, pq_11_3, pq_12_0, pq_12_1, pq_12_2, pq_12_3] (by rfl) (by decide +kernel)
set_option maxRecDepth 20000 in
theorem gX8_read__X8_told : GoodIn wsX8_read_ (va_wsS RX8 111 yX8_told wsX8_told) := goodIn_app (goodIn_s seX8_read_ _ [pq_2_7, pq_2_8, pq_1_7] (by rfl) (by decide +kernel)) ggX8_read__X8_told
def lb_sgX8_read_ : List (List UInt8) := [[42, 27, 184, 0, 77, 28, 3, 16, 40, 184, 0, 41, 182, 0, 81, 153], [0, 6, 18, 109, 176, 42, 180, 0, 14, 27, 50, 78, 42, 45, 182, 0], [58, 58, 4, 28, 25, 4, 190, 184, 0, 97, 54, 5, 45, 6, 92, 46], [42, 21, 5, 182, 0, 62, 96, 79, 25, 4, 3, 21, 5, 184, 0, 111], [176]]
set_option maxRecDepth 100000 in
theorem lb_seX8_read_ : cX8_read_.data.toList = lb_sgX8_read_.flatten := by decide +kernel
theorem lb_lnX8_read_ : ∀ s ∈ lb_sgX8_read_.dropLast, s.length = 16 := by decide +kernel
theorem lxX8_read_ (k j : Nat) {b : UInt8} (h : (lb_sgX8_read_[k]?).bind (fun s => s[j]?) = some b) : lb_at cX8_read_ (16 * k + j) b := by
  unfold lb_at
  rw [lb_seX8_read_]
  exact lb_flat 16 lb_sgX8_read_ k j b lb_lnX8_read_ h
set_option maxRecDepth 20000 in
theorem dX8_read__0 : decode cX8_read_ 0 = .ok (.aload_n 0, 1) := dc_42 (lxX8_read_ 0 0 rfl)
set_option maxRecDepth 20000 in
theorem dX8_read__1 : decode cX8_read_ 1 = .ok (.iload_n 1, 1) := dc_27 (lxX8_read_ 0 1 rfl)
set_option maxRecDepth 20000 in
theorem dX8_read__2 : decode cX8_read_ 2 = .ok (.invokestatic 77, 3) := dc_184 0 77 (lxX8_read_ 0 2 rfl) (lxX8_read_ 0 3 rfl) (lxX8_read_ 0 4 rfl)
set_option maxRecDepth 20000 in
theorem dX8_read__5 : decode cX8_read_ 5 = .ok (.iload_n 2, 1) := dc_28 (lxX8_read_ 0 5 rfl)
set_option maxRecDepth 20000 in
theorem dX8_read__6 : decode cX8_read_ 6 = .ok (.iconst 0, 1) := dc_3 (lxX8_read_ 0 6 rfl)
set_option maxRecDepth 20000 in
theorem dX8_read__7 : decode cX8_read_ 7 = .ok (.bipush 40, 2) := dc_16 40 (lxX8_read_ 0 7 rfl) (lxX8_read_ 0 8 rfl)
set_option maxRecDepth 20000 in
theorem dX8_read__9 : decode cX8_read_ 9 = .ok (.invokestatic 41, 3) := dc_184 0 41 (lxX8_read_ 0 9 rfl) (lxX8_read_ 0 10 rfl) (lxX8_read_ 0 11 rfl)
set_option maxRecDepth 20000 in
theorem dX8_read__12 : decode cX8_read_ 12 = .ok (.invokevirtual 81, 3) := dc_182 0 81 (lxX8_read_ 0 12 rfl) (lxX8_read_ 0 13 rfl) (lxX8_read_ 0 14 rfl)
set_option maxRecDepth 20000 in
theorem dX8_read__15 : decode cX8_read_ 15 = .ok (.ifCond .eq 6, 3) := dc_153 0 6 (lxX8_read_ 0 15 rfl) (lxX8_read_ 1 0 rfl) (lxX8_read_ 1 1 rfl)
set_option maxRecDepth 20000 in
theorem dX8_read__18 : decode cX8_read_ 18 = .ok (.ldc 109, 2) := dc_18 109 (lxX8_read_ 1 2 rfl) (lxX8_read_ 1 3 rfl)
set_option maxRecDepth 20000 in
theorem dX8_read__20 : decode cX8_read_ 20 = .ok (.areturn, 1) := dc_176 (lxX8_read_ 1 4 rfl)
set_option maxRecDepth 20000 in
theorem dX8_read__21 : decode cX8_read_ 21 = .ok (.aload_n 0, 1) := dc_42 (lxX8_read_ 1 5 rfl)
set_option maxRecDepth 20000 in
theorem dX8_read__22 : decode cX8_read_ 22 = .ok (.getfield 14, 3) := dc_180 0 14 (lxX8_read_ 1 6 rfl) (lxX8_read_ 1 7 rfl) (lxX8_read_ 1 8 rfl)
set_option maxRecDepth 20000 in
theorem dX8_read__25 : decode cX8_read_ 25 = .ok (.iload_n 1, 1) := dc_27 (lxX8_read_ 1 9 rfl)
set_option maxRecDepth 20000 in
theorem dX8_read__26 : decode cX8_read_ 26 = .ok (.aaload, 1) := dc_50 (lxX8_read_ 1 10 rfl)
set_option maxRecDepth 20000 in
theorem dX8_read__27 : decode cX8_read_ 27 = .ok (.astore_n 3, 1) := dc_78 (lxX8_read_ 1 11 rfl)
set_option maxRecDepth 20000 in
theorem dX8_read__28 : decode cX8_read_ 28 = .ok (.aload_n 0, 1) := dc_42 (lxX8_read_ 1 12 rfl)
set_option maxRecDepth 20000 in
theorem dX8_read__29 : decode cX8_read_ 29 = .ok (.aload_n 3, 1) := dc_45 (lxX8_read_ 1 13 rfl)
set_option maxRecDepth 20000 in
theorem dX8_read__30 : decode cX8_read_ 30 = .ok (.invokevirtual 58, 3) := dc_182 0 58 (lxX8_read_ 1 14 rfl) (lxX8_read_ 1 15 rfl) (lxX8_read_ 2 0 rfl)
set_option maxRecDepth 20000 in
theorem dX8_read__33 : decode cX8_read_ 33 = .ok (.astore 4, 2) := dc_58 4 (lxX8_read_ 2 1 rfl) (lxX8_read_ 2 2 rfl)
set_option maxRecDepth 20000 in
theorem dX8_read__35 : decode cX8_read_ 35 = .ok (.iload_n 2, 1) := dc_28 (lxX8_read_ 2 3 rfl)
set_option maxRecDepth 20000 in
theorem dX8_read__36 : decode cX8_read_ 36 = .ok (.aload 4, 2) := dc_25 4 (lxX8_read_ 2 4 rfl) (lxX8_read_ 2 5 rfl)
set_option maxRecDepth 20000 in
theorem dX8_read__38 : decode cX8_read_ 38 = .ok (.arraylength, 1) := dc_190 (lxX8_read_ 2 6 rfl)
set_option maxRecDepth 20000 in
theorem dX8_read__39 : decode cX8_read_ 39 = .ok (.invokestatic 97, 3) := dc_184 0 97 (lxX8_read_ 2 7 rfl) (lxX8_read_ 2 8 rfl) (lxX8_read_ 2 9 rfl)
set_option maxRecDepth 20000 in
theorem dX8_read__42 : decode cX8_read_ 42 = .ok (.istore 5, 2) := dc_54 5 (lxX8_read_ 2 10 rfl) (lxX8_read_ 2 11 rfl)
set_option maxRecDepth 20000 in
theorem dX8_read__44 : decode cX8_read_ 44 = .ok (.aload_n 3, 1) := dc_45 (lxX8_read_ 2 12 rfl)
set_option maxRecDepth 20000 in
theorem dX8_read__45 : decode cX8_read_ 45 = .ok (.iconst 3, 1) := dc_6 (lxX8_read_ 2 13 rfl)
set_option maxRecDepth 20000 in
theorem dX8_read__46 : decode cX8_read_ 46 = .ok (.dup2, 1) := dc_92 (lxX8_read_ 2 14 rfl)
set_option maxRecDepth 20000 in
theorem dX8_read__47 : decode cX8_read_ 47 = .ok (.iaload, 1) := dc_46 (lxX8_read_ 2 15 rfl)
set_option maxRecDepth 20000 in
theorem dX8_read__48 : decode cX8_read_ 48 = .ok (.aload_n 0, 1) := dc_42 (lxX8_read_ 3 0 rfl)
set_option maxRecDepth 20000 in
theorem dX8_read__49 : decode cX8_read_ 49 = .ok (.iload 5, 2) := dc_21 5 (lxX8_read_ 3 1 rfl) (lxX8_read_ 3 2 rfl)
set_option maxRecDepth 20000 in
theorem dX8_read__51 : decode cX8_read_ 51 = .ok (.invokevirtual 62, 3) := dc_182 0 62 (lxX8_read_ 3 3 rfl) (lxX8_read_ 3 4 rfl) (lxX8_read_ 3 5 rfl)
set_option maxRecDepth 20000 in
theorem dX8_read__54 : decode cX8_read_ 54 = .ok (.iadd, 1) := dc_96 (lxX8_read_ 3 6 rfl)
set_option maxRecDepth 20000 in
theorem dX8_read__55 : decode cX8_read_ 55 = .ok (.iastore, 1) := dc_79 (lxX8_read_ 3 7 rfl)
set_option maxRecDepth 20000 in
theorem dX8_read__56 : decode cX8_read_ 56 = .ok (.aload 4, 2) := dc_25 4 (lxX8_read_ 3 8 rfl) (lxX8_read_ 3 9 rfl)
set_option maxRecDepth 20000 in
theorem dX8_read__58 : decode cX8_read_ 58 = .ok (.iconst 0, 1) := dc_3 (lxX8_read_ 3 10 rfl)
set_option maxRecDepth 20000 in
theorem dX8_read__59 : decode cX8_read_ 59 = .ok (.iload 5, 2) := dc_21 5 (lxX8_read_ 3 11 rfl) (lxX8_read_ 3 12 rfl)
set_option maxRecDepth 20000 in
theorem dX8_read__61 : decode cX8_read_ 61 = .ok (.invokestatic 111, 3) := dc_184 0 111 (lxX8_read_ 3 13 rfl) (lxX8_read_ 3 14 rfl) (lxX8_read_ 3 15 rfl)
set_option maxRecDepth 20000 in
theorem dX8_read__64 : decode cX8_read_ 64 = .ok (.areturn, 1) := dc_176 (lxX8_read_ 4 0 rfl)
noncomputable def sgX8_pour : List (List Cond) := [[.code yX8_pour cX8_pour 6 (some .int)], wsX8_pour_r1, wsX8_pour_r2, wsX80]
theorem seX8_pour : sgX8_pour.flatten = wsX8_pour := by simp only [sgX8_pour, wsX8_pour, List.flatten_cons, List.flatten_nil, List.append_assoc, List.append_nil, List.cons_append, List.nil_append]
set_option maxRecDepth 20000 in
theorem ggX8_pour_X8_isNoWindow : GoodIn wsX8_pour wsX8_isNoWindow := goodIn_s seX8_pour _ [pq_1_8, pq_1_9, pq_1_10, pq_1_7, pq_1_11] (by rfl) (by decide +kernel)
set_option maxRecDepth 20000 in
theorem gX8_pour_X8_isNoWindow : GoodIn wsX8_pour (va_wsS RX8 77 yX8_isNoWindow wsX8_isNoWindow) := goodIn_app (goodIn_s seX8_pour _ [pq_1_5, pq_1_6, pq_1_7] (by rfl) (by decide +kernel)) ggX8_pour_X8_isNoWindow
set_option maxRecDepth 20000 in
theorem ggX8_pour_X8_isNo : GoodIn wsX8_pour wsX8_isNo := goodIn_s seX8_pour _ [pq_1_11] (by rfl) (by decide +kernel)
set_option maxRecDepth 20000 in
theorem gX8_pour_X8_isNo : GoodIn wsX8_pour (va_wsS RX8 41 yX8_isNo wsX8_isNo) := goodIn_app (goodIn_s seX8_pour _ [pq_1_9, pq_1_10, pq_1_7] (by rfl) (by decide +kernel)) ggX8_pour_X8_isNo
set_option maxRecDepth 20000 in
theorem ggX8_pour_X8_isThrown : GoodIn wsX8_pour wsX8_isThrown := goodIn_s seX8_pour _ [pq_1_15, pq_1_16, pq_3_0, pq_3_1, pq_3_2, pq_3_3, pq_3_4, pq_3_5, pq_3_6, pq_3_7, pq_3_8, pq_3_9, pq_3_10] (by rfl) (by decide +kernel)
set_option maxRecDepth 20000 in
theorem gX8_pour_X8_isThrown : GoodIn wsX8_pour (wsV RX8 81 RX8 yX8_isThrown wsX8_isThrown) := goodIn_app (goodIn_s seX8_pour _ [pq_1_12, pq_1_13, pq_1_14, pq_1_7] (by rfl) (by decide +kernel)) ggX8_pour_X8_isThrown
set_option maxRecDepth 20000 in
theorem ggX8_pour_X8_length : GoodIn wsX8_pour wsX8_length := goodIn_s seX8_pour _ [pq_1_19] (by rfl) (by decide +kernel)
set_option maxRecDepth 20000 in
theorem gX8_pour_X8_length : GoodIn wsX8_pour (va_wsS RX8 54 yX8_length wsX8_length) := goodIn_app (goodIn_s seX8_pour _ [pq_1_17, pq_1_18, pq_1_7] (by rfl) (by decide +kernel)) ggX8_pour_X8_length
set_option maxRecDepth 20000 in
theorem ggX8_pour_X8_read : GoodIn wsX8_pour wsX8_read := goodIn_s seX8_pour _ [pq_1_23, pq_2_0, pq_3_0, pq_3_1, pq_3_2, pq_3_3, pq_3_4, pq_3_5, pq_3_6, pq_3_7, pq_3_8, pq_3_9, pq_3_10] (by rfl) (by decide +kernel)
set_option maxRecDepth 20000 in
theorem gX8_pour_X8_read : GoodIn wsX8_pour (wsV RX8 106 RX8 yX8_read wsX8_read) := goodIn_app (goodIn_s seX8_pour _ [pq_1_20, pq_1_21, pq_1_22, pq_1_7] (by rfl) (by decide +kernel)) ggX8_pour_X8_read
set_option maxRecDepth 20000 in
theorem ggX8_pour_X8_write : GoodIn wsX8_pour wsX8_write := goodIn_s seX8_pour _ [pq_2_4, pq_2_0, pq_3_0, pq_3_1, pq_3_2, pq_3_3, pq_3_4, pq_3_5, pq_3_6, pq_3_7, pq_3_8, pq_3_9, pq_3_10] (by rfl) (by decide +kernel)
set_option maxRecDepth 20000 in
theorem gX8_pour_X8_write : GoodIn wsX8_pour (wsV RX8 93 RX8 yX8_write wsX8_write) := goodIn_app (goodIn_s seX8_pour _ [pq_2_1, pq_2_2, pq_2_3, pq_1_7] (by rfl) (by decide +kernel)) ggX8_pour_X8_write
set_option maxRecDepth 20000 in
theorem ggX8_pour_X8_done : GoodIn wsX8_pour wsX8_done := goodIn_s seX8_pour _ [pq_2_8, pq_2_9, pq_3_0, pq_3_1, pq_3_2, pq_3_3, pq_3_4, pq_3_5, pq_3_6, pq_3_7, pq_3_8, pq_3_9, pq_3_10] (by rfl) (by decide +kernel)
set_option maxRecDepth 20000 in
theorem gX8_pour_X8_done : GoodIn wsX8_pour (wsV RX8 62 RX8 yX8_done wsX8_done) := goodIn_app (goodIn_s seX8_pour _ [pq_2_5, pq_2_6, pq_2_7, pq_1_7] (by rfl) (by decide +kernel)) ggX8_pour_X8_done
def lb_sgX8_pour : List (List UInt8) := [[42, 27, 184, 0, 77, 154, 0, 10, 28, 184, 0, 77, 153, 0, 7, 4], [167, 0, 4, 3, 27, 28, 159, 0, 13, 29, 3, 16, 40, 184, 0, 41], [153, 0, 7, 4, 167, 0, 4, 3, 182, 0, 81, 153, 0, 5, 3, 172], [29, 42, 180, 0, 14, 27, 50, 184, 0, 54, 42, 180, 0, 14, 28, 50], [184, 0, 54, 184, 0, 97, 184, 0, 97, 54, 4, 3, 54, 5, 21, 5], [21, 4, 162, 0, 29, 42, 42, 180, 0, 14, 28, 50, 42, 42, 180, 0], [14, 27, 50, 182, 0, 106, 182, 0, 93, 132, 5, 1, 167, 255, 226, 42], [21, 4, 182, 0, 62, 172]]
set_option maxRecDepth 100000 in
theorem lb_seX8_pour : cX8_pour.data.toList = lb_sgX8_pour.flatten := by decide +kernel
theorem lb_lnX8_pour : ∀ s ∈ lb_sgX8_pour.dropLast, s.length = 16 := by decide +kernel
theorem lxX8_pour (k j : Nat) {b : UInt8} (h : (lb_sgX8_pour[k]?).bind (fun s => s[j]?) = some b) : lb_at cX8_pour (16 * k + j) b := by
  unfold lb_at
  rw [lb_seX8_pour]
  exact lb_flat 16 lb_sgX8_pour k j b lb_lnX8_pour h
set_option maxRecDepth 20000 in
theorem dX8_pour_0 : decode cX8_pour 0 = .ok (.aload_n 0, 1) := dc_42 (lxX8_pour 0 0 rfl)
set_option maxRecDepth 20000 in
theorem dX8_pour_1 : decode cX8_pour 1 = .ok (.iload_n 1, 1) := dc_27 (lxX8_pour 0 1 rfl)
set_option maxRecDepth 20000 in
theorem dX8_pour_2 : decode cX8_pour 2 = .ok (.invokestatic 77, 3) := dc_184 0 77 (lxX8_pour 0 2 rfl) (lxX8_pour 0 3 rfl) (lxX8_pour 0 4 rfl)
set_option maxRecDepth 20000 in
theorem dX8_pour_5 : decode cX8_pour 5 = .ok (.ifCond .ne 10, 3) := dc_154 0 10 (lxX8_pour 0 5 rfl) (lxX8_pour 0 6 rfl) (lxX8_pour 0 7 rfl)
set_option maxRecDepth 20000 in
theorem dX8_pour_8 : decode cX8_pour 8 = .ok (.iload_n 2, 1) := dc_28 (lxX8_pour 0 8 rfl)
set_option maxRecDepth 20000 in
theorem dX8_pour_9 : decode cX8_pour 9 = .ok (.invokestatic 77, 3) := dc_184 0 77 (lxX8_pour 0 9 rfl) (lxX8_pour 0 10 rfl) (lxX8_pour 0 11 rfl)
set_option maxRecDepth 20000 in
theorem dX8_pour_12 : decode cX8_pour 12 = .ok (.ifCond .eq 7, 3) := dc_153 0 7 (lxX8_pour 0 12 rfl) (lxX8_pour 0 13 rfl) (lxX8_pour 0 14 rfl)
set_option maxRecDepth 20000 in
theorem dX8_pour_15 : decode cX8_pour 15 = .ok (.iconst 1, 1) := dc_4 (lxX8_pour 0 15 rfl)
set_option maxRecDepth 20000 in
theorem dX8_pour_16 : decode cX8_pour 16 = .ok (.goto 4, 3) := dc_167 0 4 (lxX8_pour 1 0 rfl) (lxX8_pour 1 1 rfl) (lxX8_pour 1 2 rfl)
set_option maxRecDepth 20000 in
theorem dX8_pour_19 : decode cX8_pour 19 = .ok (.iconst 0, 1) := dc_3 (lxX8_pour 1 3 rfl)
set_option maxRecDepth 20000 in
theorem dX8_pour_20 : decode cX8_pour 20 = .ok (.iload_n 1, 1) := dc_27 (lxX8_pour 1 4 rfl)
set_option maxRecDepth 20000 in
theorem dX8_pour_21 : decode cX8_pour 21 = .ok (.iload_n 2, 1) := dc_28 (lxX8_pour 1 5 rfl)
set_option maxRecDepth 20000 in
theorem dX8_pour_22 : decode cX8_pour 22 = .ok (.if_icmp .eq 13, 3) := dc_159 0 13 (lxX8_pour 1 6 rfl) (lxX8_pour 1 7 rfl) (lxX8_pour 1 8 rfl)
set_option maxRecDepth 20000 in
theorem dX8_pour_25 : decode cX8_pour 25 = .ok (.iload_n 3, 1) := dc_29 (lxX8_pour 1 9 rfl)
set_option maxRecDepth 20000 in
theorem dX8_pour_26 : decode cX8_pour 26 = .ok (.iconst 0, 1) := dc_3 (lxX8_pour 1 10 rfl)
set_option maxRecDepth 20000 in
theorem dX8_pour_27 : decode cX8_pour 27 = .ok (.bipush 40, 2) := dc_16 40 (lxX8_pour 1 11 rfl) (lxX8_pour 1 12 rfl)
set_option maxRecDepth 20000 in
theorem dX8_pour_29 : decode cX8_pour 29 = .ok (.invokestatic 41, 3) := dc_184 0 41 (lxX8_pour 1 13 rfl) (lxX8_pour 1 14 rfl) (lxX8_pour 1 15 rfl)
set_option maxRecDepth 20000 in
theorem dX8_pour_32 : decode cX8_pour 32 = .ok (.ifCond .eq 7, 3) := dc_153 0 7 (lxX8_pour 2 0 rfl) (lxX8_pour 2 1 rfl) (lxX8_pour 2 2 rfl)
set_option maxRecDepth 20000 in
theorem dX8_pour_35 : decode cX8_pour 35 = .ok (.iconst 1, 1) := dc_4 (lxX8_pour 2 3 rfl)
set_option maxRecDepth 20000 in
theorem dX8_pour_36 : decode cX8_pour 36 = .ok (.goto 4, 3) := dc_167 0 4 (lxX8_pour 2 4 rfl) (lxX8_pour 2 5 rfl) (lxX8_pour 2 6 rfl)
set_option maxRecDepth 20000 in
theorem dX8_pour_39 : decode cX8_pour 39 = .ok (.iconst 0, 1) := dc_3 (lxX8_pour 2 7 rfl)
set_option maxRecDepth 20000 in
theorem dX8_pour_40 : decode cX8_pour 40 = .ok (.invokevirtual 81, 3) := dc_182 0 81 (lxX8_pour 2 8 rfl) (lxX8_pour 2 9 rfl) (lxX8_pour 2 10 rfl)
set_option maxRecDepth 20000 in
theorem dX8_pour_43 : decode cX8_pour 43 = .ok (.ifCond .eq 5, 3) := dc_153 0 5 (lxX8_pour 2 11 rfl) (lxX8_pour 2 12 rfl) (lxX8_pour 2 13 rfl)
set_option maxRecDepth 20000 in
theorem dX8_pour_46 : decode cX8_pour 46 = .ok (.iconst 0, 1) := dc_3 (lxX8_pour 2 14 rfl)
set_option maxRecDepth 20000 in
theorem dX8_pour_47 : decode cX8_pour 47 = .ok (.ireturn, 1) := dc_172 (lxX8_pour 2 15 rfl)
set_option maxRecDepth 20000 in
theorem dX8_pour_48 : decode cX8_pour 48 = .ok (.iload_n 3, 1) := dc_29 (lxX8_pour 3 0 rfl)
set_option maxRecDepth 20000 in
theorem dX8_pour_49 : decode cX8_pour 49 = .ok (.aload_n 0, 1) := dc_42 (lxX8_pour 3 1 rfl)
set_option maxRecDepth 20000 in
theorem dX8_pour_50 : decode cX8_pour 50 = .ok (.getfield 14, 3) := dc_180 0 14 (lxX8_pour 3 2 rfl) (lxX8_pour 3 3 rfl) (lxX8_pour 3 4 rfl)
set_option maxRecDepth 20000 in
theorem dX8_pour_53 : decode cX8_pour 53 = .ok (.iload_n 1, 1) := dc_27 (lxX8_pour 3 5 rfl)
set_option maxRecDepth 20000 in
theorem dX8_pour_54 : decode cX8_pour 54 = .ok (.aaload, 1) := dc_50 (lxX8_pour 3 6 rfl)
set_option maxRecDepth 20000 in
theorem dX8_pour_55 : decode cX8_pour 55 = .ok (.invokestatic 54, 3) := dc_184 0 54 (lxX8_pour 3 7 rfl) (lxX8_pour 3 8 rfl) (lxX8_pour 3 9 rfl)
set_option maxRecDepth 20000 in
theorem dX8_pour_58 : decode cX8_pour 58 = .ok (.aload_n 0, 1) := dc_42 (lxX8_pour 3 10 rfl)
set_option maxRecDepth 20000 in
theorem dX8_pour_59 : decode cX8_pour 59 = .ok (.getfield 14, 3) := dc_180 0 14 (lxX8_pour 3 11 rfl) (lxX8_pour 3 12 rfl) (lxX8_pour 3 13 rfl)
set_option maxRecDepth 20000 in
theorem dX8_pour_62 : decode cX8_pour 62 = .ok (.iload_n 2, 1) := dc_28 (lxX8_pour 3 14 rfl)
set_option maxRecDepth 20000 in
theorem dX8_pour_63 : decode cX8_pour 63 = .ok (.aaload, 1) := dc_50 (lxX8_pour 3 15 rfl)
set_option maxRecDepth 20000 in
theorem dX8_pour_64 : decode cX8_pour 64 = .ok (.invokestatic 54, 3) := dc_184 0 54 (lxX8_pour 4 0 rfl) (lxX8_pour 4 1 rfl) (lxX8_pour 4 2 rfl)
set_option maxRecDepth 20000 in
theorem dX8_pour_67 : decode cX8_pour 67 = .ok (.invokestatic 97, 3) := dc_184 0 97 (lxX8_pour 4 3 rfl) (lxX8_pour 4 4 rfl) (lxX8_pour 4 5 rfl)
set_option maxRecDepth 20000 in
theorem dX8_pour_70 : decode cX8_pour 70 = .ok (.invokestatic 97, 3) := dc_184 0 97 (lxX8_pour 4 6 rfl) (lxX8_pour 4 7 rfl) (lxX8_pour 4 8 rfl)
set_option maxRecDepth 20000 in
theorem dX8_pour_73 : decode cX8_pour 73 = .ok (.istore 4, 2) := dc_54 4 (lxX8_pour 4 9 rfl) (lxX8_pour 4 10 rfl)
set_option maxRecDepth 20000 in
theorem dX8_pour_75 : decode cX8_pour 75 = .ok (.iconst 0, 1) := dc_3 (lxX8_pour 4 11 rfl)
set_option maxRecDepth 20000 in
theorem dX8_pour_76 : decode cX8_pour 76 = .ok (.istore 5, 2) := dc_54 5 (lxX8_pour 4 12 rfl) (lxX8_pour 4 13 rfl)
set_option maxRecDepth 20000 in
theorem dX8_pour_78 : decode cX8_pour 78 = .ok (.iload 5, 2) := dc_21 5 (lxX8_pour 4 14 rfl) (lxX8_pour 4 15 rfl)
set_option maxRecDepth 20000 in
theorem dX8_pour_80 : decode cX8_pour 80 = .ok (.iload 4, 2) := dc_21 4 (lxX8_pour 5 0 rfl) (lxX8_pour 5 1 rfl)
set_option maxRecDepth 20000 in
theorem dX8_pour_82 : decode cX8_pour 82 = .ok (.if_icmp .ge 29, 3) := dc_162 0 29 (lxX8_pour 5 2 rfl) (lxX8_pour 5 3 rfl) (lxX8_pour 5 4 rfl)
set_option maxRecDepth 20000 in
theorem dX8_pour_85 : decode cX8_pour 85 = .ok (.aload_n 0, 1) := dc_42 (lxX8_pour 5 5 rfl)
set_option maxRecDepth 20000 in
theorem dX8_pour_86 : decode cX8_pour 86 = .ok (.aload_n 0, 1) := dc_42 (lxX8_pour 5 6 rfl)
set_option maxRecDepth 20000 in
theorem dX8_pour_87 : decode cX8_pour 87 = .ok (.getfield 14, 3) := dc_180 0 14 (lxX8_pour 5 7 rfl) (lxX8_pour 5 8 rfl) (lxX8_pour 5 9 rfl)
set_option maxRecDepth 20000 in
theorem dX8_pour_90 : decode cX8_pour 90 = .ok (.iload_n 2, 1) := dc_28 (lxX8_pour 5 10 rfl)
set_option maxRecDepth 20000 in
theorem dX8_pour_91 : decode cX8_pour 91 = .ok (.aaload, 1) := dc_50 (lxX8_pour 5 11 rfl)
set_option maxRecDepth 20000 in
theorem dX8_pour_92 : decode cX8_pour 92 = .ok (.aload_n 0, 1) := dc_42 (lxX8_pour 5 12 rfl)
set_option maxRecDepth 20000 in
theorem dX8_pour_93 : decode cX8_pour 93 = .ok (.aload_n 0, 1) := dc_42 (lxX8_pour 5 13 rfl)
set_option maxRecDepth 20000 in
theorem dX8_pour_94 : decode cX8_pour 94 = .ok (.getfield 14, 3) := dc_180 0 14 (lxX8_pour 5 14 rfl) (lxX8_pour 5 15 rfl) (lxX8_pour 6 0 rfl)
set_option maxRecDepth 20000 in
theorem dX8_pour_97 : decode cX8_pour 97 = .ok (.iload_n 1, 1) := dc_27 (lxX8_pour 6 1 rfl)
set_option maxRecDepth 20000 in
theorem dX8_pour_98 : decode cX8_pour 98 = .ok (.aaload, 1) := dc_50 (lxX8_pour 6 2 rfl)
set_option maxRecDepth 20000 in
theorem dX8_pour_99 : decode cX8_pour 99 = .ok (.invokevirtual 106, 3) := dc_182 0 106 (lxX8_pour 6 3 rfl) (lxX8_pour 6 4 rfl) (lxX8_pour 6 5 rfl)
set_option maxRecDepth 20000 in
theorem dX8_pour_102 : decode cX8_pour 102 = .ok (.invokevirtual 93, 3) := dc_182 0 93 (lxX8_pour 6 6 rfl) (lxX8_pour 6 7 rfl) (lxX8_pour 6 8 rfl)
set_option maxRecDepth 20000 in
theorem dX8_pour_105 : decode cX8_pour 105 = .ok (.iinc 5 1, 3) := dc_132 5 1 (lxX8_pour 6 9 rfl) (lxX8_pour 6 10 rfl) (lxX8_pour 6 11 rfl)
set_option maxRecDepth 20000 in
theorem dX8_pour_108 : decode cX8_pour 108 = .ok (.goto (-30), 3) := dc_167 255 226 (lxX8_pour 6 12 rfl) (lxX8_pour 6 13 rfl) (lxX8_pour 6 14 rfl)
set_option maxRecDepth 20000 in
theorem dX8_pour_111 : decode cX8_pour 111 = .ok (.aload_n 0, 1) := dc_42 (lxX8_pour 6 15 rfl)
set_option maxRecDepth 20000 in
theorem dX8_pour_112 : decode cX8_pour 112 = .ok (.iload 4, 2) := dc_21 4 (lxX8_pour 7 0 rfl) (lxX8_pour 7 1 rfl)
set_option maxRecDepth 20000 in
theorem dX8_pour_114 : decode cX8_pour 114 = .ok (.invokevirtual 62, 3) := dc_182 0 62 (lxX8_pour 7 2 rfl) (lxX8_pour 7 3 rfl) (lxX8_pour 7 4 rfl)
set_option maxRecDepth 20000 in
theorem dX8_pour_117 : decode cX8_pour 117 = .ok (.ireturn, 1) := dc_172 (lxX8_pour 7 5 rfl)
noncomputable def sgX8_mark : List (List Cond) := [[.code yX8_mark cX8_mark 3 (some .int)], [.fieldLink RX8 14 "SashwordsModel" "windows" "[[I", .methodLink RX8 77 yX8_isNoWindow, .static yX8_isNoWindow, .initialized RX8, .code yX8_isNoWindow cX8_isNoWindow 1 (some .boolean), .methodLink RX8 41 yX8_isNo, .static yX8_isNo, .code yX8_isNo cX8_isNo 3 (some .boolean), .methodLink RX8 81 yX8_isThrown, .instanceMethod yX8_isThrown, .selects RX8 yX8_isThrown yX8_isThrown, .code yX8_isThrown cX8_isThrown 3 (some .boolean), .fieldLink RX8 38 "SashwordsModel" "thrown" "I", .methodLink RX8 62 yX8_done, .instanceMethod yX8_done, .selects RX8 yX8_done yX8_done, .code yX8_done cX8_done 2 (some .int), .fieldLink RX8 31 "SashwordsModel" "tallies" "[I"], wsX80]
theorem seX8_mark : sgX8_mark.flatten = wsX8_mark := by simp only [sgX8_mark, wsX8_mark, List.flatten_cons, List.flatten_nil, List.append_assoc, List.append_nil, List.cons_append, List.nil_append]
set_option maxRecDepth 20000 in
theorem ggX8_mark_X8_isNoWindow : GoodIn wsX8_mark wsX8_isNoWindow := goodIn_s seX8_mark _ [pq_1_4, pq_1_5, pq_1_6, pq_1_3, pq_1_7] (by rfl) (by decide +kernel)
set_option maxRecDepth 20000 in
theorem gX8_mark_X8_isNoWindow : GoodIn wsX8_mark (va_wsS RX8 77 yX8_isNoWindow wsX8_isNoWindow) := goodIn_app (goodIn_s seX8_mark _ [pq_1_1, pq_1_2, pq_1_3] (by rfl) (by decide +kernel)) ggX8_mark_X8_isNoWindow
set_option maxRecDepth 20000 in
theorem ggX8_mark_X8_isThrown : GoodIn wsX8_mark wsX8_isThrown := goodIn_s seX8_mark _ [pq_1_11, pq_1_12, pq_2_0, pq_2_1, pq_2_2, pq_2_3, pq_2_4, pq_2_5, pq_2_6, pq_2_7, pq_2_8, pq_2_9, pq_2_10] (by rfl) (by decide +kernel)
set_option maxRecDepth 20000 in
theorem gX8_mark_X8_isThrown : GoodIn wsX8_mark (wsV RX8 81 RX8 yX8_isThrown wsX8_isThrown) := goodIn_app (goodIn_s seX8_mark _ [pq_1_8, pq_1_9, pq_1_10, pq_1_3] (by rfl) (by decide +kernel)) ggX8_mark_X8_isThrown
set_option maxRecDepth 20000 in
theorem ggX8_mark_X8_done : GoodIn wsX8_mark wsX8_done := goodIn_s seX8_mark _ [pq_1_16, pq_1_17, pq_2_0, pq_2_1, pq_2_2, pq_2_3, pq_2_4, pq_2_5, pq_2_6, pq_2_7, pq_2_8, pq_2_9, pq_2_10] (by rfl) (by decide +kernel)
set_option maxRecDepth 20000 in
theorem gX8_mark_X8_done : GoodIn wsX8_mark (wsV RX8 62 RX8 yX8_done wsX8_done) := goodIn_app (goodIn_s seX8_mark _ [pq_1_13, pq_1_14, pq_1_15, pq_1_3] (by rfl) (by decide +kernel)) ggX8_mark_X8_done
def lb_sgX8_mark : List (List UInt8) := [[42, 27, 184, 0, 77, 3, 182, 0, 81, 153, 0, 5, 3, 172, 42, 180], [0, 14, 27, 50, 77, 44, 7, 44, 6, 46, 79, 42, 44, 6, 46, 182], [0, 62, 172]]
set_option maxRecDepth 100000 in
theorem lb_seX8_mark : cX8_mark.data.toList = lb_sgX8_mark.flatten := by decide +kernel
theorem lb_lnX8_mark : ∀ s ∈ lb_sgX8_mark.dropLast, s.length = 16 := by decide +kernel
theorem lxX8_mark (k j : Nat) {b : UInt8} (h : (lb_sgX8_mark[k]?).bind (fun s => s[j]?) = some b) : lb_at cX8_mark (16 * k + j) b := by
  unfold lb_at
  rw [lb_seX8_mark]
  exact lb_flat 16 lb_sgX8_mark k j b lb_lnX8_mark h
set_option maxRecDepth 20000 in
theorem dX8_mark_0 : decode cX8_mark 0 = .ok (.aload_n 0, 1) := dc_42 (lxX8_mark 0 0 rfl)
set_option maxRecDepth 20000 in
theorem dX8_mark_1 : decode cX8_mark 1 = .ok (.iload_n 1, 1) := dc_27 (lxX8_mark 0 1 rfl)
set_option maxRecDepth 20000 in
theorem dX8_mark_2 : decode cX8_mark 2 = .ok (.invokestatic 77, 3) := dc_184 0 77 (lxX8_mark 0 2 rfl) (lxX8_mark 0 3 rfl) (lxX8_mark 0 4 rfl)
set_option maxRecDepth 20000 in
theorem dX8_mark_5 : decode cX8_mark 5 = .ok (.iconst 0, 1) := dc_3 (lxX8_mark 0 5 rfl)
set_option maxRecDepth 20000 in
theorem dX8_mark_6 : decode cX8_mark 6 = .ok (.invokevirtual 81, 3) := dc_182 0 81 (lxX8_mark 0 6 rfl) (lxX8_mark 0 7 rfl) (lxX8_mark 0 8 rfl)
set_option maxRecDepth 20000 in
theorem dX8_mark_9 : decode cX8_mark 9 = .ok (.ifCond .eq 5, 3) := dc_153 0 5 (lxX8_mark 0 9 rfl) (lxX8_mark 0 10 rfl) (lxX8_mark 0 11 rfl)
set_option maxRecDepth 20000 in
theorem dX8_mark_12 : decode cX8_mark 12 = .ok (.iconst 0, 1) := dc_3 (lxX8_mark 0 12 rfl)
set_option maxRecDepth 20000 in
theorem dX8_mark_13 : decode cX8_mark 13 = .ok (.ireturn, 1) := dc_172 (lxX8_mark 0 13 rfl)
set_option maxRecDepth 20000 in
theorem dX8_mark_14 : decode cX8_mark 14 = .ok (.aload_n 0, 1) := dc_42 (lxX8_mark 0 14 rfl)
set_option maxRecDepth 20000 in
theorem dX8_mark_15 : decode cX8_mark 15 = .ok (.getfield 14, 3) := dc_180 0 14 (lxX8_mark 0 15 rfl) (lxX8_mark 1 0 rfl) (lxX8_mark 1 1 rfl)
set_option maxRecDepth 20000 in
theorem dX8_mark_18 : decode cX8_mark 18 = .ok (.iload_n 1, 1) := dc_27 (lxX8_mark 1 2 rfl)
set_option maxRecDepth 20000 in
theorem dX8_mark_19 : decode cX8_mark 19 = .ok (.aaload, 1) := dc_50 (lxX8_mark 1 3 rfl)
set_option maxRecDepth 20000 in
theorem dX8_mark_20 : decode cX8_mark 20 = .ok (.astore_n 2, 1) := dc_77 (lxX8_mark 1 4 rfl)
set_option maxRecDepth 20000 in
theorem dX8_mark_21 : decode cX8_mark 21 = .ok (.aload_n 2, 1) := dc_44 (lxX8_mark 1 5 rfl)
set_option maxRecDepth 20000 in
theorem dX8_mark_22 : decode cX8_mark 22 = .ok (.iconst 4, 1) := dc_7 (lxX8_mark 1 6 rfl)
set_option maxRecDepth 20000 in
theorem dX8_mark_23 : decode cX8_mark 23 = .ok (.aload_n 2, 1) := dc_44 (lxX8_mark 1 7 rfl)
set_option maxRecDepth 20000 in
theorem dX8_mark_24 : decode cX8_mark 24 = .ok (.iconst 3, 1) := dc_6 (lxX8_mark 1 8 rfl)
set_option maxRecDepth 20000 in
theorem dX8_mark_25 : decode cX8_mark 25 = .ok (.iaload, 1) := dc_46 (lxX8_mark 1 9 rfl)
set_option maxRecDepth 20000 in
theorem dX8_mark_26 : decode cX8_mark 26 = .ok (.iastore, 1) := dc_79 (lxX8_mark 1 10 rfl)
set_option maxRecDepth 20000 in
theorem dX8_mark_27 : decode cX8_mark 27 = .ok (.aload_n 0, 1) := dc_42 (lxX8_mark 1 11 rfl)
set_option maxRecDepth 20000 in
theorem dX8_mark_28 : decode cX8_mark 28 = .ok (.aload_n 2, 1) := dc_44 (lxX8_mark 1 12 rfl)
set_option maxRecDepth 20000 in
theorem dX8_mark_29 : decode cX8_mark 29 = .ok (.iconst 3, 1) := dc_6 (lxX8_mark 1 13 rfl)
set_option maxRecDepth 20000 in
theorem dX8_mark_30 : decode cX8_mark 30 = .ok (.iaload, 1) := dc_46 (lxX8_mark 1 14 rfl)
set_option maxRecDepth 20000 in
theorem dX8_mark_31 : decode cX8_mark 31 = .ok (.invokevirtual 62, 3) := dc_182 0 62 (lxX8_mark 1 15 rfl) (lxX8_mark 2 0 rfl) (lxX8_mark 2 1 rfl)
set_option maxRecDepth 20000 in
theorem dX8_mark_34 : decode cX8_mark 34 = .ok (.ireturn, 1) := dc_172 (lxX8_mark 2 2 rfl)
noncomputable def sgX8_reset : List (List Cond) := [[.code yX8_reset cX8_reset 3 (some .int)], [.fieldLink RX8 14 "SashwordsModel" "windows" "[[I", .methodLink RX8 77 yX8_isNoWindow, .static yX8_isNoWindow, .initialized RX8, .code yX8_isNoWindow cX8_isNoWindow 1 (some .boolean), .methodLink RX8 41 yX8_isNo, .static yX8_isNo, .code yX8_isNo cX8_isNo 3 (some .boolean), .methodLink RX8 81 yX8_isThrown, .instanceMethod yX8_isThrown, .selects RX8 yX8_isThrown yX8_isThrown, .code yX8_isThrown cX8_isThrown 3 (some .boolean), .fieldLink RX8 38 "SashwordsModel" "thrown" "I", .methodLink RX8 89 yX8_refused, .instanceMethod yX8_refused, .selects RX8 yX8_refused yX8_refused, .code yX8_refused cX8_refused 1 (some .int), .fieldLink RX8 31 "SashwordsModel" "tallies" "[I", .methodLink RX8 62 yX8_done, .instanceMethod yX8_done, .selects RX8 yX8_done yX8_done, .code yX8_done cX8_done 2 (some .int)], wsX80]
theorem seX8_reset : sgX8_reset.flatten = wsX8_reset := by simp only [sgX8_reset, wsX8_reset, List.flatten_cons, List.flatten_nil, List.append_assoc, List.append_nil, List.cons_append, List.nil_append]
set_option maxRecDepth 20000 in
theorem ggX8_reset_X8_isNoWindow : GoodIn wsX8_reset wsX8_isNoWindow := goodIn_s seX8_reset _ [pq_1_4, pq_1_5, pq_1_6, pq_1_3, pq_1_7] (by rfl) (by decide +kernel)
set_option maxRecDepth 20000 in
theorem gX8_reset_X8_isNoWindow : GoodIn wsX8_reset (va_wsS RX8 77 yX8_isNoWindow wsX8_isNoWindow) := goodIn_app (goodIn_s seX8_reset _ [pq_1_1, pq_1_2, pq_1_3] (by rfl) (by decide +kernel)) ggX8_reset_X8_isNoWindow
set_option maxRecDepth 20000 in
theorem ggX8_reset_X8_isThrown : GoodIn wsX8_reset wsX8_isThrown := goodIn_s seX8_reset _ [pq_1_11, pq_1_12, pq_2_0, pq_2_1, pq_2_2, pq_2_3, pq_2_4, pq_2_5, pq_2_6, pq_2_7, pq_2_8, pq_2_9, pq_2_10] (by rfl) (by decide +kernel)
set_option maxRecDepth 20000 in
theorem gX8_reset_X8_isThrown : GoodIn wsX8_reset (wsV RX8 81 RX8 yX8_isThrown wsX8_isThrown) := goodIn_app (goodIn_s seX8_reset _ [pq_1_8, pq_1_9, pq_1_10, pq_1_3] (by rfl) (by decide +kernel)) ggX8_reset_X8_isThrown
set_option maxRecDepth 20000 in
theorem ggX8_reset_X8_refused : GoodIn wsX8_reset wsX8_refused := goodIn_s seX8_reset _ [pq_1_16, pq_1_17, pq_2_0, pq_2_1, pq_2_2, pq_2_3, pq_2_4, pq_2_5, pq_2_6, pq_2_7, pq_2_8, pq_2_9, pq_2_10] (by rfl) (by decide +kernel)
set_option maxRecDepth 20000 in
theorem gX8_reset_X8_refused : GoodIn wsX8_reset (wsV RX8 89 RX8 yX8_refused wsX8_refused) := goodIn_app (goodIn_s seX8_reset _ [pq_1_13, pq_1_14, pq_1_15, pq_1_3] (by rfl) (by decide +kernel)) ggX8_reset_X8_refused
set_option maxRecDepth 20000 in
theorem ggX8_reset_X8_done : GoodIn wsX8_reset wsX8_done := goodIn_s seX8_reset _ [pq_1_21, pq_1_17, pq_2_0, pq_2_1, pq_2_2, pq_2_3, pq_2_4, pq_2_5, pq_2_6, pq_2_7, pq_2_8, pq_2_9, pq_2_10] (by rfl) (by decide +kernel)
set_option maxRecDepth 20000 in
theorem gX8_reset_X8_done : GoodIn wsX8_reset (wsV RX8 62 RX8 yX8_done wsX8_done) := goodIn_app (goodIn_s seX8_reset _ [pq_1_18, pq_1_19, pq_1_20, pq_1_3] (by rfl) (by decide +kernel)) ggX8_reset_X8_done
def lb_sgX8_reset : List (List UInt8) := [[42, 27, 184, 0, 77, 3, 182, 0, 81, 153, 0, 5, 3, 172, 42, 180], [0, 14, 27, 50, 77, 44, 7, 46, 156, 0, 8, 42, 182, 0, 89, 172], [44, 6, 44, 7, 46, 79, 42, 44, 6, 46, 182, 0, 62, 172]]
set_option maxRecDepth 100000 in
theorem lb_seX8_reset : cX8_reset.data.toList = lb_sgX8_reset.flatten := by decide +kernel
theorem lb_lnX8_reset : ∀ s ∈ lb_sgX8_reset.dropLast, s.length = 16 := by decide +kernel
theorem lxX8_reset (k j : Nat) {b : UInt8} (h : (lb_sgX8_reset[k]?).bind (fun s => s[j]?) = some b) : lb_at cX8_reset (16 * k + j) b := by
  unfold lb_at
  rw [lb_seX8_reset]
  exact lb_flat 16 lb_sgX8_reset k j b lb_lnX8_reset h
set_option maxRecDepth 20000 in
theorem dX8_reset_0 : decode cX8_reset 0 = .ok (.aload_n 0, 1) := dc_42 (lxX8_reset 0 0 rfl)
set_option maxRecDepth 20000 in
theorem dX8_reset_1 : decode cX8_reset 1 = .ok (.iload_n 1, 1) := dc_27 (lxX8_reset 0 1 rfl)
set_option maxRecDepth 20000 in
theorem dX8_reset_2 : decode cX8_reset 2 = .ok (.invokestatic 77, 3) := dc_184 0 77 (lxX8_reset 0 2 rfl) (lxX8_reset 0 3 rfl) (lxX8_reset 0 4 rfl)
set_option maxRecDepth 20000 in
theorem dX8_reset_5 : decode cX8_reset 5 = .ok (.iconst 0, 1) := dc_3 (lxX8_reset 0 5 rfl)
set_option maxRecDepth 20000 in
theorem dX8_reset_6 : decode cX8_reset 6 = .ok (.invokevirtual 81, 3) := dc_182 0 81 (lxX8_reset 0 6 rfl) (lxX8_reset 0 7 rfl) (lxX8_reset 0 8 rfl)
set_option maxRecDepth 20000 in
theorem dX8_reset_9 : decode cX8_reset 9 = .ok (.ifCond .eq 5, 3) := dc_153 0 5 (lxX8_reset 0 9 rfl) (lxX8_reset 0 10 rfl) (lxX8_reset 0 11 rfl)
set_option maxRecDepth 20000 in
theorem dX8_reset_12 : decode cX8_reset 12 = .ok (.iconst 0, 1) := dc_3 (lxX8_reset 0 12 rfl)
set_option maxRecDepth 20000 in
theorem dX8_reset_13 : decode cX8_reset 13 = .ok (.ireturn, 1) := dc_172 (lxX8_reset 0 13 rfl)
set_option maxRecDepth 20000 in
theorem dX8_reset_14 : decode cX8_reset 14 = .ok (.aload_n 0, 1) := dc_42 (lxX8_reset 0 14 rfl)
set_option maxRecDepth 20000 in
theorem dX8_reset_15 : decode cX8_reset 15 = .ok (.getfield 14, 3) := dc_180 0 14 (lxX8_reset 0 15 rfl) (lxX8_reset 1 0 rfl) (lxX8_reset 1 1 rfl)
set_option maxRecDepth 20000 in
theorem dX8_reset_18 : decode cX8_reset 18 = .ok (.iload_n 1, 1) := dc_27 (lxX8_reset 1 2 rfl)
set_option maxRecDepth 20000 in
theorem dX8_reset_19 : decode cX8_reset 19 = .ok (.aaload, 1) := dc_50 (lxX8_reset 1 3 rfl)
set_option maxRecDepth 20000 in
theorem dX8_reset_20 : decode cX8_reset 20 = .ok (.astore_n 2, 1) := dc_77 (lxX8_reset 1 4 rfl)
set_option maxRecDepth 20000 in
theorem dX8_reset_21 : decode cX8_reset 21 = .ok (.aload_n 2, 1) := dc_44 (lxX8_reset 1 5 rfl)
set_option maxRecDepth 20000 in
theorem dX8_reset_22 : decode cX8_reset 22 = .ok (.iconst 4, 1) := dc_7 (lxX8_reset 1 6 rfl)
set_option maxRecDepth 20000 in
theorem dX8_reset_23 : decode cX8_reset 23 = .ok (.iaload, 1) := dc_46 (lxX8_reset 1 7 rfl)
set_option maxRecDepth 20000 in
theorem dX8_reset_24 : decode cX8_reset 24 = .ok (.ifCond .ge 8, 3) := dc_156 0 8 (lxX8_reset 1 8 rfl) (lxX8_reset 1 9 rfl) (lxX8_reset 1 10 rfl)
set_option maxRecDepth 20000 in
theorem dX8_reset_27 : decode cX8_reset 27 = .ok (.aload_n 0, 1) := dc_42 (lxX8_reset 1 11 rfl)
set_option maxRecDepth 20000 in
theorem dX8_reset_28 : decode cX8_reset 28 = .ok (.invokevirtual 89, 3) := dc_182 0 89 (lxX8_reset 1 12 rfl) (lxX8_reset 1 13 rfl) (lxX8_reset 1 14 rfl)
set_option maxRecDepth 20000 in
theorem dX8_reset_31 : decode cX8_reset 31 = .ok (.ireturn, 1) := dc_172 (lxX8_reset 1 15 rfl)
set_option maxRecDepth 20000 in
theorem dX8_reset_32 : decode cX8_reset 32 = .ok (.aload_n 2, 1) := dc_44 (lxX8_reset 2 0 rfl)
set_option maxRecDepth 20000 in
theorem dX8_reset_33 : decode cX8_reset 33 = .ok (.iconst 3, 1) := dc_6 (lxX8_reset 2 1 rfl)
set_option maxRecDepth 20000 in
theorem dX8_reset_34 : decode cX8_reset 34 = .ok (.aload_n 2, 1) := dc_44 (lxX8_reset 2 2 rfl)
set_option maxRecDepth 20000 in
theorem dX8_reset_35 : decode cX8_reset 35 = .ok (.iconst 4, 1) := dc_7 (lxX8_reset 2 3 rfl)
set_option maxRecDepth 20000 in
theorem dX8_reset_36 : decode cX8_reset 36 = .ok (.iaload, 1) := dc_46 (lxX8_reset 2 4 rfl)
set_option maxRecDepth 20000 in
theorem dX8_reset_37 : decode cX8_reset 37 = .ok (.iastore, 1) := dc_79 (lxX8_reset 2 5 rfl)
set_option maxRecDepth 20000 in
theorem dX8_reset_38 : decode cX8_reset 38 = .ok (.aload_n 0, 1) := dc_42 (lxX8_reset 2 6 rfl)
set_option maxRecDepth 20000 in
theorem dX8_reset_39 : decode cX8_reset 39 = .ok (.aload_n 2, 1) := dc_44 (lxX8_reset 2 7 rfl)
set_option maxRecDepth 20000 in
theorem dX8_reset_40 : decode cX8_reset 40 = .ok (.iconst 3, 1) := dc_6 (lxX8_reset 2 8 rfl)
set_option maxRecDepth 20000 in
theorem dX8_reset_41 : decode cX8_reset 41 = .ok (.iaload, 1) := dc_46 (lxX8_reset 2 9 rfl)
set_option maxRecDepth 20000 in
theorem dX8_reset_42 : decode cX8_reset 42 = .ok (.invokevirtual 62, 3) := dc_182 0 62 (lxX8_reset 2 10 rfl) (lxX8_reset 2 11 rfl) (lxX8_reset 2 12 rfl)
set_option maxRecDepth 20000 in
theorem dX8_reset_45 : decode cX8_reset 45 = .ok (.ireturn, 1) := dc_172 (lxX8_reset 2 13 rfl)
noncomputable def sgX8_rewind : List (List Cond) := [[.code yX8_rewind cX8_rewind 3 (some .int)], [.fieldLink RX8 14 "SashwordsModel" "windows" "[[I", .methodLink RX8 77 yX8_isNoWindow, .static yX8_isNoWindow, .initialized RX8, .code yX8_isNoWindow cX8_isNoWindow 1 (some .boolean), .methodLink RX8 41 yX8_isNo, .static yX8_isNo, .code yX8_isNo cX8_isNo 3 (some .boolean), .methodLink RX8 81 yX8_isThrown, .instanceMethod yX8_isThrown, .selects RX8 yX8_isThrown yX8_isThrown, .code yX8_isThrown cX8_isThrown 3 (some .boolean), .fieldLink RX8 38 "SashwordsModel" "thrown" "I", .methodLink RX8 115 yX8_place, .static yX8_place, .code yX8_place cX8_place 4 none, .methodLink RX8 54 yX8_length, .static yX8_length, .code yX8_length cX8_length 1 (some .int), .methodLink RX8 62 yX8_done, .instanceMethod yX8_done, .selects RX8 yX8_done yX8_done, .code yX8_done cX8_done 2 (some .int), .fieldLink RX8 31 "SashwordsModel" "tallies" "[I"], wsX80]
theorem seX8_rewind : sgX8_rewind.flatten = wsX8_rewind := by simp only [sgX8_rewind, wsX8_rewind, List.flatten_cons, List.flatten_nil, List.append_assoc, List.append_nil, List.cons_append, List.nil_append]
set_option maxRecDepth 20000 in
theorem ggX8_rewind_X8_isNoWindow : GoodIn wsX8_rewind wsX8_isNoWindow := goodIn_s seX8_rewind _ [pq_1_4, pq_1_5, pq_1_6, pq_1_3, pq_1_7] (by rfl) (by decide +kernel)
set_option maxRecDepth 20000 in
theorem gX8_rewind_X8_isNoWindow : GoodIn wsX8_rewind (va_wsS RX8 77 yX8_isNoWindow wsX8_isNoWindow) := goodIn_app (goodIn_s seX8_rewind _ [pq_1_1, pq_1_2, pq_1_3] (by rfl) (by decide +kernel)) ggX8_rewind_X8_isNoWindow
set_option maxRecDepth 20000 in
theorem ggX8_rewind_X8_isThrown : GoodIn wsX8_rewind wsX8_isThrown := goodIn_s seX8_rewind _ [pq_1_11, pq_1_12, pq_2_0, pq_2_1, pq_2_2, pq_2_3, pq_2_4, pq_2_5, pq_2_6, pq_2_7, pq_2_8, pq_2_9, pq_2_10] (by rfl) (by decide +kernel)
set_option maxRecDepth 20000 in
theorem gX8_rewind_X8_isThrown : GoodIn wsX8_rewind (wsV RX8 81 RX8 yX8_isThrown wsX8_isThrown) := goodIn_app (goodIn_s seX8_rewind _ [pq_1_8, pq_1_9, pq_1_10, pq_1_3] (by rfl) (by decide +kernel)) ggX8_rewind_X8_isThrown
set_option maxRecDepth 20000 in
theorem ggX8_rewind_X8_place : GoodIn wsX8_rewind wsX8_place := goodIn_s seX8_rewind _ [pq_1_15] (by rfl) (by decide +kernel)
set_option maxRecDepth 20000 in
theorem gX8_rewind_X8_place : GoodIn wsX8_rewind (va_wsS RX8 115 yX8_place wsX8_place) := goodIn_app (goodIn_s seX8_rewind _ [pq_1_13, pq_1_14, pq_1_3] (by rfl) (by decide +kernel)) ggX8_rewind_X8_place
set_option maxRecDepth 20000 in
theorem ggX8_rewind_X8_length : GoodIn wsX8_rewind wsX8_length := goodIn_s seX8_rewind _ [pq_1_18] (by rfl) (by decide +kernel)
set_option maxRecDepth 20000 in
theorem gX8_rewind_X8_length : GoodIn wsX8_rewind (va_wsS RX8 54 yX8_length wsX8_length) := goodIn_app (goodIn_s seX8_rewind _ [pq_1_16, pq_1_17, pq_1_3] (by rfl) (by decide +kernel)) ggX8_rewind_X8_length
set_option maxRecDepth 20000 in
theorem ggX8_rewind_X8_done : GoodIn wsX8_rewind wsX8_done := goodIn_s seX8_rewind _ [pq_1_22, pq_1_23, pq_2_0, pq_2_1, pq_2_2, pq_2_3, pq_2_4, pq_2_5, pq_2_6, pq_2_7, pq_2_8, pq_2_9, pq_2_10] (by rfl) (by decide +kernel)
set_option maxRecDepth 20000 in
theorem gX8_rewind_X8_done : GoodIn wsX8_rewind (wsV RX8 62 RX8 yX8_done wsX8_done) := goodIn_app (goodIn_s seX8_rewind _ [pq_1_19, pq_1_20, pq_1_21, pq_1_3] (by rfl) (by decide +kernel)) ggX8_rewind_X8_done
def lb_sgX8_rewind : List (List UInt8) := [[42, 27, 184, 0, 77, 3, 182, 0, 81, 153, 0, 5, 3, 172, 42, 180], [0, 14, 27, 50, 77, 44, 3, 44, 5, 46, 2, 184, 0, 115, 42, 44], [184, 0, 54, 182, 0, 62, 172]]
set_option maxRecDepth 100000 in
theorem lb_seX8_rewind : cX8_rewind.data.toList = lb_sgX8_rewind.flatten := by decide +kernel
theorem lb_lnX8_rewind : ∀ s ∈ lb_sgX8_rewind.dropLast, s.length = 16 := by decide +kernel
theorem lxX8_rewind (k j : Nat) {b : UInt8} (h : (lb_sgX8_rewind[k]?).bind (fun s => s[j]?) = some b) : lb_at cX8_rewind (16 * k + j) b := by
  unfold lb_at
  rw [lb_seX8_rewind]
  exact lb_flat 16 lb_sgX8_rewind k j b lb_lnX8_rewind h
set_option maxRecDepth 20000 in
theorem dX8_rewind_0 : decode cX8_rewind 0 = .ok (.aload_n 0, 1) := dc_42 (lxX8_rewind 0 0 rfl)
set_option maxRecDepth 20000 in
theorem dX8_rewind_1 : decode cX8_rewind 1 = .ok (.iload_n 1, 1) := dc_27 (lxX8_rewind 0 1 rfl)
set_option maxRecDepth 20000 in
theorem dX8_rewind_2 : decode cX8_rewind 2 = .ok (.invokestatic 77, 3) := dc_184 0 77 (lxX8_rewind 0 2 rfl) (lxX8_rewind 0 3 rfl) (lxX8_rewind 0 4 rfl)
set_option maxRecDepth 20000 in
theorem dX8_rewind_5 : decode cX8_rewind 5 = .ok (.iconst 0, 1) := dc_3 (lxX8_rewind 0 5 rfl)
set_option maxRecDepth 20000 in
theorem dX8_rewind_6 : decode cX8_rewind 6 = .ok (.invokevirtual 81, 3) := dc_182 0 81 (lxX8_rewind 0 6 rfl) (lxX8_rewind 0 7 rfl) (lxX8_rewind 0 8 rfl)
set_option maxRecDepth 20000 in
theorem dX8_rewind_9 : decode cX8_rewind 9 = .ok (.ifCond .eq 5, 3) := dc_153 0 5 (lxX8_rewind 0 9 rfl) (lxX8_rewind 0 10 rfl) (lxX8_rewind 0 11 rfl)
set_option maxRecDepth 20000 in
theorem dX8_rewind_12 : decode cX8_rewind 12 = .ok (.iconst 0, 1) := dc_3 (lxX8_rewind 0 12 rfl)
set_option maxRecDepth 20000 in
theorem dX8_rewind_13 : decode cX8_rewind 13 = .ok (.ireturn, 1) := dc_172 (lxX8_rewind 0 13 rfl)
set_option maxRecDepth 20000 in
theorem dX8_rewind_14 : decode cX8_rewind 14 = .ok (.aload_n 0, 1) := dc_42 (lxX8_rewind 0 14 rfl)
set_option maxRecDepth 20000 in
theorem dX8_rewind_15 : decode cX8_rewind 15 = .ok (.getfield 14, 3) := dc_180 0 14 (lxX8_rewind 0 15 rfl) (lxX8_rewind 1 0 rfl) (lxX8_rewind 1 1 rfl)
set_option maxRecDepth 20000 in
theorem dX8_rewind_18 : decode cX8_rewind 18 = .ok (.iload_n 1, 1) := dc_27 (lxX8_rewind 1 2 rfl)
set_option maxRecDepth 20000 in
theorem dX8_rewind_19 : decode cX8_rewind 19 = .ok (.aaload, 1) := dc_50 (lxX8_rewind 1 3 rfl)
set_option maxRecDepth 20000 in
theorem dX8_rewind_20 : decode cX8_rewind 20 = .ok (.astore_n 2, 1) := dc_77 (lxX8_rewind 1 4 rfl)
set_option maxRecDepth 20000 in
theorem dX8_rewind_21 : decode cX8_rewind 21 = .ok (.aload_n 2, 1) := dc_44 (lxX8_rewind 1 5 rfl)
set_option maxRecDepth 20000 in
theorem dX8_rewind_22 : decode cX8_rewind 22 = .ok (.iconst 0, 1) := dc_3 (lxX8_rewind 1 6 rfl)
set_option maxRecDepth 20000 in
theorem dX8_rewind_23 : decode cX8_rewind 23 = .ok (.aload_n 2, 1) := dc_44 (lxX8_rewind 1 7 rfl)
set_option maxRecDepth 20000 in
theorem dX8_rewind_24 : decode cX8_rewind 24 = .ok (.iconst 2, 1) := dc_5 (lxX8_rewind 1 8 rfl)
set_option maxRecDepth 20000 in
theorem dX8_rewind_25 : decode cX8_rewind 25 = .ok (.iaload, 1) := dc_46 (lxX8_rewind 1 9 rfl)
set_option maxRecDepth 20000 in
theorem dX8_rewind_26 : decode cX8_rewind 26 = .ok (.iconst (-1), 1) := dc_2 (lxX8_rewind 1 10 rfl)
set_option maxRecDepth 20000 in
theorem dX8_rewind_27 : decode cX8_rewind 27 = .ok (.invokestatic 115, 3) := dc_184 0 115 (lxX8_rewind 1 11 rfl) (lxX8_rewind 1 12 rfl) (lxX8_rewind 1 13 rfl)
set_option maxRecDepth 20000 in
theorem dX8_rewind_30 : decode cX8_rewind 30 = .ok (.aload_n 0, 1) := dc_42 (lxX8_rewind 1 14 rfl)
set_option maxRecDepth 20000 in
theorem dX8_rewind_31 : decode cX8_rewind 31 = .ok (.aload_n 2, 1) := dc_44 (lxX8_rewind 1 15 rfl)
set_option maxRecDepth 20000 in
theorem dX8_rewind_32 : decode cX8_rewind 32 = .ok (.invokestatic 54, 3) := dc_184 0 54 (lxX8_rewind 2 0 rfl) (lxX8_rewind 2 1 rfl) (lxX8_rewind 2 2 rfl)
set_option maxRecDepth 20000 in
theorem dX8_rewind_35 : decode cX8_rewind 35 = .ok (.invokevirtual 62, 3) := dc_182 0 62 (lxX8_rewind 2 3 rfl) (lxX8_rewind 2 4 rfl) (lxX8_rewind 2 5 rfl)
set_option maxRecDepth 20000 in
theorem dX8_rewind_38 : decode cX8_rewind 38 = .ok (.ireturn, 1) := dc_172 (lxX8_rewind 2 6 rfl)
noncomputable def sgX8_flip : List (List Cond) := [[.code yX8_flip cX8_flip 3 (some .int)], [.fieldLink RX8 14 "SashwordsModel" "windows" "[[I", .methodLink RX8 77 yX8_isNoWindow, .static yX8_isNoWindow, .initialized RX8, .code yX8_isNoWindow cX8_isNoWindow 1 (some .boolean), .methodLink RX8 41 yX8_isNo, .static yX8_isNo, .code yX8_isNo cX8_isNo 3 (some .boolean), .methodLink RX8 81 yX8_isThrown, .instanceMethod yX8_isThrown, .selects RX8 yX8_isThrown yX8_isThrown, .code yX8_isThrown cX8_isThrown 3 (some .boolean), .fieldLink RX8 38 "SashwordsModel" "thrown" "I", .methodLink RX8 115 yX8_place, .static yX8_place, .code yX8_place cX8_place 4 none, .methodLink RX8 54 yX8_length, .static yX8_length, .code yX8_length cX8_length 1 (some .int), .methodLink RX8 62 yX8_done, .instanceMethod yX8_done, .selects RX8 yX8_done yX8_done, .code yX8_done cX8_done 2 (some .int), .fieldLink RX8 31 "SashwordsModel" "tallies" "[I"], wsX80]
theorem seX8_flip : sgX8_flip.flatten = wsX8_flip := by simp only [sgX8_flip, wsX8_flip, List.flatten_cons, List.flatten_nil, List.append_assoc, List.append_nil, List.cons_append, List.nil_append]
set_option maxRecDepth 20000 in
theorem ggX8_flip_X8_isNoWindow : GoodIn wsX8_flip wsX8_isNoWindow := goodIn_s seX8_flip _ [pq_1_4, pq_1_5, pq_1_6, pq_1_3, pq_1_7] (by rfl) (by decide +kernel)
set_option maxRecDepth 20000 in
theorem gX8_flip_X8_isNoWindow : GoodIn wsX8_flip (va_wsS RX8 77 yX8_isNoWindow wsX8_isNoWindow) := goodIn_app (goodIn_s seX8_flip _ [pq_1_1, pq_1_2, pq_1_3] (by rfl) (by decide +kernel)) ggX8_flip_X8_isNoWindow
set_option maxRecDepth 20000 in
theorem ggX8_flip_X8_isThrown : GoodIn wsX8_flip wsX8_isThrown := goodIn_s seX8_flip _ [pq_1_11, pq_1_12, pq_2_0, pq_2_1, pq_2_2, pq_2_3, pq_2_4, pq_2_5, pq_2_6, pq_2_7, pq_2_8, pq_2_9, pq_2_10] (by rfl) (by decide +kernel)
set_option maxRecDepth 20000 in
theorem gX8_flip_X8_isThrown : GoodIn wsX8_flip (wsV RX8 81 RX8 yX8_isThrown wsX8_isThrown) := goodIn_app (goodIn_s seX8_flip _ [pq_1_8, pq_1_9, pq_1_10, pq_1_3] (by rfl) (by decide +kernel)) ggX8_flip_X8_isThrown
set_option maxRecDepth 20000 in
theorem ggX8_flip_X8_place : GoodIn wsX8_flip wsX8_place := goodIn_s seX8_flip _ [pq_1_15] (by rfl) (by decide +kernel)
set_option maxRecDepth 20000 in
theorem gX8_flip_X8_place : GoodIn wsX8_flip (va_wsS RX8 115 yX8_place wsX8_place) := goodIn_app (goodIn_s seX8_flip _ [pq_1_13, pq_1_14, pq_1_3] (by rfl) (by decide +kernel)) ggX8_flip_X8_place
set_option maxRecDepth 20000 in
theorem ggX8_flip_X8_length : GoodIn wsX8_flip wsX8_length := goodIn_s seX8_flip _ [pq_1_18] (by rfl) (by decide +kernel)
set_option maxRecDepth 20000 in
theorem gX8_flip_X8_length : GoodIn wsX8_flip (va_wsS RX8 54 yX8_length wsX8_length) := goodIn_app (goodIn_s seX8_flip _ [pq_1_16, pq_1_17, pq_1_3] (by rfl) (by decide +kernel)) ggX8_flip_X8_length
set_option maxRecDepth 20000 in
theorem ggX8_flip_X8_done : GoodIn wsX8_flip wsX8_done := goodIn_s seX8_flip _ [pq_1_22, pq_1_23, pq_2_0, pq_2_1, pq_2_2, pq_2_3, pq_2_4, pq_2_5, pq_2_6, pq_2_7, pq_2_8, pq_2_9, pq_2_10] (by rfl) (by decide +kernel)
set_option maxRecDepth 20000 in
theorem gX8_flip_X8_done : GoodIn wsX8_flip (wsV RX8 62 RX8 yX8_done wsX8_done) := goodIn_app (goodIn_s seX8_flip _ [pq_1_19, pq_1_20, pq_1_21, pq_1_3] (by rfl) (by decide +kernel)) ggX8_flip_X8_done
def lb_sgX8_flip : List (List UInt8) := [[42, 27, 184, 0, 77, 3, 182, 0, 81, 153, 0, 5, 3, 172, 42, 180], [0, 14, 27, 50, 77, 44, 3, 44, 6, 46, 2, 184, 0, 115, 42, 44], [184, 0, 54, 182, 0, 62, 172]]
set_option maxRecDepth 100000 in
theorem lb_seX8_flip : cX8_flip.data.toList = lb_sgX8_flip.flatten := by decide +kernel
theorem lb_lnX8_flip : ∀ s ∈ lb_sgX8_flip.dropLast, s.length = 16 := by decide +kernel
theorem lxX8_flip (k j : Nat) {b : UInt8} (h : (lb_sgX8_flip[k]?).bind (fun s => s[j]?) = some b) : lb_at cX8_flip (16 * k + j) b := by
  unfold lb_at
  rw [lb_seX8_flip]
  exact lb_flat 16 lb_sgX8_flip k j b lb_lnX8_flip h
set_option maxRecDepth 20000 in
theorem dX8_flip_0 : decode cX8_flip 0 = .ok (.aload_n 0, 1) := dc_42 (lxX8_flip 0 0 rfl)
set_option maxRecDepth 20000 in
theorem dX8_flip_1 : decode cX8_flip 1 = .ok (.iload_n 1, 1) := dc_27 (lxX8_flip 0 1 rfl)
set_option maxRecDepth 20000 in
theorem dX8_flip_2 : decode cX8_flip 2 = .ok (.invokestatic 77, 3) := dc_184 0 77 (lxX8_flip 0 2 rfl) (lxX8_flip 0 3 rfl) (lxX8_flip 0 4 rfl)
set_option maxRecDepth 20000 in
theorem dX8_flip_5 : decode cX8_flip 5 = .ok (.iconst 0, 1) := dc_3 (lxX8_flip 0 5 rfl)
set_option maxRecDepth 20000 in
theorem dX8_flip_6 : decode cX8_flip 6 = .ok (.invokevirtual 81, 3) := dc_182 0 81 (lxX8_flip 0 6 rfl) (lxX8_flip 0 7 rfl) (lxX8_flip 0 8 rfl)
set_option maxRecDepth 20000 in
theorem dX8_flip_9 : decode cX8_flip 9 = .ok (.ifCond .eq 5, 3) := dc_153 0 5 (lxX8_flip 0 9 rfl) (lxX8_flip 0 10 rfl) (lxX8_flip 0 11 rfl)
set_option maxRecDepth 20000 in
theorem dX8_flip_12 : decode cX8_flip 12 = .ok (.iconst 0, 1) := dc_3 (lxX8_flip 0 12 rfl)
set_option maxRecDepth 20000 in
theorem dX8_flip_13 : decode cX8_flip 13 = .ok (.ireturn, 1) := dc_172 (lxX8_flip 0 13 rfl)
set_option maxRecDepth 20000 in
theorem dX8_flip_14 : decode cX8_flip 14 = .ok (.aload_n 0, 1) := dc_42 (lxX8_flip 0 14 rfl)
set_option maxRecDepth 20000 in
theorem dX8_flip_15 : decode cX8_flip 15 = .ok (.getfield 14, 3) := dc_180 0 14 (lxX8_flip 0 15 rfl) (lxX8_flip 1 0 rfl) (lxX8_flip 1 1 rfl)
set_option maxRecDepth 20000 in
theorem dX8_flip_18 : decode cX8_flip 18 = .ok (.iload_n 1, 1) := dc_27 (lxX8_flip 1 2 rfl)
set_option maxRecDepth 20000 in
theorem dX8_flip_19 : decode cX8_flip 19 = .ok (.aaload, 1) := dc_50 (lxX8_flip 1 3 rfl)
set_option maxRecDepth 20000 in
theorem dX8_flip_20 : decode cX8_flip 20 = .ok (.astore_n 2, 1) := dc_77 (lxX8_flip 1 4 rfl)
set_option maxRecDepth 20000 in
theorem dX8_flip_21 : decode cX8_flip 21 = .ok (.aload_n 2, 1) := dc_44 (lxX8_flip 1 5 rfl)
set_option maxRecDepth 20000 in
theorem dX8_flip_22 : decode cX8_flip 22 = .ok (.iconst 0, 1) := dc_3 (lxX8_flip 1 6 rfl)
set_option maxRecDepth 20000 in
theorem dX8_flip_23 : decode cX8_flip 23 = .ok (.aload_n 2, 1) := dc_44 (lxX8_flip 1 7 rfl)
set_option maxRecDepth 20000 in
theorem dX8_flip_24 : decode cX8_flip 24 = .ok (.iconst 3, 1) := dc_6 (lxX8_flip 1 8 rfl)
set_option maxRecDepth 20000 in
theorem dX8_flip_25 : decode cX8_flip 25 = .ok (.iaload, 1) := dc_46 (lxX8_flip 1 9 rfl)
set_option maxRecDepth 20000 in
theorem dX8_flip_26 : decode cX8_flip 26 = .ok (.iconst (-1), 1) := dc_2 (lxX8_flip 1 10 rfl)
set_option maxRecDepth 20000 in
theorem dX8_flip_27 : decode cX8_flip 27 = .ok (.invokestatic 115, 3) := dc_184 0 115 (lxX8_flip 1 11 rfl) (lxX8_flip 1 12 rfl) (lxX8_flip 1 13 rfl)
set_option maxRecDepth 20000 in
theorem dX8_flip_30 : decode cX8_flip 30 = .ok (.aload_n 0, 1) := dc_42 (lxX8_flip 1 14 rfl)
set_option maxRecDepth 20000 in
theorem dX8_flip_31 : decode cX8_flip 31 = .ok (.aload_n 2, 1) := dc_44 (lxX8_flip 1 15 rfl)
set_option maxRecDepth 20000 in
theorem dX8_flip_32 : decode cX8_flip 32 = .ok (.invokestatic 54, 3) := dc_184 0 54 (lxX8_flip 2 0 rfl) (lxX8_flip 2 1 rfl) (lxX8_flip 2 2 rfl)
set_option maxRecDepth 20000 in
theorem dX8_flip_35 : decode cX8_flip 35 = .ok (.invokevirtual 62, 3) := dc_182 0 62 (lxX8_flip 2 3 rfl) (lxX8_flip 2 4 rfl) (lxX8_flip 2 5 rfl)
set_option maxRecDepth 20000 in
theorem dX8_flip_38 : decode cX8_flip 38 = .ok (.ireturn, 1) := dc_172 (lxX8_flip 2 6 rfl)
noncomputable def sgX8_compact : List (List Cond) := [[.code yX8_compact cX8_compact 5 (some .int)], wsX8_compact_r1, wsX8_compact_r2, wsX80]
theorem seX8_compact : sgX8_compact.flatten = wsX8_compact := by simp only [sgX8_compact, wsX8_compact, List.flatten_cons, List.flatten_nil, List.append_assoc, List.append_nil, List.cons_append, List.nil_append]
set_option maxRecDepth 20000 in
theorem ggX8_compact_X8_isNoWindow : GoodIn wsX8_compact wsX8_isNoWindow := goodIn_s seX8_compact _ [pq_1_5, pq_1_6, pq_1_7, pq_1_4, pq_1_8] (by rfl) (by decide +kernel)
set_option maxRecDepth 20000 in
theorem gX8_compact_X8_isNoWindow : GoodIn wsX8_compact (va_wsS RX8 77 yX8_isNoWindow wsX8_isNoWindow) := goodIn_app (goodIn_s seX8_compact _ [pq_1_2, pq_1_3, pq_1_4] (by rfl) (by decide +kernel)) ggX8_compact_X8_isNoWindow
set_option maxRecDepth 20000 in
theorem ggX8_compact_X8_isThrown : GoodIn wsX8_compact wsX8_isThrown := goodIn_s seX8_compact _ [pq_1_12, pq_1_13, pq_3_0, pq_3_1, pq_3_2, pq_3_3, pq_3_4, pq_3_5, pq_3_6, pq_3_7, pq_3_8, pq_3_9, pq_3_10] (by rfl) (by decide +kernel)
set_option maxRecDepth 20000 in
theorem gX8_compact_X8_isThrown : GoodIn wsX8_compact (wsV RX8 81 RX8 yX8_isThrown wsX8_isThrown) := goodIn_app (goodIn_s seX8_compact _ [pq_1_9, pq_1_10, pq_1_11, pq_1_4] (by rfl) (by decide +kernel)) ggX8_compact_X8_isThrown
set_option maxRecDepth 20000 in
theorem ggX8_compact_X8_text : GoodIn wsX8_compact wsX8_text := goodIn_s seX8_compact _ [pq_1_17, pq_1_18, pq_1_1, pq_1_19, pq_1_20, pq_1_4, pq_1_21, pq_3_0, pq_3_1, pq_3_2, pq_3_3, pq_3_4, pq_3_5, pq_3_6, pq_3_7, pq_3_8, pq_3_9, pq_3_10] (by rfl) (by decide +kernel)
set_option maxRecDepth 20000 in
theorem gX8_compact_X8_text : GoodIn wsX8_compact (wsV RX8 58 RX8 yX8_text wsX8_text) := goodIn_app (goodIn_s seX8_compact _ [pq_1_14, pq_1_15, pq_1_16, pq_1_4] (by rfl) (by decide +kernel)) ggX8_compact_X8_text
set_option maxRecDepth 20000 in
theorem ggX8_compact_X8_place : GoodIn wsX8_compact wsX8_place := goodIn_s seX8_compact _ [pq_2_0] (by rfl) (by decide +kernel)
set_option maxRecDepth 20000 in
theorem gX8_compact_X8_place : GoodIn wsX8_compact (va_wsS RX8 115 yX8_place wsX8_place) := goodIn_app (goodIn_s seX8_compact _ [pq_1_22, pq_1_23, pq_1_4] (by rfl) (by decide +kernel)) ggX8_compact_X8_place
set_option maxRecDepth 20000 in
theorem ggX8_compact_X8_done : GoodIn wsX8_compact wsX8_done := goodIn_s seX8_compact _ [pq_2_4, pq_2_5, pq_3_0, pq_3_1, pq_3_2, pq_3_3, pq_3_4, pq_3_5, pq_3_6, pq_3_7, pq_3_8, pq_3_9, pq_3_10] (by rfl) (by decide +kernel)
set_option maxRecDepth 20000 in
theorem gX8_compact_X8_done : GoodIn wsX8_compact (wsV RX8 62 RX8 yX8_done wsX8_done) := goodIn_app (goodIn_s seX8_compact _ [pq_2_1, pq_2_2, pq_2_3, pq_1_4] (by rfl) (by decide +kernel)) ggX8_compact_X8_done
def lb_sgX8_compact : List (List UInt8) := [[42, 27, 184, 0, 77, 3, 182, 0, 81, 153, 0, 5, 3, 172, 42, 180], [0, 14, 27, 50, 77, 42, 44, 182, 0, 58, 78, 3, 54, 4, 21, 4], [45, 190, 162, 0, 24, 42, 180, 0, 7, 44, 3, 46, 21, 4, 96, 45], [21, 4, 46, 79, 132, 4, 1, 167, 255, 231, 44, 45, 190, 44, 4, 46], [2, 184, 0, 115, 42, 45, 190, 182, 0, 62, 172]]
set_option maxRecDepth 100000 in
theorem lb_seX8_compact : cX8_compact.data.toList = lb_sgX8_compact.flatten := by decide +kernel
theorem lb_lnX8_compact : ∀ s ∈ lb_sgX8_compact.dropLast, s.length = 16 := by decide +kernel
theorem lxX8_compact (k j : Nat) {b : UInt8} (h : (lb_sgX8_compact[k]?).bind (fun s => s[j]?) = some b) : lb_at cX8_compact (16 * k + j) b := by
  unfold lb_at
  rw [lb_seX8_compact]
  exact lb_flat 16 lb_sgX8_compact k j b lb_lnX8_compact h
set_option maxRecDepth 20000 in
theorem dX8_compact_0 : decode cX8_compact 0 = .ok (.aload_n 0, 1) := dc_42 (lxX8_compact 0 0 rfl)
set_option maxRecDepth 20000 in
theorem dX8_compact_1 : decode cX8_compact 1 = .ok (.iload_n 1, 1) := dc_27 (lxX8_compact 0 1 rfl)
set_option maxRecDepth 20000 in
theorem dX8_compact_2 : decode cX8_compact 2 = .ok (.invokestatic 77, 3) := dc_184 0 77 (lxX8_compact 0 2 rfl) (lxX8_compact 0 3 rfl) (lxX8_compact 0 4 rfl)
set_option maxRecDepth 20000 in
theorem dX8_compact_5 : decode cX8_compact 5 = .ok (.iconst 0, 1) := dc_3 (lxX8_compact 0 5 rfl)
set_option maxRecDepth 20000 in
theorem dX8_compact_6 : decode cX8_compact 6 = .ok (.invokevirtual 81, 3) := dc_182 0 81 (lxX8_compact 0 6 rfl) (lxX8_compact 0 7 rfl) (lxX8_compact 0 8 rfl)
set_option maxRecDepth 20000 in
theorem dX8_compact_9 : decode cX8_compact 9 = .ok (.ifCond .eq 5, 3) := dc_153 0 5 (lxX8_compact 0 9 rfl) (lxX8_compact 0 10 rfl) (lxX8_compact 0 11 rfl)
set_option maxRecDepth 20000 in
theorem dX8_compact_12 : decode cX8_compact 12 = .ok (.iconst 0, 1) := dc_3 (lxX8_compact 0 12 rfl)
set_option maxRecDepth 20000 in
theorem dX8_compact_13 : decode cX8_compact 13 = .ok (.ireturn, 1) := dc_172 (lxX8_compact 0 13 rfl)
set_option maxRecDepth 20000 in
theorem dX8_compact_14 : decode cX8_compact 14 = .ok (.aload_n 0, 1) := dc_42 (lxX8_compact 0 14 rfl)
set_option maxRecDepth 20000 in
theorem dX8_compact_15 : decode cX8_compact 15 = .ok (.getfield 14, 3) := dc_180 0 14 (lxX8_compact 0 15 rfl) (lxX8_compact 1 0 rfl) (lxX8_compact 1 1 rfl)
set_option maxRecDepth 20000 in
theorem dX8_compact_18 : decode cX8_compact 18 = .ok (.iload_n 1, 1) := dc_27 (lxX8_compact 1 2 rfl)
set_option maxRecDepth 20000 in
theorem dX8_compact_19 : decode cX8_compact 19 = .ok (.aaload, 1) := dc_50 (lxX8_compact 1 3 rfl)
set_option maxRecDepth 20000 in
theorem dX8_compact_20 : decode cX8_compact 20 = .ok (.astore_n 2, 1) := dc_77 (lxX8_compact 1 4 rfl)
set_option maxRecDepth 20000 in
theorem dX8_compact_21 : decode cX8_compact 21 = .ok (.aload_n 0, 1) := dc_42 (lxX8_compact 1 5 rfl)
set_option maxRecDepth 20000 in
theorem dX8_compact_22 : decode cX8_compact 22 = .ok (.aload_n 2, 1) := dc_44 (lxX8_compact 1 6 rfl)
set_option maxRecDepth 20000 in
theorem dX8_compact_23 : decode cX8_compact 23 = .ok (.invokevirtual 58, 3) := dc_182 0 58 (lxX8_compact 1 7 rfl) (lxX8_compact 1 8 rfl) (lxX8_compact 1 9 rfl)
set_option maxRecDepth 20000 in
theorem dX8_compact_26 : decode cX8_compact 26 = .ok (.astore_n 3, 1) := dc_78 (lxX8_compact 1 10 rfl)
set_option maxRecDepth 20000 in
theorem dX8_compact_27 : decode cX8_compact 27 = .ok (.iconst 0, 1) := dc_3 (lxX8_compact 1 11 rfl)
set_option maxRecDepth 20000 in
theorem dX8_compact_28 : decode cX8_compact 28 = .ok (.istore 4, 2) := dc_54 4 (lxX8_compact 1 12 rfl) (lxX8_compact 1 13 rfl)
set_option maxRecDepth 20000 in
theorem dX8_compact_30 : decode cX8_compact 30 = .ok (.iload 4, 2) := dc_21 4 (lxX8_compact 1 14 rfl) (lxX8_compact 1 15 rfl)
set_option maxRecDepth 20000 in
theorem dX8_compact_32 : decode cX8_compact 32 = .ok (.aload_n 3, 1) := dc_45 (lxX8_compact 2 0 rfl)
set_option maxRecDepth 20000 in
theorem dX8_compact_33 : decode cX8_compact 33 = .ok (.arraylength, 1) := dc_190 (lxX8_compact 2 1 rfl)
set_option maxRecDepth 20000 in
theorem dX8_compact_34 : decode cX8_compact 34 = .ok (.if_icmp .ge 24, 3) := dc_162 0 24 (lxX8_compact 2 2 rfl) (lxX8_compact 2 3 rfl) (lxX8_compact 2 4 rfl)
set_option maxRecDepth 20000 in
theorem dX8_compact_37 : decode cX8_compact 37 = .ok (.aload_n 0, 1) := dc_42 (lxX8_compact 2 5 rfl)
set_option maxRecDepth 20000 in
theorem dX8_compact_38 : decode cX8_compact 38 = .ok (.getfield 7, 3) := dc_180 0 7 (lxX8_compact 2 6 rfl) (lxX8_compact 2 7 rfl) (lxX8_compact 2 8 rfl)
set_option maxRecDepth 20000 in
theorem dX8_compact_41 : decode cX8_compact 41 = .ok (.aload_n 2, 1) := dc_44 (lxX8_compact 2 9 rfl)
set_option maxRecDepth 20000 in
theorem dX8_compact_42 : decode cX8_compact 42 = .ok (.iconst 0, 1) := dc_3 (lxX8_compact 2 10 rfl)
set_option maxRecDepth 20000 in
theorem dX8_compact_43 : decode cX8_compact 43 = .ok (.iaload, 1) := dc_46 (lxX8_compact 2 11 rfl)
set_option maxRecDepth 20000 in
theorem dX8_compact_44 : decode cX8_compact 44 = .ok (.iload 4, 2) := dc_21 4 (lxX8_compact 2 12 rfl) (lxX8_compact 2 13 rfl)
set_option maxRecDepth 20000 in
theorem dX8_compact_46 : decode cX8_compact 46 = .ok (.iadd, 1) := dc_96 (lxX8_compact 2 14 rfl)
set_option maxRecDepth 20000 in
theorem dX8_compact_47 : decode cX8_compact 47 = .ok (.aload_n 3, 1) := dc_45 (lxX8_compact 2 15 rfl)
set_option maxRecDepth 20000 in
theorem dX8_compact_48 : decode cX8_compact 48 = .ok (.iload 4, 2) := dc_21 4 (lxX8_compact 3 0 rfl) (lxX8_compact 3 1 rfl)
set_option maxRecDepth 20000 in
theorem dX8_compact_50 : decode cX8_compact 50 = .ok (.iaload, 1) := dc_46 (lxX8_compact 3 2 rfl)
set_option maxRecDepth 20000 in
theorem dX8_compact_51 : decode cX8_compact 51 = .ok (.iastore, 1) := dc_79 (lxX8_compact 3 3 rfl)
set_option maxRecDepth 20000 in
theorem dX8_compact_52 : decode cX8_compact 52 = .ok (.iinc 4 1, 3) := dc_132 4 1 (lxX8_compact 3 4 rfl) (lxX8_compact 3 5 rfl) (lxX8_compact 3 6 rfl)
set_option maxRecDepth 20000 in
theorem dX8_compact_55 : decode cX8_compact 55 = .ok (.goto (-25), 3) := dc_167 255 231 (lxX8_compact 3 7 rfl) (lxX8_compact 3 8 rfl) (lxX8_compact 3 9 rfl)
set_option maxRecDepth 20000 in
theorem dX8_compact_58 : decode cX8_compact 58 = .ok (.aload_n 2, 1) := dc_44 (lxX8_compact 3 10 rfl)
set_option maxRecDepth 20000 in
theorem dX8_compact_59 : decode cX8_compact 59 = .ok (.aload_n 3, 1) := dc_45 (lxX8_compact 3 11 rfl)
set_option maxRecDepth 20000 in
theorem dX8_compact_60 : decode cX8_compact 60 = .ok (.arraylength, 1) := dc_190 (lxX8_compact 3 12 rfl)
set_option maxRecDepth 20000 in
theorem dX8_compact_61 : decode cX8_compact 61 = .ok (.aload_n 2, 1) := dc_44 (lxX8_compact 3 13 rfl)
set_option maxRecDepth 20000 in
theorem dX8_compact_62 : decode cX8_compact 62 = .ok (.iconst 1, 1) := dc_4 (lxX8_compact 3 14 rfl)
set_option maxRecDepth 20000 in
theorem dX8_compact_63 : decode cX8_compact 63 = .ok (.iaload, 1) := dc_46 (lxX8_compact 3 15 rfl)
set_option maxRecDepth 20000 in
theorem dX8_compact_64 : decode cX8_compact 64 = .ok (.iconst (-1), 1) := dc_2 (lxX8_compact 4 0 rfl)
set_option maxRecDepth 20000 in
theorem dX8_compact_65 : decode cX8_compact 65 = .ok (.invokestatic 115, 3) := dc_184 0 115 (lxX8_compact 4 1 rfl) (lxX8_compact 4 2 rfl) (lxX8_compact 4 3 rfl)
set_option maxRecDepth 20000 in
theorem dX8_compact_68 : decode cX8_compact 68 = .ok (.aload_n 0, 1) := dc_42 (lxX8_compact 4 4 rfl)
set_option maxRecDepth 20000 in
theorem dX8_compact_69 : decode cX8_compact 69 = .ok (.aload_n 3, 1) := dc_45 (lxX8_compact 4 5 rfl)
set_option maxRecDepth 20000 in
theorem dX8_compact_70 : decode cX8_compact 70 = .ok (.arraylength, 1) := dc_190 (lxX8_compact 4 6 rfl)
set_option maxRecDepth 20000 in
theorem dX8_compact_71 : decode cX8_compact 71 = .ok (.invokevirtual 62, 3) := dc_182 0 62 (lxX8_compact 4 7 rfl) (lxX8_compact 4 8 rfl) (lxX8_compact 4 9 rfl)
set_option maxRecDepth 20000 in
theorem dX8_compact_74 : decode cX8_compact 74 = .ok (.ireturn, 1) := dc_172 (lxX8_compact 4 10 rfl)
noncomputable def sgX8_open : List (List Cond) := [[.code yX8_open cX8_open 3 (some .int)], [.fieldLink RX8 14 "SashwordsModel" "windows" "[[I", .methodLink RX8 77 yX8_isNoWindow, .static yX8_isNoWindow, .initialized RX8, .code yX8_isNoWindow cX8_isNoWindow 1 (some .boolean), .methodLink RX8 41 yX8_isNo, .static yX8_isNo, .code yX8_isNo cX8_isNo 3 (some .boolean), .methodLink RX8 81 yX8_isThrown, .instanceMethod yX8_isThrown, .selects RX8 yX8_isThrown yX8_isThrown, .code yX8_isThrown cX8_isThrown 3 (some .boolean), .fieldLink RX8 38 "SashwordsModel" "thrown" "I", .methodLink RX8 115 yX8_place, .static yX8_place, .code yX8_place cX8_place 4 none, .methodLink RX8 54 yX8_length, .static yX8_length, .code yX8_length cX8_length 1 (some .int), .methodLink RX8 62 yX8_done, .instanceMethod yX8_done, .selects RX8 yX8_done yX8_done, .code yX8_done cX8_done 2 (some .int), .fieldLink RX8 31 "SashwordsModel" "tallies" "[I"], wsX80]
theorem seX8_open : sgX8_open.flatten = wsX8_open := by simp only [sgX8_open, wsX8_open, List.flatten_cons, List.flatten_nil, List.append_assoc, List.append_nil, List.cons_append, List.nil_append]
set_option maxRecDepth 20000 in
theorem ggX8_open_X8_isNoWindow : GoodIn wsX8_open wsX8_isNoWindow := goodIn_s seX8_open _ [pq_1_4, pq_1_5, pq_1_6, pq_1_3, pq_1_7] (by rfl) (by decide +kernel)
set_option maxRecDepth 20000 in
theorem gX8_open_X8_isNoWindow : GoodIn wsX8_open (va_wsS RX8 77 yX8_isNoWindow wsX8_isNoWindow) := goodIn_app (goodIn_s seX8_open _ [pq_1_1, pq_1_2, pq_1_3] (by rfl) (by decide +kernel)) ggX8_open_X8_isNoWindow
set_option maxRecDepth 20000 in
theorem ggX8_open_X8_isThrown : GoodIn wsX8_open wsX8_isThrown := goodIn_s seX8_open _ [pq_1_11, pq_1_12, pq_2_0, pq_2_1, pq_2_2, pq_2_3, pq_2_4, pq_2_5, pq_2_6, pq_2_7, pq_2_8, pq_2_9, pq_2_10] (by rfl) (by decide +kernel)
set_option maxRecDepth 20000 in
theorem gX8_open_X8_isThrown : GoodIn wsX8_open (wsV RX8 81 RX8 yX8_isThrown wsX8_isThrown) := goodIn_app (goodIn_s seX8_open _ [pq_1_8, pq_1_9, pq_1_10, pq_1_3] (by rfl) (by decide +kernel)) ggX8_open_X8_isThrown
set_option maxRecDepth 20000 in
theorem ggX8_open_X8_place : GoodIn wsX8_open wsX8_place := goodIn_s seX8_open _ [pq_1_15] (by rfl) (by decide +kernel)
set_option maxRecDepth 20000 in
theorem gX8_open_X8_place : GoodIn wsX8_open (va_wsS RX8 115 yX8_place wsX8_place) := goodIn_app (goodIn_s seX8_open _ [pq_1_13, pq_1_14, pq_1_3] (by rfl) (by decide +kernel)) ggX8_open_X8_place
set_option maxRecDepth 20000 in
theorem ggX8_open_X8_length : GoodIn wsX8_open wsX8_length := goodIn_s seX8_open _ [pq_1_18] (by rfl) (by decide +kernel)
set_option maxRecDepth 20000 in
theorem gX8_open_X8_length : GoodIn wsX8_open (va_wsS RX8 54 yX8_length wsX8_length) := goodIn_app (goodIn_s seX8_open _ [pq_1_16, pq_1_17, pq_1_3] (by rfl) (by decide +kernel)) ggX8_open_X8_length
set_option maxRecDepth 20000 in
theorem ggX8_open_X8_done : GoodIn wsX8_open wsX8_done := goodIn_s seX8_open _ [pq_1_22, pq_1_23, pq_2_0, pq_2_1, pq_2_2, pq_2_3, pq_2_4, pq_2_5, pq_2_6, pq_2_7, pq_2_8, pq_2_9, pq_2_10] (by rfl) (by decide +kernel)
set_option maxRecDepth 20000 in
theorem gX8_open_X8_done : GoodIn wsX8_open (wsV RX8 62 RX8 yX8_done wsX8_done) := goodIn_app (goodIn_s seX8_open _ [pq_1_19, pq_1_20, pq_1_21, pq_1_3] (by rfl) (by decide +kernel)) ggX8_open_X8_done
def lb_sgX8_open : List (List UInt8) := [[42, 27, 184, 0, 77, 3, 182, 0, 81, 153, 0, 5, 3, 172, 42, 180], [0, 14, 27, 50, 77, 44, 3, 44, 4, 46, 2, 184, 0, 115, 42, 44], [184, 0, 54, 182, 0, 62, 172]]
set_option maxRecDepth 100000 in
theorem lb_seX8_open : cX8_open.data.toList = lb_sgX8_open.flatten := by decide +kernel
theorem lb_lnX8_open : ∀ s ∈ lb_sgX8_open.dropLast, s.length = 16 := by decide +kernel
theorem lxX8_open (k j : Nat) {b : UInt8} (h : (lb_sgX8_open[k]?).bind (fun s => s[j]?) = some b) : lb_at cX8_open (16 * k + j) b := by
  unfold lb_at
  rw [lb_seX8_open]
  exact lb_flat 16 lb_sgX8_open k j b lb_lnX8_open h
set_option maxRecDepth 20000 in
theorem dX8_open_0 : decode cX8_open 0 = .ok (.aload_n 0, 1) := dc_42 (lxX8_open 0 0 rfl)
set_option maxRecDepth 20000 in
theorem dX8_open_1 : decode cX8_open 1 = .ok (.iload_n 1, 1) := dc_27 (lxX8_open 0 1 rfl)
set_option maxRecDepth 20000 in
theorem dX8_open_2 : decode cX8_open 2 = .ok (.invokestatic 77, 3) := dc_184 0 77 (lxX8_open 0 2 rfl) (lxX8_open 0 3 rfl) (lxX8_open 0 4 rfl)
set_option maxRecDepth 20000 in
theorem dX8_open_5 : decode cX8_open 5 = .ok (.iconst 0, 1) := dc_3 (lxX8_open 0 5 rfl)
set_option maxRecDepth 20000 in
theorem dX8_open_6 : decode cX8_open 6 = .ok (.invokevirtual 81, 3) := dc_182 0 81 (lxX8_open 0 6 rfl) (lxX8_open 0 7 rfl) (lxX8_open 0 8 rfl)
set_option maxRecDepth 20000 in
theorem dX8_open_9 : decode cX8_open 9 = .ok (.ifCond .eq 5, 3) := dc_153 0 5 (lxX8_open 0 9 rfl) (lxX8_open 0 10 rfl) (lxX8_open 0 11 rfl)
set_option maxRecDepth 20000 in
theorem dX8_open_12 : decode cX8_open 12 = .ok (.iconst 0, 1) := dc_3 (lxX8_open 0 12 rfl)
set_option maxRecDepth 20000 in
theorem dX8_open_13 : decode cX8_open 13 = .ok (.ireturn, 1) := dc_172 (lxX8_open 0 13 rfl)
set_option maxRecDepth 20000 in
theorem dX8_open_14 : decode cX8_open 14 = .ok (.aload_n 0, 1) := dc_42 (lxX8_open 0 14 rfl)
set_option maxRecDepth 20000 in
theorem dX8_open_15 : decode cX8_open 15 = .ok (.getfield 14, 3) := dc_180 0 14 (lxX8_open 0 15 rfl) (lxX8_open 1 0 rfl) (lxX8_open 1 1 rfl)
set_option maxRecDepth 20000 in
theorem dX8_open_18 : decode cX8_open 18 = .ok (.iload_n 1, 1) := dc_27 (lxX8_open 1 2 rfl)
set_option maxRecDepth 20000 in
theorem dX8_open_19 : decode cX8_open 19 = .ok (.aaload, 1) := dc_50 (lxX8_open 1 3 rfl)
set_option maxRecDepth 20000 in
theorem dX8_open_20 : decode cX8_open 20 = .ok (.astore_n 2, 1) := dc_77 (lxX8_open 1 4 rfl)
set_option maxRecDepth 20000 in
theorem dX8_open_21 : decode cX8_open 21 = .ok (.aload_n 2, 1) := dc_44 (lxX8_open 1 5 rfl)
set_option maxRecDepth 20000 in
theorem dX8_open_22 : decode cX8_open 22 = .ok (.iconst 0, 1) := dc_3 (lxX8_open 1 6 rfl)
set_option maxRecDepth 20000 in
theorem dX8_open_23 : decode cX8_open 23 = .ok (.aload_n 2, 1) := dc_44 (lxX8_open 1 7 rfl)
set_option maxRecDepth 20000 in
theorem dX8_open_24 : decode cX8_open 24 = .ok (.iconst 1, 1) := dc_4 (lxX8_open 1 8 rfl)
set_option maxRecDepth 20000 in
theorem dX8_open_25 : decode cX8_open 25 = .ok (.iaload, 1) := dc_46 (lxX8_open 1 9 rfl)
set_option maxRecDepth 20000 in
theorem dX8_open_26 : decode cX8_open 26 = .ok (.iconst (-1), 1) := dc_2 (lxX8_open 1 10 rfl)
set_option maxRecDepth 20000 in
theorem dX8_open_27 : decode cX8_open 27 = .ok (.invokestatic 115, 3) := dc_184 0 115 (lxX8_open 1 11 rfl) (lxX8_open 1 12 rfl) (lxX8_open 1 13 rfl)
set_option maxRecDepth 20000 in
theorem dX8_open_30 : decode cX8_open 30 = .ok (.aload_n 0, 1) := dc_42 (lxX8_open 1 14 rfl)
set_option maxRecDepth 20000 in
theorem dX8_open_31 : decode cX8_open 31 = .ok (.aload_n 2, 1) := dc_44 (lxX8_open 1 15 rfl)
set_option maxRecDepth 20000 in
theorem dX8_open_32 : decode cX8_open 32 = .ok (.invokestatic 54, 3) := dc_184 0 54 (lxX8_open 2 0 rfl) (lxX8_open 2 1 rfl) (lxX8_open 2 2 rfl)
set_option maxRecDepth 20000 in
theorem dX8_open_35 : decode cX8_open 35 = .ok (.invokevirtual 62, 3) := dc_182 0 62 (lxX8_open 2 3 rfl) (lxX8_open 2 4 rfl) (lxX8_open 2 5 rfl)
set_option maxRecDepth 20000 in
theorem dX8_open_38 : decode cX8_open 38 = .ok (.ireturn, 1) := dc_172 (lxX8_open 2 6 rfl)
def lb_sgX8_joined : List (List UInt8) := [[42, 190, 43, 190, 96, 188, 10, 77, 3, 62, 29, 44, 190, 162, 0, 30], [44, 29, 29, 42, 190, 162, 0, 9, 42, 29, 46, 167, 0, 9, 43, 29], [42, 190, 100, 46, 79, 132, 3, 1, 167, 255, 226, 44, 176]]
set_option maxRecDepth 100000 in
theorem lb_seX8_joined : cX8_joined.data.toList = lb_sgX8_joined.flatten := by decide +kernel
theorem lb_lnX8_joined : ∀ s ∈ lb_sgX8_joined.dropLast, s.length = 16 := by decide +kernel
theorem lxX8_joined (k j : Nat) {b : UInt8} (h : (lb_sgX8_joined[k]?).bind (fun s => s[j]?) = some b) : lb_at cX8_joined (16 * k + j) b := by
  unfold lb_at
  rw [lb_seX8_joined]
  exact lb_flat 16 lb_sgX8_joined k j b lb_lnX8_joined h
set_option maxRecDepth 20000 in
theorem dX8_joined_0 : decode cX8_joined 0 = .ok (.aload_n 0, 1) := dc_42 (lxX8_joined 0 0 rfl)
set_option maxRecDepth 20000 in
theorem dX8_joined_1 : decode cX8_joined 1 = .ok (.arraylength, 1) := dc_190 (lxX8_joined 0 1 rfl)
set_option maxRecDepth 20000 in
theorem dX8_joined_2 : decode cX8_joined 2 = .ok (.aload_n 1, 1) := dc_43 (lxX8_joined 0 2 rfl)
set_option maxRecDepth 20000 in
theorem dX8_joined_3 : decode cX8_joined 3 = .ok (.arraylength, 1) := dc_190 (lxX8_joined 0 3 rfl)
set_option maxRecDepth 20000 in
theorem dX8_joined_4 : decode cX8_joined 4 = .ok (.iadd, 1) := dc_96 (lxX8_joined 0 4 rfl)
theorem dX8_joined_5 : decode cX8_joined 5 = .ok (.newarray .int, 2) := by decide +kernel
set_option maxRecDepth 20000 in
theorem dX8_joined_7 : decode cX8_joined 7 = .ok (.astore_n 2, 1) := dc_77 (lxX8_joined 0 7 rfl)
set_option maxRecDepth 20000 in
theorem dX8_joined_8 : decode cX8_joined 8 = .ok (.iconst 0, 1) := dc_3 (lxX8_joined 0 8 rfl)
set_option maxRecDepth 20000 in
theorem dX8_joined_9 : decode cX8_joined 9 = .ok (.istore_n 3, 1) := dc_62 (lxX8_joined 0 9 rfl)
set_option maxRecDepth 20000 in
theorem dX8_joined_10 : decode cX8_joined 10 = .ok (.iload_n 3, 1) := dc_29 (lxX8_joined 0 10 rfl)
set_option maxRecDepth 20000 in
theorem dX8_joined_11 : decode cX8_joined 11 = .ok (.aload_n 2, 1) := dc_44 (lxX8_joined 0 11 rfl)
set_option maxRecDepth 20000 in
theorem dX8_joined_12 : decode cX8_joined 12 = .ok (.arraylength, 1) := dc_190 (lxX8_joined 0 12 rfl)
set_option maxRecDepth 20000 in
theorem dX8_joined_13 : decode cX8_joined 13 = .ok (.if_icmp .ge 30, 3) := dc_162 0 30 (lxX8_joined 0 13 rfl) (lxX8_joined 0 14 rfl) (lxX8_joined 0 15 rfl)
set_option maxRecDepth 20000 in
theorem dX8_joined_16 : decode cX8_joined 16 = .ok (.aload_n 2, 1) := dc_44 (lxX8_joined 1 0 rfl)
set_option maxRecDepth 20000 in
theorem dX8_joined_17 : decode cX8_joined 17 = .ok (.iload_n 3, 1) := dc_29 (lxX8_joined 1 1 rfl)
set_option maxRecDepth 20000 in
theorem dX8_joined_18 : decode cX8_joined 18 = .ok (.iload_n 3, 1) := dc_29 (lxX8_joined 1 2 rfl)
set_option maxRecDepth 20000 in
theorem dX8_joined_19 : decode cX8_joined 19 = .ok (.aload_n 0, 1) := dc_42 (lxX8_joined 1 3 rfl)
set_option maxRecDepth 20000 in
theorem dX8_joined_20 : decode cX8_joined 20 = .ok (.arraylength, 1) := dc_190 (lxX8_joined 1 4 rfl)
set_option maxRecDepth 20000 in
theorem dX8_joined_21 : decode cX8_joined 21 = .ok (.if_icmp .ge 9, 3) := dc_162 0 9 (lxX8_joined 1 5 rfl) (lxX8_joined 1 6 rfl) (lxX8_joined 1 7 rfl)
set_option maxRecDepth 20000 in
theorem dX8_joined_24 : decode cX8_joined 24 = .ok (.aload_n 0, 1) := dc_42 (lxX8_joined 1 8 rfl)
set_option maxRecDepth 20000 in
theorem dX8_joined_25 : decode cX8_joined 25 = .ok (.iload_n 3, 1) := dc_29 (lxX8_joined 1 9 rfl)
set_option maxRecDepth 20000 in
theorem dX8_joined_26 : decode cX8_joined 26 = .ok (.iaload, 1) := dc_46 (lxX8_joined 1 10 rfl)
set_option maxRecDepth 20000 in
theorem dX8_joined_27 : decode cX8_joined 27 = .ok (.goto 9, 3) := dc_167 0 9 (lxX8_joined 1 11 rfl) (lxX8_joined 1 12 rfl) (lxX8_joined 1 13 rfl)
set_option maxRecDepth 20000 in
theorem dX8_joined_30 : decode cX8_joined 30 = .ok (.aload_n 1, 1) := dc_43 (lxX8_joined 1 14 rfl)
set_option maxRecDepth 20000 in
theorem dX8_joined_31 : decode cX8_joined 31 = .ok (.iload_n 3, 1) := dc_29 (lxX8_joined 1 15 rfl)
set_option maxRecDepth 20000 in
theorem dX8_joined_32 : decode cX8_joined 32 = .ok (.aload_n 0, 1) := dc_42 (lxX8_joined 2 0 rfl)
set_option maxRecDepth 20000 in
theorem dX8_joined_33 : decode cX8_joined 33 = .ok (.arraylength, 1) := dc_190 (lxX8_joined 2 1 rfl)
set_option maxRecDepth 20000 in
theorem dX8_joined_34 : decode cX8_joined 34 = .ok (.isub, 1) := dc_100 (lxX8_joined 2 2 rfl)
set_option maxRecDepth 20000 in
theorem dX8_joined_35 : decode cX8_joined 35 = .ok (.iaload, 1) := dc_46 (lxX8_joined 2 3 rfl)
set_option maxRecDepth 20000 in
theorem dX8_joined_36 : decode cX8_joined 36 = .ok (.iastore, 1) := dc_79 (lxX8_joined 2 4 rfl)
set_option maxRecDepth 20000 in
theorem dX8_joined_37 : decode cX8_joined 37 = .ok (.iinc 3 1, 3) := dc_132 3 1 (lxX8_joined 2 5 rfl) (lxX8_joined 2 6 rfl) (lxX8_joined 2 7 rfl)
set_option maxRecDepth 20000 in
theorem dX8_joined_40 : decode cX8_joined 40 = .ok (.goto (-30), 3) := dc_167 255 226 (lxX8_joined 2 8 rfl) (lxX8_joined 2 9 rfl) (lxX8_joined 2 10 rfl)
set_option maxRecDepth 20000 in
theorem dX8_joined_43 : decode cX8_joined 43 = .ok (.aload_n 2, 1) := dc_44 (lxX8_joined 2 11 rfl)
set_option maxRecDepth 20000 in
theorem dX8_joined_44 : decode cX8_joined 44 = .ok (.areturn, 1) := dc_176 (lxX8_joined 2 12 rfl)
noncomputable def sgX8_keep : List (List Cond) := [[.code yX8_keep cX8_keep 2 (some .int)], wsX8_keep_r1, wsX8_keep_r2, wsX80]
theorem seX8_keep : sgX8_keep.flatten = wsX8_keep := by simp only [sgX8_keep, wsX8_keep, List.flatten_cons, List.flatten_nil, List.append_assoc, List.append_nil, List.cons_append, List.nil_append]
set_option maxRecDepth 20000 in
theorem ggX8_keep_X8_isNoSource : GoodIn wsX8_keep wsX8_isNoSource := goodIn_s seX8_keep _ [pq_1_5, pq_1_6, pq_1_7, pq_1_4, pq_1_8] (by rfl) (by decide +kernel)
set_option maxRecDepth 20000 in
theorem gX8_keep_X8_isNoSource : GoodIn wsX8_keep (va_wsS RX8 119 yX8_isNoSource wsX8_isNoSource) := goodIn_app (goodIn_s seX8_keep _ [pq_1_2, pq_1_3, pq_1_4] (by rfl) (by decide +kernel)) ggX8_keep_X8_isNoSource
set_option maxRecDepth 20000 in
theorem ggX8_keep_X8_isThrown : GoodIn wsX8_keep wsX8_isThrown := goodIn_s seX8_keep _ [pq_1_12, pq_1_13, pq_3_0, pq_3_1, pq_3_2, pq_3_3, pq_3_4, pq_3_5, pq_3_6, pq_3_7, pq_3_8, pq_3_9, pq_3_10] (by rfl) (by decide +kernel)
set_option maxRecDepth 20000 in
theorem gX8_keep_X8_isThrown : GoodIn wsX8_keep (wsV RX8 81 RX8 yX8_isThrown wsX8_isThrown) := goodIn_app (goodIn_s seX8_keep _ [pq_1_9, pq_1_10, pq_1_11, pq_1_4] (by rfl) (by decide +kernel)) ggX8_keep_X8_isThrown
set_option maxRecDepth 20000 in
theorem ggX8_keep_X8_textOf : GoodIn wsX8_keep wsX8_textOf := goodIn_s seX8_keep _ [pq_1_17, pq_1_18, pq_1_1, pq_1_19, pq_1_20, pq_1_21, pq_1_22, pq_1_4, pq_1_23, pq_1_0, pq_2_0, pq_2_1, pq_2_2, pq_2_3, pq_3_0, pq_3_1, pq_3_2, pq_3_3, pq_3_4, pq_3_5, pq_3_6, pq_3_7, pq_3_8, pq_3_9, pq_3_10] (by rfl) (by decide +kernel)
set_option maxRecDepth 20000 in
theorem gX8_keep_X8_textOf : GoodIn wsX8_keep (wsV RX8 122 RX8 yX8_textOf wsX8_textOf) := goodIn_app (goodIn_s seX8_keep _ [pq_1_14, pq_1_15, pq_1_16, pq_1_4] (by rfl) (by decide +kernel)) ggX8_keep_X8_textOf
set_option maxRecDepth 20000 in
theorem ggX8_keep_X8_joined : GoodIn wsX8_keep wsX8_joined := goodIn_s seX8_keep _ [pq_2_6, pq_1_0] (by rfl) (by decide +kernel)
set_option maxRecDepth 20000 in
theorem gX8_keep_X8_joined : GoodIn wsX8_keep (va_wsS RX8 125 yX8_joined wsX8_joined) := goodIn_app (goodIn_s seX8_keep _ [pq_2_4, pq_2_5, pq_1_4] (by rfl) (by decide +kernel)) ggX8_keep_X8_joined
set_option maxRecDepth 20000 in
theorem ggX8_keep_X8_done : GoodIn wsX8_keep wsX8_done := goodIn_s seX8_keep _ [pq_2_10, pq_2_11, pq_3_0, pq_3_1, pq_3_2, pq_3_3, pq_3_4, pq_3_5, pq_3_6, pq_3_7, pq_3_8, pq_3_9, pq_3_10] (by rfl) (by decide +kernel)
set_option maxRecDepth 20000 in
theorem gX8_keep_X8_done : GoodIn wsX8_keep (wsV RX8 62 RX8 yX8_done wsX8_done) := goodIn_app (goodIn_s seX8_keep _ [pq_2_7, pq_2_8, pq_2_9, pq_1_4] (by rfl) (by decide +kernel)) ggX8_keep_X8_done
def lb_sgX8_keep : List (List UInt8) := [[42, 27, 184, 0, 119, 3, 182, 0, 81, 153, 0, 5, 3, 172, 42, 42], [27, 182, 0, 122, 3, 188, 10, 184, 0, 125, 181, 0, 21, 42, 42, 180], [0, 21, 190, 182, 0, 62, 172]]
set_option maxRecDepth 100000 in
theorem lb_seX8_keep : cX8_keep.data.toList = lb_sgX8_keep.flatten := by decide +kernel
theorem lb_lnX8_keep : ∀ s ∈ lb_sgX8_keep.dropLast, s.length = 16 := by decide +kernel
theorem lxX8_keep (k j : Nat) {b : UInt8} (h : (lb_sgX8_keep[k]?).bind (fun s => s[j]?) = some b) : lb_at cX8_keep (16 * k + j) b := by
  unfold lb_at
  rw [lb_seX8_keep]
  exact lb_flat 16 lb_sgX8_keep k j b lb_lnX8_keep h
set_option maxRecDepth 20000 in
theorem dX8_keep_0 : decode cX8_keep 0 = .ok (.aload_n 0, 1) := dc_42 (lxX8_keep 0 0 rfl)
set_option maxRecDepth 20000 in
theorem dX8_keep_1 : decode cX8_keep 1 = .ok (.iload_n 1, 1) := dc_27 (lxX8_keep 0 1 rfl)
set_option maxRecDepth 20000 in
theorem dX8_keep_2 : decode cX8_keep 2 = .ok (.invokestatic 119, 3) := dc_184 0 119 (lxX8_keep 0 2 rfl) (lxX8_keep 0 3 rfl) (lxX8_keep 0 4 rfl)
set_option maxRecDepth 20000 in
theorem dX8_keep_5 : decode cX8_keep 5 = .ok (.iconst 0, 1) := dc_3 (lxX8_keep 0 5 rfl)
set_option maxRecDepth 20000 in
theorem dX8_keep_6 : decode cX8_keep 6 = .ok (.invokevirtual 81, 3) := dc_182 0 81 (lxX8_keep 0 6 rfl) (lxX8_keep 0 7 rfl) (lxX8_keep 0 8 rfl)
set_option maxRecDepth 20000 in
theorem dX8_keep_9 : decode cX8_keep 9 = .ok (.ifCond .eq 5, 3) := dc_153 0 5 (lxX8_keep 0 9 rfl) (lxX8_keep 0 10 rfl) (lxX8_keep 0 11 rfl)
set_option maxRecDepth 20000 in
theorem dX8_keep_12 : decode cX8_keep 12 = .ok (.iconst 0, 1) := dc_3 (lxX8_keep 0 12 rfl)
set_option maxRecDepth 20000 in
theorem dX8_keep_13 : decode cX8_keep 13 = .ok (.ireturn, 1) := dc_172 (lxX8_keep 0 13 rfl)
set_option maxRecDepth 20000 in
theorem dX8_keep_14 : decode cX8_keep 14 = .ok (.aload_n 0, 1) := dc_42 (lxX8_keep 0 14 rfl)
set_option maxRecDepth 20000 in
theorem dX8_keep_15 : decode cX8_keep 15 = .ok (.aload_n 0, 1) := dc_42 (lxX8_keep 0 15 rfl)
set_option maxRecDepth 20000 in
theorem dX8_keep_16 : decode cX8_keep 16 = .ok (.iload_n 1, 1) := dc_27 (lxX8_keep 1 0 rfl)
set_option maxRecDepth 20000 in
theorem dX8_keep_17 : decode cX8_keep 17 = .ok (.invokevirtual 122, 3) := dc_182 0 122 (lxX8_keep 1 1 rfl) (lxX8_keep 1 2 rfl) (lxX8_keep 1 3 rfl)
set_option maxRecDepth 20000 in
theorem dX8_keep_20 : decode cX8_keep 20 = .ok (.iconst 0, 1) := dc_3 (lxX8_keep 1 4 rfl)
theorem dX8_keep_21 : decode cX8_keep 21 = .ok (.newarray .int, 2) := by decide +kernel
set_option maxRecDepth 20000 in
theorem dX8_keep_23 : decode cX8_keep 23 = .ok (.invokestatic 125, 3) := dc_184 0 125 (lxX8_keep 1 7 rfl) (lxX8_keep 1 8 rfl) (lxX8_keep 1 9 rfl)
set_option maxRecDepth 20000 in
theorem dX8_keep_26 : decode cX8_keep 26 = .ok (.putfield 21, 3) := dc_181 0 21 (lxX8_keep 1 10 rfl) (lxX8_keep 1 11 rfl) (lxX8_keep 1 12 rfl)
set_option maxRecDepth 20000 in
theorem dX8_keep_29 : decode cX8_keep 29 = .ok (.aload_n 0, 1) := dc_42 (lxX8_keep 1 13 rfl)
set_option maxRecDepth 20000 in
theorem dX8_keep_30 : decode cX8_keep 30 = .ok (.aload_n 0, 1) := dc_42 (lxX8_keep 1 14 rfl)
set_option maxRecDepth 20000 in
theorem dX8_keep_31 : decode cX8_keep 31 = .ok (.getfield 21, 3) := dc_180 0 21 (lxX8_keep 1 15 rfl) (lxX8_keep 2 0 rfl) (lxX8_keep 2 1 rfl)
set_option maxRecDepth 20000 in
theorem dX8_keep_34 : decode cX8_keep 34 = .ok (.arraylength, 1) := dc_190 (lxX8_keep 2 2 rfl)
set_option maxRecDepth 20000 in
theorem dX8_keep_35 : decode cX8_keep 35 = .ok (.invokevirtual 62, 3) := dc_182 0 62 (lxX8_keep 2 3 rfl) (lxX8_keep 2 4 rfl) (lxX8_keep 2 5 rfl)
set_option maxRecDepth 20000 in
theorem dX8_keep_38 : decode cX8_keep 38 = .ok (.ireturn, 1) := dc_172 (lxX8_keep 2 6 rfl)
noncomputable def sgX8_load : List (List Cond) := [[.code yX8_load cX8_load 2 (some .int)], wsX8_load_r1, wsX8_load_r2, wsX80]
theorem seX8_load : sgX8_load.flatten = wsX8_load := by simp only [sgX8_load, wsX8_load, List.flatten_cons, List.flatten_nil, List.append_assoc, List.append_nil, List.cons_append, List.nil_append]
set_option maxRecDepth 20000 in
theorem ggX8_load_X8_isNoSource : GoodIn wsX8_load wsX8_isNoSource := goodIn_s seX8_load _ [pq_1_5, pq_1_6, pq_1_7, pq_1_4, pq_1_8] (by rfl) (by decide +kernel)
set_option maxRecDepth 20000 in
theorem gX8_load_X8_isNoSource : GoodIn wsX8_load (va_wsS RX8 119 yX8_isNoSource wsX8_isNoSource) := goodIn_app (goodIn_s seX8_load _ [pq_1_2, pq_1_3, pq_1_4] (by rfl) (by decide +kernel)) ggX8_load_X8_isNoSource
set_option maxRecDepth 20000 in
theorem ggX8_load_X8_isThrown : GoodIn wsX8_load wsX8_isThrown := goodIn_s seX8_load _ [pq_1_12, pq_1_13, pq_3_0, pq_3_1, pq_3_2, pq_3_3, pq_3_4, pq_3_5, pq_3_6, pq_3_7, pq_3_8, pq_3_9, pq_3_10] (by rfl) (by decide +kernel)
set_option maxRecDepth 20000 in
theorem gX8_load_X8_isThrown : GoodIn wsX8_load (wsV RX8 81 RX8 yX8_isThrown wsX8_isThrown) := goodIn_app (goodIn_s seX8_load _ [pq_1_9, pq_1_10, pq_1_11, pq_1_4] (by rfl) (by decide +kernel)) ggX8_load_X8_isThrown
set_option maxRecDepth 20000 in
theorem ggX8_load_X8_textOf : GoodIn wsX8_load wsX8_textOf := goodIn_s seX8_load _ [pq_1_17, pq_1_1, pq_1_18, pq_1_19, pq_1_20, pq_1_21, pq_1_22, pq_1_4, pq_1_23, pq_1_0, pq_2_0, pq_2_1, pq_2_2, pq_2_3, pq_3_0, pq_3_1, pq_3_2, pq_3_3, pq_3_4, pq_3_5, pq_3_6, pq_3_7, pq_3_8, pq_3_9, pq_3_10] (by rfl) (by decide +kernel)
set_option maxRecDepth 20000 in
theorem gX8_load_X8_textOf : GoodIn wsX8_load (wsV RX8 122 RX8 yX8_textOf wsX8_textOf) := goodIn_app (goodIn_s seX8_load _ [pq_1_14, pq_1_15, pq_1_16, pq_1_4] (by rfl) (by decide +kernel)) ggX8_load_X8_textOf
set_option maxRecDepth 20000 in
theorem ggX8_load_X8_joined : GoodIn wsX8_load wsX8_joined := goodIn_s seX8_load _ [pq_2_6, pq_1_0] (by rfl) (by decide +kernel)
set_option maxRecDepth 20000 in
theorem gX8_load_X8_joined : GoodIn wsX8_load (va_wsS RX8 125 yX8_joined wsX8_joined) := goodIn_app (goodIn_s seX8_load _ [pq_2_4, pq_2_5, pq_1_4] (by rfl) (by decide +kernel)) ggX8_load_X8_joined
set_option maxRecDepth 20000 in
theorem ggX8_load_X8_done : GoodIn wsX8_load wsX8_done := goodIn_s seX8_load _ [pq_2_10, pq_2_11, pq_3_0, pq_3_1, pq_3_2, pq_3_3, pq_3_4, pq_3_5, pq_3_6, pq_3_7, pq_3_8, pq_3_9, pq_3_10] (by rfl) (by decide +kernel)
set_option maxRecDepth 20000 in
theorem gX8_load_X8_done : GoodIn wsX8_load (wsV RX8 62 RX8 yX8_done wsX8_done) := goodIn_app (goodIn_s seX8_load _ [pq_2_7, pq_2_8, pq_2_9, pq_1_4] (by rfl) (by decide +kernel)) ggX8_load_X8_done
def lb_sgX8_load : List (List UInt8) := [[42, 27, 184, 0, 119, 3, 182, 0, 81, 153, 0, 5, 3, 172, 42, 42], [27, 182, 0, 122, 3, 188, 10, 184, 0, 125, 181, 0, 18, 42, 42, 180], [0, 18, 190, 182, 0, 62, 172]]
set_option maxRecDepth 100000 in
theorem lb_seX8_load : cX8_load.data.toList = lb_sgX8_load.flatten := by decide +kernel
theorem lb_lnX8_load : ∀ s ∈ lb_sgX8_load.dropLast, s.length = 16 := by decide +kernel
theorem lxX8_load (k j : Nat) {b : UInt8} (h : (lb_sgX8_load[k]?).bind (fun s => s[j]?) = some b) : lb_at cX8_load (16 * k + j) b := by
  unfold lb_at
  rw [lb_seX8_load]
  exact lb_flat 16 lb_sgX8_load k j b lb_lnX8_load h
set_option maxRecDepth 20000 in
theorem dX8_load_0 : decode cX8_load 0 = .ok (.aload_n 0, 1) := dc_42 (lxX8_load 0 0 rfl)
set_option maxRecDepth 20000 in
theorem dX8_load_1 : decode cX8_load 1 = .ok (.iload_n 1, 1) := dc_27 (lxX8_load 0 1 rfl)
set_option maxRecDepth 20000 in
theorem dX8_load_2 : decode cX8_load 2 = .ok (.invokestatic 119, 3) := dc_184 0 119 (lxX8_load 0 2 rfl) (lxX8_load 0 3 rfl) (lxX8_load 0 4 rfl)
set_option maxRecDepth 20000 in
theorem dX8_load_5 : decode cX8_load 5 = .ok (.iconst 0, 1) := dc_3 (lxX8_load 0 5 rfl)
set_option maxRecDepth 20000 in
theorem dX8_load_6 : decode cX8_load 6 = .ok (.invokevirtual 81, 3) := dc_182 0 81 (lxX8_load 0 6 rfl) (lxX8_load 0 7 rfl) (lxX8_load 0 8 rfl)
set_option maxRecDepth 20000 in
theorem dX8_load_9 : decode cX8_load 9 = .ok (.ifCond .eq 5, 3) := dc_153 0 5 (lxX8_load 0 9 rfl) (lxX8_load 0 10 rfl) (lxX8_load 0 11 rfl)
set_option maxRecDepth 20000 in
theorem dX8_load_12 : decode cX8_load 12 = .ok (.iconst 0, 1) := dc_3 (lxX8_load 0 12 rfl)
set_option maxRecDepth 20000 in
theorem dX8_load_13 : decode cX8_load 13 = .ok (.ireturn, 1) := dc_172 (lxX8_load 0 13 rfl)
set_option maxRecDepth 20000 in
theorem dX8_load_14 : decode cX8_load 14 = .ok (.aload_n 0, 1) := dc_42 (lxX8_load 0 14 rfl)
set_option maxRecDepth 20000 in
theorem dX8_load_15 : decode cX8_load 15 = .ok (.aload_n 0, 1) := dc_42 (lxX8_load 0 15 rfl)
set_option maxRecDepth 20000 in
theorem dX8_load_16 : decode cX8_load 16 = .ok (.iload_n 1, 1) := dc_27 (lxX8_load 1 0 rfl)
set_option maxRecDepth 20000 in
theorem dX8_load_17 : decode cX8_load 17 = .ok (.invokevirtual 122, 3) := dc_182 0 122 (lxX8_load 1 1 rfl) (lxX8_load 1 2 rfl) (lxX8_load 1 3 rfl)
set_option maxRecDepth 20000 in
theorem dX8_load_20 : decode cX8_load 20 = .ok (.iconst 0, 1) := dc_3 (lxX8_load 1 4 rfl)
theorem dX8_load_21 : decode cX8_load 21 = .ok (.newarray .int, 2) := by decide +kernel
set_option maxRecDepth 20000 in
theorem dX8_load_23 : decode cX8_load 23 = .ok (.invokestatic 125, 3) := dc_184 0 125 (lxX8_load 1 7 rfl) (lxX8_load 1 8 rfl) (lxX8_load 1 9 rfl)
set_option maxRecDepth 20000 in
theorem dX8_load_26 : decode cX8_load 26 = .ok (.putfield 18, 3) := dc_181 0 18 (lxX8_load 1 10 rfl) (lxX8_load 1 11 rfl) (lxX8_load 1 12 rfl)
set_option maxRecDepth 20000 in
theorem dX8_load_29 : decode cX8_load 29 = .ok (.aload_n 0, 1) := dc_42 (lxX8_load 1 13 rfl)
set_option maxRecDepth 20000 in
theorem dX8_load_30 : decode cX8_load 30 = .ok (.aload_n 0, 1) := dc_42 (lxX8_load 1 14 rfl)
set_option maxRecDepth 20000 in
theorem dX8_load_31 : decode cX8_load 31 = .ok (.getfield 18, 3) := dc_180 0 18 (lxX8_load 1 15 rfl) (lxX8_load 2 0 rfl) (lxX8_load 2 1 rfl)
set_option maxRecDepth 20000 in
theorem dX8_load_34 : decode cX8_load 34 = .ok (.arraylength, 1) := dc_190 (lxX8_load 2 2 rfl)
set_option maxRecDepth 20000 in
theorem dX8_load_35 : decode cX8_load 35 = .ok (.invokevirtual 62, 3) := dc_182 0 62 (lxX8_load 2 3 rfl) (lxX8_load 2 4 rfl) (lxX8_load 2 5 rfl)
set_option maxRecDepth 20000 in
theorem dX8_load_38 : decode cX8_load 38 = .ok (.ireturn, 1) := dc_172 (lxX8_load 2 6 rfl)
noncomputable def sgX8_build : List (List Cond) := [[.code yX8_build cX8_build 3 (some .int)], wsX8_build_r1, wsX8_build_r2, wsX80]
theorem seX8_build : sgX8_build.flatten = wsX8_build := by simp only [sgX8_build, wsX8_build, List.flatten_cons, List.flatten_nil, List.append_assoc, List.append_nil, List.cons_append, List.nil_append]
set_option maxRecDepth 20000 in
theorem ggX8_build_X8_isNoSource : GoodIn wsX8_build wsX8_isNoSource := goodIn_s seX8_build _ [pq_1_4, pq_1_5, pq_1_6, pq_1_3, pq_1_7] (by rfl) (by decide +kernel)
set_option maxRecDepth 20000 in
theorem gX8_build_X8_isNoSource : GoodIn wsX8_build (va_wsS RX8 119 yX8_isNoSource wsX8_isNoSource) := goodIn_app (goodIn_s seX8_build _ [pq_1_1, pq_1_2, pq_1_3] (by rfl) (by decide +kernel)) ggX8_build_X8_isNoSource
set_option maxRecDepth 20000 in
theorem ggX8_build_X8_isThrown : GoodIn wsX8_build wsX8_isThrown := goodIn_s seX8_build _ [pq_1_11, pq_1_12, pq_3_0, pq_3_1, pq_3_2, pq_3_3, pq_3_4, pq_3_5, pq_3_6, pq_3_7, pq_3_8, pq_3_9, pq_3_10] (by rfl) (by decide +kernel)
set_option maxRecDepth 20000 in
theorem gX8_build_X8_isThrown : GoodIn wsX8_build (wsV RX8 81 RX8 yX8_isThrown wsX8_isThrown) := goodIn_app (goodIn_s seX8_build _ [pq_1_8, pq_1_9, pq_1_10, pq_1_3] (by rfl) (by decide +kernel)) ggX8_build_X8_isThrown
set_option maxRecDepth 20000 in
theorem ggX8_build_X8_textOf : GoodIn wsX8_build wsX8_textOf := goodIn_s seX8_build _ [pq_1_16, pq_1_0, pq_1_17, pq_1_18, pq_1_19, pq_1_20, pq_1_21, pq_1_3, pq_1_22, pq_1_23, pq_2_0, pq_2_1, pq_2_2, pq_2_3, pq_3_0, pq_3_1, pq_3_2, pq_3_3, pq_3_4, pq_3_5, pq_3_6, pq_3_7, pq_3_8, pq_3_9, pq_3_10] (by rfl) (by decide +kernel)
set_option maxRecDepth 20000 in
theorem gX8_build_X8_textOf : GoodIn wsX8_build (wsV RX8 122 RX8 yX8_textOf wsX8_textOf) := goodIn_app (goodIn_s seX8_build _ [pq_1_13, pq_1_14, pq_1_15, pq_1_3] (by rfl) (by decide +kernel)) ggX8_build_X8_textOf
set_option maxRecDepth 20000 in
theorem ggX8_build_X8_joined : GoodIn wsX8_build wsX8_joined := goodIn_s seX8_build _ [pq_2_6, pq_1_23] (by rfl) (by decide +kernel)
set_option maxRecDepth 20000 in
theorem gX8_build_X8_joined : GoodIn wsX8_build (va_wsS RX8 125 yX8_joined wsX8_joined) := goodIn_app (goodIn_s seX8_build _ [pq_2_4, pq_2_5, pq_1_3] (by rfl) (by decide +kernel)) ggX8_build_X8_joined
set_option maxRecDepth 20000 in
theorem ggX8_build_X8_done : GoodIn wsX8_build wsX8_done := goodIn_s seX8_build _ [pq_2_10, pq_2_11, pq_3_0, pq_3_1, pq_3_2, pq_3_3, pq_3_4, pq_3_5, pq_3_6, pq_3_7, pq_3_8, pq_3_9, pq_3_10] (by rfl) (by decide +kernel)
set_option maxRecDepth 20000 in
theorem gX8_build_X8_done : GoodIn wsX8_build (wsV RX8 62 RX8 yX8_done wsX8_done) := goodIn_app (goodIn_s seX8_build _ [pq_2_7, pq_2_8, pq_2_9, pq_1_3] (by rfl) (by decide +kernel)) ggX8_build_X8_done
def lb_sgX8_build : List (List UInt8) := [[42, 27, 184, 0, 119, 3, 182, 0, 81, 153, 0, 5, 3, 172, 42, 27], [182, 0, 122, 77, 42, 3, 42, 180, 0, 18, 190, 44, 190, 96, 16, 80], [164, 0, 7, 4, 167, 0, 4, 3, 182, 0, 81, 153, 0, 5, 3, 172], [42, 42, 180, 0, 18, 44, 184, 0, 125, 181, 0, 18, 42, 42, 180, 0], [18, 190, 182, 0, 62, 172]]
set_option maxRecDepth 100000 in
theorem lb_seX8_build : cX8_build.data.toList = lb_sgX8_build.flatten := by decide +kernel
theorem lb_lnX8_build : ∀ s ∈ lb_sgX8_build.dropLast, s.length = 16 := by decide +kernel
theorem lxX8_build (k j : Nat) {b : UInt8} (h : (lb_sgX8_build[k]?).bind (fun s => s[j]?) = some b) : lb_at cX8_build (16 * k + j) b := by
  unfold lb_at
  rw [lb_seX8_build]
  exact lb_flat 16 lb_sgX8_build k j b lb_lnX8_build h
set_option maxRecDepth 20000 in
theorem dX8_build_0 : decode cX8_build 0 = .ok (.aload_n 0, 1) := dc_42 (lxX8_build 0 0 rfl)
set_option maxRecDepth 20000 in
theorem dX8_build_1 : decode cX8_build 1 = .ok (.iload_n 1, 1) := dc_27 (lxX8_build 0 1 rfl)
set_option maxRecDepth 20000 in
theorem dX8_build_2 : decode cX8_build 2 = .ok (.invokestatic 119, 3) := dc_184 0 119 (lxX8_build 0 2 rfl) (lxX8_build 0 3 rfl) (lxX8_build 0 4 rfl)
set_option maxRecDepth 20000 in
theorem dX8_build_5 : decode cX8_build 5 = .ok (.iconst 0, 1) := dc_3 (lxX8_build 0 5 rfl)
set_option maxRecDepth 20000 in
theorem dX8_build_6 : decode cX8_build 6 = .ok (.invokevirtual 81, 3) := dc_182 0 81 (lxX8_build 0 6 rfl) (lxX8_build 0 7 rfl) (lxX8_build 0 8 rfl)
set_option maxRecDepth 20000 in
theorem dX8_build_9 : decode cX8_build 9 = .ok (.ifCond .eq 5, 3) := dc_153 0 5 (lxX8_build 0 9 rfl) (lxX8_build 0 10 rfl) (lxX8_build 0 11 rfl)
set_option maxRecDepth 20000 in
theorem dX8_build_12 : decode cX8_build 12 = .ok (.iconst 0, 1) := dc_3 (lxX8_build 0 12 rfl)
set_option maxRecDepth 20000 in
theorem dX8_build_13 : decode cX8_build 13 = .ok (.ireturn, 1) := dc_172 (lxX8_build 0 13 rfl)
set_option maxRecDepth 20000 in
theorem dX8_build_14 : decode cX8_build 14 = .ok (.aload_n 0, 1) := dc_42 (lxX8_build 0 14 rfl)
set_option maxRecDepth 20000 in
theorem dX8_build_15 : decode cX8_build 15 = .ok (.iload_n 1, 1) := dc_27 (lxX8_build 0 15 rfl)
set_option maxRecDepth 20000 in
theorem dX8_build_16 : decode cX8_build 16 = .ok (.invokevirtual 122, 3) := dc_182 0 122 (lxX8_build 1 0 rfl) (lxX8_build 1 1 rfl) (lxX8_build 1 2 rfl)
set_option maxRecDepth 20000 in
theorem dX8_build_19 : decode cX8_build 19 = .ok (.astore_n 2, 1) := dc_77 (lxX8_build 1 3 rfl)
set_option maxRecDepth 20000 in
theorem dX8_build_20 : decode cX8_build 20 = .ok (.aload_n 0, 1) := dc_42 (lxX8_build 1 4 rfl)
set_option maxRecDepth 20000 in
theorem dX8_build_21 : decode cX8_build 21 = .ok (.iconst 0, 1) := dc_3 (lxX8_build 1 5 rfl)
set_option maxRecDepth 20000 in
theorem dX8_build_22 : decode cX8_build 22 = .ok (.aload_n 0, 1) := dc_42 (lxX8_build 1 6 rfl)
set_option maxRecDepth 20000 in
theorem dX8_build_23 : decode cX8_build 23 = .ok (.getfield 18, 3) := dc_180 0 18 (lxX8_build 1 7 rfl) (lxX8_build 1 8 rfl) (lxX8_build 1 9 rfl)
set_option maxRecDepth 20000 in
theorem dX8_build_26 : decode cX8_build 26 = .ok (.arraylength, 1) := dc_190 (lxX8_build 1 10 rfl)
set_option maxRecDepth 20000 in
theorem dX8_build_27 : decode cX8_build 27 = .ok (.aload_n 2, 1) := dc_44 (lxX8_build 1 11 rfl)
set_option maxRecDepth 20000 in
theorem dX8_build_28 : decode cX8_build 28 = .ok (.arraylength, 1) := dc_190 (lxX8_build 1 12 rfl)
set_option maxRecDepth 20000 in
theorem dX8_build_29 : decode cX8_build 29 = .ok (.iadd, 1) := dc_96 (lxX8_build 1 13 rfl)
set_option maxRecDepth 20000 in
theorem dX8_build_30 : decode cX8_build 30 = .ok (.bipush 80, 2) := dc_16 80 (lxX8_build 1 14 rfl) (lxX8_build 1 15 rfl)
set_option maxRecDepth 20000 in
theorem dX8_build_32 : decode cX8_build 32 = .ok (.if_icmp .le 7, 3) := dc_164 0 7 (lxX8_build 2 0 rfl) (lxX8_build 2 1 rfl) (lxX8_build 2 2 rfl)
set_option maxRecDepth 20000 in
theorem dX8_build_35 : decode cX8_build 35 = .ok (.iconst 1, 1) := dc_4 (lxX8_build 2 3 rfl)
set_option maxRecDepth 20000 in
theorem dX8_build_36 : decode cX8_build 36 = .ok (.goto 4, 3) := dc_167 0 4 (lxX8_build 2 4 rfl) (lxX8_build 2 5 rfl) (lxX8_build 2 6 rfl)
set_option maxRecDepth 20000 in
theorem dX8_build_39 : decode cX8_build 39 = .ok (.iconst 0, 1) := dc_3 (lxX8_build 2 7 rfl)
set_option maxRecDepth 20000 in
theorem dX8_build_40 : decode cX8_build 40 = .ok (.invokevirtual 81, 3) := dc_182 0 81 (lxX8_build 2 8 rfl) (lxX8_build 2 9 rfl) (lxX8_build 2 10 rfl)
set_option maxRecDepth 20000 in
theorem dX8_build_43 : decode cX8_build 43 = .ok (.ifCond .eq 5, 3) := dc_153 0 5 (lxX8_build 2 11 rfl) (lxX8_build 2 12 rfl) (lxX8_build 2 13 rfl)
set_option maxRecDepth 20000 in
theorem dX8_build_46 : decode cX8_build 46 = .ok (.iconst 0, 1) := dc_3 (lxX8_build 2 14 rfl)
set_option maxRecDepth 20000 in
theorem dX8_build_47 : decode cX8_build 47 = .ok (.ireturn, 1) := dc_172 (lxX8_build 2 15 rfl)
set_option maxRecDepth 20000 in
theorem dX8_build_48 : decode cX8_build 48 = .ok (.aload_n 0, 1) := dc_42 (lxX8_build 3 0 rfl)
set_option maxRecDepth 20000 in
theorem dX8_build_49 : decode cX8_build 49 = .ok (.aload_n 0, 1) := dc_42 (lxX8_build 3 1 rfl)
set_option maxRecDepth 20000 in
theorem dX8_build_50 : decode cX8_build 50 = .ok (.getfield 18, 3) := dc_180 0 18 (lxX8_build 3 2 rfl) (lxX8_build 3 3 rfl) (lxX8_build 3 4 rfl)
set_option maxRecDepth 20000 in
theorem dX8_build_53 : decode cX8_build 53 = .ok (.aload_n 2, 1) := dc_44 (lxX8_build 3 5 rfl)
set_option maxRecDepth 20000 in
theorem dX8_build_54 : decode cX8_build 54 = .ok (.invokestatic 125, 3) := dc_184 0 125 (lxX8_build 3 6 rfl) (lxX8_build 3 7 rfl) (lxX8_build 3 8 rfl)
set_option maxRecDepth 20000 in
theorem dX8_build_57 : decode cX8_build 57 = .ok (.putfield 18, 3) := dc_181 0 18 (lxX8_build 3 9 rfl) (lxX8_build 3 10 rfl) (lxX8_build 3 11 rfl)
set_option maxRecDepth 20000 in
theorem dX8_build_60 : decode cX8_build 60 = .ok (.aload_n 0, 1) := dc_42 (lxX8_build 3 12 rfl)
set_option maxRecDepth 20000 in
theorem dX8_build_61 : decode cX8_build 61 = .ok (.aload_n 0, 1) := dc_42 (lxX8_build 3 13 rfl)
set_option maxRecDepth 20000 in
theorem dX8_build_62 : decode cX8_build 62 = .ok (.getfield 18, 3) := dc_180 0 18 (lxX8_build 3 14 rfl) (lxX8_build 3 15 rfl) (lxX8_build 4 0 rfl)
set_option maxRecDepth 20000 in
theorem dX8_build_65 : decode cX8_build 65 = .ok (.arraylength, 1) := dc_190 (lxX8_build 4 1 rfl)
set_option maxRecDepth 20000 in
theorem dX8_build_66 : decode cX8_build 66 = .ok (.invokevirtual 62, 3) := dc_182 0 62 (lxX8_build 4 2 rfl) (lxX8_build 4 3 rfl) (lxX8_build 4 4 rfl)
set_option maxRecDepth 20000 in
theorem dX8_build_69 : decode cX8_build 69 = .ok (.ireturn, 1) := dc_172 (lxX8_build 4 5 rfl)
noncomputable def sgX8_turn : List (List Cond) := [[.code yX8_turn cX8_turn 3 (some .int)], [.fieldLink RX8 18 "SashwordsModel" "built" "[I", .arrayClass .int, .methodLink RX8 81 yX8_isThrown, .instanceMethod yX8_isThrown, .selects RX8 yX8_isThrown yX8_isThrown, .initialized RX8, .code yX8_isThrown cX8_isThrown 3 (some .boolean), .fieldLink RX8 38 "SashwordsModel" "thrown" "I", .methodLink RX8 62 yX8_done, .instanceMethod yX8_done, .selects RX8 yX8_done yX8_done, .code yX8_done cX8_done 2 (some .int), .fieldLink RX8 31 "SashwordsModel" "tallies" "[I"], wsX80]
theorem seX8_turn : sgX8_turn.flatten = wsX8_turn := by simp only [sgX8_turn, wsX8_turn, List.flatten_cons, List.flatten_nil, List.append_assoc, List.append_nil, List.cons_append, List.nil_append]
set_option maxRecDepth 20000 in
theorem ggX8_turn_X8_isThrown : GoodIn wsX8_turn wsX8_isThrown := goodIn_s seX8_turn _ [pq_1_6, pq_1_7, pq_2_0, pq_2_1, pq_2_2, pq_2_3, pq_2_4, pq_2_5, pq_2_6, pq_2_7, pq_2_8, pq_2_9, pq_2_10] (by rfl) (by decide +kernel)
set_option maxRecDepth 20000 in
theorem gX8_turn_X8_isThrown : GoodIn wsX8_turn (wsV RX8 81 RX8 yX8_isThrown wsX8_isThrown) := goodIn_app (goodIn_s seX8_turn _ [pq_1_2, pq_1_3, pq_1_4, pq_1_5] (by rfl) (by decide +kernel)) ggX8_turn_X8_isThrown
set_option maxRecDepth 20000 in
theorem ggX8_turn_X8_done : GoodIn wsX8_turn wsX8_done := goodIn_s seX8_turn _ [pq_1_11, pq_1_12, pq_2_0, pq_2_1, pq_2_2, pq_2_3, pq_2_4, pq_2_5, pq_2_6, pq_2_7, pq_2_8, pq_2_9, pq_2_10] (by rfl) (by decide +kernel)
set_option maxRecDepth 20000 in
theorem gX8_turn_X8_done : GoodIn wsX8_turn (wsV RX8 62 RX8 yX8_done wsX8_done) := goodIn_app (goodIn_s seX8_turn _ [pq_1_8, pq_1_9, pq_1_10, pq_1_5] (by rfl) (by decide +kernel)) ggX8_turn_X8_done
def lb_sgX8_turn : List (List UInt8) := [[42, 3, 3, 182, 0, 81, 87, 42, 180, 0, 18, 190, 188, 10, 76, 3], [61, 28, 43, 190, 162, 0, 23, 43, 28, 42, 180, 0, 18, 43, 190, 4], [100, 28, 100, 46, 79, 132, 2, 1, 167, 255, 233, 42, 43, 181, 0, 18], [42, 43, 190, 182, 0, 62, 172]]
set_option maxRecDepth 100000 in
theorem lb_seX8_turn : cX8_turn.data.toList = lb_sgX8_turn.flatten := by decide +kernel
theorem lb_lnX8_turn : ∀ s ∈ lb_sgX8_turn.dropLast, s.length = 16 := by decide +kernel
theorem lxX8_turn (k j : Nat) {b : UInt8} (h : (lb_sgX8_turn[k]?).bind (fun s => s[j]?) = some b) : lb_at cX8_turn (16 * k + j) b := by
  unfold lb_at
  rw [lb_seX8_turn]
  exact lb_flat 16 lb_sgX8_turn k j b lb_lnX8_turn h
set_option maxRecDepth 20000 in
theorem dX8_turn_0 : decode cX8_turn 0 = .ok (.aload_n 0, 1) := dc_42 (lxX8_turn 0 0 rfl)
set_option maxRecDepth 20000 in
theorem dX8_turn_1 : decode cX8_turn 1 = .ok (.iconst 0, 1) := dc_3 (lxX8_turn 0 1 rfl)
set_option maxRecDepth 20000 in
theorem dX8_turn_2 : decode cX8_turn 2 = .ok (.iconst 0, 1) := dc_3 (lxX8_turn 0 2 rfl)
set_option maxRecDepth 20000 in
theorem dX8_turn_3 : decode cX8_turn 3 = .ok (.invokevirtual 81, 3) := dc_182 0 81 (lxX8_turn 0 3 rfl) (lxX8_turn 0 4 rfl) (lxX8_turn 0 5 rfl)
set_option maxRecDepth 20000 in
theorem dX8_turn_6 : decode cX8_turn 6 = .ok (.pop, 1) := dc_87 (lxX8_turn 0 6 rfl)
set_option maxRecDepth 20000 in
theorem dX8_turn_7 : decode cX8_turn 7 = .ok (.aload_n 0, 1) := dc_42 (lxX8_turn 0 7 rfl)
set_option maxRecDepth 20000 in
theorem dX8_turn_8 : decode cX8_turn 8 = .ok (.getfield 18, 3) := dc_180 0 18 (lxX8_turn 0 8 rfl) (lxX8_turn 0 9 rfl) (lxX8_turn 0 10 rfl)
set_option maxRecDepth 20000 in
theorem dX8_turn_11 : decode cX8_turn 11 = .ok (.arraylength, 1) := dc_190 (lxX8_turn 0 11 rfl)
theorem dX8_turn_12 : decode cX8_turn 12 = .ok (.newarray .int, 2) := by decide +kernel
set_option maxRecDepth 20000 in
theorem dX8_turn_14 : decode cX8_turn 14 = .ok (.astore_n 1, 1) := dc_76 (lxX8_turn 0 14 rfl)
set_option maxRecDepth 20000 in
theorem dX8_turn_15 : decode cX8_turn 15 = .ok (.iconst 0, 1) := dc_3 (lxX8_turn 0 15 rfl)
set_option maxRecDepth 20000 in
theorem dX8_turn_16 : decode cX8_turn 16 = .ok (.istore_n 2, 1) := dc_61 (lxX8_turn 1 0 rfl)
set_option maxRecDepth 20000 in
theorem dX8_turn_17 : decode cX8_turn 17 = .ok (.iload_n 2, 1) := dc_28 (lxX8_turn 1 1 rfl)
set_option maxRecDepth 20000 in
theorem dX8_turn_18 : decode cX8_turn 18 = .ok (.aload_n 1, 1) := dc_43 (lxX8_turn 1 2 rfl)
set_option maxRecDepth 20000 in
theorem dX8_turn_19 : decode cX8_turn 19 = .ok (.arraylength, 1) := dc_190 (lxX8_turn 1 3 rfl)
set_option maxRecDepth 20000 in
theorem dX8_turn_20 : decode cX8_turn 20 = .ok (.if_icmp .ge 23, 3) := dc_162 0 23 (lxX8_turn 1 4 rfl) (lxX8_turn 1 5 rfl) (lxX8_turn 1 6 rfl)
set_option maxRecDepth 20000 in
theorem dX8_turn_23 : decode cX8_turn 23 = .ok (.aload_n 1, 1) := dc_43 (lxX8_turn 1 7 rfl)
set_option maxRecDepth 20000 in
theorem dX8_turn_24 : decode cX8_turn 24 = .ok (.iload_n 2, 1) := dc_28 (lxX8_turn 1 8 rfl)
set_option maxRecDepth 20000 in
theorem dX8_turn_25 : decode cX8_turn 25 = .ok (.aload_n 0, 1) := dc_42 (lxX8_turn 1 9 rfl)
set_option maxRecDepth 20000 in
theorem dX8_turn_26 : decode cX8_turn 26 = .ok (.getfield 18, 3) := dc_180 0 18 (lxX8_turn 1 10 rfl) (lxX8_turn 1 11 rfl) (lxX8_turn 1 12 rfl)
set_option maxRecDepth 20000 in
theorem dX8_turn_29 : decode cX8_turn 29 = .ok (.aload_n 1, 1) := dc_43 (lxX8_turn 1 13 rfl)
set_option maxRecDepth 20000 in
theorem dX8_turn_30 : decode cX8_turn 30 = .ok (.arraylength, 1) := dc_190 (lxX8_turn 1 14 rfl)
set_option maxRecDepth 20000 in
theorem dX8_turn_31 : decode cX8_turn 31 = .ok (.iconst 1, 1) := dc_4 (lxX8_turn 1 15 rfl)
set_option maxRecDepth 20000 in
theorem dX8_turn_32 : decode cX8_turn 32 = .ok (.isub, 1) := dc_100 (lxX8_turn 2 0 rfl)
set_option maxRecDepth 20000 in
theorem dX8_turn_33 : decode cX8_turn 33 = .ok (.iload_n 2, 1) := dc_28 (lxX8_turn 2 1 rfl)
set_option maxRecDepth 20000 in
theorem dX8_turn_34 : decode cX8_turn 34 = .ok (.isub, 1) := dc_100 (lxX8_turn 2 2 rfl)
set_option maxRecDepth 20000 in
theorem dX8_turn_35 : decode cX8_turn 35 = .ok (.iaload, 1) := dc_46 (lxX8_turn 2 3 rfl)
set_option maxRecDepth 20000 in
theorem dX8_turn_36 : decode cX8_turn 36 = .ok (.iastore, 1) := dc_79 (lxX8_turn 2 4 rfl)
set_option maxRecDepth 20000 in
theorem dX8_turn_37 : decode cX8_turn 37 = .ok (.iinc 2 1, 3) := dc_132 2 1 (lxX8_turn 2 5 rfl) (lxX8_turn 2 6 rfl) (lxX8_turn 2 7 rfl)
set_option maxRecDepth 20000 in
theorem dX8_turn_40 : decode cX8_turn 40 = .ok (.goto (-23), 3) := dc_167 255 233 (lxX8_turn 2 8 rfl) (lxX8_turn 2 9 rfl) (lxX8_turn 2 10 rfl)
set_option maxRecDepth 20000 in
theorem dX8_turn_43 : decode cX8_turn 43 = .ok (.aload_n 0, 1) := dc_42 (lxX8_turn 2 11 rfl)
set_option maxRecDepth 20000 in
theorem dX8_turn_44 : decode cX8_turn 44 = .ok (.aload_n 1, 1) := dc_43 (lxX8_turn 2 12 rfl)
set_option maxRecDepth 20000 in
theorem dX8_turn_45 : decode cX8_turn 45 = .ok (.putfield 18, 3) := dc_181 0 18 (lxX8_turn 2 13 rfl) (lxX8_turn 2 14 rfl) (lxX8_turn 2 15 rfl)
set_option maxRecDepth 20000 in
theorem dX8_turn_48 : decode cX8_turn 48 = .ok (.aload_n 0, 1) := dc_42 (lxX8_turn 3 0 rfl)
set_option maxRecDepth 20000 in
theorem dX8_turn_49 : decode cX8_turn 49 = .ok (.aload_n 1, 1) := dc_43 (lxX8_turn 3 1 rfl)
set_option maxRecDepth 20000 in
theorem dX8_turn_50 : decode cX8_turn 50 = .ok (.arraylength, 1) := dc_190 (lxX8_turn 3 2 rfl)
set_option maxRecDepth 20000 in
theorem dX8_turn_51 : decode cX8_turn 51 = .ok (.invokevirtual 62, 3) := dc_182 0 62 (lxX8_turn 3 3 rfl) (lxX8_turn 3 4 rfl) (lxX8_turn 3 5 rfl)
set_option maxRecDepth 20000 in
theorem dX8_turn_54 : decode cX8_turn 54 = .ok (.ireturn, 1) := dc_172 (lxX8_turn 3 6 rfl)
noncomputable def sgX8_change : List (List Cond) := [[.code yX8_change cX8_change 4 (some .int)], [.fieldLink RX8 18 "SashwordsModel" "built" "[I", .methodLink RX8 41 yX8_isNo, .static yX8_isNo, .initialized RX8, .code yX8_isNo cX8_isNo 3 (some .boolean), .methodLink RX8 81 yX8_isThrown, .instanceMethod yX8_isThrown, .selects RX8 yX8_isThrown yX8_isThrown, .code yX8_isThrown cX8_isThrown 3 (some .boolean), .fieldLink RX8 38 "SashwordsModel" "thrown" "I", .methodLink RX8 62 yX8_done, .instanceMethod yX8_done, .selects RX8 yX8_done yX8_done, .code yX8_done cX8_done 2 (some .int), .fieldLink RX8 31 "SashwordsModel" "tallies" "[I"], wsX80]
theorem seX8_change : sgX8_change.flatten = wsX8_change := by simp only [sgX8_change, wsX8_change, List.flatten_cons, List.flatten_nil, List.append_assoc, List.append_nil, List.cons_append, List.nil_append]
set_option maxRecDepth 20000 in
theorem ggX8_change_X8_isNo : GoodIn wsX8_change wsX8_isNo := goodIn_s seX8_change _ [pq_1_4] (by rfl) (by decide +kernel)
set_option maxRecDepth 20000 in
theorem gX8_change_X8_isNo : GoodIn wsX8_change (va_wsS RX8 41 yX8_isNo wsX8_isNo) := goodIn_app (goodIn_s seX8_change _ [pq_1_1, pq_1_2, pq_1_3] (by rfl) (by decide +kernel)) ggX8_change_X8_isNo
set_option maxRecDepth 20000 in
theorem ggX8_change_X8_isThrown : GoodIn wsX8_change wsX8_isThrown := goodIn_s seX8_change _ [pq_1_8, pq_1_9, pq_2_0, pq_2_1, pq_2_2, pq_2_3, pq_2_4, pq_2_5, pq_2_6, pq_2_7, pq_2_8, pq_2_9, pq_2_10] (by rfl) (by decide +kernel)
set_option maxRecDepth 20000 in
theorem gX8_change_X8_isThrown : GoodIn wsX8_change (wsV RX8 81 RX8 yX8_isThrown wsX8_isThrown) := goodIn_app (goodIn_s seX8_change _ [pq_1_5, pq_1_6, pq_1_7, pq_1_3] (by rfl) (by decide +kernel)) ggX8_change_X8_isThrown
set_option maxRecDepth 20000 in
theorem ggX8_change_X8_done : GoodIn wsX8_change wsX8_done := goodIn_s seX8_change _ [pq_1_13, pq_1_14, pq_2_0, pq_2_1, pq_2_2, pq_2_3, pq_2_4, pq_2_5, pq_2_6, pq_2_7, pq_2_8, pq_2_9, pq_2_10] (by rfl) (by decide +kernel)
set_option maxRecDepth 20000 in
theorem gX8_change_X8_done : GoodIn wsX8_change (wsV RX8 62 RX8 yX8_done wsX8_done) := goodIn_app (goodIn_s seX8_change _ [pq_1_10, pq_1_11, pq_1_12, pq_1_3] (by rfl) (by decide +kernel)) ggX8_change_X8_done
def lb_sgX8_change : List (List UInt8) := [[42, 27, 3, 42, 180, 0, 18, 190, 4, 100, 184, 0, 41, 28, 3, 17], [0, 255, 184, 0, 41, 182, 0, 81, 153, 0, 5, 3, 172, 42, 180, 0], [18, 27, 46, 62, 42, 180, 0, 18, 27, 28, 79, 42, 29, 182, 0, 62], [172]]
set_option maxRecDepth 100000 in
theorem lb_seX8_change : cX8_change.data.toList = lb_sgX8_change.flatten := by decide +kernel
theorem lb_lnX8_change : ∀ s ∈ lb_sgX8_change.dropLast, s.length = 16 := by decide +kernel
theorem lxX8_change (k j : Nat) {b : UInt8} (h : (lb_sgX8_change[k]?).bind (fun s => s[j]?) = some b) : lb_at cX8_change (16 * k + j) b := by
  unfold lb_at
  rw [lb_seX8_change]
  exact lb_flat 16 lb_sgX8_change k j b lb_lnX8_change h
set_option maxRecDepth 20000 in
theorem dX8_change_0 : decode cX8_change 0 = .ok (.aload_n 0, 1) := dc_42 (lxX8_change 0 0 rfl)
set_option maxRecDepth 20000 in
theorem dX8_change_1 : decode cX8_change 1 = .ok (.iload_n 1, 1) := dc_27 (lxX8_change 0 1 rfl)
set_option maxRecDepth 20000 in
theorem dX8_change_2 : decode cX8_change 2 = .ok (.iconst 0, 1) := dc_3 (lxX8_change 0 2 rfl)
set_option maxRecDepth 20000 in
theorem dX8_change_3 : decode cX8_change 3 = .ok (.aload_n 0, 1) := dc_42 (lxX8_change 0 3 rfl)
set_option maxRecDepth 20000 in
theorem dX8_change_4 : decode cX8_change 4 = .ok (.getfield 18, 3) := dc_180 0 18 (lxX8_change 0 4 rfl) (lxX8_change 0 5 rfl) (lxX8_change 0 6 rfl)
set_option maxRecDepth 20000 in
theorem dX8_change_7 : decode cX8_change 7 = .ok (.arraylength, 1) := dc_190 (lxX8_change 0 7 rfl)
set_option maxRecDepth 20000 in
theorem dX8_change_8 : decode cX8_change 8 = .ok (.iconst 1, 1) := dc_4 (lxX8_change 0 8 rfl)
set_option maxRecDepth 20000 in
theorem dX8_change_9 : decode cX8_change 9 = .ok (.isub, 1) := dc_100 (lxX8_change 0 9 rfl)
set_option maxRecDepth 20000 in
theorem dX8_change_10 : decode cX8_change 10 = .ok (.invokestatic 41, 3) := dc_184 0 41 (lxX8_change 0 10 rfl) (lxX8_change 0 11 rfl) (lxX8_change 0 12 rfl)
set_option maxRecDepth 20000 in
theorem dX8_change_13 : decode cX8_change 13 = .ok (.iload_n 2, 1) := dc_28 (lxX8_change 0 13 rfl)
set_option maxRecDepth 20000 in
theorem dX8_change_14 : decode cX8_change 14 = .ok (.iconst 0, 1) := dc_3 (lxX8_change 0 14 rfl)
set_option maxRecDepth 20000 in
theorem dX8_change_15 : decode cX8_change 15 = .ok (.sipush 255, 3) := dc_17 0 255 (lxX8_change 0 15 rfl) (lxX8_change 1 0 rfl) (lxX8_change 1 1 rfl)
set_option maxRecDepth 20000 in
theorem dX8_change_18 : decode cX8_change 18 = .ok (.invokestatic 41, 3) := dc_184 0 41 (lxX8_change 1 2 rfl) (lxX8_change 1 3 rfl) (lxX8_change 1 4 rfl)
set_option maxRecDepth 20000 in
theorem dX8_change_21 : decode cX8_change 21 = .ok (.invokevirtual 81, 3) := dc_182 0 81 (lxX8_change 1 5 rfl) (lxX8_change 1 6 rfl) (lxX8_change 1 7 rfl)
set_option maxRecDepth 20000 in
theorem dX8_change_24 : decode cX8_change 24 = .ok (.ifCond .eq 5, 3) := dc_153 0 5 (lxX8_change 1 8 rfl) (lxX8_change 1 9 rfl) (lxX8_change 1 10 rfl)
set_option maxRecDepth 20000 in
theorem dX8_change_27 : decode cX8_change 27 = .ok (.iconst 0, 1) := dc_3 (lxX8_change 1 11 rfl)
set_option maxRecDepth 20000 in
theorem dX8_change_28 : decode cX8_change 28 = .ok (.ireturn, 1) := dc_172 (lxX8_change 1 12 rfl)
set_option maxRecDepth 20000 in
theorem dX8_change_29 : decode cX8_change 29 = .ok (.aload_n 0, 1) := dc_42 (lxX8_change 1 13 rfl)
set_option maxRecDepth 20000 in
theorem dX8_change_30 : decode cX8_change 30 = .ok (.getfield 18, 3) := dc_180 0 18 (lxX8_change 1 14 rfl) (lxX8_change 1 15 rfl) (lxX8_change 2 0 rfl)
set_option maxRecDepth 20000 in
theorem dX8_change_33 : decode cX8_change 33 = .ok (.iload_n 1, 1) := dc_27 (lxX8_change 2 1 rfl)
set_option maxRecDepth 20000 in
theorem dX8_change_34 : decode cX8_change 34 = .ok (.iaload, 1) := dc_46 (lxX8_change 2 2 rfl)
set_option maxRecDepth 20000 in
theorem dX8_change_35 : decode cX8_change 35 = .ok (.istore_n 3, 1) := dc_62 (lxX8_change 2 3 rfl)
set_option maxRecDepth 20000 in
theorem dX8_change_36 : decode cX8_change 36 = .ok (.aload_n 0, 1) := dc_42 (lxX8_change 2 4 rfl)
set_option maxRecDepth 20000 in
theorem dX8_change_37 : decode cX8_change 37 = .ok (.getfield 18, 3) := dc_180 0 18 (lxX8_change 2 5 rfl) (lxX8_change 2 6 rfl) (lxX8_change 2 7 rfl)
set_option maxRecDepth 20000 in
theorem dX8_change_40 : decode cX8_change 40 = .ok (.iload_n 1, 1) := dc_27 (lxX8_change 2 8 rfl)
set_option maxRecDepth 20000 in
theorem dX8_change_41 : decode cX8_change 41 = .ok (.iload_n 2, 1) := dc_28 (lxX8_change 2 9 rfl)
set_option maxRecDepth 20000 in
theorem dX8_change_42 : decode cX8_change 42 = .ok (.iastore, 1) := dc_79 (lxX8_change 2 10 rfl)
set_option maxRecDepth 20000 in
theorem dX8_change_43 : decode cX8_change 43 = .ok (.aload_n 0, 1) := dc_42 (lxX8_change 2 11 rfl)
set_option maxRecDepth 20000 in
theorem dX8_change_44 : decode cX8_change 44 = .ok (.iload_n 3, 1) := dc_29 (lxX8_change 2 12 rfl)
set_option maxRecDepth 20000 in
theorem dX8_change_45 : decode cX8_change 45 = .ok (.invokevirtual 62, 3) := dc_182 0 62 (lxX8_change 2 13 rfl) (lxX8_change 2 14 rfl) (lxX8_change 2 15 rfl)
set_option maxRecDepth 20000 in
theorem dX8_change_48 : decode cX8_change 48 = .ok (.ireturn, 1) := dc_172 (lxX8_change 3 0 rfl)
noncomputable def sgX8_pipe : List (List Cond) := [[.code yX8_pipe cX8_pipe 3 (some .int)], [.fieldLink RX8 129 "SashwordsModel" "in" "I", .fieldLink RX8 132 "SashwordsModel" "out" "I", .fieldLink RX8 27 "SashwordsModel" "size" "I", .methodLink RX8 41 yX8_isNo, .static yX8_isNo, .initialized RX8, .code yX8_isNo cX8_isNo 3 (some .boolean), .methodLink RX8 81 yX8_isThrown, .instanceMethod yX8_isThrown, .selects RX8 yX8_isThrown yX8_isThrown, .code yX8_isThrown cX8_isThrown 3 (some .boolean), .fieldLink RX8 38 "SashwordsModel" "thrown" "I", .methodLink RX8 62 yX8_done, .instanceMethod yX8_done, .selects RX8 yX8_done yX8_done, .code yX8_done cX8_done 2 (some .int), .fieldLink RX8 31 "SashwordsModel" "tallies" "[I"], wsX80]
theorem seX8_pipe : sgX8_pipe.flatten = wsX8_pipe := by simp only [sgX8_pipe, wsX8_pipe, List.flatten_cons, List.flatten_nil, List.append_assoc, List.append_nil, List.cons_append, List.nil_append]
set_option maxRecDepth 20000 in
theorem ggX8_pipe_X8_isNo : GoodIn wsX8_pipe wsX8_isNo := goodIn_s seX8_pipe _ [pq_1_6] (by rfl) (by decide +kernel)
set_option maxRecDepth 20000 in
theorem gX8_pipe_X8_isNo : GoodIn wsX8_pipe (va_wsS RX8 41 yX8_isNo wsX8_isNo) := goodIn_app (goodIn_s seX8_pipe _ [pq_1_3, pq_1_4, pq_1_5] (by rfl) (by decide +kernel)) ggX8_pipe_X8_isNo
set_option maxRecDepth 20000 in
theorem ggX8_pipe_X8_isThrown : GoodIn wsX8_pipe wsX8_isThrown := goodIn_s seX8_pipe _ [pq_1_10, pq_1_11, pq_2_0, pq_2_1, pq_2_2, pq_2_3, pq_2_4, pq_2_5, pq_2_6, pq_2_7, pq_2_8, pq_2_9, pq_2_10] (by rfl) (by decide +kernel)
set_option maxRecDepth 20000 in
theorem gX8_pipe_X8_isThrown : GoodIn wsX8_pipe (wsV RX8 81 RX8 yX8_isThrown wsX8_isThrown) := goodIn_app (goodIn_s seX8_pipe _ [pq_1_7, pq_1_8, pq_1_9, pq_1_5] (by rfl) (by decide +kernel)) ggX8_pipe_X8_isThrown
set_option maxRecDepth 20000 in
theorem ggX8_pipe_X8_done : GoodIn wsX8_pipe wsX8_done := goodIn_s seX8_pipe _ [pq_1_15, pq_1_16, pq_2_0, pq_2_1, pq_2_2, pq_2_3, pq_2_4, pq_2_5, pq_2_6, pq_2_7, pq_2_8, pq_2_9, pq_2_10] (by rfl) (by decide +kernel)
set_option maxRecDepth 20000 in
theorem gX8_pipe_X8_done : GoodIn wsX8_pipe (wsV RX8 62 RX8 yX8_done wsX8_done) := goodIn_app (goodIn_s seX8_pipe _ [pq_1_12, pq_1_13, pq_1_14, pq_1_5] (by rfl) (by decide +kernel)) ggX8_pipe_X8_done
def lb_sgX8_pipe : List (List UInt8) := [[42, 27, 4, 16, 8, 184, 0, 41, 3, 182, 0, 81, 153, 0, 5, 3], [172, 42, 180, 0, 129, 42, 180, 0, 132, 100, 61, 42, 27, 181, 0, 27], [42, 3, 181, 0, 129, 42, 3, 181, 0, 132, 42, 28, 182, 0, 62, 172]]
set_option maxRecDepth 100000 in
theorem lb_seX8_pipe : cX8_pipe.data.toList = lb_sgX8_pipe.flatten := by decide +kernel
theorem lb_lnX8_pipe : ∀ s ∈ lb_sgX8_pipe.dropLast, s.length = 16 := by decide +kernel
theorem lxX8_pipe (k j : Nat) {b : UInt8} (h : (lb_sgX8_pipe[k]?).bind (fun s => s[j]?) = some b) : lb_at cX8_pipe (16 * k + j) b := by
  unfold lb_at
  rw [lb_seX8_pipe]
  exact lb_flat 16 lb_sgX8_pipe k j b lb_lnX8_pipe h
set_option maxRecDepth 20000 in
theorem dX8_pipe_0 : decode cX8_pipe 0 = .ok (.aload_n 0, 1) := dc_42 (lxX8_pipe 0 0 rfl)
set_option maxRecDepth 20000 in
theorem dX8_pipe_1 : decode cX8_pipe 1 = .ok (.iload_n 1, 1) := dc_27 (lxX8_pipe 0 1 rfl)
set_option maxRecDepth 20000 in
theorem dX8_pipe_2 : decode cX8_pipe 2 = .ok (.iconst 1, 1) := dc_4 (lxX8_pipe 0 2 rfl)
set_option maxRecDepth 20000 in
theorem dX8_pipe_3 : decode cX8_pipe 3 = .ok (.bipush 8, 2) := dc_16 8 (lxX8_pipe 0 3 rfl) (lxX8_pipe 0 4 rfl)
set_option maxRecDepth 20000 in
theorem dX8_pipe_5 : decode cX8_pipe 5 = .ok (.invokestatic 41, 3) := dc_184 0 41 (lxX8_pipe 0 5 rfl) (lxX8_pipe 0 6 rfl) (lxX8_pipe 0 7 rfl)
set_option maxRecDepth 20000 in
theorem dX8_pipe_8 : decode cX8_pipe 8 = .ok (.iconst 0, 1) := dc_3 (lxX8_pipe 0 8 rfl)
set_option maxRecDepth 20000 in
theorem dX8_pipe_9 : decode cX8_pipe 9 = .ok (.invokevirtual 81, 3) := dc_182 0 81 (lxX8_pipe 0 9 rfl) (lxX8_pipe 0 10 rfl) (lxX8_pipe 0 11 rfl)
set_option maxRecDepth 20000 in
theorem dX8_pipe_12 : decode cX8_pipe 12 = .ok (.ifCond .eq 5, 3) := dc_153 0 5 (lxX8_pipe 0 12 rfl) (lxX8_pipe 0 13 rfl) (lxX8_pipe 0 14 rfl)
set_option maxRecDepth 20000 in
theorem dX8_pipe_15 : decode cX8_pipe 15 = .ok (.iconst 0, 1) := dc_3 (lxX8_pipe 0 15 rfl)
set_option maxRecDepth 20000 in
theorem dX8_pipe_16 : decode cX8_pipe 16 = .ok (.ireturn, 1) := dc_172 (lxX8_pipe 1 0 rfl)
set_option maxRecDepth 20000 in
theorem dX8_pipe_17 : decode cX8_pipe 17 = .ok (.aload_n 0, 1) := dc_42 (lxX8_pipe 1 1 rfl)
set_option maxRecDepth 20000 in
theorem dX8_pipe_18 : decode cX8_pipe 18 = .ok (.getfield 129, 3) := dc_180 0 129 (lxX8_pipe 1 2 rfl) (lxX8_pipe 1 3 rfl) (lxX8_pipe 1 4 rfl)
set_option maxRecDepth 20000 in
theorem dX8_pipe_21 : decode cX8_pipe 21 = .ok (.aload_n 0, 1) := dc_42 (lxX8_pipe 1 5 rfl)
set_option maxRecDepth 20000 in
theorem dX8_pipe_22 : decode cX8_pipe 22 = .ok (.getfield 132, 3) := dc_180 0 132 (lxX8_pipe 1 6 rfl) (lxX8_pipe 1 7 rfl) (lxX8_pipe 1 8 rfl)
set_option maxRecDepth 20000 in
theorem dX8_pipe_25 : decode cX8_pipe 25 = .ok (.isub, 1) := dc_100 (lxX8_pipe 1 9 rfl)
set_option maxRecDepth 20000 in
theorem dX8_pipe_26 : decode cX8_pipe 26 = .ok (.istore_n 2, 1) := dc_61 (lxX8_pipe 1 10 rfl)
set_option maxRecDepth 20000 in
theorem dX8_pipe_27 : decode cX8_pipe 27 = .ok (.aload_n 0, 1) := dc_42 (lxX8_pipe 1 11 rfl)
set_option maxRecDepth 20000 in
theorem dX8_pipe_28 : decode cX8_pipe 28 = .ok (.iload_n 1, 1) := dc_27 (lxX8_pipe 1 12 rfl)
set_option maxRecDepth 20000 in
theorem dX8_pipe_29 : decode cX8_pipe 29 = .ok (.putfield 27, 3) := dc_181 0 27 (lxX8_pipe 1 13 rfl) (lxX8_pipe 1 14 rfl) (lxX8_pipe 1 15 rfl)
set_option maxRecDepth 20000 in
theorem dX8_pipe_32 : decode cX8_pipe 32 = .ok (.aload_n 0, 1) := dc_42 (lxX8_pipe 2 0 rfl)
set_option maxRecDepth 20000 in
theorem dX8_pipe_33 : decode cX8_pipe 33 = .ok (.iconst 0, 1) := dc_3 (lxX8_pipe 2 1 rfl)
set_option maxRecDepth 20000 in
theorem dX8_pipe_34 : decode cX8_pipe 34 = .ok (.putfield 129, 3) := dc_181 0 129 (lxX8_pipe 2 2 rfl) (lxX8_pipe 2 3 rfl) (lxX8_pipe 2 4 rfl)
set_option maxRecDepth 20000 in
theorem dX8_pipe_37 : decode cX8_pipe 37 = .ok (.aload_n 0, 1) := dc_42 (lxX8_pipe 2 5 rfl)
set_option maxRecDepth 20000 in
theorem dX8_pipe_38 : decode cX8_pipe 38 = .ok (.iconst 0, 1) := dc_3 (lxX8_pipe 2 6 rfl)
set_option maxRecDepth 20000 in
theorem dX8_pipe_39 : decode cX8_pipe 39 = .ok (.putfield 132, 3) := dc_181 0 132 (lxX8_pipe 2 7 rfl) (lxX8_pipe 2 8 rfl) (lxX8_pipe 2 9 rfl)
set_option maxRecDepth 20000 in
theorem dX8_pipe_42 : decode cX8_pipe 42 = .ok (.aload_n 0, 1) := dc_42 (lxX8_pipe 2 10 rfl)
set_option maxRecDepth 20000 in
theorem dX8_pipe_43 : decode cX8_pipe 43 = .ok (.iload_n 2, 1) := dc_28 (lxX8_pipe 2 11 rfl)
set_option maxRecDepth 20000 in
theorem dX8_pipe_44 : decode cX8_pipe 44 = .ok (.invokevirtual 62, 3) := dc_182 0 62 (lxX8_pipe 2 12 rfl) (lxX8_pipe 2 13 rfl) (lxX8_pipe 2 14 rfl)
set_option maxRecDepth 20000 in
theorem dX8_pipe_47 : decode cX8_pipe 47 = .ok (.ireturn, 1) := dc_172 (lxX8_pipe 2 15 rfl)
noncomputable def sgX8_feed : List (List Cond) := [[.code yX8_feed cX8_feed 5 (some .int)], wsX8_feed_r1, wsX8_feed_r2, wsX80]
theorem seX8_feed : sgX8_feed.flatten = wsX8_feed := by simp only [sgX8_feed, wsX8_feed, List.flatten_cons, List.flatten_nil, List.append_assoc, List.append_nil, List.cons_append, List.nil_append]
set_option maxRecDepth 20000 in
theorem ggX8_feed_X8_isNo : GoodIn wsX8_feed wsX8_isNo := goodIn_s seX8_feed _ [pq_1_11] (by rfl) (by decide +kernel)
set_option maxRecDepth 20000 in
theorem gX8_feed_X8_isNo : GoodIn wsX8_feed (va_wsS RX8 41 yX8_isNo wsX8_isNo) := goodIn_app (goodIn_s seX8_feed _ [pq_1_8, pq_1_9, pq_1_10] (by rfl) (by decide +kernel)) ggX8_feed_X8_isNo
set_option maxRecDepth 20000 in
theorem ggX8_feed_X8_isThrown : GoodIn wsX8_feed wsX8_isThrown := goodIn_s seX8_feed _ [pq_1_15, pq_1_16, pq_3_0, pq_3_1, pq_3_2, pq_3_3, pq_3_4, pq_3_5, pq_3_6, pq_3_7, pq_3_8, pq_3_9, pq_3_10] (by rfl) (by decide +kernel)
set_option maxRecDepth 20000 in
theorem gX8_feed_X8_isThrown : GoodIn wsX8_feed (wsV RX8 81 RX8 yX8_isThrown wsX8_isThrown) := goodIn_app (goodIn_s seX8_feed _ [pq_1_12, pq_1_13, pq_1_14, pq_1_10] (by rfl) (by decide +kernel)) ggX8_feed_X8_isThrown
set_option maxRecDepth 20000 in
theorem ggX8_feed_X8_letter : GoodIn wsX8_feed wsX8_letter := goodIn_s seX8_feed _ [pq_1_19] (by rfl) (by decide +kernel)
set_option maxRecDepth 20000 in
theorem gX8_feed_X8_letter : GoodIn wsX8_feed (va_wsS RX8 103 yX8_letter wsX8_letter) := goodIn_app (goodIn_s seX8_feed _ [pq_1_17, pq_1_18, pq_1_10] (by rfl) (by decide +kernel)) ggX8_feed_X8_letter
set_option maxRecDepth 20000 in
theorem ggX8_feed_X8_done : GoodIn wsX8_feed wsX8_done := goodIn_s seX8_feed _ [pq_1_23, pq_2_0, pq_3_0, pq_3_1, pq_3_2, pq_3_3, pq_3_4, pq_3_5, pq_3_6, pq_3_7, pq_3_8, pq_3_9, pq_3_10] (by rfl) (by decide +kernel)
set_option maxRecDepth 20000 in
theorem gX8_feed_X8_done : GoodIn wsX8_feed (wsV RX8 62 RX8 yX8_done wsX8_done) := goodIn_app (goodIn_s seX8_feed _ [pq_1_20, pq_1_21, pq_1_22, pq_1_10] (by rfl) (by decide +kernel)) ggX8_feed_X8_done
def lb_sgX8_feed : List (List UInt8) := [[42, 27, 155, 0, 13, 28, 3, 16, 20, 184, 0, 41, 153, 0, 7, 4], [167, 0, 4, 3, 3, 182, 0, 81, 153, 0, 5, 3, 172, 28, 42, 180], [0, 27, 42, 180, 0, 129, 42, 180, 0, 132, 100, 100, 17, 0, 160, 42], [180, 0, 129, 100, 184, 0, 97, 184, 0, 97, 62, 3, 54, 4, 21, 4], [29, 162, 0, 31, 42, 180, 0, 24, 42, 89, 180, 0, 129, 90, 4, 96], [181, 0, 129, 27, 21, 4, 184, 0, 103, 79, 132, 4, 1, 167, 255, 225], [42, 29, 182, 0, 62, 172]]
set_option maxRecDepth 100000 in
theorem lb_seX8_feed : cX8_feed.data.toList = lb_sgX8_feed.flatten := by decide +kernel
theorem lb_lnX8_feed : ∀ s ∈ lb_sgX8_feed.dropLast, s.length = 16 := by decide +kernel
theorem lxX8_feed (k j : Nat) {b : UInt8} (h : (lb_sgX8_feed[k]?).bind (fun s => s[j]?) = some b) : lb_at cX8_feed (16 * k + j) b := by
  unfold lb_at
  rw [lb_seX8_feed]
  exact lb_flat 16 lb_sgX8_feed k j b lb_lnX8_feed h
set_option maxRecDepth 20000 in
theorem dX8_feed_0 : decode cX8_feed 0 = .ok (.aload_n 0, 1) := dc_42 (lxX8_feed 0 0 rfl)
set_option maxRecDepth 20000 in
theorem dX8_feed_1 : decode cX8_feed 1 = .ok (.iload_n 1, 1) := dc_27 (lxX8_feed 0 1 rfl)
set_option maxRecDepth 20000 in
theorem dX8_feed_2 : decode cX8_feed 2 = .ok (.ifCond .lt 13, 3) := dc_155 0 13 (lxX8_feed 0 2 rfl) (lxX8_feed 0 3 rfl) (lxX8_feed 0 4 rfl)
set_option maxRecDepth 20000 in
theorem dX8_feed_5 : decode cX8_feed 5 = .ok (.iload_n 2, 1) := dc_28 (lxX8_feed 0 5 rfl)
set_option maxRecDepth 20000 in
theorem dX8_feed_6 : decode cX8_feed 6 = .ok (.iconst 0, 1) := dc_3 (lxX8_feed 0 6 rfl)
set_option maxRecDepth 20000 in
theorem dX8_feed_7 : decode cX8_feed 7 = .ok (.bipush 20, 2) := dc_16 20 (lxX8_feed 0 7 rfl) (lxX8_feed 0 8 rfl)
set_option maxRecDepth 20000 in
theorem dX8_feed_9 : decode cX8_feed 9 = .ok (.invokestatic 41, 3) := dc_184 0 41 (lxX8_feed 0 9 rfl) (lxX8_feed 0 10 rfl) (lxX8_feed 0 11 rfl)
set_option maxRecDepth 20000 in
theorem dX8_feed_12 : decode cX8_feed 12 = .ok (.ifCond .eq 7, 3) := dc_153 0 7 (lxX8_feed 0 12 rfl) (lxX8_feed 0 13 rfl) (lxX8_feed 0 14 rfl)
set_option maxRecDepth 20000 in
theorem dX8_feed_15 : decode cX8_feed 15 = .ok (.iconst 1, 1) := dc_4 (lxX8_feed 0 15 rfl)
set_option maxRecDepth 20000 in
theorem dX8_feed_16 : decode cX8_feed 16 = .ok (.goto 4, 3) := dc_167 0 4 (lxX8_feed 1 0 rfl) (lxX8_feed 1 1 rfl) (lxX8_feed 1 2 rfl)
set_option maxRecDepth 20000 in
theorem dX8_feed_19 : decode cX8_feed 19 = .ok (.iconst 0, 1) := dc_3 (lxX8_feed 1 3 rfl)
set_option maxRecDepth 20000 in
theorem dX8_feed_20 : decode cX8_feed 20 = .ok (.iconst 0, 1) := dc_3 (lxX8_feed 1 4 rfl)
set_option maxRecDepth 20000 in
theorem dX8_feed_21 : decode cX8_feed 21 = .ok (.invokevirtual 81, 3) := dc_182 0 81 (lxX8_feed 1 5 rfl) (lxX8_feed 1 6 rfl) (lxX8_feed 1 7 rfl)
set_option maxRecDepth 20000 in
theorem dX8_feed_24 : decode cX8_feed 24 = .ok (.ifCond .eq 5, 3) := dc_153 0 5 (lxX8_feed 1 8 rfl) (lxX8_feed 1 9 rfl) (lxX8_feed 1 10 rfl)
set_option maxRecDepth 20000 in
theorem dX8_feed_27 : decode cX8_feed 27 = .ok (.iconst 0, 1) := dc_3 (lxX8_feed 1 11 rfl)
set_option maxRecDepth 20000 in
theorem dX8_feed_28 : decode cX8_feed 28 = .ok (.ireturn, 1) := dc_172 (lxX8_feed 1 12 rfl)
set_option maxRecDepth 20000 in
theorem dX8_feed_29 : decode cX8_feed 29 = .ok (.iload_n 2, 1) := dc_28 (lxX8_feed 1 13 rfl)
set_option maxRecDepth 20000 in
theorem dX8_feed_30 : decode cX8_feed 30 = .ok (.aload_n 0, 1) := dc_42 (lxX8_feed 1 14 rfl)
set_option maxRecDepth 20000 in
theorem dX8_feed_31 : decode cX8_feed 31 = .ok (.getfield 27, 3) := dc_180 0 27 (lxX8_feed 1 15 rfl) (lxX8_feed 2 0 rfl) (lxX8_feed 2 1 rfl)
set_option maxRecDepth 20000 in
theorem dX8_feed_34 : decode cX8_feed 34 = .ok (.aload_n 0, 1) := dc_42 (lxX8_feed 2 2 rfl)
set_option maxRecDepth 20000 in
theorem dX8_feed_35 : decode cX8_feed 35 = .ok (.getfield 129, 3) := dc_180 0 129 (lxX8_feed 2 3 rfl) (lxX8_feed 2 4 rfl) (lxX8_feed 2 5 rfl)
set_option maxRecDepth 20000 in
theorem dX8_feed_38 : decode cX8_feed 38 = .ok (.aload_n 0, 1) := dc_42 (lxX8_feed 2 6 rfl)
set_option maxRecDepth 20000 in
theorem dX8_feed_39 : decode cX8_feed 39 = .ok (.getfield 132, 3) := dc_180 0 132 (lxX8_feed 2 7 rfl) (lxX8_feed 2 8 rfl) (lxX8_feed 2 9 rfl)
set_option maxRecDepth 20000 in
theorem dX8_feed_42 : decode cX8_feed 42 = .ok (.isub, 1) := dc_100 (lxX8_feed 2 10 rfl)
set_option maxRecDepth 20000 in
theorem dX8_feed_43 : decode cX8_feed 43 = .ok (.isub, 1) := dc_100 (lxX8_feed 2 11 rfl)
set_option maxRecDepth 20000 in
theorem dX8_feed_44 : decode cX8_feed 44 = .ok (.sipush 160, 3) := dc_17 0 160 (lxX8_feed 2 12 rfl) (lxX8_feed 2 13 rfl) (lxX8_feed 2 14 rfl)
set_option maxRecDepth 20000 in
theorem dX8_feed_47 : decode cX8_feed 47 = .ok (.aload_n 0, 1) := dc_42 (lxX8_feed 2 15 rfl)
set_option maxRecDepth 20000 in
theorem dX8_feed_48 : decode cX8_feed 48 = .ok (.getfield 129, 3) := dc_180 0 129 (lxX8_feed 3 0 rfl) (lxX8_feed 3 1 rfl) (lxX8_feed 3 2 rfl)
set_option maxRecDepth 20000 in
theorem dX8_feed_51 : decode cX8_feed 51 = .ok (.isub, 1) := dc_100 (lxX8_feed 3 3 rfl)
set_option maxRecDepth 20000 in
theorem dX8_feed_52 : decode cX8_feed 52 = .ok (.invokestatic 97, 3) := dc_184 0 97 (lxX8_feed 3 4 rfl) (lxX8_feed 3 5 rfl) (lxX8_feed 3 6 rfl)
set_option maxRecDepth 20000 in
theorem dX8_feed_55 : decode cX8_feed 55 = .ok (.invokestatic 97, 3) := dc_184 0 97 (lxX8_feed 3 7 rfl) (lxX8_feed 3 8 rfl) (lxX8_feed 3 9 rfl)
set_option maxRecDepth 20000 in
theorem dX8_feed_58 : decode cX8_feed 58 = .ok (.istore_n 3, 1) := dc_62 (lxX8_feed 3 10 rfl)
set_option maxRecDepth 20000 in
theorem dX8_feed_59 : decode cX8_feed 59 = .ok (.iconst 0, 1) := dc_3 (lxX8_feed 3 11 rfl)
set_option maxRecDepth 20000 in
theorem dX8_feed_60 : decode cX8_feed 60 = .ok (.istore 4, 2) := dc_54 4 (lxX8_feed 3 12 rfl) (lxX8_feed 3 13 rfl)
set_option maxRecDepth 20000 in
theorem dX8_feed_62 : decode cX8_feed 62 = .ok (.iload 4, 2) := dc_21 4 (lxX8_feed 3 14 rfl) (lxX8_feed 3 15 rfl)
set_option maxRecDepth 20000 in
theorem dX8_feed_64 : decode cX8_feed 64 = .ok (.iload_n 3, 1) := dc_29 (lxX8_feed 4 0 rfl)
set_option maxRecDepth 20000 in
theorem dX8_feed_65 : decode cX8_feed 65 = .ok (.if_icmp .ge 31, 3) := dc_162 0 31 (lxX8_feed 4 1 rfl) (lxX8_feed 4 2 rfl) (lxX8_feed 4 3 rfl)
set_option maxRecDepth 20000 in
theorem dX8_feed_68 : decode cX8_feed 68 = .ok (.aload_n 0, 1) := dc_42 (lxX8_feed 4 4 rfl)
set_option maxRecDepth 20000 in
theorem dX8_feed_69 : decode cX8_feed 69 = .ok (.getfield 24, 3) := dc_180 0 24 (lxX8_feed 4 5 rfl) (lxX8_feed 4 6 rfl) (lxX8_feed 4 7 rfl)
set_option maxRecDepth 20000 in
theorem dX8_feed_72 : decode cX8_feed 72 = .ok (.aload_n 0, 1) := dc_42 (lxX8_feed 4 8 rfl)
set_option maxRecDepth 20000 in
theorem dX8_feed_73 : decode cX8_feed 73 = .ok (.dup, 1) := dc_89 (lxX8_feed 4 9 rfl)
set_option maxRecDepth 20000 in
theorem dX8_feed_74 : decode cX8_feed 74 = .ok (.getfield 129, 3) := dc_180 0 129 (lxX8_feed 4 10 rfl) (lxX8_feed 4 11 rfl) (lxX8_feed 4 12 rfl)
set_option maxRecDepth 20000 in
theorem dX8_feed_77 : decode cX8_feed 77 = .ok (.dup_x1, 1) := dc_90 (lxX8_feed 4 13 rfl)
set_option maxRecDepth 20000 in
theorem dX8_feed_78 : decode cX8_feed 78 = .ok (.iconst 1, 1) := dc_4 (lxX8_feed 4 14 rfl)
set_option maxRecDepth 20000 in
theorem dX8_feed_79 : decode cX8_feed 79 = .ok (.iadd, 1) := dc_96 (lxX8_feed 4 15 rfl)
set_option maxRecDepth 20000 in
theorem dX8_feed_80 : decode cX8_feed 80 = .ok (.putfield 129, 3) := dc_181 0 129 (lxX8_feed 5 0 rfl) (lxX8_feed 5 1 rfl) (lxX8_feed 5 2 rfl)
set_option maxRecDepth 20000 in
theorem dX8_feed_83 : decode cX8_feed 83 = .ok (.iload_n 1, 1) := dc_27 (lxX8_feed 5 3 rfl)
set_option maxRecDepth 20000 in
theorem dX8_feed_84 : decode cX8_feed 84 = .ok (.iload 4, 2) := dc_21 4 (lxX8_feed 5 4 rfl) (lxX8_feed 5 5 rfl)
set_option maxRecDepth 20000 in
theorem dX8_feed_86 : decode cX8_feed 86 = .ok (.invokestatic 103, 3) := dc_184 0 103 (lxX8_feed 5 6 rfl) (lxX8_feed 5 7 rfl) (lxX8_feed 5 8 rfl)
set_option maxRecDepth 20000 in
theorem dX8_feed_89 : decode cX8_feed 89 = .ok (.iastore, 1) := dc_79 (lxX8_feed 5 9 rfl)
set_option maxRecDepth 20000 in
theorem dX8_feed_90 : decode cX8_feed 90 = .ok (.iinc 4 1, 3) := dc_132 4 1 (lxX8_feed 5 10 rfl) (lxX8_feed 5 11 rfl) (lxX8_feed 5 12 rfl)
set_option maxRecDepth 20000 in
theorem dX8_feed_93 : decode cX8_feed 93 = .ok (.goto (-31), 3) := dc_167 255 225 (lxX8_feed 5 13 rfl) (lxX8_feed 5 14 rfl) (lxX8_feed 5 15 rfl)
set_option maxRecDepth 20000 in
theorem dX8_feed_96 : decode cX8_feed 96 = .ok (.aload_n 0, 1) := dc_42 (lxX8_feed 6 0 rfl)
set_option maxRecDepth 20000 in
theorem dX8_feed_97 : decode cX8_feed 97 = .ok (.iload_n 3, 1) := dc_29 (lxX8_feed 6 1 rfl)
set_option maxRecDepth 20000 in
theorem dX8_feed_98 : decode cX8_feed 98 = .ok (.invokevirtual 62, 3) := dc_182 0 62 (lxX8_feed 6 2 rfl) (lxX8_feed 6 3 rfl) (lxX8_feed 6 4 rfl)
set_option maxRecDepth 20000 in
theorem dX8_feed_101 : decode cX8_feed 101 = .ok (.ireturn, 1) := dc_172 (lxX8_feed 6 5 rfl)
noncomputable def sgX8_drain : List (List Cond) := [[.code yX8_drain cX8_drain 3 (some (.object "java/lang/String"))], wsX8_drain_r1, wsX8_drain_r2, wsX8_drain_r3, wsX8_drain_r4, wsX8_drain_r5, wsX8_drain_r6, wsX8_drain_r7, wsX8_drain_r8, wsX8_drain_r9, wsX80, wsJ40, wsJ00]
theorem seX8_drain : sgX8_drain.flatten = wsX8_drain := by simp only [sgX8_drain, wsX8_drain, List.flatten_cons, List.flatten_nil, List.append_assoc, List.append_nil, List.cons_append, List.nil_append]
set_option maxRecDepth 20000 in
theorem ggX8_drain_X8_isNo : GoodIn wsX8_drain wsX8_isNo := goodIn_s seX8_drain _ [pq_1_10] (by rfl) (by decide +kernel)
set_option maxRecDepth 20000 in
theorem gX8_drain_X8_isNo : GoodIn wsX8_drain (va_wsS RX8 41 yX8_isNo wsX8_isNo) := goodIn_app (goodIn_s seX8_drain _ [pq_1_7, pq_1_8, pq_1_9] (by rfl) (by decide +kernel)) ggX8_drain_X8_isNo
set_option maxRecDepth 20000 in
theorem ggX8_drain_X8_isThrown : GoodIn wsX8_drain wsX8_isThrown := goodIn_s seX8_drain _ [pq_1_14, pq_1_15, pq_10_0, pq_10_1, pq_10_2, pq_10_3, pq_10_4, pq_10_5, pq_10_6, pq_10_7, pq_10_8, pq_10_9, pq_10_10] (by rfl) (by decide +kernel)
set_option maxRecDepth 20000 in
theorem gX8_drain_X8_isThrown : GoodIn wsX8_drain (wsV RX8 81 RX8 yX8_isThrown wsX8_isThrown) := goodIn_app (goodIn_s seX8_drain _ [pq_1_11, pq_1_12, pq_1_13, pq_1_9] (by rfl) (by decide +kernel)) ggX8_drain_X8_isThrown
set_option maxRecDepth 20000 in
theorem ggX8_drain_X8_done : GoodIn wsX8_drain wsX8_done := goodIn_s seX8_drain _ [pq_1_19, pq_1_20, pq_10_0, pq_10_1, pq_10_2, pq_10_3, pq_10_4, pq_10_5, pq_10_6, pq_10_7, pq_10_8, pq_10_9, pq_10_10] (by rfl) (by decide +kernel)
set_option maxRecDepth 20000 in
theorem gX8_drain_X8_done : GoodIn wsX8_drain (wsV RX8 62 RX8 yX8_done wsX8_done) := goodIn_app (goodIn_s seX8_drain _ [pq_1_16, pq_1_17, pq_1_18, pq_1_9] (by rfl) (by decide +kernel)) ggX8_drain_X8_done
set_option maxRecDepth 20000 in
theorem ggX8_drain_X8_told : GoodIn wsX8_drain wsX8_told := goodIn_s seX8_drain _ [pq_1_23, pq_2_0, pq_2_1, pq_2_2, pq_2_3, pq_2_4, pq_2_5, pq_2_6, pq_2_7, pq_2_8, pq_2_9, pq_2_10, pq_2_11, pq_2_12, pq_2_13, pq_2_14, pq_2_15, pq_2_16, pq_2_17, pq_2_18, pq_2_19, pq_2_20, pq_2_21, pq_2_22, pq_2_23, pq_3_0, pq_3_1, pq_3_2, pq_3_3, pq_3_4, pq_3_5, pq_3_6, pq_3_7, pq_3_8, pq_3_9, pq_3_10, pq_3_11, pq_3_12, pq_3_13, pq_3_14, pq_3_15, pq_3_16, pq_3_17, pq_3_18, pq_3_19, pq_3_20, pq_3_21, pq_3_22, pq_3_23, pq_4_0, pq_4_1, pq_4_2, pq_4_3, pq_1_4, pq_4_4, pq_4_5, pq_4_6, pq_4_7, pq_4_8, pq_4_9, pq_4_10, pq_4_11, pq_4_12, pq_4_13, pq_4_14, pq_4_15, pq_4_16, pq_4_17, pq_4_18, pq_4_19, pq_1_3, pq_1_5, pq_4_20, pq_4_21, pq_4_22, pq_4_23, pq_5_0, pq_5_1, pq_5_2, pq_5_3, pq_5_4, pq_5_5, pq_5_6, pq_5_7, pq_5_8, pq_5_9, pq_5_10, pq_5_11, pq_5_12, pq_5_13, pq_5_14, pq_5_15, pq_5_16, pq_5_17, pq_5_18, pq_5_19, pq_5_20, pq_5_21, pq_5_22, pq_5_23, pq_6_0, pq_6_1, pq_6_2, pq_6_3, pq_6_4, pq_6_5, pq_6_6, pq_6_7, pq_6_8, pq_6_9, pq_6_10, pq_6_11, pq_6_12, pq_6_13, pq_6_14, pq_6_15, pq_6_16, pq_6_17, pq_6_18, pq_6_19, pq_6_20, pq_6_21, pq_6_22, pq_6_23, pq_7_0, pq_7_1, pq_7_2, pq_7_3, pq_7_4, pq_7_5, pq_7_6, pq_7_7, pq_7_8, pq_7_9, pq_7_10, pq_7_11, pq_7_12, pq_7_13, pq_7_14, pq_7_15, pq_7_16, pq_7_17, pq_7_18, pq_7_19, pq_7_20, pq_7_21, pq_7_22, pq_7_23, pq_8_0, pq_8_1, pq_8_2, pq_8_3, pq_8_4, pq_8_5, pq_8_6, pq_8_7, pq_8_8, pq_8_9, pq_8_10, pq_8_11, pq_8_12, pq_8_13, pq_8_14, pq_8_15, pq_8_16, pq_8_17, pq_8_18, pq_8_19, pq_8_20, pq_8_21, pq_8_22, pq_8_23, pq_9_0, pq_9_1, pq_9_2, pq_9_3, pq_9_4, pq_9_5, pq_9_6, pq_9_7, pq_9_8, pq_9_9, pq_9_10, pq_9_11, pq_11_0, pq_11_1, pq_11_2, pq_11_3, pq_12_0, pq_12_1, pq_12_2, pq_12_3] (by rfl) (by decide +kernel)
set_option maxRecDepth 20000 in
theorem gX8_drain_X8_told : GoodIn wsX8_drain (va_wsS RX8 111 yX8_told wsX8_told) := goodIn_app (goodIn_s seX8_drain _ [pq_1_21, pq_1_22, pq_1_9] (by rfl) (by decide +kernel)) ggX8_drain_X8_told
def lb_sgX8_drain : List (List UInt8) := [[42, 27, 3, 16, 8, 184, 0, 41, 3, 182, 0, 81, 153, 0, 6, 18], [109, 176, 42, 180, 0, 132, 61, 42, 89, 180, 0, 132, 27, 42, 180, 0], [129, 42, 180, 0, 132, 100, 184, 0, 97, 96, 181, 0, 132, 42, 3, 182], [0, 62, 87, 42, 180, 0, 24, 28, 42, 180, 0, 132, 184, 0, 111, 176]]
set_option maxRecDepth 100000 in
theorem lb_seX8_drain : cX8_drain.data.toList = lb_sgX8_drain.flatten := by decide +kernel
theorem lb_lnX8_drain : ∀ s ∈ lb_sgX8_drain.dropLast, s.length = 16 := by decide +kernel
theorem lxX8_drain (k j : Nat) {b : UInt8} (h : (lb_sgX8_drain[k]?).bind (fun s => s[j]?) = some b) : lb_at cX8_drain (16 * k + j) b := by
  unfold lb_at
  rw [lb_seX8_drain]
  exact lb_flat 16 lb_sgX8_drain k j b lb_lnX8_drain h
set_option maxRecDepth 20000 in
theorem dX8_drain_0 : decode cX8_drain 0 = .ok (.aload_n 0, 1) := dc_42 (lxX8_drain 0 0 rfl)
set_option maxRecDepth 20000 in
theorem dX8_drain_1 : decode cX8_drain 1 = .ok (.iload_n 1, 1) := dc_27 (lxX8_drain 0 1 rfl)
set_option maxRecDepth 20000 in
theorem dX8_drain_2 : decode cX8_drain 2 = .ok (.iconst 0, 1) := dc_3 (lxX8_drain 0 2 rfl)
set_option maxRecDepth 20000 in
theorem dX8_drain_3 : decode cX8_drain 3 = .ok (.bipush 8, 2) := dc_16 8 (lxX8_drain 0 3 rfl) (lxX8_drain 0 4 rfl)
set_option maxRecDepth 20000 in
theorem dX8_drain_5 : decode cX8_drain 5 = .ok (.invokestatic 41, 3) := dc_184 0 41 (lxX8_drain 0 5 rfl) (lxX8_drain 0 6 rfl) (lxX8_drain 0 7 rfl)
set_option maxRecDepth 20000 in
theorem dX8_drain_8 : decode cX8_drain 8 = .ok (.iconst 0, 1) := dc_3 (lxX8_drain 0 8 rfl)
set_option maxRecDepth 20000 in
theorem dX8_drain_9 : decode cX8_drain 9 = .ok (.invokevirtual 81, 3) := dc_182 0 81 (lxX8_drain 0 9 rfl) (lxX8_drain 0 10 rfl) (lxX8_drain 0 11 rfl)
set_option maxRecDepth 20000 in
theorem dX8_drain_12 : decode cX8_drain 12 = .ok (.ifCond .eq 6, 3) := dc_153 0 6 (lxX8_drain 0 12 rfl) (lxX8_drain 0 13 rfl) (lxX8_drain 0 14 rfl)
set_option maxRecDepth 20000 in
theorem dX8_drain_15 : decode cX8_drain 15 = .ok (.ldc 109, 2) := dc_18 109 (lxX8_drain 0 15 rfl) (lxX8_drain 1 0 rfl)
set_option maxRecDepth 20000 in
theorem dX8_drain_17 : decode cX8_drain 17 = .ok (.areturn, 1) := dc_176 (lxX8_drain 1 1 rfl)
set_option maxRecDepth 20000 in
theorem dX8_drain_18 : decode cX8_drain 18 = .ok (.aload_n 0, 1) := dc_42 (lxX8_drain 1 2 rfl)
set_option maxRecDepth 20000 in
theorem dX8_drain_19 : decode cX8_drain 19 = .ok (.getfield 132, 3) := dc_180 0 132 (lxX8_drain 1 3 rfl) (lxX8_drain 1 4 rfl) (lxX8_drain 1 5 rfl)
set_option maxRecDepth 20000 in
theorem dX8_drain_22 : decode cX8_drain 22 = .ok (.istore_n 2, 1) := dc_61 (lxX8_drain 1 6 rfl)
set_option maxRecDepth 20000 in
theorem dX8_drain_23 : decode cX8_drain 23 = .ok (.aload_n 0, 1) := dc_42 (lxX8_drain 1 7 rfl)
set_option maxRecDepth 20000 in
theorem dX8_drain_24 : decode cX8_drain 24 = .ok (.dup, 1) := dc_89 (lxX8_drain 1 8 rfl)
set_option maxRecDepth 20000 in
theorem dX8_drain_25 : decode cX8_drain 25 = .ok (.getfield 132, 3) := dc_180 0 132 (lxX8_drain 1 9 rfl) (lxX8_drain 1 10 rfl) (lxX8_drain 1 11 rfl)
set_option maxRecDepth 20000 in
theorem dX8_drain_28 : decode cX8_drain 28 = .ok (.iload_n 1, 1) := dc_27 (lxX8_drain 1 12 rfl)
set_option maxRecDepth 20000 in
theorem dX8_drain_29 : decode cX8_drain 29 = .ok (.aload_n 0, 1) := dc_42 (lxX8_drain 1 13 rfl)
set_option maxRecDepth 20000 in
theorem dX8_drain_30 : decode cX8_drain 30 = .ok (.getfield 129, 3) := dc_180 0 129 (lxX8_drain 1 14 rfl) (lxX8_drain 1 15 rfl) (lxX8_drain 2 0 rfl)
set_option maxRecDepth 20000 in
theorem dX8_drain_33 : decode cX8_drain 33 = .ok (.aload_n 0, 1) := dc_42 (lxX8_drain 2 1 rfl)
set_option maxRecDepth 20000 in
theorem dX8_drain_34 : decode cX8_drain 34 = .ok (.getfield 132, 3) := dc_180 0 132 (lxX8_drain 2 2 rfl) (lxX8_drain 2 3 rfl) (lxX8_drain 2 4 rfl)
set_option maxRecDepth 20000 in
theorem dX8_drain_37 : decode cX8_drain 37 = .ok (.isub, 1) := dc_100 (lxX8_drain 2 5 rfl)
set_option maxRecDepth 20000 in
theorem dX8_drain_38 : decode cX8_drain 38 = .ok (.invokestatic 97, 3) := dc_184 0 97 (lxX8_drain 2 6 rfl) (lxX8_drain 2 7 rfl) (lxX8_drain 2 8 rfl)
set_option maxRecDepth 20000 in
theorem dX8_drain_41 : decode cX8_drain 41 = .ok (.iadd, 1) := dc_96 (lxX8_drain 2 9 rfl)
set_option maxRecDepth 20000 in
theorem dX8_drain_42 : decode cX8_drain 42 = .ok (.putfield 132, 3) := dc_181 0 132 (lxX8_drain 2 10 rfl) (lxX8_drain 2 11 rfl) (lxX8_drain 2 12 rfl)
set_option maxRecDepth 20000 in
theorem dX8_drain_45 : decode cX8_drain 45 = .ok (.aload_n 0, 1) := dc_42 (lxX8_drain 2 13 rfl)
set_option maxRecDepth 20000 in
theorem dX8_drain_46 : decode cX8_drain 46 = .ok (.iconst 0, 1) := dc_3 (lxX8_drain 2 14 rfl)
set_option maxRecDepth 20000 in
theorem dX8_drain_47 : decode cX8_drain 47 = .ok (.invokevirtual 62, 3) := dc_182 0 62 (lxX8_drain 2 15 rfl) (lxX8_drain 3 0 rfl) (lxX8_drain 3 1 rfl)
set_option maxRecDepth 20000 in
theorem dX8_drain_50 : decode cX8_drain 50 = .ok (.pop, 1) := dc_87 (lxX8_drain 3 2 rfl)
set_option maxRecDepth 20000 in
theorem dX8_drain_51 : decode cX8_drain 51 = .ok (.aload_n 0, 1) := dc_42 (lxX8_drain 3 3 rfl)
set_option maxRecDepth 20000 in
theorem dX8_drain_52 : decode cX8_drain 52 = .ok (.getfield 24, 3) := dc_180 0 24 (lxX8_drain 3 4 rfl) (lxX8_drain 3 5 rfl) (lxX8_drain 3 6 rfl)
set_option maxRecDepth 20000 in
theorem dX8_drain_55 : decode cX8_drain 55 = .ok (.iload_n 2, 1) := dc_28 (lxX8_drain 3 7 rfl)
set_option maxRecDepth 20000 in
theorem dX8_drain_56 : decode cX8_drain 56 = .ok (.aload_n 0, 1) := dc_42 (lxX8_drain 3 8 rfl)
set_option maxRecDepth 20000 in
theorem dX8_drain_57 : decode cX8_drain 57 = .ok (.getfield 132, 3) := dc_180 0 132 (lxX8_drain 3 9 rfl) (lxX8_drain 3 10 rfl) (lxX8_drain 3 11 rfl)
set_option maxRecDepth 20000 in
theorem dX8_drain_60 : decode cX8_drain 60 = .ok (.invokestatic 111, 3) := dc_184 0 111 (lxX8_drain 3 12 rfl) (lxX8_drain 3 13 rfl) (lxX8_drain 3 14 rfl)
set_option maxRecDepth 20000 in
theorem dX8_drain_63 : decode cX8_drain 63 = .ok (.areturn, 1) := dc_176 (lxX8_drain 3 15 rfl)
noncomputable def sgX8_pump : List (List Cond) := [[.code yX8_pump cX8_pump 9 (some (.object "java/lang/String"))], wsX8_pump_r1, wsX8_pump_r2, wsX8_pump_r3, wsX8_pump_r4, wsX8_pump_r5, wsX8_pump_r6, wsX8_pump_r7, wsX8_pump_r8, wsX8_pump_r9, wsX8_pump_r10, wsX80, wsJ40, wsJ00]
theorem seX8_pump : sgX8_pump.flatten = wsX8_pump := by simp only [sgX8_pump, wsX8_pump, List.flatten_cons, List.flatten_nil, List.append_assoc, List.append_nil, List.cons_append, List.nil_append]
set_option maxRecDepth 20000 in
theorem ggX8_pump_X8_isNoSource : GoodIn wsX8_pump wsX8_isNoSource := goodIn_s seX8_pump _ [pq_1_13, pq_1_14, pq_1_15, pq_1_12, pq_1_16] (by rfl) (by decide +kernel)
set_option maxRecDepth 20000 in
theorem gX8_pump_X8_isNoSource : GoodIn wsX8_pump (va_wsS RX8 119 yX8_isNoSource wsX8_isNoSource) := goodIn_app (goodIn_s seX8_pump _ [pq_1_10, pq_1_11, pq_1_12] (by rfl) (by decide +kernel)) ggX8_pump_X8_isNoSource
set_option maxRecDepth 20000 in
theorem ggX8_pump_X8_isNo : GoodIn wsX8_pump wsX8_isNo := goodIn_s seX8_pump _ [pq_1_16] (by rfl) (by decide +kernel)
set_option maxRecDepth 20000 in
theorem gX8_pump_X8_isNo : GoodIn wsX8_pump (va_wsS RX8 41 yX8_isNo wsX8_isNo) := goodIn_app (goodIn_s seX8_pump _ [pq_1_14, pq_1_15, pq_1_12] (by rfl) (by decide +kernel)) ggX8_pump_X8_isNo
set_option maxRecDepth 20000 in
theorem ggX8_pump_X8_isThrown : GoodIn wsX8_pump wsX8_isThrown := goodIn_s seX8_pump _ [pq_1_20, pq_1_1, pq_11_0, pq_11_1, pq_11_2, pq_11_3, pq_11_4, pq_11_5, pq_11_6, pq_11_7, pq_11_8, pq_11_9, pq_11_10] (by rfl) (by decide +kernel)
set_option maxRecDepth 20000 in
theorem gX8_pump_X8_isThrown : GoodIn wsX8_pump (wsV RX8 81 RX8 yX8_isThrown wsX8_isThrown) := goodIn_app (goodIn_s seX8_pump _ [pq_1_17, pq_1_18, pq_1_19, pq_1_12] (by rfl) (by decide +kernel)) ggX8_pump_X8_isThrown
set_option maxRecDepth 20000 in
theorem ggX8_pump_X8_textOf : GoodIn wsX8_pump wsX8_textOf := goodIn_s seX8_pump _ [pq_2_0, pq_2_1, pq_2_2, pq_2_3, pq_2_4, pq_2_5, pq_2_6, pq_1_12, pq_2_7, pq_2_8, pq_2_9, pq_2_10, pq_2_11, pq_2_12, pq_11_0, pq_11_1, pq_11_2, pq_11_3, pq_11_4, pq_11_5, pq_11_6, pq_11_7, pq_11_8, pq_11_9, pq_11_10] (by rfl) (by decide +kernel)
set_option maxRecDepth 20000 in
theorem gX8_pump_X8_textOf : GoodIn wsX8_pump (wsV RX8 122 RX8 yX8_textOf wsX8_textOf) := goodIn_app (goodIn_s seX8_pump _ [pq_1_21, pq_1_22, pq_1_23, pq_1_12] (by rfl) (by decide +kernel)) ggX8_pump_X8_textOf
set_option maxRecDepth 20000 in
theorem ggX8_pump_X8_done : GoodIn wsX8_pump wsX8_done := goodIn_s seX8_pump _ [pq_2_16, pq_1_9, pq_11_0, pq_11_1, pq_11_2, pq_11_3, pq_11_4, pq_11_5, pq_11_6, pq_11_7, pq_11_8, pq_11_9, pq_11_10] (by rfl) (by decide +kernel)
set_option maxRecDepth 20000 in
theorem gX8_pump_X8_done : GoodIn wsX8_pump (wsV RX8 62 RX8 yX8_done wsX8_done) := goodIn_app (goodIn_s seX8_pump _ [pq_2_13, pq_2_14, pq_2_15, pq_1_12] (by rfl) (by decide +kernel)) ggX8_pump_X8_done
set_option maxRecDepth 20000 in
theorem ggX8_pump_X8_told : GoodIn wsX8_pump wsX8_told := goodIn_s seX8_pump _ [pq_2_19, pq_2_20, pq_2_21, pq_2_22, pq_2_23, pq_3_0, pq_3_1, pq_3_2, pq_3_3, pq_3_4, pq_3_5, pq_3_6, pq_3_7, pq_3_8, pq_3_9, pq_3_10, pq_3_11, pq_3_12, pq_3_13, pq_3_14, pq_3_15, pq_3_16, pq_3_17, pq_3_18, pq_3_19, pq_3_20, pq_3_21, pq_3_22, pq_3_23, pq_4_0, pq_4_1, pq_4_2, pq_4_3, pq_4_4, pq_4_5, pq_4_6, pq_4_7, pq_4_8, pq_4_9, pq_4_10, pq_4_11, pq_4_12, pq_4_13, pq_4_14, pq_4_15, pq_4_16, pq_4_17, pq_4_18, pq_4_19, pq_4_20, pq_4_21, pq_4_22, pq_4_23, pq_1_6, pq_5_0, pq_5_1, pq_5_2, pq_5_3, pq_5_4, pq_5_5, pq_5_6, pq_5_7, pq_5_8, pq_5_9, pq_5_10, pq_5_11, pq_5_12, pq_5_13, pq_5_14, pq_5_15, pq_1_5, pq_1_7, pq_5_16, pq_5_17, pq_5_18, pq_5_19, pq_5_20, pq_5_21, pq_5_22, pq_5_23, pq_6_0, pq_6_1, pq_6_2, pq_6_3, pq_6_4, pq_6_5, pq_6_6, pq_6_7, pq_6_8, pq_6_9, pq_6_10, pq_6_11, pq_6_12, pq_6_13, pq_6_14, pq_6_15, pq_6_16, pq_6_17, pq_6_18, pq_6_19, pq_6_20, pq_6_21, pq_6_22, pq_6_23, pq_7_0, pq_7_1, pq_7_2, pq_7_3, pq_7_4, pq_7_5, pq_7_6, pq_7_7, pq_7_8, pq_7_9, pq_7_10, pq_7_11, pq_7_12, pq_7_13, pq_7_14, pq_7_15, pq_7_16, pq_7_17, pq_7_18, pq_7_19, pq_7_20, pq_7_21, pq_7_22, pq_7_23, pq_8_0, pq_8_1, pq_8_2, pq_8_3, pq_8_4, pq_8_5, pq_8_6, pq_8_7, pq_8_8, pq_8_9, pq_8_10, pq_8_11, pq_8_12, pq_8_13, pq_8_14, pq_8_15, pq_8_16, pq_8_17, pq_8_18, pq_8_19, pq_8_20, pq_8_21, pq_8_22, pq_8_23, pq_9_0, pq_9_1, pq_9_2, pq_9_3, pq_9_4, pq_9_5, pq_9_6, pq_9_7, pq_9_8, pq_9_9, pq_9_10, pq_9_11, pq_9_12, pq_9_13, pq_9_14, pq_9_15, pq_9_16, pq_9_17, pq_9_18, pq_9_19, pq_9_20, pq_9_21, pq_9_22, pq_9_23, pq_10_0, pq_10_1, pq_10_2, pq_10_3, pq_10_4, pq_10_5, pq_10_6, pq_10_7, pq_12_0, pq_12_1, pq_12_2, pq_12_3, pq_13_0, pq_13_1, pq_13_2, pq_13_3] (by rfl) (by decide +kernel)
set_option maxRecDepth 20000 in
theorem gX8_pump_X8_told : GoodIn wsX8_pump (va_wsS RX8 111 yX8_told wsX8_told) := goodIn_app (goodIn_s seX8_pump _ [pq_2_17, pq_2_18, pq_1_12] (by rfl) (by decide +kernel)) ggX8_pump_X8_told
def lb_sgX8_pump : List (List UInt8) := [[42, 27, 184, 0, 119, 28, 4, 16, 8, 184, 0, 41, 154, 0, 13, 29], [4, 16, 8, 184, 0, 41, 153, 0, 7, 4, 167, 0, 4, 3, 182, 0], [81, 153, 0, 6, 18, 109, 176, 42, 27, 182, 0, 122, 58, 4, 42, 180], [0, 129, 25, 4, 190, 96, 17, 0, 160, 164, 0, 11, 42, 6, 181, 0], [38, 18, 109, 176, 42, 180, 0, 132, 54, 5, 3, 54, 6, 21, 6, 25], [4, 190, 161, 0, 14, 42, 180, 0, 129, 42, 180, 0, 132, 164, 0, 107], [28, 25, 4, 190, 21, 6, 100, 42, 180, 0, 27, 42, 180, 0, 129, 42], [180, 0, 132, 100, 100, 184, 0, 97, 184, 0, 97, 54, 7, 3, 54, 8], [21, 8, 21, 7, 162, 0, 33, 42, 180, 0, 24, 42, 89, 180, 0, 129], [90, 4, 96, 181, 0, 129, 25, 4, 21, 6, 132, 6, 1, 46, 79, 132], [8, 1, 167, 255, 222, 42, 89, 180, 0, 132, 29, 42, 180, 0, 129, 42], [180, 0, 132, 100, 184, 0, 97, 96, 181, 0, 132, 42, 180, 0, 31, 6], [92, 46, 4, 96, 79, 167, 255, 136, 42, 3, 182, 0, 62, 87, 42, 180], [0, 24, 21, 5, 42, 180, 0, 132, 184, 0, 111, 176]]
set_option maxRecDepth 100000 in
theorem lb_seX8_pump : cX8_pump.data.toList = lb_sgX8_pump.flatten := by decide +kernel
theorem lb_lnX8_pump : ∀ s ∈ lb_sgX8_pump.dropLast, s.length = 16 := by decide +kernel
theorem lxX8_pump (k j : Nat) {b : UInt8} (h : (lb_sgX8_pump[k]?).bind (fun s => s[j]?) = some b) : lb_at cX8_pump (16 * k + j) b := by
  unfold lb_at
  rw [lb_seX8_pump]
  exact lb_flat 16 lb_sgX8_pump k j b lb_lnX8_pump h
set_option maxRecDepth 20000 in
theorem dX8_pump_0 : decode cX8_pump 0 = .ok (.aload_n 0, 1) := dc_42 (lxX8_pump 0 0 rfl)
set_option maxRecDepth 20000 in
theorem dX8_pump_1 : decode cX8_pump 1 = .ok (.iload_n 1, 1) := dc_27 (lxX8_pump 0 1 rfl)
set_option maxRecDepth 20000 in
theorem dX8_pump_2 : decode cX8_pump 2 = .ok (.invokestatic 119, 3) := dc_184 0 119 (lxX8_pump 0 2 rfl) (lxX8_pump 0 3 rfl) (lxX8_pump 0 4 rfl)
set_option maxRecDepth 20000 in
theorem dX8_pump_5 : decode cX8_pump 5 = .ok (.iload_n 2, 1) := dc_28 (lxX8_pump 0 5 rfl)
set_option maxRecDepth 20000 in
theorem dX8_pump_6 : decode cX8_pump 6 = .ok (.iconst 1, 1) := dc_4 (lxX8_pump 0 6 rfl)
set_option maxRecDepth 20000 in
theorem dX8_pump_7 : decode cX8_pump 7 = .ok (.bipush 8, 2) := dc_16 8 (lxX8_pump 0 7 rfl) (lxX8_pump 0 8 rfl)
set_option maxRecDepth 20000 in
theorem dX8_pump_9 : decode cX8_pump 9 = .ok (.invokestatic 41, 3) := dc_184 0 41 (lxX8_pump 0 9 rfl) (lxX8_pump 0 10 rfl) (lxX8_pump 0 11 rfl)
set_option maxRecDepth 20000 in
theorem dX8_pump_12 : decode cX8_pump 12 = .ok (.ifCond .ne 13, 3) := dc_154 0 13 (lxX8_pump 0 12 rfl) (lxX8_pump 0 13 rfl) (lxX8_pump 0 14 rfl)
set_option maxRecDepth 20000 in
theorem dX8_pump_15 : decode cX8_pump 15 = .ok (.iload_n 3, 1) := dc_29 (lxX8_pump 0 15 rfl)
set_option maxRecDepth 20000 in
theorem dX8_pump_16 : decode cX8_pump 16 = .ok (.iconst 1, 1) := dc_4 (lxX8_pump 1 0 rfl)
set_option maxRecDepth 20000 in
theorem dX8_pump_17 : decode cX8_pump 17 = .ok (.bipush 8, 2) := dc_16 8 (lxX8_pump 1 1 rfl) (lxX8_pump 1 2 rfl)
set_option maxRecDepth 20000 in
theorem dX8_pump_19 : decode cX8_pump 19 = .ok (.invokestatic 41, 3) := dc_184 0 41 (lxX8_pump 1 3 rfl) (lxX8_pump 1 4 rfl) (lxX8_pump 1 5 rfl)
set_option maxRecDepth 20000 in
theorem dX8_pump_22 : decode cX8_pump 22 = .ok (.ifCond .eq 7, 3) := dc_153 0 7 (lxX8_pump 1 6 rfl) (lxX8_pump 1 7 rfl) (lxX8_pump 1 8 rfl)
set_option maxRecDepth 20000 in
theorem dX8_pump_25 : decode cX8_pump 25 = .ok (.iconst 1, 1) := dc_4 (lxX8_pump 1 9 rfl)
set_option maxRecDepth 20000 in
theorem dX8_pump_26 : decode cX8_pump 26 = .ok (.goto 4, 3) := dc_167 0 4 (lxX8_pump 1 10 rfl) (lxX8_pump 1 11 rfl) (lxX8_pump 1 12 rfl)
set_option maxRecDepth 20000 in
theorem dX8_pump_29 : decode cX8_pump 29 = .ok (.iconst 0, 1) := dc_3 (lxX8_pump 1 13 rfl)
set_option maxRecDepth 20000 in
theorem dX8_pump_30 : decode cX8_pump 30 = .ok (.invokevirtual 81, 3) := dc_182 0 81 (lxX8_pump 1 14 rfl) (lxX8_pump 1 15 rfl) (lxX8_pump 2 0 rfl)
set_option maxRecDepth 20000 in
theorem dX8_pump_33 : decode cX8_pump 33 = .ok (.ifCond .eq 6, 3) := dc_153 0 6 (lxX8_pump 2 1 rfl) (lxX8_pump 2 2 rfl) (lxX8_pump 2 3 rfl)
set_option maxRecDepth 20000 in
theorem dX8_pump_36 : decode cX8_pump 36 = .ok (.ldc 109, 2) := dc_18 109 (lxX8_pump 2 4 rfl) (lxX8_pump 2 5 rfl)
set_option maxRecDepth 20000 in
theorem dX8_pump_38 : decode cX8_pump 38 = .ok (.areturn, 1) := dc_176 (lxX8_pump 2 6 rfl)
set_option maxRecDepth 20000 in
theorem dX8_pump_39 : decode cX8_pump 39 = .ok (.aload_n 0, 1) := dc_42 (lxX8_pump 2 7 rfl)
set_option maxRecDepth 20000 in
theorem dX8_pump_40 : decode cX8_pump 40 = .ok (.iload_n 1, 1) := dc_27 (lxX8_pump 2 8 rfl)
set_option maxRecDepth 20000 in
theorem dX8_pump_41 : decode cX8_pump 41 = .ok (.invokevirtual 122, 3) := dc_182 0 122 (lxX8_pump 2 9 rfl) (lxX8_pump 2 10 rfl) (lxX8_pump 2 11 rfl)
set_option maxRecDepth 20000 in
theorem dX8_pump_44 : decode cX8_pump 44 = .ok (.astore 4, 2) := dc_58 4 (lxX8_pump 2 12 rfl) (lxX8_pump 2 13 rfl)
set_option maxRecDepth 20000 in
theorem dX8_pump_46 : decode cX8_pump 46 = .ok (.aload_n 0, 1) := dc_42 (lxX8_pump 2 14 rfl)
set_option maxRecDepth 20000 in
theorem dX8_pump_47 : decode cX8_pump 47 = .ok (.getfield 129, 3) := dc_180 0 129 (lxX8_pump 2 15 rfl) (lxX8_pump 3 0 rfl) (lxX8_pump 3 1 rfl)
set_option maxRecDepth 20000 in
theorem dX8_pump_50 : decode cX8_pump 50 = .ok (.aload 4, 2) := dc_25 4 (lxX8_pump 3 2 rfl) (lxX8_pump 3 3 rfl)
set_option maxRecDepth 20000 in
theorem dX8_pump_52 : decode cX8_pump 52 = .ok (.arraylength, 1) := dc_190 (lxX8_pump 3 4 rfl)
set_option maxRecDepth 20000 in
theorem dX8_pump_53 : decode cX8_pump 53 = .ok (.iadd, 1) := dc_96 (lxX8_pump 3 5 rfl)
set_option maxRecDepth 20000 in
theorem dX8_pump_54 : decode cX8_pump 54 = .ok (.sipush 160, 3) := dc_17 0 160 (lxX8_pump 3 6 rfl) (lxX8_pump 3 7 rfl) (lxX8_pump 3 8 rfl)
set_option maxRecDepth 20000 in
theorem dX8_pump_57 : decode cX8_pump 57 = .ok (.if_icmp .le 11, 3) := dc_164 0 11 (lxX8_pump 3 9 rfl) (lxX8_pump 3 10 rfl) (lxX8_pump 3 11 rfl)
set_option maxRecDepth 20000 in
theorem dX8_pump_60 : decode cX8_pump 60 = .ok (.aload_n 0, 1) := dc_42 (lxX8_pump 3 12 rfl)
set_option maxRecDepth 20000 in
theorem dX8_pump_61 : decode cX8_pump 61 = .ok (.iconst 3, 1) := dc_6 (lxX8_pump 3 13 rfl)
set_option maxRecDepth 20000 in
theorem dX8_pump_62 : decode cX8_pump 62 = .ok (.putfield 38, 3) := dc_181 0 38 (lxX8_pump 3 14 rfl) (lxX8_pump 3 15 rfl) (lxX8_pump 4 0 rfl)
set_option maxRecDepth 20000 in
theorem dX8_pump_65 : decode cX8_pump 65 = .ok (.ldc 109, 2) := dc_18 109 (lxX8_pump 4 1 rfl) (lxX8_pump 4 2 rfl)
set_option maxRecDepth 20000 in
theorem dX8_pump_67 : decode cX8_pump 67 = .ok (.areturn, 1) := dc_176 (lxX8_pump 4 3 rfl)
set_option maxRecDepth 20000 in
theorem dX8_pump_68 : decode cX8_pump 68 = .ok (.aload_n 0, 1) := dc_42 (lxX8_pump 4 4 rfl)
set_option maxRecDepth 20000 in
theorem dX8_pump_69 : decode cX8_pump 69 = .ok (.getfield 132, 3) := dc_180 0 132 (lxX8_pump 4 5 rfl) (lxX8_pump 4 6 rfl) (lxX8_pump 4 7 rfl)
set_option maxRecDepth 20000 in
theorem dX8_pump_72 : decode cX8_pump 72 = .ok (.istore 5, 2) := dc_54 5 (lxX8_pump 4 8 rfl) (lxX8_pump 4 9 rfl)
set_option maxRecDepth 20000 in
theorem dX8_pump_74 : decode cX8_pump 74 = .ok (.iconst 0, 1) := dc_3 (lxX8_pump 4 10 rfl)
set_option maxRecDepth 20000 in
theorem dX8_pump_75 : decode cX8_pump 75 = .ok (.istore 6, 2) := dc_54 6 (lxX8_pump 4 11 rfl) (lxX8_pump 4 12 rfl)
set_option maxRecDepth 20000 in
theorem dX8_pump_77 : decode cX8_pump 77 = .ok (.iload 6, 2) := dc_21 6 (lxX8_pump 4 13 rfl) (lxX8_pump 4 14 rfl)
set_option maxRecDepth 20000 in
theorem dX8_pump_79 : decode cX8_pump 79 = .ok (.aload 4, 2) := dc_25 4 (lxX8_pump 4 15 rfl) (lxX8_pump 5 0 rfl)
set_option maxRecDepth 20000 in
theorem dX8_pump_81 : decode cX8_pump 81 = .ok (.arraylength, 1) := dc_190 (lxX8_pump 5 1 rfl)
set_option maxRecDepth 20000 in
theorem dX8_pump_82 : decode cX8_pump 82 = .ok (.if_icmp .lt 14, 3) := dc_161 0 14 (lxX8_pump 5 2 rfl) (lxX8_pump 5 3 rfl) (lxX8_pump 5 4 rfl)
set_option maxRecDepth 20000 in
theorem dX8_pump_85 : decode cX8_pump 85 = .ok (.aload_n 0, 1) := dc_42 (lxX8_pump 5 5 rfl)
set_option maxRecDepth 20000 in
theorem dX8_pump_86 : decode cX8_pump 86 = .ok (.getfield 129, 3) := dc_180 0 129 (lxX8_pump 5 6 rfl) (lxX8_pump 5 7 rfl) (lxX8_pump 5 8 rfl)
set_option maxRecDepth 20000 in
theorem dX8_pump_89 : decode cX8_pump 89 = .ok (.aload_n 0, 1) := dc_42 (lxX8_pump 5 9 rfl)
set_option maxRecDepth 20000 in
theorem dX8_pump_90 : decode cX8_pump 90 = .ok (.getfield 132, 3) := dc_180 0 132 (lxX8_pump 5 10 rfl) (lxX8_pump 5 11 rfl) (lxX8_pump 5 12 rfl)
set_option maxRecDepth 20000 in
theorem dX8_pump_93 : decode cX8_pump 93 = .ok (.if_icmp .le 107, 3) := dc_164 0 107 (lxX8_pump 5 13 rfl) (lxX8_pump 5 14 rfl) (lxX8_pump 5 15 rfl)
set_option maxRecDepth 20000 in
theorem dX8_pump_96 : decode cX8_pump 96 = .ok (.iload_n 2, 1) := dc_28 (lxX8_pump 6 0 rfl)
set_option maxRecDepth 20000 in
theorem dX8_pump_97 : decode cX8_pump 97 = .ok (.aload 4, 2) := dc_25 4 (lxX8_pump 6 1 rfl) (lxX8_pump 6 2 rfl)
set_option maxRecDepth 20000 in
theorem dX8_pump_99 : decode cX8_pump 99 = .ok (.arraylength, 1) := dc_190 (lxX8_pump 6 3 rfl)
set_option maxRecDepth 20000 in
theorem dX8_pump_100 : decode cX8_pump 100 = .ok (.iload 6, 2) := dc_21 6 (lxX8_pump 6 4 rfl) (lxX8_pump 6 5 rfl)
set_option maxRecDepth 20000 in
theorem dX8_pump_102 : decode cX8_pump 102 = .ok (.isub, 1) := dc_100 (lxX8_pump 6 6 rfl)
set_option maxRecDepth 20000 in
theorem dX8_pump_103 : decode cX8_pump 103 = .ok (.aload_n 0, 1) := dc_42 (lxX8_pump 6 7 rfl)
set_option maxRecDepth 20000 in
theorem dX8_pump_104 : decode cX8_pump 104 = .ok (.getfield 27, 3) := dc_180 0 27 (lxX8_pump 6 8 rfl) (lxX8_pump 6 9 rfl) (lxX8_pump 6 10 rfl)
set_option maxRecDepth 20000 in
theorem dX8_pump_107 : decode cX8_pump 107 = .ok (.aload_n 0, 1) := dc_42 (lxX8_pump 6 11 rfl)
set_option maxRecDepth 20000 in
theorem dX8_pump_108 : decode cX8_pump 108 = .ok (.getfield 129, 3) := dc_180 0 129 (lxX8_pump 6 12 rfl) (lxX8_pump 6 13 rfl) (lxX8_pump 6 14 rfl)
set_option maxRecDepth 20000 in
theorem dX8_pump_111 : decode cX8_pump 111 = .ok (.aload_n 0, 1) := dc_42 (lxX8_pump 6 15 rfl)
set_option maxRecDepth 20000 in
theorem dX8_pump_112 : decode cX8_pump 112 = .ok (.getfield 132, 3) := dc_180 0 132 (lxX8_pump 7 0 rfl) (lxX8_pump 7 1 rfl) (lxX8_pump 7 2 rfl)
set_option maxRecDepth 20000 in
theorem dX8_pump_115 : decode cX8_pump 115 = .ok (.isub, 1) := dc_100 (lxX8_pump 7 3 rfl)
set_option maxRecDepth 20000 in
theorem dX8_pump_116 : decode cX8_pump 116 = .ok (.isub, 1) := dc_100 (lxX8_pump 7 4 rfl)
set_option maxRecDepth 20000 in
theorem dX8_pump_117 : decode cX8_pump 117 = .ok (.invokestatic 97, 3) := dc_184 0 97 (lxX8_pump 7 5 rfl) (lxX8_pump 7 6 rfl) (lxX8_pump 7 7 rfl)
set_option maxRecDepth 20000 in
theorem dX8_pump_120 : decode cX8_pump 120 = .ok (.invokestatic 97, 3) := dc_184 0 97 (lxX8_pump 7 8 rfl) (lxX8_pump 7 9 rfl) (lxX8_pump 7 10 rfl)
set_option maxRecDepth 20000 in
theorem dX8_pump_123 : decode cX8_pump 123 = .ok (.istore 7, 2) := dc_54 7 (lxX8_pump 7 11 rfl) (lxX8_pump 7 12 rfl)
set_option maxRecDepth 20000 in
theorem dX8_pump_125 : decode cX8_pump 125 = .ok (.iconst 0, 1) := dc_3 (lxX8_pump 7 13 rfl)
set_option maxRecDepth 20000 in
theorem dX8_pump_126 : decode cX8_pump 126 = .ok (.istore 8, 2) := dc_54 8 (lxX8_pump 7 14 rfl) (lxX8_pump 7 15 rfl)
set_option maxRecDepth 20000 in
theorem dX8_pump_128 : decode cX8_pump 128 = .ok (.iload 8, 2) := dc_21 8 (lxX8_pump 8 0 rfl) (lxX8_pump 8 1 rfl)
set_option maxRecDepth 20000 in
theorem dX8_pump_130 : decode cX8_pump 130 = .ok (.iload 7, 2) := dc_21 7 (lxX8_pump 8 2 rfl) (lxX8_pump 8 3 rfl)
set_option maxRecDepth 20000 in
theorem dX8_pump_132 : decode cX8_pump 132 = .ok (.if_icmp .ge 33, 3) := dc_162 0 33 (lxX8_pump 8 4 rfl) (lxX8_pump 8 5 rfl) (lxX8_pump 8 6 rfl)
set_option maxRecDepth 20000 in
theorem dX8_pump_135 : decode cX8_pump 135 = .ok (.aload_n 0, 1) := dc_42 (lxX8_pump 8 7 rfl)
set_option maxRecDepth 20000 in
theorem dX8_pump_136 : decode cX8_pump 136 = .ok (.getfield 24, 3) := dc_180 0 24 (lxX8_pump 8 8 rfl) (lxX8_pump 8 9 rfl) (lxX8_pump 8 10 rfl)
set_option maxRecDepth 20000 in
theorem dX8_pump_139 : decode cX8_pump 139 = .ok (.aload_n 0, 1) := dc_42 (lxX8_pump 8 11 rfl)
set_option maxRecDepth 20000 in
theorem dX8_pump_140 : decode cX8_pump 140 = .ok (.dup, 1) := dc_89 (lxX8_pump 8 12 rfl)
set_option maxRecDepth 20000 in
theorem dX8_pump_141 : decode cX8_pump 141 = .ok (.getfield 129, 3) := dc_180 0 129 (lxX8_pump 8 13 rfl) (lxX8_pump 8 14 rfl) (lxX8_pump 8 15 rfl)
set_option maxRecDepth 20000 in
theorem dX8_pump_144 : decode cX8_pump 144 = .ok (.dup_x1, 1) := dc_90 (lxX8_pump 9 0 rfl)
set_option maxRecDepth 20000 in
theorem dX8_pump_145 : decode cX8_pump 145 = .ok (.iconst 1, 1) := dc_4 (lxX8_pump 9 1 rfl)
set_option maxRecDepth 20000 in
theorem dX8_pump_146 : decode cX8_pump 146 = .ok (.iadd, 1) := dc_96 (lxX8_pump 9 2 rfl)
set_option maxRecDepth 20000 in
theorem dX8_pump_147 : decode cX8_pump 147 = .ok (.putfield 129, 3) := dc_181 0 129 (lxX8_pump 9 3 rfl) (lxX8_pump 9 4 rfl) (lxX8_pump 9 5 rfl)
set_option maxRecDepth 20000 in
theorem dX8_pump_150 : decode cX8_pump 150 = .ok (.aload 4, 2) := dc_25 4 (lxX8_pump 9 6 rfl) (lxX8_pump 9 7 rfl)
set_option maxRecDepth 20000 in
theorem dX8_pump_152 : decode cX8_pump 152 = .ok (.iload 6, 2) := dc_21 6 (lxX8_pump 9 8 rfl) (lxX8_pump 9 9 rfl)
set_option maxRecDepth 20000 in
theorem dX8_pump_154 : decode cX8_pump 154 = .ok (.iinc 6 1, 3) := dc_132 6 1 (lxX8_pump 9 10 rfl) (lxX8_pump 9 11 rfl) (lxX8_pump 9 12 rfl)
set_option maxRecDepth 20000 in
theorem dX8_pump_157 : decode cX8_pump 157 = .ok (.iaload, 1) := dc_46 (lxX8_pump 9 13 rfl)
set_option maxRecDepth 20000 in
theorem dX8_pump_158 : decode cX8_pump 158 = .ok (.iastore, 1) := dc_79 (lxX8_pump 9 14 rfl)
set_option maxRecDepth 20000 in
theorem dX8_pump_159 : decode cX8_pump 159 = .ok (.iinc 8 1, 3) := dc_132 8 1 (lxX8_pump 9 15 rfl) (lxX8_pump 10 0 rfl) (lxX8_pump 10 1 rfl)
set_option maxRecDepth 20000 in
theorem dX8_pump_162 : decode cX8_pump 162 = .ok (.goto (-34), 3) := dc_167 255 222 (lxX8_pump 10 2 rfl) (lxX8_pump 10 3 rfl) (lxX8_pump 10 4 rfl)
set_option maxRecDepth 20000 in
theorem dX8_pump_165 : decode cX8_pump 165 = .ok (.aload_n 0, 1) := dc_42 (lxX8_pump 10 5 rfl)
set_option maxRecDepth 20000 in
theorem dX8_pump_166 : decode cX8_pump 166 = .ok (.dup, 1) := dc_89 (lxX8_pump 10 6 rfl)
set_option maxRecDepth 20000 in
theorem dX8_pump_167 : decode cX8_pump 167 = .ok (.getfield 132, 3) := dc_180 0 132 (lxX8_pump 10 7 rfl) (lxX8_pump 10 8 rfl) (lxX8_pump 10 9 rfl)
set_option maxRecDepth 20000 in
theorem dX8_pump_170 : decode cX8_pump 170 = .ok (.iload_n 3, 1) := dc_29 (lxX8_pump 10 10 rfl)
set_option maxRecDepth 20000 in
theorem dX8_pump_171 : decode cX8_pump 171 = .ok (.aload_n 0, 1) := dc_42 (lxX8_pump 10 11 rfl)
set_option maxRecDepth 20000 in
theorem dX8_pump_172 : decode cX8_pump 172 = .ok (.getfield 129, 3) := dc_180 0 129 (lxX8_pump 10 12 rfl) (lxX8_pump 10 13 rfl) (lxX8_pump 10 14 rfl)
set_option maxRecDepth 20000 in
theorem dX8_pump_175 : decode cX8_pump 175 = .ok (.aload_n 0, 1) := dc_42 (lxX8_pump 10 15 rfl)
set_option maxRecDepth 20000 in
theorem dX8_pump_176 : decode cX8_pump 176 = .ok (.getfield 132, 3) := dc_180 0 132 (lxX8_pump 11 0 rfl) (lxX8_pump 11 1 rfl) (lxX8_pump 11 2 rfl)
set_option maxRecDepth 20000 in
theorem dX8_pump_179 : decode cX8_pump 179 = .ok (.isub, 1) := dc_100 (lxX8_pump 11 3 rfl)
set_option maxRecDepth 20000 in
theorem dX8_pump_180 : decode cX8_pump 180 = .ok (.invokestatic 97, 3) := dc_184 0 97 (lxX8_pump 11 4 rfl) (lxX8_pump 11 5 rfl) (lxX8_pump 11 6 rfl)
set_option maxRecDepth 20000 in
theorem dX8_pump_183 : decode cX8_pump 183 = .ok (.iadd, 1) := dc_96 (lxX8_pump 11 7 rfl)
set_option maxRecDepth 20000 in
theorem dX8_pump_184 : decode cX8_pump 184 = .ok (.putfield 132, 3) := dc_181 0 132 (lxX8_pump 11 8 rfl) (lxX8_pump 11 9 rfl) (lxX8_pump 11 10 rfl)
set_option maxRecDepth 20000 in
theorem dX8_pump_187 : decode cX8_pump 187 = .ok (.aload_n 0, 1) := dc_42 (lxX8_pump 11 11 rfl)
set_option maxRecDepth 20000 in
theorem dX8_pump_188 : decode cX8_pump 188 = .ok (.getfield 31, 3) := dc_180 0 31 (lxX8_pump 11 12 rfl) (lxX8_pump 11 13 rfl) (lxX8_pump 11 14 rfl)
set_option maxRecDepth 20000 in
theorem dX8_pump_191 : decode cX8_pump 191 = .ok (.iconst 3, 1) := dc_6 (lxX8_pump 11 15 rfl)
set_option maxRecDepth 20000 in
theorem dX8_pump_192 : decode cX8_pump 192 = .ok (.dup2, 1) := dc_92 (lxX8_pump 12 0 rfl)
set_option maxRecDepth 20000 in
theorem dX8_pump_193 : decode cX8_pump 193 = .ok (.iaload, 1) := dc_46 (lxX8_pump 12 1 rfl)
set_option maxRecDepth 20000 in
theorem dX8_pump_194 : decode cX8_pump 194 = .ok (.iconst 1, 1) := dc_4 (lxX8_pump 12 2 rfl)
set_option maxRecDepth 20000 in
theorem dX8_pump_195 : decode cX8_pump 195 = .ok (.iadd, 1) := dc_96 (lxX8_pump 12 3 rfl)
set_option maxRecDepth 20000 in
theorem dX8_pump_196 : decode cX8_pump 196 = .ok (.iastore, 1) := dc_79 (lxX8_pump 12 4 rfl)
set_option maxRecDepth 20000 in
theorem dX8_pump_197 : decode cX8_pump 197 = .ok (.goto (-120), 3) := dc_167 255 136 (lxX8_pump 12 5 rfl) (lxX8_pump 12 6 rfl) (lxX8_pump 12 7 rfl)
set_option maxRecDepth 20000 in
theorem dX8_pump_200 : decode cX8_pump 200 = .ok (.aload_n 0, 1) := dc_42 (lxX8_pump 12 8 rfl)
set_option maxRecDepth 20000 in
theorem dX8_pump_201 : decode cX8_pump 201 = .ok (.iconst 0, 1) := dc_3 (lxX8_pump 12 9 rfl)
set_option maxRecDepth 20000 in
theorem dX8_pump_202 : decode cX8_pump 202 = .ok (.invokevirtual 62, 3) := dc_182 0 62 (lxX8_pump 12 10 rfl) (lxX8_pump 12 11 rfl) (lxX8_pump 12 12 rfl)
set_option maxRecDepth 20000 in
theorem dX8_pump_205 : decode cX8_pump 205 = .ok (.pop, 1) := dc_87 (lxX8_pump 12 13 rfl)
set_option maxRecDepth 20000 in
theorem dX8_pump_206 : decode cX8_pump 206 = .ok (.aload_n 0, 1) := dc_42 (lxX8_pump 12 14 rfl)
set_option maxRecDepth 20000 in
theorem dX8_pump_207 : decode cX8_pump 207 = .ok (.getfield 24, 3) := dc_180 0 24 (lxX8_pump 12 15 rfl) (lxX8_pump 13 0 rfl) (lxX8_pump 13 1 rfl)
set_option maxRecDepth 20000 in
theorem dX8_pump_210 : decode cX8_pump 210 = .ok (.iload 5, 2) := dc_21 5 (lxX8_pump 13 2 rfl) (lxX8_pump 13 3 rfl)
set_option maxRecDepth 20000 in
theorem dX8_pump_212 : decode cX8_pump 212 = .ok (.aload_n 0, 1) := dc_42 (lxX8_pump 13 4 rfl)
set_option maxRecDepth 20000 in
theorem dX8_pump_213 : decode cX8_pump 213 = .ok (.getfield 132, 3) := dc_180 0 132 (lxX8_pump 13 5 rfl) (lxX8_pump 13 6 rfl) (lxX8_pump 13 7 rfl)
set_option maxRecDepth 20000 in
theorem dX8_pump_216 : decode cX8_pump 216 = .ok (.invokestatic 111, 3) := dc_184 0 111 (lxX8_pump 13 8 rfl) (lxX8_pump 13 9 rfl) (lxX8_pump 13 10 rfl)
set_option maxRecDepth 20000 in
theorem dX8_pump_219 : decode cX8_pump 219 = .ok (.areturn, 1) := dc_176 (lxX8_pump 13 11 rfl)
noncomputable def sgX8_left : List (List Cond) := [[.code yX8_left cX8_left 3 (some .int)], [.fieldLink RX8 14 "SashwordsModel" "windows" "[[I", .methodLink RX8 77 yX8_isNoWindow, .static yX8_isNoWindow, .initialized RX8, .code yX8_isNoWindow cX8_isNoWindow 1 (some .boolean), .methodLink RX8 41 yX8_isNo, .static yX8_isNo, .code yX8_isNo cX8_isNo 3 (some .boolean), .methodLink RX8 81 yX8_isThrown, .instanceMethod yX8_isThrown, .selects RX8 yX8_isThrown yX8_isThrown, .code yX8_isThrown cX8_isThrown 3 (some .boolean), .fieldLink RX8 38 "SashwordsModel" "thrown" "I", .methodLink RX8 54 yX8_length, .static yX8_length, .code yX8_length cX8_length 1 (some .int)], wsX80]
theorem seX8_left : sgX8_left.flatten = wsX8_left := by simp only [sgX8_left, wsX8_left, List.flatten_cons, List.flatten_nil, List.append_assoc, List.append_nil, List.cons_append, List.nil_append]
set_option maxRecDepth 20000 in
theorem ggX8_left_X8_isNoWindow : GoodIn wsX8_left wsX8_isNoWindow := goodIn_s seX8_left _ [pq_1_4, pq_1_5, pq_1_6, pq_1_3, pq_1_7] (by rfl) (by decide +kernel)
set_option maxRecDepth 20000 in
theorem gX8_left_X8_isNoWindow : GoodIn wsX8_left (va_wsS RX8 77 yX8_isNoWindow wsX8_isNoWindow) := goodIn_app (goodIn_s seX8_left _ [pq_1_1, pq_1_2, pq_1_3] (by rfl) (by decide +kernel)) ggX8_left_X8_isNoWindow
set_option maxRecDepth 20000 in
theorem ggX8_left_X8_isNo : GoodIn wsX8_left wsX8_isNo := goodIn_s seX8_left _ [pq_1_7] (by rfl) (by decide +kernel)
set_option maxRecDepth 20000 in
theorem gX8_left_X8_isNo : GoodIn wsX8_left (va_wsS RX8 41 yX8_isNo wsX8_isNo) := goodIn_app (goodIn_s seX8_left _ [pq_1_5, pq_1_6, pq_1_3] (by rfl) (by decide +kernel)) ggX8_left_X8_isNo
set_option maxRecDepth 20000 in
theorem ggX8_left_X8_isThrown : GoodIn wsX8_left wsX8_isThrown := goodIn_s seX8_left _ [pq_1_11, pq_1_12, pq_2_0, pq_2_1, pq_2_2, pq_2_3, pq_2_4, pq_2_5, pq_2_6, pq_2_7, pq_2_8, pq_2_9, pq_2_10] (by rfl) (by decide +kernel)
set_option maxRecDepth 20000 in
theorem gX8_left_X8_isThrown : GoodIn wsX8_left (wsV RX8 81 RX8 yX8_isThrown wsX8_isThrown) := goodIn_app (goodIn_s seX8_left _ [pq_1_8, pq_1_9, pq_1_10, pq_1_3] (by rfl) (by decide +kernel)) ggX8_left_X8_isThrown
set_option maxRecDepth 20000 in
theorem ggX8_left_X8_length : GoodIn wsX8_left wsX8_length := goodIn_s seX8_left _ [pq_1_15] (by rfl) (by decide +kernel)
set_option maxRecDepth 20000 in
theorem gX8_left_X8_length : GoodIn wsX8_left (va_wsS RX8 54 yX8_length wsX8_length) := goodIn_app (goodIn_s seX8_left _ [pq_1_13, pq_1_14, pq_1_3] (by rfl) (by decide +kernel)) ggX8_left_X8_length
def lb_sgX8_left : List (List UInt8) := [[42, 27, 184, 0, 77, 28, 3, 4, 184, 0, 41, 182, 0, 81, 153, 0], [7, 3, 167, 0, 12, 42, 180, 0, 14, 27, 50, 184, 0, 54, 172]]
set_option maxRecDepth 100000 in
theorem lb_seX8_left : cX8_left.data.toList = lb_sgX8_left.flatten := by decide +kernel
theorem lb_lnX8_left : ∀ s ∈ lb_sgX8_left.dropLast, s.length = 16 := by decide +kernel
theorem lxX8_left (k j : Nat) {b : UInt8} (h : (lb_sgX8_left[k]?).bind (fun s => s[j]?) = some b) : lb_at cX8_left (16 * k + j) b := by
  unfold lb_at
  rw [lb_seX8_left]
  exact lb_flat 16 lb_sgX8_left k j b lb_lnX8_left h
set_option maxRecDepth 20000 in
theorem dX8_left_0 : decode cX8_left 0 = .ok (.aload_n 0, 1) := dc_42 (lxX8_left 0 0 rfl)
set_option maxRecDepth 20000 in
theorem dX8_left_1 : decode cX8_left 1 = .ok (.iload_n 1, 1) := dc_27 (lxX8_left 0 1 rfl)
set_option maxRecDepth 20000 in
theorem dX8_left_2 : decode cX8_left 2 = .ok (.invokestatic 77, 3) := dc_184 0 77 (lxX8_left 0 2 rfl) (lxX8_left 0 3 rfl) (lxX8_left 0 4 rfl)
set_option maxRecDepth 20000 in
theorem dX8_left_5 : decode cX8_left 5 = .ok (.iload_n 2, 1) := dc_28 (lxX8_left 0 5 rfl)
set_option maxRecDepth 20000 in
theorem dX8_left_6 : decode cX8_left 6 = .ok (.iconst 0, 1) := dc_3 (lxX8_left 0 6 rfl)
set_option maxRecDepth 20000 in
theorem dX8_left_7 : decode cX8_left 7 = .ok (.iconst 1, 1) := dc_4 (lxX8_left 0 7 rfl)
set_option maxRecDepth 20000 in
theorem dX8_left_8 : decode cX8_left 8 = .ok (.invokestatic 41, 3) := dc_184 0 41 (lxX8_left 0 8 rfl) (lxX8_left 0 9 rfl) (lxX8_left 0 10 rfl)
set_option maxRecDepth 20000 in
theorem dX8_left_11 : decode cX8_left 11 = .ok (.invokevirtual 81, 3) := dc_182 0 81 (lxX8_left 0 11 rfl) (lxX8_left 0 12 rfl) (lxX8_left 0 13 rfl)
set_option maxRecDepth 20000 in
theorem dX8_left_14 : decode cX8_left 14 = .ok (.ifCond .eq 7, 3) := dc_153 0 7 (lxX8_left 0 14 rfl) (lxX8_left 0 15 rfl) (lxX8_left 1 0 rfl)
set_option maxRecDepth 20000 in
theorem dX8_left_17 : decode cX8_left 17 = .ok (.iconst 0, 1) := dc_3 (lxX8_left 1 1 rfl)
set_option maxRecDepth 20000 in
theorem dX8_left_18 : decode cX8_left 18 = .ok (.goto 12, 3) := dc_167 0 12 (lxX8_left 1 2 rfl) (lxX8_left 1 3 rfl) (lxX8_left 1 4 rfl)
set_option maxRecDepth 20000 in
theorem dX8_left_21 : decode cX8_left 21 = .ok (.aload_n 0, 1) := dc_42 (lxX8_left 1 5 rfl)
set_option maxRecDepth 20000 in
theorem dX8_left_22 : decode cX8_left 22 = .ok (.getfield 14, 3) := dc_180 0 14 (lxX8_left 1 6 rfl) (lxX8_left 1 7 rfl) (lxX8_left 1 8 rfl)
set_option maxRecDepth 20000 in
theorem dX8_left_25 : decode cX8_left 25 = .ok (.iload_n 1, 1) := dc_27 (lxX8_left 1 9 rfl)
set_option maxRecDepth 20000 in
theorem dX8_left_26 : decode cX8_left 26 = .ok (.aaload, 1) := dc_50 (lxX8_left 1 10 rfl)
set_option maxRecDepth 20000 in
theorem dX8_left_27 : decode cX8_left 27 = .ok (.invokestatic 54, 3) := dc_184 0 54 (lxX8_left 1 11 rfl) (lxX8_left 1 12 rfl) (lxX8_left 1 13 rfl)
set_option maxRecDepth 20000 in
theorem dX8_left_30 : decode cX8_left 30 = .ok (.ireturn, 1) := dc_172 (lxX8_left 1 14 rfl)
noncomputable def sgX8_position : List (List Cond) := [[.code yX8_position cX8_position 2 (some .int)], [.fieldLink RX8 14 "SashwordsModel" "windows" "[[I", .methodLink RX8 77 yX8_isNoWindow, .static yX8_isNoWindow, .initialized RX8, .code yX8_isNoWindow cX8_isNoWindow 1 (some .boolean), .methodLink RX8 41 yX8_isNo, .static yX8_isNo, .code yX8_isNo cX8_isNo 3 (some .boolean), .methodLink RX8 81 yX8_isThrown, .instanceMethod yX8_isThrown, .selects RX8 yX8_isThrown yX8_isThrown, .code yX8_isThrown cX8_isThrown 3 (some .boolean), .fieldLink RX8 38 "SashwordsModel" "thrown" "I"], wsX80]
theorem seX8_position : sgX8_position.flatten = wsX8_position := by simp only [sgX8_position, wsX8_position, List.flatten_cons, List.flatten_nil, List.append_assoc, List.append_nil, List.cons_append, List.nil_append]
set_option maxRecDepth 20000 in
theorem ggX8_position_X8_isNoWindow : GoodIn wsX8_position wsX8_isNoWindow := goodIn_s seX8_position _ [pq_1_4, pq_1_5, pq_1_6, pq_1_3, pq_1_7] (by rfl) (by decide +kernel)
set_option maxRecDepth 20000 in
theorem gX8_position_X8_isNoWindow : GoodIn wsX8_position (va_wsS RX8 77 yX8_isNoWindow wsX8_isNoWindow) := goodIn_app (goodIn_s seX8_position _ [pq_1_1, pq_1_2, pq_1_3] (by rfl) (by decide +kernel)) ggX8_position_X8_isNoWindow
set_option maxRecDepth 20000 in
theorem ggX8_position_X8_isThrown : GoodIn wsX8_position wsX8_isThrown := goodIn_s seX8_position _ [pq_1_11, pq_1_12, pq_2_0, pq_2_1, pq_2_2, pq_2_3, pq_2_4, pq_2_5, pq_2_6, pq_2_7, pq_2_8, pq_2_9, pq_2_10] (by rfl) (by decide +kernel)
set_option maxRecDepth 20000 in
theorem gX8_position_X8_isThrown : GoodIn wsX8_position (wsV RX8 81 RX8 yX8_isThrown wsX8_isThrown) := goodIn_app (goodIn_s seX8_position _ [pq_1_8, pq_1_9, pq_1_10, pq_1_3] (by rfl) (by decide +kernel)) ggX8_position_X8_isThrown
def lb_sgX8_position : List (List UInt8) := [[42, 27, 184, 0, 77, 3, 182, 0, 81, 153, 0, 7, 3, 167, 0, 11], [42, 180, 0, 14, 27, 50, 6, 46, 172]]
set_option maxRecDepth 100000 in
theorem lb_seX8_position : cX8_position.data.toList = lb_sgX8_position.flatten := by decide +kernel
theorem lb_lnX8_position : ∀ s ∈ lb_sgX8_position.dropLast, s.length = 16 := by decide +kernel
theorem lxX8_position (k j : Nat) {b : UInt8} (h : (lb_sgX8_position[k]?).bind (fun s => s[j]?) = some b) : lb_at cX8_position (16 * k + j) b := by
  unfold lb_at
  rw [lb_seX8_position]
  exact lb_flat 16 lb_sgX8_position k j b lb_lnX8_position h
set_option maxRecDepth 20000 in
theorem dX8_position_0 : decode cX8_position 0 = .ok (.aload_n 0, 1) := dc_42 (lxX8_position 0 0 rfl)
set_option maxRecDepth 20000 in
theorem dX8_position_1 : decode cX8_position 1 = .ok (.iload_n 1, 1) := dc_27 (lxX8_position 0 1 rfl)
set_option maxRecDepth 20000 in
theorem dX8_position_2 : decode cX8_position 2 = .ok (.invokestatic 77, 3) := dc_184 0 77 (lxX8_position 0 2 rfl) (lxX8_position 0 3 rfl) (lxX8_position 0 4 rfl)
set_option maxRecDepth 20000 in
theorem dX8_position_5 : decode cX8_position 5 = .ok (.iconst 0, 1) := dc_3 (lxX8_position 0 5 rfl)
set_option maxRecDepth 20000 in
theorem dX8_position_6 : decode cX8_position 6 = .ok (.invokevirtual 81, 3) := dc_182 0 81 (lxX8_position 0 6 rfl) (lxX8_position 0 7 rfl) (lxX8_position 0 8 rfl)
set_option maxRecDepth 20000 in
theorem dX8_position_9 : decode cX8_position 9 = .ok (.ifCond .eq 7, 3) := dc_153 0 7 (lxX8_position 0 9 rfl) (lxX8_position 0 10 rfl) (lxX8_position 0 11 rfl)
set_option maxRecDepth 20000 in
theorem dX8_position_12 : decode cX8_position 12 = .ok (.iconst 0, 1) := dc_3 (lxX8_position 0 12 rfl)
set_option maxRecDepth 20000 in
theorem dX8_position_13 : decode cX8_position 13 = .ok (.goto 11, 3) := dc_167 0 11 (lxX8_position 0 13 rfl) (lxX8_position 0 14 rfl) (lxX8_position 0 15 rfl)
set_option maxRecDepth 20000 in
theorem dX8_position_16 : decode cX8_position 16 = .ok (.aload_n 0, 1) := dc_42 (lxX8_position 1 0 rfl)
set_option maxRecDepth 20000 in
theorem dX8_position_17 : decode cX8_position 17 = .ok (.getfield 14, 3) := dc_180 0 14 (lxX8_position 1 1 rfl) (lxX8_position 1 2 rfl) (lxX8_position 1 3 rfl)
set_option maxRecDepth 20000 in
theorem dX8_position_20 : decode cX8_position 20 = .ok (.iload_n 1, 1) := dc_27 (lxX8_position 1 4 rfl)
set_option maxRecDepth 20000 in
theorem dX8_position_21 : decode cX8_position 21 = .ok (.aaload, 1) := dc_50 (lxX8_position 1 5 rfl)
set_option maxRecDepth 20000 in
theorem dX8_position_22 : decode cX8_position 22 = .ok (.iconst 3, 1) := dc_6 (lxX8_position 1 6 rfl)
set_option maxRecDepth 20000 in
theorem dX8_position_23 : decode cX8_position 23 = .ok (.iaload, 1) := dc_46 (lxX8_position 1 7 rfl)
set_option maxRecDepth 20000 in
theorem dX8_position_24 : decode cX8_position 24 = .ok (.ireturn, 1) := dc_172 (lxX8_position 1 8 rfl)
noncomputable def sgX8_limit : List (List Cond) := [[.code yX8_limit cX8_limit 2 (some .int)], [.fieldLink RX8 14 "SashwordsModel" "windows" "[[I", .methodLink RX8 77 yX8_isNoWindow, .static yX8_isNoWindow, .initialized RX8, .code yX8_isNoWindow cX8_isNoWindow 1 (some .boolean), .methodLink RX8 41 yX8_isNo, .static yX8_isNo, .code yX8_isNo cX8_isNo 3 (some .boolean), .methodLink RX8 81 yX8_isThrown, .instanceMethod yX8_isThrown, .selects RX8 yX8_isThrown yX8_isThrown, .code yX8_isThrown cX8_isThrown 3 (some .boolean), .fieldLink RX8 38 "SashwordsModel" "thrown" "I"], wsX80]
theorem seX8_limit : sgX8_limit.flatten = wsX8_limit := by simp only [sgX8_limit, wsX8_limit, List.flatten_cons, List.flatten_nil, List.append_assoc, List.append_nil, List.cons_append, List.nil_append]
set_option maxRecDepth 20000 in
theorem ggX8_limit_X8_isNoWindow : GoodIn wsX8_limit wsX8_isNoWindow := goodIn_s seX8_limit _ [pq_1_4, pq_1_5, pq_1_6, pq_1_3, pq_1_7] (by rfl) (by decide +kernel)
set_option maxRecDepth 20000 in
theorem gX8_limit_X8_isNoWindow : GoodIn wsX8_limit (va_wsS RX8 77 yX8_isNoWindow wsX8_isNoWindow) := goodIn_app (goodIn_s seX8_limit _ [pq_1_1, pq_1_2, pq_1_3] (by rfl) (by decide +kernel)) ggX8_limit_X8_isNoWindow
set_option maxRecDepth 20000 in
theorem ggX8_limit_X8_isThrown : GoodIn wsX8_limit wsX8_isThrown := goodIn_s seX8_limit _ [pq_1_11, pq_1_12, pq_2_0, pq_2_1, pq_2_2, pq_2_3, pq_2_4, pq_2_5, pq_2_6, pq_2_7, pq_2_8, pq_2_9, pq_2_10] (by rfl) (by decide +kernel)
set_option maxRecDepth 20000 in
theorem gX8_limit_X8_isThrown : GoodIn wsX8_limit (wsV RX8 81 RX8 yX8_isThrown wsX8_isThrown) := goodIn_app (goodIn_s seX8_limit _ [pq_1_8, pq_1_9, pq_1_10, pq_1_3] (by rfl) (by decide +kernel)) ggX8_limit_X8_isThrown
def lb_sgX8_limit : List (List UInt8) := [[42, 27, 184, 0, 77, 3, 182, 0, 81, 153, 0, 7, 3, 167, 0, 11], [42, 180, 0, 14, 27, 50, 5, 46, 172]]
set_option maxRecDepth 100000 in
theorem lb_seX8_limit : cX8_limit.data.toList = lb_sgX8_limit.flatten := by decide +kernel
theorem lb_lnX8_limit : ∀ s ∈ lb_sgX8_limit.dropLast, s.length = 16 := by decide +kernel
theorem lxX8_limit (k j : Nat) {b : UInt8} (h : (lb_sgX8_limit[k]?).bind (fun s => s[j]?) = some b) : lb_at cX8_limit (16 * k + j) b := by
  unfold lb_at
  rw [lb_seX8_limit]
  exact lb_flat 16 lb_sgX8_limit k j b lb_lnX8_limit h
set_option maxRecDepth 20000 in
theorem dX8_limit_0 : decode cX8_limit 0 = .ok (.aload_n 0, 1) := dc_42 (lxX8_limit 0 0 rfl)
set_option maxRecDepth 20000 in
theorem dX8_limit_1 : decode cX8_limit 1 = .ok (.iload_n 1, 1) := dc_27 (lxX8_limit 0 1 rfl)
set_option maxRecDepth 20000 in
theorem dX8_limit_2 : decode cX8_limit 2 = .ok (.invokestatic 77, 3) := dc_184 0 77 (lxX8_limit 0 2 rfl) (lxX8_limit 0 3 rfl) (lxX8_limit 0 4 rfl)
set_option maxRecDepth 20000 in
theorem dX8_limit_5 : decode cX8_limit 5 = .ok (.iconst 0, 1) := dc_3 (lxX8_limit 0 5 rfl)
set_option maxRecDepth 20000 in
theorem dX8_limit_6 : decode cX8_limit 6 = .ok (.invokevirtual 81, 3) := dc_182 0 81 (lxX8_limit 0 6 rfl) (lxX8_limit 0 7 rfl) (lxX8_limit 0 8 rfl)
set_option maxRecDepth 20000 in
theorem dX8_limit_9 : decode cX8_limit 9 = .ok (.ifCond .eq 7, 3) := dc_153 0 7 (lxX8_limit 0 9 rfl) (lxX8_limit 0 10 rfl) (lxX8_limit 0 11 rfl)
set_option maxRecDepth 20000 in
theorem dX8_limit_12 : decode cX8_limit 12 = .ok (.iconst 0, 1) := dc_3 (lxX8_limit 0 12 rfl)
set_option maxRecDepth 20000 in
theorem dX8_limit_13 : decode cX8_limit 13 = .ok (.goto 11, 3) := dc_167 0 11 (lxX8_limit 0 13 rfl) (lxX8_limit 0 14 rfl) (lxX8_limit 0 15 rfl)
set_option maxRecDepth 20000 in
theorem dX8_limit_16 : decode cX8_limit 16 = .ok (.aload_n 0, 1) := dc_42 (lxX8_limit 1 0 rfl)
set_option maxRecDepth 20000 in
theorem dX8_limit_17 : decode cX8_limit 17 = .ok (.getfield 14, 3) := dc_180 0 14 (lxX8_limit 1 1 rfl) (lxX8_limit 1 2 rfl) (lxX8_limit 1 3 rfl)
set_option maxRecDepth 20000 in
theorem dX8_limit_20 : decode cX8_limit 20 = .ok (.iload_n 1, 1) := dc_27 (lxX8_limit 1 4 rfl)
set_option maxRecDepth 20000 in
theorem dX8_limit_21 : decode cX8_limit 21 = .ok (.aaload, 1) := dc_50 (lxX8_limit 1 5 rfl)
set_option maxRecDepth 20000 in
theorem dX8_limit_22 : decode cX8_limit 22 = .ok (.iconst 2, 1) := dc_5 (lxX8_limit 1 6 rfl)
set_option maxRecDepth 20000 in
theorem dX8_limit_23 : decode cX8_limit 23 = .ok (.iaload, 1) := dc_46 (lxX8_limit 1 7 rfl)
set_option maxRecDepth 20000 in
theorem dX8_limit_24 : decode cX8_limit 24 = .ok (.ireturn, 1) := dc_172 (lxX8_limit 1 8 rfl)
noncomputable def sgX8_capacity : List (List Cond) := [[.code yX8_capacity cX8_capacity 2 (some .int)], [.fieldLink RX8 14 "SashwordsModel" "windows" "[[I", .methodLink RX8 77 yX8_isNoWindow, .static yX8_isNoWindow, .initialized RX8, .code yX8_isNoWindow cX8_isNoWindow 1 (some .boolean), .methodLink RX8 41 yX8_isNo, .static yX8_isNo, .code yX8_isNo cX8_isNo 3 (some .boolean), .methodLink RX8 81 yX8_isThrown, .instanceMethod yX8_isThrown, .selects RX8 yX8_isThrown yX8_isThrown, .code yX8_isThrown cX8_isThrown 3 (some .boolean), .fieldLink RX8 38 "SashwordsModel" "thrown" "I"], wsX80]
theorem seX8_capacity : sgX8_capacity.flatten = wsX8_capacity := by simp only [sgX8_capacity, wsX8_capacity, List.flatten_cons, List.flatten_nil, List.append_assoc, List.append_nil, List.cons_append, List.nil_append]
set_option maxRecDepth 20000 in
theorem ggX8_capacity_X8_isNoWindow : GoodIn wsX8_capacity wsX8_isNoWindow := goodIn_s seX8_capacity _ [pq_1_4, pq_1_5, pq_1_6, pq_1_3, pq_1_7] (by rfl) (by decide +kernel)
set_option maxRecDepth 20000 in
theorem gX8_capacity_X8_isNoWindow : GoodIn wsX8_capacity (va_wsS RX8 77 yX8_isNoWindow wsX8_isNoWindow) := goodIn_app (goodIn_s seX8_capacity _ [pq_1_1, pq_1_2, pq_1_3] (by rfl) (by decide +kernel)) ggX8_capacity_X8_isNoWindow
set_option maxRecDepth 20000 in
theorem ggX8_capacity_X8_isThrown : GoodIn wsX8_capacity wsX8_isThrown := goodIn_s seX8_capacity _ [pq_1_11, pq_1_12, pq_2_0, pq_2_1, pq_2_2, pq_2_3, pq_2_4, pq_2_5, pq_2_6, pq_2_7, pq_2_8, pq_2_9, pq_2_10] (by rfl) (by decide +kernel)
set_option maxRecDepth 20000 in
theorem gX8_capacity_X8_isThrown : GoodIn wsX8_capacity (wsV RX8 81 RX8 yX8_isThrown wsX8_isThrown) := goodIn_app (goodIn_s seX8_capacity _ [pq_1_8, pq_1_9, pq_1_10, pq_1_3] (by rfl) (by decide +kernel)) ggX8_capacity_X8_isThrown
def lb_sgX8_capacity : List (List UInt8) := [[42, 27, 184, 0, 77, 3, 182, 0, 81, 153, 0, 7, 3, 167, 0, 11], [42, 180, 0, 14, 27, 50, 4, 46, 172]]
set_option maxRecDepth 100000 in
theorem lb_seX8_capacity : cX8_capacity.data.toList = lb_sgX8_capacity.flatten := by decide +kernel
theorem lb_lnX8_capacity : ∀ s ∈ lb_sgX8_capacity.dropLast, s.length = 16 := by decide +kernel
theorem lxX8_capacity (k j : Nat) {b : UInt8} (h : (lb_sgX8_capacity[k]?).bind (fun s => s[j]?) = some b) : lb_at cX8_capacity (16 * k + j) b := by
  unfold lb_at
  rw [lb_seX8_capacity]
  exact lb_flat 16 lb_sgX8_capacity k j b lb_lnX8_capacity h
set_option maxRecDepth 20000 in
theorem dX8_capacity_0 : decode cX8_capacity 0 = .ok (.aload_n 0, 1) := dc_42 (lxX8_capacity 0 0 rfl)
set_option maxRecDepth 20000 in
theorem dX8_capacity_1 : decode cX8_capacity 1 = .ok (.iload_n 1, 1) := dc_27 (lxX8_capacity 0 1 rfl)
set_option maxRecDepth 20000 in
theorem dX8_capacity_2 : decode cX8_capacity 2 = .ok (.invokestatic 77, 3) := dc_184 0 77 (lxX8_capacity 0 2 rfl) (lxX8_capacity 0 3 rfl) (lxX8_capacity 0 4 rfl)
set_option maxRecDepth 20000 in
theorem dX8_capacity_5 : decode cX8_capacity 5 = .ok (.iconst 0, 1) := dc_3 (lxX8_capacity 0 5 rfl)
set_option maxRecDepth 20000 in
theorem dX8_capacity_6 : decode cX8_capacity 6 = .ok (.invokevirtual 81, 3) := dc_182 0 81 (lxX8_capacity 0 6 rfl) (lxX8_capacity 0 7 rfl) (lxX8_capacity 0 8 rfl)
set_option maxRecDepth 20000 in
theorem dX8_capacity_9 : decode cX8_capacity 9 = .ok (.ifCond .eq 7, 3) := dc_153 0 7 (lxX8_capacity 0 9 rfl) (lxX8_capacity 0 10 rfl) (lxX8_capacity 0 11 rfl)
set_option maxRecDepth 20000 in
theorem dX8_capacity_12 : decode cX8_capacity 12 = .ok (.iconst 0, 1) := dc_3 (lxX8_capacity 0 12 rfl)
set_option maxRecDepth 20000 in
theorem dX8_capacity_13 : decode cX8_capacity 13 = .ok (.goto 11, 3) := dc_167 0 11 (lxX8_capacity 0 13 rfl) (lxX8_capacity 0 14 rfl) (lxX8_capacity 0 15 rfl)
set_option maxRecDepth 20000 in
theorem dX8_capacity_16 : decode cX8_capacity 16 = .ok (.aload_n 0, 1) := dc_42 (lxX8_capacity 1 0 rfl)
set_option maxRecDepth 20000 in
theorem dX8_capacity_17 : decode cX8_capacity 17 = .ok (.getfield 14, 3) := dc_180 0 14 (lxX8_capacity 1 1 rfl) (lxX8_capacity 1 2 rfl) (lxX8_capacity 1 3 rfl)
set_option maxRecDepth 20000 in
theorem dX8_capacity_20 : decode cX8_capacity 20 = .ok (.iload_n 1, 1) := dc_27 (lxX8_capacity 1 4 rfl)
set_option maxRecDepth 20000 in
theorem dX8_capacity_21 : decode cX8_capacity 21 = .ok (.aaload, 1) := dc_50 (lxX8_capacity 1 5 rfl)
set_option maxRecDepth 20000 in
theorem dX8_capacity_22 : decode cX8_capacity 22 = .ok (.iconst 1, 1) := dc_4 (lxX8_capacity 1 6 rfl)
set_option maxRecDepth 20000 in
theorem dX8_capacity_23 : decode cX8_capacity 23 = .ok (.iaload, 1) := dc_46 (lxX8_capacity 1 7 rfl)
set_option maxRecDepth 20000 in
theorem dX8_capacity_24 : decode cX8_capacity 24 = .ok (.ireturn, 1) := dc_172 (lxX8_capacity 1 8 rfl)
def lb_sgX8_markOf : List (List UInt8) := [[42, 7, 46, 156, 0, 8, 16, 247, 167, 0, 6, 42, 7, 46, 172]]
set_option maxRecDepth 100000 in
theorem lb_seX8_markOf : cX8_markOf.data.toList = lb_sgX8_markOf.flatten := by decide +kernel
theorem lb_lnX8_markOf : ∀ s ∈ lb_sgX8_markOf.dropLast, s.length = 16 := by decide +kernel
theorem lxX8_markOf (k j : Nat) {b : UInt8} (h : (lb_sgX8_markOf[k]?).bind (fun s => s[j]?) = some b) : lb_at cX8_markOf (16 * k + j) b := by
  unfold lb_at
  rw [lb_seX8_markOf]
  exact lb_flat 16 lb_sgX8_markOf k j b lb_lnX8_markOf h
set_option maxRecDepth 20000 in
theorem dX8_markOf_0 : decode cX8_markOf 0 = .ok (.aload_n 0, 1) := dc_42 (lxX8_markOf 0 0 rfl)
set_option maxRecDepth 20000 in
theorem dX8_markOf_1 : decode cX8_markOf 1 = .ok (.iconst 4, 1) := dc_7 (lxX8_markOf 0 1 rfl)
set_option maxRecDepth 20000 in
theorem dX8_markOf_2 : decode cX8_markOf 2 = .ok (.iaload, 1) := dc_46 (lxX8_markOf 0 2 rfl)
set_option maxRecDepth 20000 in
theorem dX8_markOf_3 : decode cX8_markOf 3 = .ok (.ifCond .ge 8, 3) := dc_156 0 8 (lxX8_markOf 0 3 rfl) (lxX8_markOf 0 4 rfl) (lxX8_markOf 0 5 rfl)
set_option maxRecDepth 20000 in
theorem dX8_markOf_6 : decode cX8_markOf 6 = .ok (.bipush (-9), 2) := dc_16 247 (lxX8_markOf 0 6 rfl) (lxX8_markOf 0 7 rfl)
set_option maxRecDepth 20000 in
theorem dX8_markOf_8 : decode cX8_markOf 8 = .ok (.goto 6, 3) := dc_167 0 6 (lxX8_markOf 0 8 rfl) (lxX8_markOf 0 9 rfl) (lxX8_markOf 0 10 rfl)
set_option maxRecDepth 20000 in
theorem dX8_markOf_11 : decode cX8_markOf 11 = .ok (.aload_n 0, 1) := dc_42 (lxX8_markOf 0 11 rfl)
set_option maxRecDepth 20000 in
theorem dX8_markOf_12 : decode cX8_markOf 12 = .ok (.iconst 4, 1) := dc_7 (lxX8_markOf 0 12 rfl)
set_option maxRecDepth 20000 in
theorem dX8_markOf_13 : decode cX8_markOf 13 = .ok (.iaload, 1) := dc_46 (lxX8_markOf 0 13 rfl)
set_option maxRecDepth 20000 in
theorem dX8_markOf_14 : decode cX8_markOf 14 = .ok (.ireturn, 1) := dc_172 (lxX8_markOf 0 14 rfl)
noncomputable def sgX8_marked : List (List Cond) := [[.code yX8_marked cX8_marked 2 (some .int)], [.fieldLink RX8 14 "SashwordsModel" "windows" "[[I", .methodLink RX8 77 yX8_isNoWindow, .static yX8_isNoWindow, .initialized RX8, .code yX8_isNoWindow cX8_isNoWindow 1 (some .boolean), .methodLink RX8 41 yX8_isNo, .static yX8_isNo, .code yX8_isNo cX8_isNo 3 (some .boolean), .methodLink RX8 81 yX8_isThrown, .instanceMethod yX8_isThrown, .selects RX8 yX8_isThrown yX8_isThrown, .code yX8_isThrown cX8_isThrown 3 (some .boolean), .fieldLink RX8 38 "SashwordsModel" "thrown" "I", .methodLink RX8 135 yX8_markOf, .static yX8_markOf, .code yX8_markOf cX8_markOf 1 (some .int)], wsX80]
theorem seX8_marked : sgX8_marked.flatten = wsX8_marked := by simp only [sgX8_marked, wsX8_marked, List.flatten_cons, List.flatten_nil, List.append_assoc, List.append_nil, List.cons_append, List.nil_append]
set_option maxRecDepth 20000 in
theorem ggX8_marked_X8_isNoWindow : GoodIn wsX8_marked wsX8_isNoWindow := goodIn_s seX8_marked _ [pq_1_4, pq_1_5, pq_1_6, pq_1_3, pq_1_7] (by rfl) (by decide +kernel)
set_option maxRecDepth 20000 in
theorem gX8_marked_X8_isNoWindow : GoodIn wsX8_marked (va_wsS RX8 77 yX8_isNoWindow wsX8_isNoWindow) := goodIn_app (goodIn_s seX8_marked _ [pq_1_1, pq_1_2, pq_1_3] (by rfl) (by decide +kernel)) ggX8_marked_X8_isNoWindow
set_option maxRecDepth 20000 in
theorem ggX8_marked_X8_isThrown : GoodIn wsX8_marked wsX8_isThrown := goodIn_s seX8_marked _ [pq_1_11, pq_1_12, pq_2_0, pq_2_1, pq_2_2, pq_2_3, pq_2_4, pq_2_5, pq_2_6, pq_2_7, pq_2_8, pq_2_9, pq_2_10] (by rfl) (by decide +kernel)
set_option maxRecDepth 20000 in
theorem gX8_marked_X8_isThrown : GoodIn wsX8_marked (wsV RX8 81 RX8 yX8_isThrown wsX8_isThrown) := goodIn_app (goodIn_s seX8_marked _ [pq_1_8, pq_1_9, pq_1_10, pq_1_3] (by rfl) (by decide +kernel)) ggX8_marked_X8_isThrown
set_option maxRecDepth 20000 in
theorem ggX8_marked_X8_markOf : GoodIn wsX8_marked wsX8_markOf := goodIn_s seX8_marked _ [pq_1_15] (by rfl) (by decide +kernel)
set_option maxRecDepth 20000 in
theorem gX8_marked_X8_markOf : GoodIn wsX8_marked (va_wsS RX8 135 yX8_markOf wsX8_markOf) := goodIn_app (goodIn_s seX8_marked _ [pq_1_13, pq_1_14, pq_1_3] (by rfl) (by decide +kernel)) ggX8_marked_X8_markOf
def lb_sgX8_marked : List (List UInt8) := [[42, 27, 184, 0, 77, 3, 182, 0, 81, 153, 0, 7, 3, 167, 0, 12], [42, 180, 0, 14, 27, 50, 184, 0, 135, 172]]
set_option maxRecDepth 100000 in
theorem lb_seX8_marked : cX8_marked.data.toList = lb_sgX8_marked.flatten := by decide +kernel
theorem lb_lnX8_marked : ∀ s ∈ lb_sgX8_marked.dropLast, s.length = 16 := by decide +kernel
theorem lxX8_marked (k j : Nat) {b : UInt8} (h : (lb_sgX8_marked[k]?).bind (fun s => s[j]?) = some b) : lb_at cX8_marked (16 * k + j) b := by
  unfold lb_at
  rw [lb_seX8_marked]
  exact lb_flat 16 lb_sgX8_marked k j b lb_lnX8_marked h
set_option maxRecDepth 20000 in
theorem dX8_marked_0 : decode cX8_marked 0 = .ok (.aload_n 0, 1) := dc_42 (lxX8_marked 0 0 rfl)
set_option maxRecDepth 20000 in
theorem dX8_marked_1 : decode cX8_marked 1 = .ok (.iload_n 1, 1) := dc_27 (lxX8_marked 0 1 rfl)
set_option maxRecDepth 20000 in
theorem dX8_marked_2 : decode cX8_marked 2 = .ok (.invokestatic 77, 3) := dc_184 0 77 (lxX8_marked 0 2 rfl) (lxX8_marked 0 3 rfl) (lxX8_marked 0 4 rfl)
set_option maxRecDepth 20000 in
theorem dX8_marked_5 : decode cX8_marked 5 = .ok (.iconst 0, 1) := dc_3 (lxX8_marked 0 5 rfl)
set_option maxRecDepth 20000 in
theorem dX8_marked_6 : decode cX8_marked 6 = .ok (.invokevirtual 81, 3) := dc_182 0 81 (lxX8_marked 0 6 rfl) (lxX8_marked 0 7 rfl) (lxX8_marked 0 8 rfl)
set_option maxRecDepth 20000 in
theorem dX8_marked_9 : decode cX8_marked 9 = .ok (.ifCond .eq 7, 3) := dc_153 0 7 (lxX8_marked 0 9 rfl) (lxX8_marked 0 10 rfl) (lxX8_marked 0 11 rfl)
set_option maxRecDepth 20000 in
theorem dX8_marked_12 : decode cX8_marked 12 = .ok (.iconst 0, 1) := dc_3 (lxX8_marked 0 12 rfl)
set_option maxRecDepth 20000 in
theorem dX8_marked_13 : decode cX8_marked 13 = .ok (.goto 12, 3) := dc_167 0 12 (lxX8_marked 0 13 rfl) (lxX8_marked 0 14 rfl) (lxX8_marked 0 15 rfl)
set_option maxRecDepth 20000 in
theorem dX8_marked_16 : decode cX8_marked 16 = .ok (.aload_n 0, 1) := dc_42 (lxX8_marked 1 0 rfl)
set_option maxRecDepth 20000 in
theorem dX8_marked_17 : decode cX8_marked 17 = .ok (.getfield 14, 3) := dc_180 0 14 (lxX8_marked 1 1 rfl) (lxX8_marked 1 2 rfl) (lxX8_marked 1 3 rfl)
set_option maxRecDepth 20000 in
theorem dX8_marked_20 : decode cX8_marked 20 = .ok (.iload_n 1, 1) := dc_27 (lxX8_marked 1 4 rfl)
set_option maxRecDepth 20000 in
theorem dX8_marked_21 : decode cX8_marked 21 = .ok (.aaload, 1) := dc_50 (lxX8_marked 1 5 rfl)
set_option maxRecDepth 20000 in
theorem dX8_marked_22 : decode cX8_marked 22 = .ok (.invokestatic 135, 3) := dc_184 0 135 (lxX8_marked 1 6 rfl) (lxX8_marked 1 7 rfl) (lxX8_marked 1 8 rfl)
set_option maxRecDepth 20000 in
theorem dX8_marked_25 : decode cX8_marked 25 = .ok (.ireturn, 1) := dc_172 (lxX8_marked 1 9 rfl)
noncomputable def sgX8_sign : List (List Cond) := [[.code yX8_sign cX8_sign 4 (some .int)], [.fieldLink RX8 14 "SashwordsModel" "windows" "[[I", .fieldLink RX8 7 "SashwordsModel" "tape" "[I", .methodLink RX8 77 yX8_isNoWindow, .static yX8_isNoWindow, .initialized RX8, .code yX8_isNoWindow cX8_isNoWindow 1 (some .boolean), .methodLink RX8 41 yX8_isNo, .static yX8_isNo, .code yX8_isNo cX8_isNo 3 (some .boolean), .methodLink RX8 81 yX8_isThrown, .instanceMethod yX8_isThrown, .selects RX8 yX8_isThrown yX8_isThrown, .code yX8_isThrown cX8_isThrown 3 (some .boolean), .fieldLink RX8 38 "SashwordsModel" "thrown" "I", .methodLink RX8 54 yX8_length, .static yX8_length, .code yX8_length cX8_length 1 (some .int)], wsX80]
theorem seX8_sign : sgX8_sign.flatten = wsX8_sign := by simp only [sgX8_sign, wsX8_sign, List.flatten_cons, List.flatten_nil, List.append_assoc, List.append_nil, List.cons_append, List.nil_append]
set_option maxRecDepth 20000 in
theorem ggX8_sign_X8_isNoWindow : GoodIn wsX8_sign wsX8_isNoWindow := goodIn_s seX8_sign _ [pq_1_5, pq_1_6, pq_1_7, pq_1_4, pq_1_8] (by rfl) (by decide +kernel)
set_option maxRecDepth 20000 in
theorem gX8_sign_X8_isNoWindow : GoodIn wsX8_sign (va_wsS RX8 77 yX8_isNoWindow wsX8_isNoWindow) := goodIn_app (goodIn_s seX8_sign _ [pq_1_2, pq_1_3, pq_1_4] (by rfl) (by decide +kernel)) ggX8_sign_X8_isNoWindow
set_option maxRecDepth 20000 in
theorem ggX8_sign_X8_isThrown : GoodIn wsX8_sign wsX8_isThrown := goodIn_s seX8_sign _ [pq_1_12, pq_1_13, pq_2_0, pq_2_1, pq_2_2, pq_2_3, pq_2_4, pq_2_5, pq_2_6, pq_2_7, pq_2_8, pq_2_9, pq_2_10] (by rfl) (by decide +kernel)
set_option maxRecDepth 20000 in
theorem gX8_sign_X8_isThrown : GoodIn wsX8_sign (wsV RX8 81 RX8 yX8_isThrown wsX8_isThrown) := goodIn_app (goodIn_s seX8_sign _ [pq_1_9, pq_1_10, pq_1_11, pq_1_4] (by rfl) (by decide +kernel)) ggX8_sign_X8_isThrown
set_option maxRecDepth 20000 in
theorem ggX8_sign_X8_length : GoodIn wsX8_sign wsX8_length := goodIn_s seX8_sign _ [pq_1_16] (by rfl) (by decide +kernel)
set_option maxRecDepth 20000 in
theorem gX8_sign_X8_length : GoodIn wsX8_sign (va_wsS RX8 54 yX8_length wsX8_length) := goodIn_app (goodIn_s seX8_sign _ [pq_1_14, pq_1_15, pq_1_4] (by rfl) (by decide +kernel)) ggX8_sign_X8_length
set_option maxRecDepth 20000 in
theorem ggX8_sign_X8_isNo : GoodIn wsX8_sign wsX8_isNo := goodIn_s seX8_sign _ [pq_1_8] (by rfl) (by decide +kernel)
set_option maxRecDepth 20000 in
theorem gX8_sign_X8_isNo : GoodIn wsX8_sign (va_wsS RX8 41 yX8_isNo wsX8_isNo) := goodIn_app (goodIn_s seX8_sign _ [pq_1_6, pq_1_7, pq_1_4] (by rfl) (by decide +kernel)) ggX8_sign_X8_isNo
def lb_sgX8_sign : List (List UInt8) := [[42, 27, 184, 0, 77, 3, 182, 0, 81, 153, 0, 5, 3, 172, 42, 180], [0, 14, 27, 50, 78, 28, 3, 45, 184, 0, 54, 4, 100, 184, 0, 41], [153, 0, 8, 16, 247, 167, 0, 17, 42, 180, 0, 7, 45, 3, 46, 45], [6, 46, 96, 28, 96, 46, 172]]
set_option maxRecDepth 100000 in
theorem lb_seX8_sign : cX8_sign.data.toList = lb_sgX8_sign.flatten := by decide +kernel
theorem lb_lnX8_sign : ∀ s ∈ lb_sgX8_sign.dropLast, s.length = 16 := by decide +kernel
theorem lxX8_sign (k j : Nat) {b : UInt8} (h : (lb_sgX8_sign[k]?).bind (fun s => s[j]?) = some b) : lb_at cX8_sign (16 * k + j) b := by
  unfold lb_at
  rw [lb_seX8_sign]
  exact lb_flat 16 lb_sgX8_sign k j b lb_lnX8_sign h
set_option maxRecDepth 20000 in
theorem dX8_sign_0 : decode cX8_sign 0 = .ok (.aload_n 0, 1) := dc_42 (lxX8_sign 0 0 rfl)
set_option maxRecDepth 20000 in
theorem dX8_sign_1 : decode cX8_sign 1 = .ok (.iload_n 1, 1) := dc_27 (lxX8_sign 0 1 rfl)
set_option maxRecDepth 20000 in
theorem dX8_sign_2 : decode cX8_sign 2 = .ok (.invokestatic 77, 3) := dc_184 0 77 (lxX8_sign 0 2 rfl) (lxX8_sign 0 3 rfl) (lxX8_sign 0 4 rfl)
set_option maxRecDepth 20000 in
theorem dX8_sign_5 : decode cX8_sign 5 = .ok (.iconst 0, 1) := dc_3 (lxX8_sign 0 5 rfl)
set_option maxRecDepth 20000 in
theorem dX8_sign_6 : decode cX8_sign 6 = .ok (.invokevirtual 81, 3) := dc_182 0 81 (lxX8_sign 0 6 rfl) (lxX8_sign 0 7 rfl) (lxX8_sign 0 8 rfl)
set_option maxRecDepth 20000 in
theorem dX8_sign_9 : decode cX8_sign 9 = .ok (.ifCond .eq 5, 3) := dc_153 0 5 (lxX8_sign 0 9 rfl) (lxX8_sign 0 10 rfl) (lxX8_sign 0 11 rfl)
set_option maxRecDepth 20000 in
theorem dX8_sign_12 : decode cX8_sign 12 = .ok (.iconst 0, 1) := dc_3 (lxX8_sign 0 12 rfl)
set_option maxRecDepth 20000 in
theorem dX8_sign_13 : decode cX8_sign 13 = .ok (.ireturn, 1) := dc_172 (lxX8_sign 0 13 rfl)
set_option maxRecDepth 20000 in
theorem dX8_sign_14 : decode cX8_sign 14 = .ok (.aload_n 0, 1) := dc_42 (lxX8_sign 0 14 rfl)
set_option maxRecDepth 20000 in
theorem dX8_sign_15 : decode cX8_sign 15 = .ok (.getfield 14, 3) := dc_180 0 14 (lxX8_sign 0 15 rfl) (lxX8_sign 1 0 rfl) (lxX8_sign 1 1 rfl)
set_option maxRecDepth 20000 in
theorem dX8_sign_18 : decode cX8_sign 18 = .ok (.iload_n 1, 1) := dc_27 (lxX8_sign 1 2 rfl)
set_option maxRecDepth 20000 in
theorem dX8_sign_19 : decode cX8_sign 19 = .ok (.aaload, 1) := dc_50 (lxX8_sign 1 3 rfl)
set_option maxRecDepth 20000 in
theorem dX8_sign_20 : decode cX8_sign 20 = .ok (.astore_n 3, 1) := dc_78 (lxX8_sign 1 4 rfl)
set_option maxRecDepth 20000 in
theorem dX8_sign_21 : decode cX8_sign 21 = .ok (.iload_n 2, 1) := dc_28 (lxX8_sign 1 5 rfl)
set_option maxRecDepth 20000 in
theorem dX8_sign_22 : decode cX8_sign 22 = .ok (.iconst 0, 1) := dc_3 (lxX8_sign 1 6 rfl)
set_option maxRecDepth 20000 in
theorem dX8_sign_23 : decode cX8_sign 23 = .ok (.aload_n 3, 1) := dc_45 (lxX8_sign 1 7 rfl)
set_option maxRecDepth 20000 in
theorem dX8_sign_24 : decode cX8_sign 24 = .ok (.invokestatic 54, 3) := dc_184 0 54 (lxX8_sign 1 8 rfl) (lxX8_sign 1 9 rfl) (lxX8_sign 1 10 rfl)
set_option maxRecDepth 20000 in
theorem dX8_sign_27 : decode cX8_sign 27 = .ok (.iconst 1, 1) := dc_4 (lxX8_sign 1 11 rfl)
set_option maxRecDepth 20000 in
theorem dX8_sign_28 : decode cX8_sign 28 = .ok (.isub, 1) := dc_100 (lxX8_sign 1 12 rfl)
set_option maxRecDepth 20000 in
theorem dX8_sign_29 : decode cX8_sign 29 = .ok (.invokestatic 41, 3) := dc_184 0 41 (lxX8_sign 1 13 rfl) (lxX8_sign 1 14 rfl) (lxX8_sign 1 15 rfl)
set_option maxRecDepth 20000 in
theorem dX8_sign_32 : decode cX8_sign 32 = .ok (.ifCond .eq 8, 3) := dc_153 0 8 (lxX8_sign 2 0 rfl) (lxX8_sign 2 1 rfl) (lxX8_sign 2 2 rfl)
set_option maxRecDepth 20000 in
theorem dX8_sign_35 : decode cX8_sign 35 = .ok (.bipush (-9), 2) := dc_16 247 (lxX8_sign 2 3 rfl) (lxX8_sign 2 4 rfl)
set_option maxRecDepth 20000 in
theorem dX8_sign_37 : decode cX8_sign 37 = .ok (.goto 17, 3) := dc_167 0 17 (lxX8_sign 2 5 rfl) (lxX8_sign 2 6 rfl) (lxX8_sign 2 7 rfl)
set_option maxRecDepth 20000 in
theorem dX8_sign_40 : decode cX8_sign 40 = .ok (.aload_n 0, 1) := dc_42 (lxX8_sign 2 8 rfl)
set_option maxRecDepth 20000 in
theorem dX8_sign_41 : decode cX8_sign 41 = .ok (.getfield 7, 3) := dc_180 0 7 (lxX8_sign 2 9 rfl) (lxX8_sign 2 10 rfl) (lxX8_sign 2 11 rfl)
set_option maxRecDepth 20000 in
theorem dX8_sign_44 : decode cX8_sign 44 = .ok (.aload_n 3, 1) := dc_45 (lxX8_sign 2 12 rfl)
set_option maxRecDepth 20000 in
theorem dX8_sign_45 : decode cX8_sign 45 = .ok (.iconst 0, 1) := dc_3 (lxX8_sign 2 13 rfl)
set_option maxRecDepth 20000 in
theorem dX8_sign_46 : decode cX8_sign 46 = .ok (.iaload, 1) := dc_46 (lxX8_sign 2 14 rfl)
set_option maxRecDepth 20000 in
theorem dX8_sign_47 : decode cX8_sign 47 = .ok (.aload_n 3, 1) := dc_45 (lxX8_sign 2 15 rfl)
set_option maxRecDepth 20000 in
theorem dX8_sign_48 : decode cX8_sign 48 = .ok (.iconst 3, 1) := dc_6 (lxX8_sign 3 0 rfl)
set_option maxRecDepth 20000 in
theorem dX8_sign_49 : decode cX8_sign 49 = .ok (.iaload, 1) := dc_46 (lxX8_sign 3 1 rfl)
set_option maxRecDepth 20000 in
theorem dX8_sign_50 : decode cX8_sign 50 = .ok (.iadd, 1) := dc_96 (lxX8_sign 3 2 rfl)
set_option maxRecDepth 20000 in
theorem dX8_sign_51 : decode cX8_sign 51 = .ok (.iload_n 2, 1) := dc_28 (lxX8_sign 3 3 rfl)
set_option maxRecDepth 20000 in
theorem dX8_sign_52 : decode cX8_sign 52 = .ok (.iadd, 1) := dc_96 (lxX8_sign 3 4 rfl)
set_option maxRecDepth 20000 in
theorem dX8_sign_53 : decode cX8_sign 53 = .ok (.iaload, 1) := dc_46 (lxX8_sign 3 5 rfl)
set_option maxRecDepth 20000 in
theorem dX8_sign_54 : decode cX8_sign 54 = .ok (.ireturn, 1) := dc_172 (lxX8_sign 3 6 rfl)
noncomputable def sgX8_look : List (List Cond) := [[.code yX8_look cX8_look 4 (some .int)], [.fieldLink RX8 14 "SashwordsModel" "windows" "[[I", .fieldLink RX8 7 "SashwordsModel" "tape" "[I", .methodLink RX8 77 yX8_isNoWindow, .static yX8_isNoWindow, .initialized RX8, .code yX8_isNoWindow cX8_isNoWindow 1 (some .boolean), .methodLink RX8 41 yX8_isNo, .static yX8_isNo, .code yX8_isNo cX8_isNo 3 (some .boolean), .methodLink RX8 81 yX8_isThrown, .instanceMethod yX8_isThrown, .selects RX8 yX8_isThrown yX8_isThrown, .code yX8_isThrown cX8_isThrown 3 (some .boolean), .fieldLink RX8 38 "SashwordsModel" "thrown" "I"], wsX80]
theorem seX8_look : sgX8_look.flatten = wsX8_look := by simp only [sgX8_look, wsX8_look, List.flatten_cons, List.flatten_nil, List.append_assoc, List.append_nil, List.cons_append, List.nil_append]
set_option maxRecDepth 20000 in
theorem ggX8_look_X8_isNoWindow : GoodIn wsX8_look wsX8_isNoWindow := goodIn_s seX8_look _ [pq_1_5, pq_1_6, pq_1_7, pq_1_4, pq_1_8] (by rfl) (by decide +kernel)
set_option maxRecDepth 20000 in
theorem gX8_look_X8_isNoWindow : GoodIn wsX8_look (va_wsS RX8 77 yX8_isNoWindow wsX8_isNoWindow) := goodIn_app (goodIn_s seX8_look _ [pq_1_2, pq_1_3, pq_1_4] (by rfl) (by decide +kernel)) ggX8_look_X8_isNoWindow
set_option maxRecDepth 20000 in
theorem ggX8_look_X8_isThrown : GoodIn wsX8_look wsX8_isThrown := goodIn_s seX8_look _ [pq_1_12, pq_1_13, pq_2_0, pq_2_1, pq_2_2, pq_2_3, pq_2_4, pq_2_5, pq_2_6, pq_2_7, pq_2_8, pq_2_9, pq_2_10] (by rfl) (by decide +kernel)
set_option maxRecDepth 20000 in
theorem gX8_look_X8_isThrown : GoodIn wsX8_look (wsV RX8 81 RX8 yX8_isThrown wsX8_isThrown) := goodIn_app (goodIn_s seX8_look _ [pq_1_9, pq_1_10, pq_1_11, pq_1_4] (by rfl) (by decide +kernel)) ggX8_look_X8_isThrown
set_option maxRecDepth 20000 in
theorem ggX8_look_X8_isNo : GoodIn wsX8_look wsX8_isNo := goodIn_s seX8_look _ [pq_1_8] (by rfl) (by decide +kernel)
set_option maxRecDepth 20000 in
theorem gX8_look_X8_isNo : GoodIn wsX8_look (va_wsS RX8 41 yX8_isNo wsX8_isNo) := goodIn_app (goodIn_s seX8_look _ [pq_1_6, pq_1_7, pq_1_4] (by rfl) (by decide +kernel)) ggX8_look_X8_isNo
def lb_sgX8_look : List (List UInt8) := [[42, 27, 184, 0, 77, 3, 182, 0, 81, 153, 0, 5, 3, 172, 42, 180], [0, 14, 27, 50, 78, 28, 3, 45, 5, 46, 4, 100, 184, 0, 41, 153], [0, 8, 16, 247, 167, 0, 13, 42, 180, 0, 7, 45, 3, 46, 28, 96], [46, 172]]
set_option maxRecDepth 100000 in
theorem lb_seX8_look : cX8_look.data.toList = lb_sgX8_look.flatten := by decide +kernel
theorem lb_lnX8_look : ∀ s ∈ lb_sgX8_look.dropLast, s.length = 16 := by decide +kernel
theorem lxX8_look (k j : Nat) {b : UInt8} (h : (lb_sgX8_look[k]?).bind (fun s => s[j]?) = some b) : lb_at cX8_look (16 * k + j) b := by
  unfold lb_at
  rw [lb_seX8_look]
  exact lb_flat 16 lb_sgX8_look k j b lb_lnX8_look h
set_option maxRecDepth 20000 in
theorem dX8_look_0 : decode cX8_look 0 = .ok (.aload_n 0, 1) := dc_42 (lxX8_look 0 0 rfl)
set_option maxRecDepth 20000 in
theorem dX8_look_1 : decode cX8_look 1 = .ok (.iload_n 1, 1) := dc_27 (lxX8_look 0 1 rfl)
set_option maxRecDepth 20000 in
theorem dX8_look_2 : decode cX8_look 2 = .ok (.invokestatic 77, 3) := dc_184 0 77 (lxX8_look 0 2 rfl) (lxX8_look 0 3 rfl) (lxX8_look 0 4 rfl)
set_option maxRecDepth 20000 in
theorem dX8_look_5 : decode cX8_look 5 = .ok (.iconst 0, 1) := dc_3 (lxX8_look 0 5 rfl)
set_option maxRecDepth 20000 in
theorem dX8_look_6 : decode cX8_look 6 = .ok (.invokevirtual 81, 3) := dc_182 0 81 (lxX8_look 0 6 rfl) (lxX8_look 0 7 rfl) (lxX8_look 0 8 rfl)
set_option maxRecDepth 20000 in
theorem dX8_look_9 : decode cX8_look 9 = .ok (.ifCond .eq 5, 3) := dc_153 0 5 (lxX8_look 0 9 rfl) (lxX8_look 0 10 rfl) (lxX8_look 0 11 rfl)
set_option maxRecDepth 20000 in
theorem dX8_look_12 : decode cX8_look 12 = .ok (.iconst 0, 1) := dc_3 (lxX8_look 0 12 rfl)
set_option maxRecDepth 20000 in
theorem dX8_look_13 : decode cX8_look 13 = .ok (.ireturn, 1) := dc_172 (lxX8_look 0 13 rfl)
set_option maxRecDepth 20000 in
theorem dX8_look_14 : decode cX8_look 14 = .ok (.aload_n 0, 1) := dc_42 (lxX8_look 0 14 rfl)
set_option maxRecDepth 20000 in
theorem dX8_look_15 : decode cX8_look 15 = .ok (.getfield 14, 3) := dc_180 0 14 (lxX8_look 0 15 rfl) (lxX8_look 1 0 rfl) (lxX8_look 1 1 rfl)
set_option maxRecDepth 20000 in
theorem dX8_look_18 : decode cX8_look 18 = .ok (.iload_n 1, 1) := dc_27 (lxX8_look 1 2 rfl)
set_option maxRecDepth 20000 in
theorem dX8_look_19 : decode cX8_look 19 = .ok (.aaload, 1) := dc_50 (lxX8_look 1 3 rfl)
set_option maxRecDepth 20000 in
theorem dX8_look_20 : decode cX8_look 20 = .ok (.astore_n 3, 1) := dc_78 (lxX8_look 1 4 rfl)
set_option maxRecDepth 20000 in
theorem dX8_look_21 : decode cX8_look 21 = .ok (.iload_n 2, 1) := dc_28 (lxX8_look 1 5 rfl)
set_option maxRecDepth 20000 in
theorem dX8_look_22 : decode cX8_look 22 = .ok (.iconst 0, 1) := dc_3 (lxX8_look 1 6 rfl)
set_option maxRecDepth 20000 in
theorem dX8_look_23 : decode cX8_look 23 = .ok (.aload_n 3, 1) := dc_45 (lxX8_look 1 7 rfl)
set_option maxRecDepth 20000 in
theorem dX8_look_24 : decode cX8_look 24 = .ok (.iconst 2, 1) := dc_5 (lxX8_look 1 8 rfl)
set_option maxRecDepth 20000 in
theorem dX8_look_25 : decode cX8_look 25 = .ok (.iaload, 1) := dc_46 (lxX8_look 1 9 rfl)
set_option maxRecDepth 20000 in
theorem dX8_look_26 : decode cX8_look 26 = .ok (.iconst 1, 1) := dc_4 (lxX8_look 1 10 rfl)
set_option maxRecDepth 20000 in
theorem dX8_look_27 : decode cX8_look 27 = .ok (.isub, 1) := dc_100 (lxX8_look 1 11 rfl)
set_option maxRecDepth 20000 in
theorem dX8_look_28 : decode cX8_look 28 = .ok (.invokestatic 41, 3) := dc_184 0 41 (lxX8_look 1 12 rfl) (lxX8_look 1 13 rfl) (lxX8_look 1 14 rfl)
set_option maxRecDepth 20000 in
theorem dX8_look_31 : decode cX8_look 31 = .ok (.ifCond .eq 8, 3) := dc_153 0 8 (lxX8_look 1 15 rfl) (lxX8_look 2 0 rfl) (lxX8_look 2 1 rfl)
set_option maxRecDepth 20000 in
theorem dX8_look_34 : decode cX8_look 34 = .ok (.bipush (-9), 2) := dc_16 247 (lxX8_look 2 2 rfl) (lxX8_look 2 3 rfl)
set_option maxRecDepth 20000 in
theorem dX8_look_36 : decode cX8_look 36 = .ok (.goto 13, 3) := dc_167 0 13 (lxX8_look 2 4 rfl) (lxX8_look 2 5 rfl) (lxX8_look 2 6 rfl)
set_option maxRecDepth 20000 in
theorem dX8_look_39 : decode cX8_look 39 = .ok (.aload_n 0, 1) := dc_42 (lxX8_look 2 7 rfl)
set_option maxRecDepth 20000 in
theorem dX8_look_40 : decode cX8_look 40 = .ok (.getfield 7, 3) := dc_180 0 7 (lxX8_look 2 8 rfl) (lxX8_look 2 9 rfl) (lxX8_look 2 10 rfl)
set_option maxRecDepth 20000 in
theorem dX8_look_43 : decode cX8_look 43 = .ok (.aload_n 3, 1) := dc_45 (lxX8_look 2 11 rfl)
set_option maxRecDepth 20000 in
theorem dX8_look_44 : decode cX8_look 44 = .ok (.iconst 0, 1) := dc_3 (lxX8_look 2 12 rfl)
set_option maxRecDepth 20000 in
theorem dX8_look_45 : decode cX8_look 45 = .ok (.iaload, 1) := dc_46 (lxX8_look 2 13 rfl)
set_option maxRecDepth 20000 in
theorem dX8_look_46 : decode cX8_look 46 = .ok (.iload_n 2, 1) := dc_28 (lxX8_look 2 14 rfl)
set_option maxRecDepth 20000 in
theorem dX8_look_47 : decode cX8_look 47 = .ok (.iadd, 1) := dc_96 (lxX8_look 2 15 rfl)
set_option maxRecDepth 20000 in
theorem dX8_look_48 : decode cX8_look 48 = .ok (.iaload, 1) := dc_46 (lxX8_look 3 0 rfl)
set_option maxRecDepth 20000 in
theorem dX8_look_49 : decode cX8_look 49 = .ok (.ireturn, 1) := dc_172 (lxX8_look 3 1 rfl)
noncomputable def sgX8_text_ : List (List Cond) := [[.code yX8_text_ cX8_text_ 4 (some (.object "java/lang/String"))], wsX8_text__r1, wsX8_text__r2, wsX8_text__r3, wsX8_text__r4, wsX8_text__r5, wsX8_text__r6, wsX8_text__r7, wsX8_text__r8, wsX8_text__r9, wsX80, wsJ40, wsJ00]
theorem seX8_text_ : sgX8_text_.flatten = wsX8_text_ := by simp only [sgX8_text_, wsX8_text_, List.flatten_cons, List.flatten_nil, List.append_assoc, List.append_nil, List.cons_append, List.nil_append]
set_option maxRecDepth 20000 in
theorem ggX8_text__X8_isNoWindow : GoodIn wsX8_text_ wsX8_isNoWindow := goodIn_s seX8_text_ _ [pq_1_4, pq_1_5, pq_1_6, pq_1_3, pq_1_7] (by rfl) (by decide +kernel)
set_option maxRecDepth 20000 in
theorem gX8_text__X8_isNoWindow : GoodIn wsX8_text_ (va_wsS RX8 77 yX8_isNoWindow wsX8_isNoWindow) := goodIn_app (goodIn_s seX8_text_ _ [pq_1_1, pq_1_2, pq_1_3] (by rfl) (by decide +kernel)) ggX8_text__X8_isNoWindow
set_option maxRecDepth 20000 in
theorem ggX8_text__X8_isNo : GoodIn wsX8_text_ wsX8_isNo := goodIn_s seX8_text_ _ [pq_1_7] (by rfl) (by decide +kernel)
set_option maxRecDepth 20000 in
theorem gX8_text__X8_isNo : GoodIn wsX8_text_ (va_wsS RX8 41 yX8_isNo wsX8_isNo) := goodIn_app (goodIn_s seX8_text_ _ [pq_1_5, pq_1_6, pq_1_3] (by rfl) (by decide +kernel)) ggX8_text__X8_isNo
set_option maxRecDepth 20000 in
theorem ggX8_text__X8_isThrown : GoodIn wsX8_text_ wsX8_isThrown := goodIn_s seX8_text_ _ [pq_1_11, pq_1_12, pq_10_0, pq_10_1, pq_10_2, pq_10_3, pq_10_4, pq_10_5, pq_10_6, pq_10_7, pq_10_8, pq_10_9, pq_10_10] (by rfl) (by decide +kernel)
set_option maxRecDepth 20000 in
theorem gX8_text__X8_isThrown : GoodIn wsX8_text_ (wsV RX8 81 RX8 yX8_isThrown wsX8_isThrown) := goodIn_app (goodIn_s seX8_text_ _ [pq_1_8, pq_1_9, pq_1_10, pq_1_3] (by rfl) (by decide +kernel)) ggX8_text__X8_isThrown
set_option maxRecDepth 20000 in
theorem ggX8_text__X8_text : GoodIn wsX8_text_ wsX8_text := goodIn_s seX8_text_ _ [pq_1_16, pq_1_17, pq_1_18, pq_1_19, pq_1_20, pq_1_3, pq_1_21, pq_10_0, pq_10_1, pq_10_2, pq_10_3, pq_10_4, pq_10_5, pq_10_6, pq_10_7, pq_10_8, pq_10_9, pq_10_10] (by rfl) (by decide +kernel)
set_option maxRecDepth 20000 in
theorem gX8_text__X8_text : GoodIn wsX8_text_ (wsV RX8 58 RX8 yX8_text wsX8_text) := goodIn_app (goodIn_s seX8_text_ _ [pq_1_13, pq_1_14, pq_1_15, pq_1_3] (by rfl) (by decide +kernel)) ggX8_text__X8_text
set_option maxRecDepth 20000 in
theorem ggX8_text__X8_told : GoodIn wsX8_text_ wsX8_told := goodIn_s seX8_text_ _ [pq_2_0, pq_2_1, pq_2_2, pq_2_3, pq_2_4, pq_2_5, pq_2_6, pq_2_7, pq_2_8, pq_2_9, pq_2_10, pq_2_11, pq_2_12, pq_2_13, pq_2_14, pq_2_15, pq_2_16, pq_2_17, pq_2_18, pq_2_19, pq_2_20, pq_2_21, pq_2_22, pq_2_23, pq_3_0, pq_3_1, pq_3_2, pq_3_3, pq_3_4, pq_3_5, pq_3_6, pq_3_7, pq_3_8, pq_3_9, pq_3_10, pq_3_11, pq_3_12, pq_3_13, pq_3_14, pq_3_15, pq_3_16, pq_3_17, pq_3_18, pq_3_19, pq_3_20, pq_3_21, pq_3_22, pq_3_23, pq_4_0, pq_4_1, pq_4_2, pq_4_3, pq_4_4, pq_4_5, pq_4_6, pq_4_7, pq_4_8, pq_4_9, pq_4_10, pq_4_11, pq_4_12, pq_4_13, pq_4_14, pq_4_15, pq_4_16, pq_4_17, pq_4_18, pq_4_19, pq_4_20, pq_4_21, pq_4_22, pq_4_23, pq_5_0, pq_5_1, pq_5_2, pq_5_3, pq_5_4, pq_5_5, pq_5_6, pq_5_7, pq_5_8, pq_5_9, pq_5_10, pq_5_11, pq_5_12, pq_5_13, pq_5_14, pq_5_15, pq_5_16, pq_5_17, pq_5_18, pq_5_19, pq_5_20, pq_5_21, pq_5_22, pq_5_23, pq_6_0, pq_6_1, pq_6_2, pq_6_3, pq_6_4, pq_6_5, pq_6_6, pq_6_7, pq_6_8, pq_6_9, pq_6_10, pq_6_11, pq_6_12, pq_6_13, pq_6_14, pq_6_15, pq_6_16, pq_6_17, pq_6_18, pq_6_19, pq_6_20, pq_6_21, pq_6_22, pq_6_23, pq_7_0, pq_7_1, pq_7_2, pq_7_3, pq_7_4, pq_7_5, pq_7_6, pq_7_7, pq_7_8, pq_7_9, pq_7_10, pq_7_11, pq_7_12, pq_7_13, pq_7_14, pq_7_15, pq_7_16, pq_7_17, pq_7_18, pq_7_19, pq_7_20, pq_7_21, pq_7_22, pq_7_23, pq_8_0, pq_8_1, pq_8_2, pq_8_3, pq_8_4, pq_8_5, pq_8_6, pq_8_7, pq_8_8, pq_8_9, pq_8_10, pq_8_11, pq_8_12, pq_8_13, pq_8_14, pq_8_15, pq_8_16, pq_8_17, pq_8_18, pq_8_19, pq_8_20, pq_8_21, pq_8_22, pq_8_23, pq_9_0, pq_9_1, pq_9_2, pq_9_3, pq_9_4, pq_9_5, pq_9_6, pq_9_7, pq_9_8, pq_9_9, pq_9_10, pq_9_11, pq_9_12, pq_9_13, pq_9_14, pq_9_15, pq_11_0, pq_11_1, pq_11_2, pq_11_3, pq_12_0, pq_12_1, pq_12_2, pq_12_3] (by rfl) (by decide +kernel)
set_option maxRecDepth 20000 in
theorem gX8_text__X8_told : GoodIn wsX8_text_ (va_wsS RX8 111 yX8_told wsX8_told) := goodIn_app (goodIn_s seX8_text_ _ [pq_1_22, pq_1_23, pq_1_3] (by rfl) (by decide +kernel)) ggX8_text__X8_told
def lb_sgX8_text_ : List (List UInt8) := [[42, 27, 184, 0, 77, 28, 3, 6, 184, 0, 41, 182, 0, 81, 153, 0], [6, 18, 109, 176, 42, 42, 180, 0, 14, 27, 50, 182, 0, 58, 78, 45], [3, 45, 190, 184, 0, 111, 176]]
set_option maxRecDepth 100000 in
theorem lb_seX8_text_ : cX8_text_.data.toList = lb_sgX8_text_.flatten := by decide +kernel
theorem lb_lnX8_text_ : ∀ s ∈ lb_sgX8_text_.dropLast, s.length = 16 := by decide +kernel
theorem lxX8_text_ (k j : Nat) {b : UInt8} (h : (lb_sgX8_text_[k]?).bind (fun s => s[j]?) = some b) : lb_at cX8_text_ (16 * k + j) b := by
  unfold lb_at
  rw [lb_seX8_text_]
  exact lb_flat 16 lb_sgX8_text_ k j b lb_lnX8_text_ h
set_option maxRecDepth 20000 in
theorem dX8_text__0 : decode cX8_text_ 0 = .ok (.aload_n 0, 1) := dc_42 (lxX8_text_ 0 0 rfl)
set_option maxRecDepth 20000 in
theorem dX8_text__1 : decode cX8_text_ 1 = .ok (.iload_n 1, 1) := dc_27 (lxX8_text_ 0 1 rfl)
set_option maxRecDepth 20000 in
theorem dX8_text__2 : decode cX8_text_ 2 = .ok (.invokestatic 77, 3) := dc_184 0 77 (lxX8_text_ 0 2 rfl) (lxX8_text_ 0 3 rfl) (lxX8_text_ 0 4 rfl)
set_option maxRecDepth 20000 in
theorem dX8_text__5 : decode cX8_text_ 5 = .ok (.iload_n 2, 1) := dc_28 (lxX8_text_ 0 5 rfl)
set_option maxRecDepth 20000 in
theorem dX8_text__6 : decode cX8_text_ 6 = .ok (.iconst 0, 1) := dc_3 (lxX8_text_ 0 6 rfl)
set_option maxRecDepth 20000 in
theorem dX8_text__7 : decode cX8_text_ 7 = .ok (.iconst 3, 1) := dc_6 (lxX8_text_ 0 7 rfl)
set_option maxRecDepth 20000 in
theorem dX8_text__8 : decode cX8_text_ 8 = .ok (.invokestatic 41, 3) := dc_184 0 41 (lxX8_text_ 0 8 rfl) (lxX8_text_ 0 9 rfl) (lxX8_text_ 0 10 rfl)
set_option maxRecDepth 20000 in
theorem dX8_text__11 : decode cX8_text_ 11 = .ok (.invokevirtual 81, 3) := dc_182 0 81 (lxX8_text_ 0 11 rfl) (lxX8_text_ 0 12 rfl) (lxX8_text_ 0 13 rfl)
set_option maxRecDepth 20000 in
theorem dX8_text__14 : decode cX8_text_ 14 = .ok (.ifCond .eq 6, 3) := dc_153 0 6 (lxX8_text_ 0 14 rfl) (lxX8_text_ 0 15 rfl) (lxX8_text_ 1 0 rfl)
set_option maxRecDepth 20000 in
theorem dX8_text__17 : decode cX8_text_ 17 = .ok (.ldc 109, 2) := dc_18 109 (lxX8_text_ 1 1 rfl) (lxX8_text_ 1 2 rfl)
set_option maxRecDepth 20000 in
theorem dX8_text__19 : decode cX8_text_ 19 = .ok (.areturn, 1) := dc_176 (lxX8_text_ 1 3 rfl)
set_option maxRecDepth 20000 in
theorem dX8_text__20 : decode cX8_text_ 20 = .ok (.aload_n 0, 1) := dc_42 (lxX8_text_ 1 4 rfl)
set_option maxRecDepth 20000 in
theorem dX8_text__21 : decode cX8_text_ 21 = .ok (.aload_n 0, 1) := dc_42 (lxX8_text_ 1 5 rfl)
set_option maxRecDepth 20000 in
theorem dX8_text__22 : decode cX8_text_ 22 = .ok (.getfield 14, 3) := dc_180 0 14 (lxX8_text_ 1 6 rfl) (lxX8_text_ 1 7 rfl) (lxX8_text_ 1 8 rfl)
set_option maxRecDepth 20000 in
theorem dX8_text__25 : decode cX8_text_ 25 = .ok (.iload_n 1, 1) := dc_27 (lxX8_text_ 1 9 rfl)
set_option maxRecDepth 20000 in
theorem dX8_text__26 : decode cX8_text_ 26 = .ok (.aaload, 1) := dc_50 (lxX8_text_ 1 10 rfl)
set_option maxRecDepth 20000 in
theorem dX8_text__27 : decode cX8_text_ 27 = .ok (.invokevirtual 58, 3) := dc_182 0 58 (lxX8_text_ 1 11 rfl) (lxX8_text_ 1 12 rfl) (lxX8_text_ 1 13 rfl)
set_option maxRecDepth 20000 in
theorem dX8_text__30 : decode cX8_text_ 30 = .ok (.astore_n 3, 1) := dc_78 (lxX8_text_ 1 14 rfl)
set_option maxRecDepth 20000 in
theorem dX8_text__31 : decode cX8_text_ 31 = .ok (.aload_n 3, 1) := dc_45 (lxX8_text_ 1 15 rfl)
set_option maxRecDepth 20000 in
theorem dX8_text__32 : decode cX8_text_ 32 = .ok (.iconst 0, 1) := dc_3 (lxX8_text_ 2 0 rfl)
set_option maxRecDepth 20000 in
theorem dX8_text__33 : decode cX8_text_ 33 = .ok (.aload_n 3, 1) := dc_45 (lxX8_text_ 2 1 rfl)
set_option maxRecDepth 20000 in
theorem dX8_text__34 : decode cX8_text_ 34 = .ok (.arraylength, 1) := dc_190 (lxX8_text_ 2 2 rfl)
set_option maxRecDepth 20000 in
theorem dX8_text__35 : decode cX8_text_ 35 = .ok (.invokestatic 111, 3) := dc_184 0 111 (lxX8_text_ 2 3 rfl) (lxX8_text_ 2 4 rfl) (lxX8_text_ 2 5 rfl)
set_option maxRecDepth 20000 in
theorem dX8_text__38 : decode cX8_text_ 38 = .ok (.areturn, 1) := dc_176 (lxX8_text_ 2 6 rfl)
noncomputable def sgX8_inner : List (List Cond) := [[.code yX8_inner cX8_inner 9 (some (.object "java/lang/String"))], wsX8_inner_r1, wsX8_inner_r2, wsX8_inner_r3, wsX8_inner_r4, wsX8_inner_r5, wsX8_inner_r6, wsX8_inner_r7, wsX8_inner_r8, wsX8_inner_r9, wsX80, wsJ40, wsJ00]
theorem seX8_inner : sgX8_inner.flatten = wsX8_inner := by simp only [sgX8_inner, wsX8_inner, List.flatten_cons, List.flatten_nil, List.append_assoc, List.append_nil, List.cons_append, List.nil_append]
set_option maxRecDepth 20000 in
theorem ggX8_inner_X8_isNoWindow : GoodIn wsX8_inner wsX8_isNoWindow := goodIn_s seX8_inner _ [pq_1_4, pq_1_5, pq_1_6, pq_1_3, pq_1_7] (by rfl) (by decide +kernel)
set_option maxRecDepth 20000 in
theorem gX8_inner_X8_isNoWindow : GoodIn wsX8_inner (va_wsS RX8 77 yX8_isNoWindow wsX8_isNoWindow) := goodIn_app (goodIn_s seX8_inner _ [pq_1_1, pq_1_2, pq_1_3] (by rfl) (by decide +kernel)) ggX8_inner_X8_isNoWindow
set_option maxRecDepth 20000 in
theorem ggX8_inner_X8_isThrown : GoodIn wsX8_inner wsX8_isThrown := goodIn_s seX8_inner _ [pq_1_11, pq_1_12, pq_10_0, pq_10_1, pq_10_2, pq_10_3, pq_10_4, pq_10_5, pq_10_6, pq_10_7, pq_10_8, pq_10_9, pq_10_10] (by rfl) (by decide +kernel)
set_option maxRecDepth 20000 in
theorem gX8_inner_X8_isThrown : GoodIn wsX8_inner (wsV RX8 81 RX8 yX8_isThrown wsX8_isThrown) := goodIn_app (goodIn_s seX8_inner _ [pq_1_8, pq_1_9, pq_1_10, pq_1_3] (by rfl) (by decide +kernel)) ggX8_inner_X8_isThrown
set_option maxRecDepth 20000 in
theorem ggX8_inner_X8_text : GoodIn wsX8_inner wsX8_text := goodIn_s seX8_inner _ [pq_1_16, pq_1_17, pq_1_18, pq_1_19, pq_1_20, pq_1_3, pq_1_21, pq_10_0, pq_10_1, pq_10_2, pq_10_3, pq_10_4, pq_10_5, pq_10_6, pq_10_7, pq_10_8, pq_10_9, pq_10_10] (by rfl) (by decide +kernel)
set_option maxRecDepth 20000 in
theorem gX8_inner_X8_text : GoodIn wsX8_inner (wsV RX8 58 RX8 yX8_text wsX8_text) := goodIn_app (goodIn_s seX8_inner _ [pq_1_13, pq_1_14, pq_1_15, pq_1_3] (by rfl) (by decide +kernel)) ggX8_inner_X8_text
set_option maxRecDepth 20000 in
theorem ggX8_inner_X8_isNo : GoodIn wsX8_inner wsX8_isNo := goodIn_s seX8_inner _ [pq_1_7] (by rfl) (by decide +kernel)
set_option maxRecDepth 20000 in
theorem gX8_inner_X8_isNo : GoodIn wsX8_inner (va_wsS RX8 41 yX8_isNo wsX8_isNo) := goodIn_app (goodIn_s seX8_inner _ [pq_1_5, pq_1_6, pq_1_3] (by rfl) (by decide +kernel)) ggX8_inner_X8_isNo
set_option maxRecDepth 20000 in
theorem ggX8_inner_X8_told : GoodIn wsX8_inner wsX8_told := goodIn_s seX8_inner _ [pq_2_0, pq_2_1, pq_2_2, pq_2_3, pq_2_4, pq_2_5, pq_2_6, pq_2_7, pq_2_8, pq_2_9, pq_2_10, pq_2_11, pq_2_12, pq_2_13, pq_2_14, pq_2_15, pq_2_16, pq_2_17, pq_2_18, pq_2_19, pq_2_20, pq_2_21, pq_2_22, pq_2_23, pq_3_0, pq_3_1, pq_3_2, pq_3_3, pq_3_4, pq_3_5, pq_3_6, pq_3_7, pq_3_8, pq_3_9, pq_3_10, pq_3_11, pq_3_12, pq_3_13, pq_3_14, pq_3_15, pq_3_16, pq_3_17, pq_3_18, pq_3_19, pq_3_20, pq_3_21, pq_3_22, pq_3_23, pq_4_0, pq_4_1, pq_4_2, pq_4_3, pq_4_4, pq_4_5, pq_4_6, pq_4_7, pq_4_8, pq_4_9, pq_4_10, pq_4_11, pq_4_12, pq_4_13, pq_4_14, pq_4_15, pq_4_16, pq_4_17, pq_4_18, pq_4_19, pq_4_20, pq_4_21, pq_4_22, pq_4_23, pq_5_0, pq_5_1, pq_5_2, pq_5_3, pq_5_4, pq_5_5, pq_5_6, pq_5_7, pq_5_8, pq_5_9, pq_5_10, pq_5_11, pq_5_12, pq_5_13, pq_5_14, pq_5_15, pq_5_16, pq_5_17, pq_5_18, pq_5_19, pq_5_20, pq_5_21, pq_5_22, pq_5_23, pq_6_0, pq_6_1, pq_6_2, pq_6_3, pq_6_4, pq_6_5, pq_6_6, pq_6_7, pq_6_8, pq_6_9, pq_6_10, pq_6_11, pq_6_12, pq_6_13, pq_6_14, pq_6_15, pq_6_16, pq_6_17, pq_6_18, pq_6_19, pq_6_20, pq_6_21, pq_6_22, pq_6_23, pq_7_0, pq_7_1, pq_7_2, pq_7_3, pq_7_4, pq_7_5, pq_7_6, pq_7_7, pq_7_8, pq_7_9, pq_7_10, pq_7_11, pq_7_12, pq_7_13, pq_7_14, pq_7_15, pq_7_16, pq_7_17, pq_7_18, pq_7_19, pq_7_20, pq_7_21, pq_7_22, pq_7_23, pq_8_0, pq_8_1, pq_8_2, pq_8_3, pq_8_4, pq_8_5, pq_8_6, pq_8_7, pq_8_8, pq_8_9, pq_8_10, pq_8_11, pq_8_12, pq_8_13, pq_8_14, pq_8_15, pq_8_16, pq_8_17, pq_8_18, pq_8_19, pq_8_20, pq_8_21, pq_8_22, pq_8_23, pq_9_0, pq_9_1, pq_9_2, pq_9_3, pq_9_4, pq_9_5, pq_9_6, pq_9_7, pq_9_8, pq_9_9, pq_9_10, pq_9_11, pq_9_12, pq_9_13, pq_9_14, pq_9_15, pq_11_0, pq_11_1, pq_11_2, pq_11_3, pq_12_0, pq_12_1, pq_12_2, pq_12_3] (by rfl) (by decide +kernel)
set_option maxRecDepth 20000 in
theorem gX8_inner_X8_told : GoodIn wsX8_inner (va_wsS RX8 111 yX8_told wsX8_told) := goodIn_app (goodIn_s seX8_inner _ [pq_1_22, pq_1_23, pq_1_3] (by rfl) (by decide +kernel)) ggX8_inner_X8_told
def lb_sgX8_inner : List (List UInt8) := [[42, 27, 184, 0, 77, 3, 182, 0, 81, 153, 0, 6, 18, 109, 176, 42], [42, 180, 0, 14, 27, 50, 182, 0, 58, 58, 7, 28, 155, 0, 39, 28], [29, 163, 0, 34, 29, 25, 7, 190, 163, 0, 27, 21, 4, 155, 0, 22], [21, 4, 21, 5, 163, 0, 15, 21, 5, 29, 28, 100, 163, 0, 7, 4], [167, 0, 4, 3, 54, 8, 42, 3, 21, 8, 153, 0, 13, 21, 6, 3], [5, 184, 0, 41, 153, 0, 7, 4, 167, 0, 4, 3, 182, 0, 81, 153], [0, 8, 18, 109, 167, 0, 16, 25, 7, 28, 21, 4, 96, 28, 21, 5], [96, 184, 0, 111, 176]]
set_option maxRecDepth 100000 in
theorem lb_seX8_inner : cX8_inner.data.toList = lb_sgX8_inner.flatten := by decide +kernel
theorem lb_lnX8_inner : ∀ s ∈ lb_sgX8_inner.dropLast, s.length = 16 := by decide +kernel
theorem lxX8_inner (k j : Nat) {b : UInt8} (h : (lb_sgX8_inner[k]?).bind (fun s => s[j]?) = some b) : lb_at cX8_inner (16 * k + j) b := by
  unfold lb_at
  rw [lb_seX8_inner]
  exact lb_flat 16 lb_sgX8_inner k j b lb_lnX8_inner h
set_option maxRecDepth 20000 in
theorem dX8_inner_0 : decode cX8_inner 0 = .ok (.aload_n 0, 1) := dc_42 (lxX8_inner 0 0 rfl)
set_option maxRecDepth 20000 in
theorem dX8_inner_1 : decode cX8_inner 1 = .ok (.iload_n 1, 1) := dc_27 (lxX8_inner 0 1 rfl)
set_option maxRecDepth 20000 in
theorem dX8_inner_2 : decode cX8_inner 2 = .ok (.invokestatic 77, 3) := dc_184 0 77 (lxX8_inner 0 2 rfl) (lxX8_inner 0 3 rfl) (lxX8_inner 0 4 rfl)
set_option maxRecDepth 20000 in
theorem dX8_inner_5 : decode cX8_inner 5 = .ok (.iconst 0, 1) := dc_3 (lxX8_inner 0 5 rfl)
set_option maxRecDepth 20000 in
theorem dX8_inner_6 : decode cX8_inner 6 = .ok (.invokevirtual 81, 3) := dc_182 0 81 (lxX8_inner 0 6 rfl) (lxX8_inner 0 7 rfl) (lxX8_inner 0 8 rfl)
set_option maxRecDepth 20000 in
theorem dX8_inner_9 : decode cX8_inner 9 = .ok (.ifCond .eq 6, 3) := dc_153 0 6 (lxX8_inner 0 9 rfl) (lxX8_inner 0 10 rfl) (lxX8_inner 0 11 rfl)
set_option maxRecDepth 20000 in
theorem dX8_inner_12 : decode cX8_inner 12 = .ok (.ldc 109, 2) := dc_18 109 (lxX8_inner 0 12 rfl) (lxX8_inner 0 13 rfl)
set_option maxRecDepth 20000 in
theorem dX8_inner_14 : decode cX8_inner 14 = .ok (.areturn, 1) := dc_176 (lxX8_inner 0 14 rfl)
set_option maxRecDepth 20000 in
theorem dX8_inner_15 : decode cX8_inner 15 = .ok (.aload_n 0, 1) := dc_42 (lxX8_inner 0 15 rfl)
set_option maxRecDepth 20000 in
theorem dX8_inner_16 : decode cX8_inner 16 = .ok (.aload_n 0, 1) := dc_42 (lxX8_inner 1 0 rfl)
set_option maxRecDepth 20000 in
theorem dX8_inner_17 : decode cX8_inner 17 = .ok (.getfield 14, 3) := dc_180 0 14 (lxX8_inner 1 1 rfl) (lxX8_inner 1 2 rfl) (lxX8_inner 1 3 rfl)
set_option maxRecDepth 20000 in
theorem dX8_inner_20 : decode cX8_inner 20 = .ok (.iload_n 1, 1) := dc_27 (lxX8_inner 1 4 rfl)
set_option maxRecDepth 20000 in
theorem dX8_inner_21 : decode cX8_inner 21 = .ok (.aaload, 1) := dc_50 (lxX8_inner 1 5 rfl)
set_option maxRecDepth 20000 in
theorem dX8_inner_22 : decode cX8_inner 22 = .ok (.invokevirtual 58, 3) := dc_182 0 58 (lxX8_inner 1 6 rfl) (lxX8_inner 1 7 rfl) (lxX8_inner 1 8 rfl)
set_option maxRecDepth 20000 in
theorem dX8_inner_25 : decode cX8_inner 25 = .ok (.astore 7, 2) := dc_58 7 (lxX8_inner 1 9 rfl) (lxX8_inner 1 10 rfl)
set_option maxRecDepth 20000 in
theorem dX8_inner_27 : decode cX8_inner 27 = .ok (.iload_n 2, 1) := dc_28 (lxX8_inner 1 11 rfl)
set_option maxRecDepth 20000 in
theorem dX8_inner_28 : decode cX8_inner 28 = .ok (.ifCond .lt 39, 3) := dc_155 0 39 (lxX8_inner 1 12 rfl) (lxX8_inner 1 13 rfl) (lxX8_inner 1 14 rfl)
set_option maxRecDepth 20000 in
theorem dX8_inner_31 : decode cX8_inner 31 = .ok (.iload_n 2, 1) := dc_28 (lxX8_inner 1 15 rfl)
set_option maxRecDepth 20000 in
theorem dX8_inner_32 : decode cX8_inner 32 = .ok (.iload_n 3, 1) := dc_29 (lxX8_inner 2 0 rfl)
set_option maxRecDepth 20000 in
theorem dX8_inner_33 : decode cX8_inner 33 = .ok (.if_icmp .gt 34, 3) := dc_163 0 34 (lxX8_inner 2 1 rfl) (lxX8_inner 2 2 rfl) (lxX8_inner 2 3 rfl)
set_option maxRecDepth 20000 in
theorem dX8_inner_36 : decode cX8_inner 36 = .ok (.iload_n 3, 1) := dc_29 (lxX8_inner 2 4 rfl)
set_option maxRecDepth 20000 in
theorem dX8_inner_37 : decode cX8_inner 37 = .ok (.aload 7, 2) := dc_25 7 (lxX8_inner 2 5 rfl) (lxX8_inner 2 6 rfl)
set_option maxRecDepth 20000 in
theorem dX8_inner_39 : decode cX8_inner 39 = .ok (.arraylength, 1) := dc_190 (lxX8_inner 2 7 rfl)
set_option maxRecDepth 20000 in
theorem dX8_inner_40 : decode cX8_inner 40 = .ok (.if_icmp .gt 27, 3) := dc_163 0 27 (lxX8_inner 2 8 rfl) (lxX8_inner 2 9 rfl) (lxX8_inner 2 10 rfl)
set_option maxRecDepth 20000 in
theorem dX8_inner_43 : decode cX8_inner 43 = .ok (.iload 4, 2) := dc_21 4 (lxX8_inner 2 11 rfl) (lxX8_inner 2 12 rfl)
set_option maxRecDepth 20000 in
theorem dX8_inner_45 : decode cX8_inner 45 = .ok (.ifCond .lt 22, 3) := dc_155 0 22 (lxX8_inner 2 13 rfl) (lxX8_inner 2 14 rfl) (lxX8_inner 2 15 rfl)
set_option maxRecDepth 20000 in
theorem dX8_inner_48 : decode cX8_inner 48 = .ok (.iload 4, 2) := dc_21 4 (lxX8_inner 3 0 rfl) (lxX8_inner 3 1 rfl)
set_option maxRecDepth 20000 in
theorem dX8_inner_50 : decode cX8_inner 50 = .ok (.iload 5, 2) := dc_21 5 (lxX8_inner 3 2 rfl) (lxX8_inner 3 3 rfl)
set_option maxRecDepth 20000 in
theorem dX8_inner_52 : decode cX8_inner 52 = .ok (.if_icmp .gt 15, 3) := dc_163 0 15 (lxX8_inner 3 4 rfl) (lxX8_inner 3 5 rfl) (lxX8_inner 3 6 rfl)
set_option maxRecDepth 20000 in
theorem dX8_inner_55 : decode cX8_inner 55 = .ok (.iload 5, 2) := dc_21 5 (lxX8_inner 3 7 rfl) (lxX8_inner 3 8 rfl)
set_option maxRecDepth 20000 in
theorem dX8_inner_57 : decode cX8_inner 57 = .ok (.iload_n 3, 1) := dc_29 (lxX8_inner 3 9 rfl)
set_option maxRecDepth 20000 in
theorem dX8_inner_58 : decode cX8_inner 58 = .ok (.iload_n 2, 1) := dc_28 (lxX8_inner 3 10 rfl)
set_option maxRecDepth 20000 in
theorem dX8_inner_59 : decode cX8_inner 59 = .ok (.isub, 1) := dc_100 (lxX8_inner 3 11 rfl)
set_option maxRecDepth 20000 in
theorem dX8_inner_60 : decode cX8_inner 60 = .ok (.if_icmp .gt 7, 3) := dc_163 0 7 (lxX8_inner 3 12 rfl) (lxX8_inner 3 13 rfl) (lxX8_inner 3 14 rfl)
set_option maxRecDepth 20000 in
theorem dX8_inner_63 : decode cX8_inner 63 = .ok (.iconst 1, 1) := dc_4 (lxX8_inner 3 15 rfl)
set_option maxRecDepth 20000 in
theorem dX8_inner_64 : decode cX8_inner 64 = .ok (.goto 4, 3) := dc_167 0 4 (lxX8_inner 4 0 rfl) (lxX8_inner 4 1 rfl) (lxX8_inner 4 2 rfl)
set_option maxRecDepth 20000 in
theorem dX8_inner_67 : decode cX8_inner 67 = .ok (.iconst 0, 1) := dc_3 (lxX8_inner 4 3 rfl)
set_option maxRecDepth 20000 in
theorem dX8_inner_68 : decode cX8_inner 68 = .ok (.istore 8, 2) := dc_54 8 (lxX8_inner 4 4 rfl) (lxX8_inner 4 5 rfl)
set_option maxRecDepth 20000 in
theorem dX8_inner_70 : decode cX8_inner 70 = .ok (.aload_n 0, 1) := dc_42 (lxX8_inner 4 6 rfl)
set_option maxRecDepth 20000 in
theorem dX8_inner_71 : decode cX8_inner 71 = .ok (.iconst 0, 1) := dc_3 (lxX8_inner 4 7 rfl)
set_option maxRecDepth 20000 in
theorem dX8_inner_72 : decode cX8_inner 72 = .ok (.iload 8, 2) := dc_21 8 (lxX8_inner 4 8 rfl) (lxX8_inner 4 9 rfl)
set_option maxRecDepth 20000 in
theorem dX8_inner_74 : decode cX8_inner 74 = .ok (.ifCond .eq 13, 3) := dc_153 0 13 (lxX8_inner 4 10 rfl) (lxX8_inner 4 11 rfl) (lxX8_inner 4 12 rfl)
set_option maxRecDepth 20000 in
theorem dX8_inner_77 : decode cX8_inner 77 = .ok (.iload 6, 2) := dc_21 6 (lxX8_inner 4 13 rfl) (lxX8_inner 4 14 rfl)
set_option maxRecDepth 20000 in
theorem dX8_inner_79 : decode cX8_inner 79 = .ok (.iconst 0, 1) := dc_3 (lxX8_inner 4 15 rfl)
set_option maxRecDepth 20000 in
theorem dX8_inner_80 : decode cX8_inner 80 = .ok (.iconst 2, 1) := dc_5 (lxX8_inner 5 0 rfl)
set_option maxRecDepth 20000 in
theorem dX8_inner_81 : decode cX8_inner 81 = .ok (.invokestatic 41, 3) := dc_184 0 41 (lxX8_inner 5 1 rfl) (lxX8_inner 5 2 rfl) (lxX8_inner 5 3 rfl)
set_option maxRecDepth 20000 in
theorem dX8_inner_84 : decode cX8_inner 84 = .ok (.ifCond .eq 7, 3) := dc_153 0 7 (lxX8_inner 5 4 rfl) (lxX8_inner 5 5 rfl) (lxX8_inner 5 6 rfl)
set_option maxRecDepth 20000 in
theorem dX8_inner_87 : decode cX8_inner 87 = .ok (.iconst 1, 1) := dc_4 (lxX8_inner 5 7 rfl)
set_option maxRecDepth 20000 in
theorem dX8_inner_88 : decode cX8_inner 88 = .ok (.goto 4, 3) := dc_167 0 4 (lxX8_inner 5 8 rfl) (lxX8_inner 5 9 rfl) (lxX8_inner 5 10 rfl)
set_option maxRecDepth 20000 in
theorem dX8_inner_91 : decode cX8_inner 91 = .ok (.iconst 0, 1) := dc_3 (lxX8_inner 5 11 rfl)
set_option maxRecDepth 20000 in
theorem dX8_inner_92 : decode cX8_inner 92 = .ok (.invokevirtual 81, 3) := dc_182 0 81 (lxX8_inner 5 12 rfl) (lxX8_inner 5 13 rfl) (lxX8_inner 5 14 rfl)
set_option maxRecDepth 20000 in
theorem dX8_inner_95 : decode cX8_inner 95 = .ok (.ifCond .eq 8, 3) := dc_153 0 8 (lxX8_inner 5 15 rfl) (lxX8_inner 6 0 rfl) (lxX8_inner 6 1 rfl)
set_option maxRecDepth 20000 in
theorem dX8_inner_98 : decode cX8_inner 98 = .ok (.ldc 109, 2) := dc_18 109 (lxX8_inner 6 2 rfl) (lxX8_inner 6 3 rfl)
set_option maxRecDepth 20000 in
theorem dX8_inner_100 : decode cX8_inner 100 = .ok (.goto 16, 3) := dc_167 0 16 (lxX8_inner 6 4 rfl) (lxX8_inner 6 5 rfl) (lxX8_inner 6 6 rfl)
set_option maxRecDepth 20000 in
theorem dX8_inner_103 : decode cX8_inner 103 = .ok (.aload 7, 2) := dc_25 7 (lxX8_inner 6 7 rfl) (lxX8_inner 6 8 rfl)
set_option maxRecDepth 20000 in
theorem dX8_inner_105 : decode cX8_inner 105 = .ok (.iload_n 2, 1) := dc_28 (lxX8_inner 6 9 rfl)
set_option maxRecDepth 20000 in
theorem dX8_inner_106 : decode cX8_inner 106 = .ok (.iload 4, 2) := dc_21 4 (lxX8_inner 6 10 rfl) (lxX8_inner 6 11 rfl)
set_option maxRecDepth 20000 in
theorem dX8_inner_108 : decode cX8_inner 108 = .ok (.iadd, 1) := dc_96 (lxX8_inner 6 12 rfl)
set_option maxRecDepth 20000 in
theorem dX8_inner_109 : decode cX8_inner 109 = .ok (.iload_n 2, 1) := dc_28 (lxX8_inner 6 13 rfl)
set_option maxRecDepth 20000 in
theorem dX8_inner_110 : decode cX8_inner 110 = .ok (.iload 5, 2) := dc_21 5 (lxX8_inner 6 14 rfl) (lxX8_inner 6 15 rfl)
set_option maxRecDepth 20000 in
theorem dX8_inner_112 : decode cX8_inner 112 = .ok (.iadd, 1) := dc_96 (lxX8_inner 7 0 rfl)
set_option maxRecDepth 20000 in
theorem dX8_inner_113 : decode cX8_inner 113 = .ok (.invokestatic 111, 3) := dc_184 0 111 (lxX8_inner 7 1 rfl) (lxX8_inner 7 2 rfl) (lxX8_inner 7 3 rfl)
set_option maxRecDepth 20000 in
theorem dX8_inner_116 : decode cX8_inner 116 = .ok (.areturn, 1) := dc_176 (lxX8_inner 7 4 rfl)
def lb_sgX8_lies : List (List UInt8) := [[28, 43, 190, 96, 42, 190, 164, 0, 5, 3, 172, 3, 62, 29, 43, 190], [162, 0, 20, 42, 28, 29, 96, 46, 43, 29, 46, 160, 0, 9, 132, 3], [1, 167, 255, 236, 29, 43, 190, 160, 0, 7, 4, 167, 0, 4, 3, 172]]
set_option maxRecDepth 100000 in
theorem lb_seX8_lies : cX8_lies.data.toList = lb_sgX8_lies.flatten := by decide +kernel
theorem lb_lnX8_lies : ∀ s ∈ lb_sgX8_lies.dropLast, s.length = 16 := by decide +kernel
theorem lxX8_lies (k j : Nat) {b : UInt8} (h : (lb_sgX8_lies[k]?).bind (fun s => s[j]?) = some b) : lb_at cX8_lies (16 * k + j) b := by
  unfold lb_at
  rw [lb_seX8_lies]
  exact lb_flat 16 lb_sgX8_lies k j b lb_lnX8_lies h
set_option maxRecDepth 20000 in
theorem dX8_lies_0 : decode cX8_lies 0 = .ok (.iload_n 2, 1) := dc_28 (lxX8_lies 0 0 rfl)
set_option maxRecDepth 20000 in
theorem dX8_lies_1 : decode cX8_lies 1 = .ok (.aload_n 1, 1) := dc_43 (lxX8_lies 0 1 rfl)
set_option maxRecDepth 20000 in
theorem dX8_lies_2 : decode cX8_lies 2 = .ok (.arraylength, 1) := dc_190 (lxX8_lies 0 2 rfl)
set_option maxRecDepth 20000 in
theorem dX8_lies_3 : decode cX8_lies 3 = .ok (.iadd, 1) := dc_96 (lxX8_lies 0 3 rfl)
set_option maxRecDepth 20000 in
theorem dX8_lies_4 : decode cX8_lies 4 = .ok (.aload_n 0, 1) := dc_42 (lxX8_lies 0 4 rfl)
set_option maxRecDepth 20000 in
theorem dX8_lies_5 : decode cX8_lies 5 = .ok (.arraylength, 1) := dc_190 (lxX8_lies 0 5 rfl)
set_option maxRecDepth 20000 in
theorem dX8_lies_6 : decode cX8_lies 6 = .ok (.if_icmp .le 5, 3) := dc_164 0 5 (lxX8_lies 0 6 rfl) (lxX8_lies 0 7 rfl) (lxX8_lies 0 8 rfl)
set_option maxRecDepth 20000 in
theorem dX8_lies_9 : decode cX8_lies 9 = .ok (.iconst 0, 1) := dc_3 (lxX8_lies 0 9 rfl)
set_option maxRecDepth 20000 in
theorem dX8_lies_10 : decode cX8_lies 10 = .ok (.ireturn, 1) := dc_172 (lxX8_lies 0 10 rfl)
set_option maxRecDepth 20000 in
theorem dX8_lies_11 : decode cX8_lies 11 = .ok (.iconst 0, 1) := dc_3 (lxX8_lies 0 11 rfl)
set_option maxRecDepth 20000 in
theorem dX8_lies_12 : decode cX8_lies 12 = .ok (.istore_n 3, 1) := dc_62 (lxX8_lies 0 12 rfl)
set_option maxRecDepth 20000 in
theorem dX8_lies_13 : decode cX8_lies 13 = .ok (.iload_n 3, 1) := dc_29 (lxX8_lies 0 13 rfl)
set_option maxRecDepth 20000 in
theorem dX8_lies_14 : decode cX8_lies 14 = .ok (.aload_n 1, 1) := dc_43 (lxX8_lies 0 14 rfl)
set_option maxRecDepth 20000 in
theorem dX8_lies_15 : decode cX8_lies 15 = .ok (.arraylength, 1) := dc_190 (lxX8_lies 0 15 rfl)
set_option maxRecDepth 20000 in
theorem dX8_lies_16 : decode cX8_lies 16 = .ok (.if_icmp .ge 20, 3) := dc_162 0 20 (lxX8_lies 1 0 rfl) (lxX8_lies 1 1 rfl) (lxX8_lies 1 2 rfl)
set_option maxRecDepth 20000 in
theorem dX8_lies_19 : decode cX8_lies 19 = .ok (.aload_n 0, 1) := dc_42 (lxX8_lies 1 3 rfl)
set_option maxRecDepth 20000 in
theorem dX8_lies_20 : decode cX8_lies 20 = .ok (.iload_n 2, 1) := dc_28 (lxX8_lies 1 4 rfl)
set_option maxRecDepth 20000 in
theorem dX8_lies_21 : decode cX8_lies 21 = .ok (.iload_n 3, 1) := dc_29 (lxX8_lies 1 5 rfl)
set_option maxRecDepth 20000 in
theorem dX8_lies_22 : decode cX8_lies 22 = .ok (.iadd, 1) := dc_96 (lxX8_lies 1 6 rfl)
set_option maxRecDepth 20000 in
theorem dX8_lies_23 : decode cX8_lies 23 = .ok (.iaload, 1) := dc_46 (lxX8_lies 1 7 rfl)
set_option maxRecDepth 20000 in
theorem dX8_lies_24 : decode cX8_lies 24 = .ok (.aload_n 1, 1) := dc_43 (lxX8_lies 1 8 rfl)
set_option maxRecDepth 20000 in
theorem dX8_lies_25 : decode cX8_lies 25 = .ok (.iload_n 3, 1) := dc_29 (lxX8_lies 1 9 rfl)
set_option maxRecDepth 20000 in
theorem dX8_lies_26 : decode cX8_lies 26 = .ok (.iaload, 1) := dc_46 (lxX8_lies 1 10 rfl)
set_option maxRecDepth 20000 in
theorem dX8_lies_27 : decode cX8_lies 27 = .ok (.if_icmp .ne 9, 3) := dc_160 0 9 (lxX8_lies 1 11 rfl) (lxX8_lies 1 12 rfl) (lxX8_lies 1 13 rfl)
set_option maxRecDepth 20000 in
theorem dX8_lies_30 : decode cX8_lies 30 = .ok (.iinc 3 1, 3) := dc_132 3 1 (lxX8_lies 1 14 rfl) (lxX8_lies 1 15 rfl) (lxX8_lies 2 0 rfl)
set_option maxRecDepth 20000 in
theorem dX8_lies_33 : decode cX8_lies 33 = .ok (.goto (-20), 3) := dc_167 255 236 (lxX8_lies 2 1 rfl) (lxX8_lies 2 2 rfl) (lxX8_lies 2 3 rfl)
set_option maxRecDepth 20000 in
theorem dX8_lies_36 : decode cX8_lies 36 = .ok (.iload_n 3, 1) := dc_29 (lxX8_lies 2 4 rfl)
set_option maxRecDepth 20000 in
theorem dX8_lies_37 : decode cX8_lies 37 = .ok (.aload_n 1, 1) := dc_43 (lxX8_lies 2 5 rfl)
set_option maxRecDepth 20000 in
theorem dX8_lies_38 : decode cX8_lies 38 = .ok (.arraylength, 1) := dc_190 (lxX8_lies 2 6 rfl)
set_option maxRecDepth 20000 in
theorem dX8_lies_39 : decode cX8_lies 39 = .ok (.if_icmp .ne 7, 3) := dc_160 0 7 (lxX8_lies 2 7 rfl) (lxX8_lies 2 8 rfl) (lxX8_lies 2 9 rfl)
set_option maxRecDepth 20000 in
theorem dX8_lies_42 : decode cX8_lies 42 = .ok (.iconst 1, 1) := dc_4 (lxX8_lies 2 10 rfl)
set_option maxRecDepth 20000 in
theorem dX8_lies_43 : decode cX8_lies 43 = .ok (.goto 4, 3) := dc_167 0 4 (lxX8_lies 2 11 rfl) (lxX8_lies 2 12 rfl) (lxX8_lies 2 13 rfl)
set_option maxRecDepth 20000 in
theorem dX8_lies_46 : decode cX8_lies 46 = .ok (.iconst 0, 1) := dc_3 (lxX8_lies 2 14 rfl)
set_option maxRecDepth 20000 in
theorem dX8_lies_47 : decode cX8_lies 47 = .ok (.ireturn, 1) := dc_172 (lxX8_lies 2 15 rfl)
noncomputable def sgX8_nth : List (List Cond) := [[.code yX8_nth cX8_nth 5 (some .int)], [.methodLink RX8 138 yX8_lies, .static yX8_lies, .initialized RX8, .code yX8_lies cX8_lies 4 (some .boolean)]]
theorem seX8_nth : sgX8_nth.flatten = wsX8_nth := by simp only [sgX8_nth, wsX8_nth, List.flatten_cons, List.flatten_nil, List.append_assoc, List.append_nil, List.cons_append, List.nil_append]
set_option maxRecDepth 20000 in
theorem ggX8_nth_X8_lies : GoodIn wsX8_nth wsX8_lies := goodIn_s seX8_nth _ [pq_1_3] (by rfl) (by decide +kernel)
set_option maxRecDepth 20000 in
theorem gX8_nth_X8_lies : GoodIn wsX8_nth (va_wsS RX8 138 yX8_lies wsX8_lies) := goodIn_app (goodIn_s seX8_nth _ [pq_1_0, pq_1_1, pq_1_2] (by rfl) (by decide +kernel)) ggX8_nth_X8_lies
def lb_sgX8_nth : List (List UInt8) := [[28, 62, 3, 54, 4, 21, 4, 43, 190, 96, 42, 190, 163, 0, 32, 42], [43, 21, 4, 184, 0, 138, 154, 0, 6, 167, 0, 13, 29, 154, 0, 6], [21, 4, 172, 132, 3, 255, 132, 4, 1, 167, 255, 220, 2, 172]]
set_option maxRecDepth 100000 in
theorem lb_seX8_nth : cX8_nth.data.toList = lb_sgX8_nth.flatten := by decide +kernel
theorem lb_lnX8_nth : ∀ s ∈ lb_sgX8_nth.dropLast, s.length = 16 := by decide +kernel
theorem lxX8_nth (k j : Nat) {b : UInt8} (h : (lb_sgX8_nth[k]?).bind (fun s => s[j]?) = some b) : lb_at cX8_nth (16 * k + j) b := by
  unfold lb_at
  rw [lb_seX8_nth]
  exact lb_flat 16 lb_sgX8_nth k j b lb_lnX8_nth h
set_option maxRecDepth 20000 in
theorem dX8_nth_0 : decode cX8_nth 0 = .ok (.iload_n 2, 1) := dc_28 (lxX8_nth 0 0 rfl)
set_option maxRecDepth 20000 in
theorem dX8_nth_1 : decode cX8_nth 1 = .ok (.istore_n 3, 1) := dc_62 (lxX8_nth 0 1 rfl)
set_option maxRecDepth 20000 in
theorem dX8_nth_2 : decode cX8_nth 2 = .ok (.iconst 0, 1) := dc_3 (lxX8_nth 0 2 rfl)
set_option maxRecDepth 20000 in
theorem dX8_nth_3 : decode cX8_nth 3 = .ok (.istore 4, 2) := dc_54 4 (lxX8_nth 0 3 rfl) (lxX8_nth 0 4 rfl)
set_option maxRecDepth 20000 in
theorem dX8_nth_5 : decode cX8_nth 5 = .ok (.iload 4, 2) := dc_21 4 (lxX8_nth 0 5 rfl) (lxX8_nth 0 6 rfl)
set_option maxRecDepth 20000 in
theorem dX8_nth_7 : decode cX8_nth 7 = .ok (.aload_n 1, 1) := dc_43 (lxX8_nth 0 7 rfl)
set_option maxRecDepth 20000 in
theorem dX8_nth_8 : decode cX8_nth 8 = .ok (.arraylength, 1) := dc_190 (lxX8_nth 0 8 rfl)
set_option maxRecDepth 20000 in
theorem dX8_nth_9 : decode cX8_nth 9 = .ok (.iadd, 1) := dc_96 (lxX8_nth 0 9 rfl)
set_option maxRecDepth 20000 in
theorem dX8_nth_10 : decode cX8_nth 10 = .ok (.aload_n 0, 1) := dc_42 (lxX8_nth 0 10 rfl)
set_option maxRecDepth 20000 in
theorem dX8_nth_11 : decode cX8_nth 11 = .ok (.arraylength, 1) := dc_190 (lxX8_nth 0 11 rfl)
set_option maxRecDepth 20000 in
theorem dX8_nth_12 : decode cX8_nth 12 = .ok (.if_icmp .gt 32, 3) := dc_163 0 32 (lxX8_nth 0 12 rfl) (lxX8_nth 0 13 rfl) (lxX8_nth 0 14 rfl)
set_option maxRecDepth 20000 in
theorem dX8_nth_15 : decode cX8_nth 15 = .ok (.aload_n 0, 1) := dc_42 (lxX8_nth 0 15 rfl)
set_option maxRecDepth 20000 in
theorem dX8_nth_16 : decode cX8_nth 16 = .ok (.aload_n 1, 1) := dc_43 (lxX8_nth 1 0 rfl)
set_option maxRecDepth 20000 in
theorem dX8_nth_17 : decode cX8_nth 17 = .ok (.iload 4, 2) := dc_21 4 (lxX8_nth 1 1 rfl) (lxX8_nth 1 2 rfl)
set_option maxRecDepth 20000 in
theorem dX8_nth_19 : decode cX8_nth 19 = .ok (.invokestatic 138, 3) := dc_184 0 138 (lxX8_nth 1 3 rfl) (lxX8_nth 1 4 rfl) (lxX8_nth 1 5 rfl)
set_option maxRecDepth 20000 in
theorem dX8_nth_22 : decode cX8_nth 22 = .ok (.ifCond .ne 6, 3) := dc_154 0 6 (lxX8_nth 1 6 rfl) (lxX8_nth 1 7 rfl) (lxX8_nth 1 8 rfl)
set_option maxRecDepth 20000 in
theorem dX8_nth_25 : decode cX8_nth 25 = .ok (.goto 13, 3) := dc_167 0 13 (lxX8_nth 1 9 rfl) (lxX8_nth 1 10 rfl) (lxX8_nth 1 11 rfl)
set_option maxRecDepth 20000 in
theorem dX8_nth_28 : decode cX8_nth 28 = .ok (.iload_n 3, 1) := dc_29 (lxX8_nth 1 12 rfl)
set_option maxRecDepth 20000 in
theorem dX8_nth_29 : decode cX8_nth 29 = .ok (.ifCond .ne 6, 3) := dc_154 0 6 (lxX8_nth 1 13 rfl) (lxX8_nth 1 14 rfl) (lxX8_nth 1 15 rfl)
set_option maxRecDepth 20000 in
theorem dX8_nth_32 : decode cX8_nth 32 = .ok (.iload 4, 2) := dc_21 4 (lxX8_nth 2 0 rfl) (lxX8_nth 2 1 rfl)
set_option maxRecDepth 20000 in
theorem dX8_nth_34 : decode cX8_nth 34 = .ok (.ireturn, 1) := dc_172 (lxX8_nth 2 2 rfl)
set_option maxRecDepth 20000 in
theorem dX8_nth_35 : decode cX8_nth 35 = .ok (.iinc 3 (-1), 3) := dc_132 3 255 (lxX8_nth 2 3 rfl) (lxX8_nth 2 4 rfl) (lxX8_nth 2 5 rfl)
set_option maxRecDepth 20000 in
theorem dX8_nth_38 : decode cX8_nth 38 = .ok (.iinc 4 1, 3) := dc_132 4 1 (lxX8_nth 2 6 rfl) (lxX8_nth 2 7 rfl) (lxX8_nth 2 8 rfl)
set_option maxRecDepth 20000 in
theorem dX8_nth_41 : decode cX8_nth 41 = .ok (.goto (-36), 3) := dc_167 255 220 (lxX8_nth 2 9 rfl) (lxX8_nth 2 10 rfl) (lxX8_nth 2 11 rfl)
set_option maxRecDepth 20000 in
theorem dX8_nth_44 : decode cX8_nth 44 = .ok (.iconst (-1), 1) := dc_2 (lxX8_nth 2 12 rfl)
set_option maxRecDepth 20000 in
theorem dX8_nth_45 : decode cX8_nth 45 = .ok (.ireturn, 1) := dc_172 (lxX8_nth 2 13 rfl)
noncomputable def sgX8_places : List (List Cond) := [[.code yX8_places cX8_places 3 (some .int)], [.methodLink RX8 142 yX8_nth, .static yX8_nth, .initialized RX8, .code yX8_nth cX8_nth 5 (some .int), .methodLink RX8 138 yX8_lies, .static yX8_lies, .code yX8_lies cX8_lies 4 (some .boolean)]]
theorem seX8_places : sgX8_places.flatten = wsX8_places := by simp only [sgX8_places, wsX8_places, List.flatten_cons, List.flatten_nil, List.append_assoc, List.append_nil, List.cons_append, List.nil_append]
set_option maxRecDepth 20000 in
theorem ggX8_places_X8_nth : GoodIn wsX8_places wsX8_nth := goodIn_s seX8_places _ [pq_1_3, pq_1_4, pq_1_5, pq_1_2, pq_1_6] (by rfl) (by decide +kernel)
set_option maxRecDepth 20000 in
theorem gX8_places_X8_nth : GoodIn wsX8_places (va_wsS RX8 142 yX8_nth wsX8_nth) := goodIn_app (goodIn_s seX8_places _ [pq_1_0, pq_1_1, pq_1_2] (by rfl) (by decide +kernel)) ggX8_places_X8_nth
def lb_sgX8_places : List (List UInt8) := [[3, 61, 42, 43, 28, 184, 0, 142, 155, 0, 9, 132, 2, 1, 167, 255], [244, 28, 172]]
set_option maxRecDepth 100000 in
theorem lb_seX8_places : cX8_places.data.toList = lb_sgX8_places.flatten := by decide +kernel
theorem lb_lnX8_places : ∀ s ∈ lb_sgX8_places.dropLast, s.length = 16 := by decide +kernel
theorem lxX8_places (k j : Nat) {b : UInt8} (h : (lb_sgX8_places[k]?).bind (fun s => s[j]?) = some b) : lb_at cX8_places (16 * k + j) b := by
  unfold lb_at
  rw [lb_seX8_places]
  exact lb_flat 16 lb_sgX8_places k j b lb_lnX8_places h
set_option maxRecDepth 20000 in
theorem dX8_places_0 : decode cX8_places 0 = .ok (.iconst 0, 1) := dc_3 (lxX8_places 0 0 rfl)
set_option maxRecDepth 20000 in
theorem dX8_places_1 : decode cX8_places 1 = .ok (.istore_n 2, 1) := dc_61 (lxX8_places 0 1 rfl)
set_option maxRecDepth 20000 in
theorem dX8_places_2 : decode cX8_places 2 = .ok (.aload_n 0, 1) := dc_42 (lxX8_places 0 2 rfl)
set_option maxRecDepth 20000 in
theorem dX8_places_3 : decode cX8_places 3 = .ok (.aload_n 1, 1) := dc_43 (lxX8_places 0 3 rfl)
set_option maxRecDepth 20000 in
theorem dX8_places_4 : decode cX8_places 4 = .ok (.iload_n 2, 1) := dc_28 (lxX8_places 0 4 rfl)
set_option maxRecDepth 20000 in
theorem dX8_places_5 : decode cX8_places 5 = .ok (.invokestatic 142, 3) := dc_184 0 142 (lxX8_places 0 5 rfl) (lxX8_places 0 6 rfl) (lxX8_places 0 7 rfl)
set_option maxRecDepth 20000 in
theorem dX8_places_8 : decode cX8_places 8 = .ok (.ifCond .lt 9, 3) := dc_155 0 9 (lxX8_places 0 8 rfl) (lxX8_places 0 9 rfl) (lxX8_places 0 10 rfl)
set_option maxRecDepth 20000 in
theorem dX8_places_11 : decode cX8_places 11 = .ok (.iinc 2 1, 3) := dc_132 2 1 (lxX8_places 0 11 rfl) (lxX8_places 0 12 rfl) (lxX8_places 0 13 rfl)
set_option maxRecDepth 20000 in
theorem dX8_places_14 : decode cX8_places 14 = .ok (.goto (-12), 3) := dc_167 255 244 (lxX8_places 0 14 rfl) (lxX8_places 0 15 rfl) (lxX8_places 1 0 rfl)
set_option maxRecDepth 20000 in
theorem dX8_places_17 : decode cX8_places 17 = .ok (.iload_n 2, 1) := dc_28 (lxX8_places 1 1 rfl)
set_option maxRecDepth 20000 in
theorem dX8_places_18 : decode cX8_places 18 = .ok (.ireturn, 1) := dc_172 (lxX8_places 1 2 rfl)
noncomputable def sgX8_lastOf : List (List Cond) := [[.code yX8_lastOf cX8_lastOf 3 (some .int)], [.methodLink RX8 146 Lib.Math.max.name, .static Lib.Math.max.name, .initialized "java/lang/Math", .code Lib.Math.max.name Lib.Math.max.code 2 (some .int), .methodLink RX8 138 yX8_lies, .static yX8_lies, .initialized RX8, .code yX8_lies cX8_lies 4 (some .boolean)]]
theorem seX8_lastOf : sgX8_lastOf.flatten = wsX8_lastOf := by simp only [sgX8_lastOf, wsX8_lastOf, List.flatten_cons, List.flatten_nil, List.append_assoc, List.append_nil, List.cons_append, List.nil_append]
set_option maxRecDepth 20000 in
theorem ggX8_lastOf_X8_lies : GoodIn wsX8_lastOf wsX8_lies := goodIn_s seX8_lastOf _ [pq_1_7] (by rfl) (by decide +kernel)
set_option maxRecDepth 20000 in
theorem gX8_lastOf_X8_lies : GoodIn wsX8_lastOf (va_wsS RX8 138 yX8_lies wsX8_lies) := goodIn_app (goodIn_s seX8_lastOf _ [pq_1_4, pq_1_5, pq_1_6] (by rfl) (by decide +kernel)) ggX8_lastOf_X8_lies
def lb_sgX8_lastOf : List (List UInt8) := [[42, 190, 43, 190, 100, 61, 28, 155, 0, 18, 42, 43, 28, 184, 0, 138], [154, 0, 9, 132, 2, 255, 167, 255, 240, 28, 2, 184, 0, 146, 172]]
set_option maxRecDepth 100000 in
theorem lb_seX8_lastOf : cX8_lastOf.data.toList = lb_sgX8_lastOf.flatten := by decide +kernel
theorem lb_lnX8_lastOf : ∀ s ∈ lb_sgX8_lastOf.dropLast, s.length = 16 := by decide +kernel
theorem lxX8_lastOf (k j : Nat) {b : UInt8} (h : (lb_sgX8_lastOf[k]?).bind (fun s => s[j]?) = some b) : lb_at cX8_lastOf (16 * k + j) b := by
  unfold lb_at
  rw [lb_seX8_lastOf]
  exact lb_flat 16 lb_sgX8_lastOf k j b lb_lnX8_lastOf h
set_option maxRecDepth 20000 in
theorem dX8_lastOf_0 : decode cX8_lastOf 0 = .ok (.aload_n 0, 1) := dc_42 (lxX8_lastOf 0 0 rfl)
set_option maxRecDepth 20000 in
theorem dX8_lastOf_1 : decode cX8_lastOf 1 = .ok (.arraylength, 1) := dc_190 (lxX8_lastOf 0 1 rfl)
set_option maxRecDepth 20000 in
theorem dX8_lastOf_2 : decode cX8_lastOf 2 = .ok (.aload_n 1, 1) := dc_43 (lxX8_lastOf 0 2 rfl)
set_option maxRecDepth 20000 in
theorem dX8_lastOf_3 : decode cX8_lastOf 3 = .ok (.arraylength, 1) := dc_190 (lxX8_lastOf 0 3 rfl)
set_option maxRecDepth 20000 in
theorem dX8_lastOf_4 : decode cX8_lastOf 4 = .ok (.isub, 1) := dc_100 (lxX8_lastOf 0 4 rfl)
set_option maxRecDepth 20000 in
theorem dX8_lastOf_5 : decode cX8_lastOf 5 = .ok (.istore_n 2, 1) := dc_61 (lxX8_lastOf 0 5 rfl)
set_option maxRecDepth 20000 in
theorem dX8_lastOf_6 : decode cX8_lastOf 6 = .ok (.iload_n 2, 1) := dc_28 (lxX8_lastOf 0 6 rfl)
set_option maxRecDepth 20000 in
theorem dX8_lastOf_7 : decode cX8_lastOf 7 = .ok (.ifCond .lt 18, 3) := dc_155 0 18 (lxX8_lastOf 0 7 rfl) (lxX8_lastOf 0 8 rfl) (lxX8_lastOf 0 9 rfl)
set_option maxRecDepth 20000 in
theorem dX8_lastOf_10 : decode cX8_lastOf 10 = .ok (.aload_n 0, 1) := dc_42 (lxX8_lastOf 0 10 rfl)
set_option maxRecDepth 20000 in
theorem dX8_lastOf_11 : decode cX8_lastOf 11 = .ok (.aload_n 1, 1) := dc_43 (lxX8_lastOf 0 11 rfl)
set_option maxRecDepth 20000 in
theorem dX8_lastOf_12 : decode cX8_lastOf 12 = .ok (.iload_n 2, 1) := dc_28 (lxX8_lastOf 0 12 rfl)
set_option maxRecDepth 20000 in
theorem dX8_lastOf_13 : decode cX8_lastOf 13 = .ok (.invokestatic 138, 3) := dc_184 0 138 (lxX8_lastOf 0 13 rfl) (lxX8_lastOf 0 14 rfl) (lxX8_lastOf 0 15 rfl)
set_option maxRecDepth 20000 in
theorem dX8_lastOf_16 : decode cX8_lastOf 16 = .ok (.ifCond .ne 9, 3) := dc_154 0 9 (lxX8_lastOf 1 0 rfl) (lxX8_lastOf 1 1 rfl) (lxX8_lastOf 1 2 rfl)
set_option maxRecDepth 20000 in
theorem dX8_lastOf_19 : decode cX8_lastOf 19 = .ok (.iinc 2 (-1), 3) := dc_132 2 255 (lxX8_lastOf 1 3 rfl) (lxX8_lastOf 1 4 rfl) (lxX8_lastOf 1 5 rfl)
set_option maxRecDepth 20000 in
theorem dX8_lastOf_22 : decode cX8_lastOf 22 = .ok (.goto (-16), 3) := dc_167 255 240 (lxX8_lastOf 1 6 rfl) (lxX8_lastOf 1 7 rfl) (lxX8_lastOf 1 8 rfl)
set_option maxRecDepth 20000 in
theorem dX8_lastOf_25 : decode cX8_lastOf 25 = .ok (.iload_n 2, 1) := dc_28 (lxX8_lastOf 1 9 rfl)
set_option maxRecDepth 20000 in
theorem dX8_lastOf_26 : decode cX8_lastOf 26 = .ok (.iconst (-1), 1) := dc_2 (lxX8_lastOf 1 10 rfl)
set_option maxRecDepth 20000 in
theorem dX8_lastOf_27 : decode cX8_lastOf 27 = .ok (.invokestatic 146, 3) := dc_184 0 146 (lxX8_lastOf 1 11 rfl) (lxX8_lastOf 1 12 rfl) (lxX8_lastOf 1 13 rfl)
set_option maxRecDepth 20000 in
theorem dX8_lastOf_30 : decode cX8_lastOf 30 = .ok (.ireturn, 1) := dc_172 (lxX8_lastOf 1 14 rfl)
noncomputable def sgX8_first : List (List Cond) := [[.code yX8_first cX8_first 3 (some .int)], wsX8_first_r1, wsX8_first_r2, wsX80]
theorem seX8_first : sgX8_first.flatten = wsX8_first := by simp only [sgX8_first, wsX8_first, List.flatten_cons, List.flatten_nil, List.append_assoc, List.append_nil, List.cons_append, List.nil_append]
set_option maxRecDepth 20000 in
theorem ggX8_first_X8_isNoSource : GoodIn wsX8_first wsX8_isNoSource := goodIn_s seX8_first _ [pq_1_3, pq_1_4, pq_1_5, pq_1_2, pq_1_6] (by rfl) (by decide +kernel)
set_option maxRecDepth 20000 in
theorem gX8_first_X8_isNoSource : GoodIn wsX8_first (va_wsS RX8 119 yX8_isNoSource wsX8_isNoSource) := goodIn_app (goodIn_s seX8_first _ [pq_1_0, pq_1_1, pq_1_2] (by rfl) (by decide +kernel)) ggX8_first_X8_isNoSource
set_option maxRecDepth 20000 in
theorem ggX8_first_X8_isThrown : GoodIn wsX8_first wsX8_isThrown := goodIn_s seX8_first _ [pq_1_10, pq_1_11, pq_3_0, pq_3_1, pq_3_2, pq_3_3, pq_3_4, pq_3_5, pq_3_6, pq_3_7, pq_3_8, pq_3_9, pq_3_10] (by rfl) (by decide +kernel)
set_option maxRecDepth 20000 in
theorem gX8_first_X8_isThrown : GoodIn wsX8_first (wsV RX8 81 RX8 yX8_isThrown wsX8_isThrown) := goodIn_app (goodIn_s seX8_first _ [pq_1_7, pq_1_8, pq_1_9, pq_1_2] (by rfl) (by decide +kernel)) ggX8_first_X8_isThrown
set_option maxRecDepth 20000 in
theorem ggX8_first_X8_textOf : GoodIn wsX8_first wsX8_textOf := goodIn_s seX8_first _ [pq_1_15, pq_1_16, pq_1_17, pq_1_18, pq_1_19, pq_1_20, pq_1_21, pq_1_2, pq_1_22, pq_1_23, pq_2_0, pq_2_1, pq_2_2, pq_2_3, pq_3_0, pq_3_1, pq_3_2, pq_3_3, pq_3_4, pq_3_5, pq_3_6, pq_3_7, pq_3_8, pq_3_9, pq_3_10] (by rfl) (by decide +kernel)
set_option maxRecDepth 20000 in
theorem gX8_first_X8_textOf : GoodIn wsX8_first (wsV RX8 122 RX8 yX8_textOf wsX8_textOf) := goodIn_app (goodIn_s seX8_first _ [pq_1_12, pq_1_13, pq_1_14, pq_1_2] (by rfl) (by decide +kernel)) ggX8_first_X8_textOf
set_option maxRecDepth 20000 in
theorem ggX8_first_X8_nth : GoodIn wsX8_first wsX8_nth := goodIn_s seX8_first _ [pq_2_6, pq_2_7, pq_2_8, pq_1_2, pq_2_9] (by rfl) (by decide +kernel)
set_option maxRecDepth 20000 in
theorem gX8_first_X8_nth : GoodIn wsX8_first (va_wsS RX8 142 yX8_nth wsX8_nth) := goodIn_app (goodIn_s seX8_first _ [pq_2_4, pq_2_5, pq_1_2] (by rfl) (by decide +kernel)) ggX8_first_X8_nth
def lb_sgX8_first : List (List UInt8) := [[42, 27, 184, 0, 119, 154, 0, 10, 28, 184, 0, 119, 153, 0, 7, 4], [167, 0, 4, 3, 3, 182, 0, 81, 153, 0, 7, 3, 167, 0, 17, 42], [27, 182, 0, 122, 42, 28, 182, 0, 122, 3, 184, 0, 142, 172]]
set_option maxRecDepth 100000 in
theorem lb_seX8_first : cX8_first.data.toList = lb_sgX8_first.flatten := by decide +kernel
theorem lb_lnX8_first : ∀ s ∈ lb_sgX8_first.dropLast, s.length = 16 := by decide +kernel
theorem lxX8_first (k j : Nat) {b : UInt8} (h : (lb_sgX8_first[k]?).bind (fun s => s[j]?) = some b) : lb_at cX8_first (16 * k + j) b := by
  unfold lb_at
  rw [lb_seX8_first]
  exact lb_flat 16 lb_sgX8_first k j b lb_lnX8_first h
set_option maxRecDepth 20000 in
theorem dX8_first_0 : decode cX8_first 0 = .ok (.aload_n 0, 1) := dc_42 (lxX8_first 0 0 rfl)
set_option maxRecDepth 20000 in
theorem dX8_first_1 : decode cX8_first 1 = .ok (.iload_n 1, 1) := dc_27 (lxX8_first 0 1 rfl)
set_option maxRecDepth 20000 in
theorem dX8_first_2 : decode cX8_first 2 = .ok (.invokestatic 119, 3) := dc_184 0 119 (lxX8_first 0 2 rfl) (lxX8_first 0 3 rfl) (lxX8_first 0 4 rfl)
set_option maxRecDepth 20000 in
theorem dX8_first_5 : decode cX8_first 5 = .ok (.ifCond .ne 10, 3) := dc_154 0 10 (lxX8_first 0 5 rfl) (lxX8_first 0 6 rfl) (lxX8_first 0 7 rfl)
set_option maxRecDepth 20000 in
theorem dX8_first_8 : decode cX8_first 8 = .ok (.iload_n 2, 1) := dc_28 (lxX8_first 0 8 rfl)
set_option maxRecDepth 20000 in
theorem dX8_first_9 : decode cX8_first 9 = .ok (.invokestatic 119, 3) := dc_184 0 119 (lxX8_first 0 9 rfl) (lxX8_first 0 10 rfl) (lxX8_first 0 11 rfl)
set_option maxRecDepth 20000 in
theorem dX8_first_12 : decode cX8_first 12 = .ok (.ifCond .eq 7, 3) := dc_153 0 7 (lxX8_first 0 12 rfl) (lxX8_first 0 13 rfl) (lxX8_first 0 14 rfl)
set_option maxRecDepth 20000 in
theorem dX8_first_15 : decode cX8_first 15 = .ok (.iconst 1, 1) := dc_4 (lxX8_first 0 15 rfl)
set_option maxRecDepth 20000 in
theorem dX8_first_16 : decode cX8_first 16 = .ok (.goto 4, 3) := dc_167 0 4 (lxX8_first 1 0 rfl) (lxX8_first 1 1 rfl) (lxX8_first 1 2 rfl)
set_option maxRecDepth 20000 in
theorem dX8_first_19 : decode cX8_first 19 = .ok (.iconst 0, 1) := dc_3 (lxX8_first 1 3 rfl)
set_option maxRecDepth 20000 in
theorem dX8_first_20 : decode cX8_first 20 = .ok (.iconst 0, 1) := dc_3 (lxX8_first 1 4 rfl)
set_option maxRecDepth 20000 in
theorem dX8_first_21 : decode cX8_first 21 = .ok (.invokevirtual 81, 3) := dc_182 0 81 (lxX8_first 1 5 rfl) (lxX8_first 1 6 rfl) (lxX8_first 1 7 rfl)
set_option maxRecDepth 20000 in
theorem dX8_first_24 : decode cX8_first 24 = .ok (.ifCond .eq 7, 3) := dc_153 0 7 (lxX8_first 1 8 rfl) (lxX8_first 1 9 rfl) (lxX8_first 1 10 rfl)
set_option maxRecDepth 20000 in
theorem dX8_first_27 : decode cX8_first 27 = .ok (.iconst 0, 1) := dc_3 (lxX8_first 1 11 rfl)
set_option maxRecDepth 20000 in
theorem dX8_first_28 : decode cX8_first 28 = .ok (.goto 17, 3) := dc_167 0 17 (lxX8_first 1 12 rfl) (lxX8_first 1 13 rfl) (lxX8_first 1 14 rfl)
set_option maxRecDepth 20000 in
theorem dX8_first_31 : decode cX8_first 31 = .ok (.aload_n 0, 1) := dc_42 (lxX8_first 1 15 rfl)
set_option maxRecDepth 20000 in
theorem dX8_first_32 : decode cX8_first 32 = .ok (.iload_n 1, 1) := dc_27 (lxX8_first 2 0 rfl)
set_option maxRecDepth 20000 in
theorem dX8_first_33 : decode cX8_first 33 = .ok (.invokevirtual 122, 3) := dc_182 0 122 (lxX8_first 2 1 rfl) (lxX8_first 2 2 rfl) (lxX8_first 2 3 rfl)
set_option maxRecDepth 20000 in
theorem dX8_first_36 : decode cX8_first 36 = .ok (.aload_n 0, 1) := dc_42 (lxX8_first 2 4 rfl)
set_option maxRecDepth 20000 in
theorem dX8_first_37 : decode cX8_first 37 = .ok (.iload_n 2, 1) := dc_28 (lxX8_first 2 5 rfl)
set_option maxRecDepth 20000 in
theorem dX8_first_38 : decode cX8_first 38 = .ok (.invokevirtual 122, 3) := dc_182 0 122 (lxX8_first 2 6 rfl) (lxX8_first 2 7 rfl) (lxX8_first 2 8 rfl)
set_option maxRecDepth 20000 in
theorem dX8_first_41 : decode cX8_first 41 = .ok (.iconst 0, 1) := dc_3 (lxX8_first 2 9 rfl)
set_option maxRecDepth 20000 in
theorem dX8_first_42 : decode cX8_first 42 = .ok (.invokestatic 142, 3) := dc_184 0 142 (lxX8_first 2 10 rfl) (lxX8_first 2 11 rfl) (lxX8_first 2 12 rfl)
set_option maxRecDepth 20000 in
theorem dX8_first_45 : decode cX8_first 45 = .ok (.ireturn, 1) := dc_172 (lxX8_first 2 13 rfl)
noncomputable def sgX8_last : List (List Cond) := [[.code yX8_last cX8_last 3 (some .int)], wsX8_last_r1, wsX8_last_r2, wsX80]
theorem seX8_last : sgX8_last.flatten = wsX8_last := by simp only [sgX8_last, wsX8_last, List.flatten_cons, List.flatten_nil, List.append_assoc, List.append_nil, List.cons_append, List.nil_append]
set_option maxRecDepth 20000 in
theorem ggX8_last_X8_isNoSource : GoodIn wsX8_last wsX8_isNoSource := goodIn_s seX8_last _ [pq_1_3, pq_1_4, pq_1_5, pq_1_2, pq_1_6] (by rfl) (by decide +kernel)
set_option maxRecDepth 20000 in
theorem gX8_last_X8_isNoSource : GoodIn wsX8_last (va_wsS RX8 119 yX8_isNoSource wsX8_isNoSource) := goodIn_app (goodIn_s seX8_last _ [pq_1_0, pq_1_1, pq_1_2] (by rfl) (by decide +kernel)) ggX8_last_X8_isNoSource
set_option maxRecDepth 20000 in
theorem ggX8_last_X8_isThrown : GoodIn wsX8_last wsX8_isThrown := goodIn_s seX8_last _ [pq_1_10, pq_1_11, pq_3_0, pq_3_1, pq_3_2, pq_3_3, pq_3_4, pq_3_5, pq_3_6, pq_3_7, pq_3_8, pq_3_9, pq_3_10] (by rfl) (by decide +kernel)
set_option maxRecDepth 20000 in
theorem gX8_last_X8_isThrown : GoodIn wsX8_last (wsV RX8 81 RX8 yX8_isThrown wsX8_isThrown) := goodIn_app (goodIn_s seX8_last _ [pq_1_7, pq_1_8, pq_1_9, pq_1_2] (by rfl) (by decide +kernel)) ggX8_last_X8_isThrown
set_option maxRecDepth 20000 in
theorem ggX8_last_X8_textOf : GoodIn wsX8_last wsX8_textOf := goodIn_s seX8_last _ [pq_1_15, pq_1_16, pq_1_17, pq_1_18, pq_1_19, pq_1_20, pq_1_21, pq_1_2, pq_1_22, pq_1_23, pq_2_0, pq_2_1, pq_2_2, pq_2_3, pq_3_0, pq_3_1, pq_3_2, pq_3_3, pq_3_4, pq_3_5, pq_3_6, pq_3_7, pq_3_8, pq_3_9, pq_3_10] (by rfl) (by decide +kernel)
set_option maxRecDepth 20000 in
theorem gX8_last_X8_textOf : GoodIn wsX8_last (wsV RX8 122 RX8 yX8_textOf wsX8_textOf) := goodIn_app (goodIn_s seX8_last _ [pq_1_12, pq_1_13, pq_1_14, pq_1_2] (by rfl) (by decide +kernel)) ggX8_last_X8_textOf
set_option maxRecDepth 20000 in
theorem ggX8_last_X8_lastOf : GoodIn wsX8_last wsX8_lastOf := goodIn_s seX8_last _ [pq_2_6, pq_2_7, pq_2_8, pq_2_9, pq_2_10, pq_2_11, pq_2_12, pq_1_2, pq_2_13] (by rfl) (by decide +kernel)
set_option maxRecDepth 20000 in
theorem gX8_last_X8_lastOf : GoodIn wsX8_last (va_wsS RX8 149 yX8_lastOf wsX8_lastOf) := goodIn_app (goodIn_s seX8_last _ [pq_2_4, pq_2_5, pq_1_2] (by rfl) (by decide +kernel)) ggX8_last_X8_lastOf
def lb_sgX8_last : List (List UInt8) := [[42, 27, 184, 0, 119, 154, 0, 10, 28, 184, 0, 119, 153, 0, 7, 4], [167, 0, 4, 3, 3, 182, 0, 81, 153, 0, 7, 3, 167, 0, 16, 42], [27, 182, 0, 122, 42, 28, 182, 0, 122, 184, 0, 149, 172]]
set_option maxRecDepth 100000 in
theorem lb_seX8_last : cX8_last.data.toList = lb_sgX8_last.flatten := by decide +kernel
theorem lb_lnX8_last : ∀ s ∈ lb_sgX8_last.dropLast, s.length = 16 := by decide +kernel
theorem lxX8_last (k j : Nat) {b : UInt8} (h : (lb_sgX8_last[k]?).bind (fun s => s[j]?) = some b) : lb_at cX8_last (16 * k + j) b := by
  unfold lb_at
  rw [lb_seX8_last]
  exact lb_flat 16 lb_sgX8_last k j b lb_lnX8_last h
set_option maxRecDepth 20000 in
theorem dX8_last_0 : decode cX8_last 0 = .ok (.aload_n 0, 1) := dc_42 (lxX8_last 0 0 rfl)
set_option maxRecDepth 20000 in
theorem dX8_last_1 : decode cX8_last 1 = .ok (.iload_n 1, 1) := dc_27 (lxX8_last 0 1 rfl)
set_option maxRecDepth 20000 in
theorem dX8_last_2 : decode cX8_last 2 = .ok (.invokestatic 119, 3) := dc_184 0 119 (lxX8_last 0 2 rfl) (lxX8_last 0 3 rfl) (lxX8_last 0 4 rfl)
set_option maxRecDepth 20000 in
theorem dX8_last_5 : decode cX8_last 5 = .ok (.ifCond .ne 10, 3) := dc_154 0 10 (lxX8_last 0 5 rfl) (lxX8_last 0 6 rfl) (lxX8_last 0 7 rfl)
set_option maxRecDepth 20000 in
theorem dX8_last_8 : decode cX8_last 8 = .ok (.iload_n 2, 1) := dc_28 (lxX8_last 0 8 rfl)
set_option maxRecDepth 20000 in
theorem dX8_last_9 : decode cX8_last 9 = .ok (.invokestatic 119, 3) := dc_184 0 119 (lxX8_last 0 9 rfl) (lxX8_last 0 10 rfl) (lxX8_last 0 11 rfl)
set_option maxRecDepth 20000 in
theorem dX8_last_12 : decode cX8_last 12 = .ok (.ifCond .eq 7, 3) := dc_153 0 7 (lxX8_last 0 12 rfl) (lxX8_last 0 13 rfl) (lxX8_last 0 14 rfl)
set_option maxRecDepth 20000 in
theorem dX8_last_15 : decode cX8_last 15 = .ok (.iconst 1, 1) := dc_4 (lxX8_last 0 15 rfl)
set_option maxRecDepth 20000 in
theorem dX8_last_16 : decode cX8_last 16 = .ok (.goto 4, 3) := dc_167 0 4 (lxX8_last 1 0 rfl) (lxX8_last 1 1 rfl) (lxX8_last 1 2 rfl)
set_option maxRecDepth 20000 in
theorem dX8_last_19 : decode cX8_last 19 = .ok (.iconst 0, 1) := dc_3 (lxX8_last 1 3 rfl)
set_option maxRecDepth 20000 in
theorem dX8_last_20 : decode cX8_last 20 = .ok (.iconst 0, 1) := dc_3 (lxX8_last 1 4 rfl)
set_option maxRecDepth 20000 in
theorem dX8_last_21 : decode cX8_last 21 = .ok (.invokevirtual 81, 3) := dc_182 0 81 (lxX8_last 1 5 rfl) (lxX8_last 1 6 rfl) (lxX8_last 1 7 rfl)
set_option maxRecDepth 20000 in
theorem dX8_last_24 : decode cX8_last 24 = .ok (.ifCond .eq 7, 3) := dc_153 0 7 (lxX8_last 1 8 rfl) (lxX8_last 1 9 rfl) (lxX8_last 1 10 rfl)
set_option maxRecDepth 20000 in
theorem dX8_last_27 : decode cX8_last 27 = .ok (.iconst 0, 1) := dc_3 (lxX8_last 1 11 rfl)
set_option maxRecDepth 20000 in
theorem dX8_last_28 : decode cX8_last 28 = .ok (.goto 16, 3) := dc_167 0 16 (lxX8_last 1 12 rfl) (lxX8_last 1 13 rfl) (lxX8_last 1 14 rfl)
set_option maxRecDepth 20000 in
theorem dX8_last_31 : decode cX8_last 31 = .ok (.aload_n 0, 1) := dc_42 (lxX8_last 1 15 rfl)
set_option maxRecDepth 20000 in
theorem dX8_last_32 : decode cX8_last 32 = .ok (.iload_n 1, 1) := dc_27 (lxX8_last 2 0 rfl)
set_option maxRecDepth 20000 in
theorem dX8_last_33 : decode cX8_last 33 = .ok (.invokevirtual 122, 3) := dc_182 0 122 (lxX8_last 2 1 rfl) (lxX8_last 2 2 rfl) (lxX8_last 2 3 rfl)
set_option maxRecDepth 20000 in
theorem dX8_last_36 : decode cX8_last 36 = .ok (.aload_n 0, 1) := dc_42 (lxX8_last 2 4 rfl)
set_option maxRecDepth 20000 in
theorem dX8_last_37 : decode cX8_last 37 = .ok (.iload_n 2, 1) := dc_28 (lxX8_last 2 5 rfl)
set_option maxRecDepth 20000 in
theorem dX8_last_38 : decode cX8_last 38 = .ok (.invokevirtual 122, 3) := dc_182 0 122 (lxX8_last 2 6 rfl) (lxX8_last 2 7 rfl) (lxX8_last 2 8 rfl)
set_option maxRecDepth 20000 in
theorem dX8_last_41 : decode cX8_last 41 = .ok (.invokestatic 149, 3) := dc_184 0 149 (lxX8_last 2 9 rfl) (lxX8_last 2 10 rfl) (lxX8_last 2 11 rfl)
set_option maxRecDepth 20000 in
theorem dX8_last_44 : decode cX8_last 44 = .ok (.ireturn, 1) := dc_172 (lxX8_last 2 12 rfl)
noncomputable def sgX8_count : List (List Cond) := [[.code yX8_count cX8_count 3 (some .int)], wsX8_count_r1, wsX8_count_r2, wsX80]
theorem seX8_count : sgX8_count.flatten = wsX8_count := by simp only [sgX8_count, wsX8_count, List.flatten_cons, List.flatten_nil, List.append_assoc, List.append_nil, List.cons_append, List.nil_append]
set_option maxRecDepth 20000 in
theorem ggX8_count_X8_isNoSource : GoodIn wsX8_count wsX8_isNoSource := goodIn_s seX8_count _ [pq_1_3, pq_1_4, pq_1_5, pq_1_2, pq_1_6] (by rfl) (by decide +kernel)
set_option maxRecDepth 20000 in
theorem gX8_count_X8_isNoSource : GoodIn wsX8_count (va_wsS RX8 119 yX8_isNoSource wsX8_isNoSource) := goodIn_app (goodIn_s seX8_count _ [pq_1_0, pq_1_1, pq_1_2] (by rfl) (by decide +kernel)) ggX8_count_X8_isNoSource
set_option maxRecDepth 20000 in
theorem ggX8_count_X8_isThrown : GoodIn wsX8_count wsX8_isThrown := goodIn_s seX8_count _ [pq_1_10, pq_1_11, pq_3_0, pq_3_1, pq_3_2, pq_3_3, pq_3_4, pq_3_5, pq_3_6, pq_3_7, pq_3_8, pq_3_9, pq_3_10] (by rfl) (by decide +kernel)
set_option maxRecDepth 20000 in
theorem gX8_count_X8_isThrown : GoodIn wsX8_count (wsV RX8 81 RX8 yX8_isThrown wsX8_isThrown) := goodIn_app (goodIn_s seX8_count _ [pq_1_7, pq_1_8, pq_1_9, pq_1_2] (by rfl) (by decide +kernel)) ggX8_count_X8_isThrown
set_option maxRecDepth 20000 in
theorem ggX8_count_X8_textOf : GoodIn wsX8_count wsX8_textOf := goodIn_s seX8_count _ [pq_1_15, pq_1_16, pq_1_17, pq_1_18, pq_1_19, pq_1_20, pq_1_21, pq_1_2, pq_1_22, pq_1_23, pq_2_0, pq_2_1, pq_2_2, pq_2_3, pq_3_0, pq_3_1, pq_3_2, pq_3_3, pq_3_4, pq_3_5, pq_3_6, pq_3_7, pq_3_8, pq_3_9, pq_3_10] (by rfl) (by decide +kernel)
set_option maxRecDepth 20000 in
theorem gX8_count_X8_textOf : GoodIn wsX8_count (wsV RX8 122 RX8 yX8_textOf wsX8_textOf) := goodIn_app (goodIn_s seX8_count _ [pq_1_12, pq_1_13, pq_1_14, pq_1_2] (by rfl) (by decide +kernel)) ggX8_count_X8_textOf
set_option maxRecDepth 20000 in
theorem ggX8_count_X8_places : GoodIn wsX8_count wsX8_places := goodIn_s seX8_count _ [pq_2_6, pq_2_7, pq_2_8, pq_1_2, pq_2_9, pq_2_10, pq_2_11, pq_2_12] (by rfl) (by decide +kernel)
set_option maxRecDepth 20000 in
theorem gX8_count_X8_places : GoodIn wsX8_count (va_wsS RX8 153 yX8_places wsX8_places) := goodIn_app (goodIn_s seX8_count _ [pq_2_4, pq_2_5, pq_1_2] (by rfl) (by decide +kernel)) ggX8_count_X8_places
def lb_sgX8_count : List (List UInt8) := [[42, 27, 184, 0, 119, 154, 0, 10, 28, 184, 0, 119, 153, 0, 7, 4], [167, 0, 4, 3, 3, 182, 0, 81, 153, 0, 7, 3, 167, 0, 16, 42], [27, 182, 0, 122, 42, 28, 182, 0, 122, 184, 0, 153, 172]]
set_option maxRecDepth 100000 in
theorem lb_seX8_count : cX8_count.data.toList = lb_sgX8_count.flatten := by decide +kernel
theorem lb_lnX8_count : ∀ s ∈ lb_sgX8_count.dropLast, s.length = 16 := by decide +kernel
theorem lxX8_count (k j : Nat) {b : UInt8} (h : (lb_sgX8_count[k]?).bind (fun s => s[j]?) = some b) : lb_at cX8_count (16 * k + j) b := by
  unfold lb_at
  rw [lb_seX8_count]
  exact lb_flat 16 lb_sgX8_count k j b lb_lnX8_count h
set_option maxRecDepth 20000 in
theorem dX8_count_0 : decode cX8_count 0 = .ok (.aload_n 0, 1) := dc_42 (lxX8_count 0 0 rfl)
set_option maxRecDepth 20000 in
theorem dX8_count_1 : decode cX8_count 1 = .ok (.iload_n 1, 1) := dc_27 (lxX8_count 0 1 rfl)
set_option maxRecDepth 20000 in
theorem dX8_count_2 : decode cX8_count 2 = .ok (.invokestatic 119, 3) := dc_184 0 119 (lxX8_count 0 2 rfl) (lxX8_count 0 3 rfl) (lxX8_count 0 4 rfl)
set_option maxRecDepth 20000 in
theorem dX8_count_5 : decode cX8_count 5 = .ok (.ifCond .ne 10, 3) := dc_154 0 10 (lxX8_count 0 5 rfl) (lxX8_count 0 6 rfl) (lxX8_count 0 7 rfl)
set_option maxRecDepth 20000 in
theorem dX8_count_8 : decode cX8_count 8 = .ok (.iload_n 2, 1) := dc_28 (lxX8_count 0 8 rfl)
set_option maxRecDepth 20000 in
theorem dX8_count_9 : decode cX8_count 9 = .ok (.invokestatic 119, 3) := dc_184 0 119 (lxX8_count 0 9 rfl) (lxX8_count 0 10 rfl) (lxX8_count 0 11 rfl)
set_option maxRecDepth 20000 in
theorem dX8_count_12 : decode cX8_count 12 = .ok (.ifCond .eq 7, 3) := dc_153 0 7 (lxX8_count 0 12 rfl) (lxX8_count 0 13 rfl) (lxX8_count 0 14 rfl)
set_option maxRecDepth 20000 in
theorem dX8_count_15 : decode cX8_count 15 = .ok (.iconst 1, 1) := dc_4 (lxX8_count 0 15 rfl)
set_option maxRecDepth 20000 in
theorem dX8_count_16 : decode cX8_count 16 = .ok (.goto 4, 3) := dc_167 0 4 (lxX8_count 1 0 rfl) (lxX8_count 1 1 rfl) (lxX8_count 1 2 rfl)
set_option maxRecDepth 20000 in
theorem dX8_count_19 : decode cX8_count 19 = .ok (.iconst 0, 1) := dc_3 (lxX8_count 1 3 rfl)
set_option maxRecDepth 20000 in
theorem dX8_count_20 : decode cX8_count 20 = .ok (.iconst 0, 1) := dc_3 (lxX8_count 1 4 rfl)
set_option maxRecDepth 20000 in
theorem dX8_count_21 : decode cX8_count 21 = .ok (.invokevirtual 81, 3) := dc_182 0 81 (lxX8_count 1 5 rfl) (lxX8_count 1 6 rfl) (lxX8_count 1 7 rfl)
set_option maxRecDepth 20000 in
theorem dX8_count_24 : decode cX8_count 24 = .ok (.ifCond .eq 7, 3) := dc_153 0 7 (lxX8_count 1 8 rfl) (lxX8_count 1 9 rfl) (lxX8_count 1 10 rfl)
set_option maxRecDepth 20000 in
theorem dX8_count_27 : decode cX8_count 27 = .ok (.iconst 0, 1) := dc_3 (lxX8_count 1 11 rfl)
set_option maxRecDepth 20000 in
theorem dX8_count_28 : decode cX8_count 28 = .ok (.goto 16, 3) := dc_167 0 16 (lxX8_count 1 12 rfl) (lxX8_count 1 13 rfl) (lxX8_count 1 14 rfl)
set_option maxRecDepth 20000 in
theorem dX8_count_31 : decode cX8_count 31 = .ok (.aload_n 0, 1) := dc_42 (lxX8_count 1 15 rfl)
set_option maxRecDepth 20000 in
theorem dX8_count_32 : decode cX8_count 32 = .ok (.iload_n 1, 1) := dc_27 (lxX8_count 2 0 rfl)
set_option maxRecDepth 20000 in
theorem dX8_count_33 : decode cX8_count 33 = .ok (.invokevirtual 122, 3) := dc_182 0 122 (lxX8_count 2 1 rfl) (lxX8_count 2 2 rfl) (lxX8_count 2 3 rfl)
set_option maxRecDepth 20000 in
theorem dX8_count_36 : decode cX8_count 36 = .ok (.aload_n 0, 1) := dc_42 (lxX8_count 2 4 rfl)
set_option maxRecDepth 20000 in
theorem dX8_count_37 : decode cX8_count 37 = .ok (.iload_n 2, 1) := dc_28 (lxX8_count 2 5 rfl)
set_option maxRecDepth 20000 in
theorem dX8_count_38 : decode cX8_count 38 = .ok (.invokevirtual 122, 3) := dc_182 0 122 (lxX8_count 2 6 rfl) (lxX8_count 2 7 rfl) (lxX8_count 2 8 rfl)
set_option maxRecDepth 20000 in
theorem dX8_count_41 : decode cX8_count 41 = .ok (.invokestatic 153, 3) := dc_184 0 153 (lxX8_count 2 9 rfl) (lxX8_count 2 10 rfl) (lxX8_count 2 11 rfl)
set_option maxRecDepth 20000 in
theorem dX8_count_44 : decode cX8_count 44 = .ok (.ireturn, 1) := dc_172 (lxX8_count 2 12 rfl)
noncomputable def sgX8_place_ : List (List Cond) := [[.code yX8_place_ cX8_place_ 4 (some .int)], wsX8_place__r1, wsX8_place__r2, wsX80]
theorem seX8_place_ : sgX8_place_.flatten = wsX8_place_ := by simp only [sgX8_place_, wsX8_place_, List.flatten_cons, List.flatten_nil, List.append_assoc, List.append_nil, List.cons_append, List.nil_append]
set_option maxRecDepth 20000 in
theorem ggX8_place__X8_isNoSource : GoodIn wsX8_place_ wsX8_isNoSource := goodIn_s seX8_place_ _ [pq_1_3, pq_1_4, pq_1_5, pq_1_2, pq_1_6] (by rfl) (by decide +kernel)
set_option maxRecDepth 20000 in
theorem gX8_place__X8_isNoSource : GoodIn wsX8_place_ (va_wsS RX8 119 yX8_isNoSource wsX8_isNoSource) := goodIn_app (goodIn_s seX8_place_ _ [pq_1_0, pq_1_1, pq_1_2] (by rfl) (by decide +kernel)) ggX8_place__X8_isNoSource
set_option maxRecDepth 20000 in
theorem ggX8_place__X8_isNo : GoodIn wsX8_place_ wsX8_isNo := goodIn_s seX8_place_ _ [pq_1_6] (by rfl) (by decide +kernel)
set_option maxRecDepth 20000 in
theorem gX8_place__X8_isNo : GoodIn wsX8_place_ (va_wsS RX8 41 yX8_isNo wsX8_isNo) := goodIn_app (goodIn_s seX8_place_ _ [pq_1_4, pq_1_5, pq_1_2] (by rfl) (by decide +kernel)) ggX8_place__X8_isNo
set_option maxRecDepth 20000 in
theorem ggX8_place__X8_isThrown : GoodIn wsX8_place_ wsX8_isThrown := goodIn_s seX8_place_ _ [pq_1_10, pq_1_11, pq_3_0, pq_3_1, pq_3_2, pq_3_3, pq_3_4, pq_3_5, pq_3_6, pq_3_7, pq_3_8, pq_3_9, pq_3_10] (by rfl) (by decide +kernel)
set_option maxRecDepth 20000 in
theorem gX8_place__X8_isThrown : GoodIn wsX8_place_ (wsV RX8 81 RX8 yX8_isThrown wsX8_isThrown) := goodIn_app (goodIn_s seX8_place_ _ [pq_1_7, pq_1_8, pq_1_9, pq_1_2] (by rfl) (by decide +kernel)) ggX8_place__X8_isThrown
set_option maxRecDepth 20000 in
theorem ggX8_place__X8_textOf : GoodIn wsX8_place_ wsX8_textOf := goodIn_s seX8_place_ _ [pq_1_15, pq_1_16, pq_1_17, pq_1_18, pq_1_19, pq_1_20, pq_1_21, pq_1_2, pq_1_22, pq_1_23, pq_2_0, pq_2_1, pq_2_2, pq_2_3, pq_3_0, pq_3_1, pq_3_2, pq_3_3, pq_3_4, pq_3_5, pq_3_6, pq_3_7, pq_3_8, pq_3_9, pq_3_10] (by rfl) (by decide +kernel)
set_option maxRecDepth 20000 in
theorem gX8_place__X8_textOf : GoodIn wsX8_place_ (wsV RX8 122 RX8 yX8_textOf wsX8_textOf) := goodIn_app (goodIn_s seX8_place_ _ [pq_1_12, pq_1_13, pq_1_14, pq_1_2] (by rfl) (by decide +kernel)) ggX8_place__X8_textOf
set_option maxRecDepth 20000 in
theorem ggX8_place__X8_nth : GoodIn wsX8_place_ wsX8_nth := goodIn_s seX8_place_ _ [pq_2_6, pq_2_7, pq_2_8, pq_1_2, pq_2_9] (by rfl) (by decide +kernel)
set_option maxRecDepth 20000 in
theorem gX8_place__X8_nth : GoodIn wsX8_place_ (va_wsS RX8 142 yX8_nth wsX8_nth) := goodIn_app (goodIn_s seX8_place_ _ [pq_2_4, pq_2_5, pq_1_2] (by rfl) (by decide +kernel)) ggX8_place__X8_nth
def lb_sgX8_place_ : List (List UInt8) := [[42, 27, 184, 0, 119, 154, 0, 10, 28, 184, 0, 119, 153, 0, 7, 4], [167, 0, 4, 3, 29, 3, 16, 80, 184, 0, 41, 182, 0, 81, 153, 0], [7, 3, 167, 0, 17, 42, 27, 182, 0, 122, 42, 28, 182, 0, 122, 29], [184, 0, 142, 172]]
set_option maxRecDepth 100000 in
theorem lb_seX8_place_ : cX8_place_.data.toList = lb_sgX8_place_.flatten := by decide +kernel
theorem lb_lnX8_place_ : ∀ s ∈ lb_sgX8_place_.dropLast, s.length = 16 := by decide +kernel
theorem lxX8_place_ (k j : Nat) {b : UInt8} (h : (lb_sgX8_place_[k]?).bind (fun s => s[j]?) = some b) : lb_at cX8_place_ (16 * k + j) b := by
  unfold lb_at
  rw [lb_seX8_place_]
  exact lb_flat 16 lb_sgX8_place_ k j b lb_lnX8_place_ h
set_option maxRecDepth 20000 in
theorem dX8_place__0 : decode cX8_place_ 0 = .ok (.aload_n 0, 1) := dc_42 (lxX8_place_ 0 0 rfl)
set_option maxRecDepth 20000 in
theorem dX8_place__1 : decode cX8_place_ 1 = .ok (.iload_n 1, 1) := dc_27 (lxX8_place_ 0 1 rfl)
set_option maxRecDepth 20000 in
theorem dX8_place__2 : decode cX8_place_ 2 = .ok (.invokestatic 119, 3) := dc_184 0 119 (lxX8_place_ 0 2 rfl) (lxX8_place_ 0 3 rfl) (lxX8_place_ 0 4 rfl)
set_option maxRecDepth 20000 in
theorem dX8_place__5 : decode cX8_place_ 5 = .ok (.ifCond .ne 10, 3) := dc_154 0 10 (lxX8_place_ 0 5 rfl) (lxX8_place_ 0 6 rfl) (lxX8_place_ 0 7 rfl)
set_option maxRecDepth 20000 in
theorem dX8_place__8 : decode cX8_place_ 8 = .ok (.iload_n 2, 1) := dc_28 (lxX8_place_ 0 8 rfl)
set_option maxRecDepth 20000 in
theorem dX8_place__9 : decode cX8_place_ 9 = .ok (.invokestatic 119, 3) := dc_184 0 119 (lxX8_place_ 0 9 rfl) (lxX8_place_ 0 10 rfl) (lxX8_place_ 0 11 rfl)
set_option maxRecDepth 20000 in
theorem dX8_place__12 : decode cX8_place_ 12 = .ok (.ifCond .eq 7, 3) := dc_153 0 7 (lxX8_place_ 0 12 rfl) (lxX8_place_ 0 13 rfl) (lxX8_place_ 0 14 rfl)
set_option maxRecDepth 20000 in
theorem dX8_place__15 : decode cX8_place_ 15 = .ok (.iconst 1, 1) := dc_4 (lxX8_place_ 0 15 rfl)
set_option maxRecDepth 20000 in
theorem dX8_place__16 : decode cX8_place_ 16 = .ok (.goto 4, 3) := dc_167 0 4 (lxX8_place_ 1 0 rfl) (lxX8_place_ 1 1 rfl) (lxX8_place_ 1 2 rfl)
set_option maxRecDepth 20000 in
theorem dX8_place__19 : decode cX8_place_ 19 = .ok (.iconst 0, 1) := dc_3 (lxX8_place_ 1 3 rfl)
set_option maxRecDepth 20000 in
theorem dX8_place__20 : decode cX8_place_ 20 = .ok (.iload_n 3, 1) := dc_29 (lxX8_place_ 1 4 rfl)
set_option maxRecDepth 20000 in
theorem dX8_place__21 : decode cX8_place_ 21 = .ok (.iconst 0, 1) := dc_3 (lxX8_place_ 1 5 rfl)
set_option maxRecDepth 20000 in
theorem dX8_place__22 : decode cX8_place_ 22 = .ok (.bipush 80, 2) := dc_16 80 (lxX8_place_ 1 6 rfl) (lxX8_place_ 1 7 rfl)
set_option maxRecDepth 20000 in
theorem dX8_place__24 : decode cX8_place_ 24 = .ok (.invokestatic 41, 3) := dc_184 0 41 (lxX8_place_ 1 8 rfl) (lxX8_place_ 1 9 rfl) (lxX8_place_ 1 10 rfl)
set_option maxRecDepth 20000 in
theorem dX8_place__27 : decode cX8_place_ 27 = .ok (.invokevirtual 81, 3) := dc_182 0 81 (lxX8_place_ 1 11 rfl) (lxX8_place_ 1 12 rfl) (lxX8_place_ 1 13 rfl)
set_option maxRecDepth 20000 in
theorem dX8_place__30 : decode cX8_place_ 30 = .ok (.ifCond .eq 7, 3) := dc_153 0 7 (lxX8_place_ 1 14 rfl) (lxX8_place_ 1 15 rfl) (lxX8_place_ 2 0 rfl)
set_option maxRecDepth 20000 in
theorem dX8_place__33 : decode cX8_place_ 33 = .ok (.iconst 0, 1) := dc_3 (lxX8_place_ 2 1 rfl)
set_option maxRecDepth 20000 in
theorem dX8_place__34 : decode cX8_place_ 34 = .ok (.goto 17, 3) := dc_167 0 17 (lxX8_place_ 2 2 rfl) (lxX8_place_ 2 3 rfl) (lxX8_place_ 2 4 rfl)
set_option maxRecDepth 20000 in
theorem dX8_place__37 : decode cX8_place_ 37 = .ok (.aload_n 0, 1) := dc_42 (lxX8_place_ 2 5 rfl)
set_option maxRecDepth 20000 in
theorem dX8_place__38 : decode cX8_place_ 38 = .ok (.iload_n 1, 1) := dc_27 (lxX8_place_ 2 6 rfl)
set_option maxRecDepth 20000 in
theorem dX8_place__39 : decode cX8_place_ 39 = .ok (.invokevirtual 122, 3) := dc_182 0 122 (lxX8_place_ 2 7 rfl) (lxX8_place_ 2 8 rfl) (lxX8_place_ 2 9 rfl)
set_option maxRecDepth 20000 in
theorem dX8_place__42 : decode cX8_place_ 42 = .ok (.aload_n 0, 1) := dc_42 (lxX8_place_ 2 10 rfl)
set_option maxRecDepth 20000 in
theorem dX8_place__43 : decode cX8_place_ 43 = .ok (.iload_n 2, 1) := dc_28 (lxX8_place_ 2 11 rfl)
set_option maxRecDepth 20000 in
theorem dX8_place__44 : decode cX8_place_ 44 = .ok (.invokevirtual 122, 3) := dc_182 0 122 (lxX8_place_ 2 12 rfl) (lxX8_place_ 2 13 rfl) (lxX8_place_ 2 14 rfl)
set_option maxRecDepth 20000 in
theorem dX8_place__47 : decode cX8_place_ 47 = .ok (.iload_n 3, 1) := dc_29 (lxX8_place_ 2 15 rfl)
set_option maxRecDepth 20000 in
theorem dX8_place__48 : decode cX8_place_ 48 = .ok (.invokestatic 142, 3) := dc_184 0 142 (lxX8_place_ 3 0 rfl) (lxX8_place_ 3 1 rfl) (lxX8_place_ 3 2 rfl)
set_option maxRecDepth 20000 in
theorem dX8_place__51 : decode cX8_place_ 51 = .ok (.ireturn, 1) := dc_172 (lxX8_place_ 3 3 rfl)
def lb_sgX8_isBorder : List (List UInt8) := [[28, 27, 162, 0, 7, 4, 167, 0, 4, 3, 62, 3, 54, 4, 21, 4], [28, 162, 0, 34, 29, 153, 0, 30, 42, 21, 4, 46, 42, 27, 28, 100], [21, 4, 96, 46, 160, 0, 7, 4, 167, 0, 4, 3, 62, 132, 4, 1], [167, 255, 222, 29, 172]]
set_option maxRecDepth 100000 in
theorem lb_seX8_isBorder : cX8_isBorder.data.toList = lb_sgX8_isBorder.flatten := by decide +kernel
theorem lb_lnX8_isBorder : ∀ s ∈ lb_sgX8_isBorder.dropLast, s.length = 16 := by decide +kernel
theorem lxX8_isBorder (k j : Nat) {b : UInt8} (h : (lb_sgX8_isBorder[k]?).bind (fun s => s[j]?) = some b) : lb_at cX8_isBorder (16 * k + j) b := by
  unfold lb_at
  rw [lb_seX8_isBorder]
  exact lb_flat 16 lb_sgX8_isBorder k j b lb_lnX8_isBorder h
set_option maxRecDepth 20000 in
theorem dX8_isBorder_0 : decode cX8_isBorder 0 = .ok (.iload_n 2, 1) := dc_28 (lxX8_isBorder 0 0 rfl)
set_option maxRecDepth 20000 in
theorem dX8_isBorder_1 : decode cX8_isBorder 1 = .ok (.iload_n 1, 1) := dc_27 (lxX8_isBorder 0 1 rfl)
set_option maxRecDepth 20000 in
theorem dX8_isBorder_2 : decode cX8_isBorder 2 = .ok (.if_icmp .ge 7, 3) := dc_162 0 7 (lxX8_isBorder 0 2 rfl) (lxX8_isBorder 0 3 rfl) (lxX8_isBorder 0 4 rfl)
set_option maxRecDepth 20000 in
theorem dX8_isBorder_5 : decode cX8_isBorder 5 = .ok (.iconst 1, 1) := dc_4 (lxX8_isBorder 0 5 rfl)
set_option maxRecDepth 20000 in
theorem dX8_isBorder_6 : decode cX8_isBorder 6 = .ok (.goto 4, 3) := dc_167 0 4 (lxX8_isBorder 0 6 rfl) (lxX8_isBorder 0 7 rfl) (lxX8_isBorder 0 8 rfl)
set_option maxRecDepth 20000 in
theorem dX8_isBorder_9 : decode cX8_isBorder 9 = .ok (.iconst 0, 1) := dc_3 (lxX8_isBorder 0 9 rfl)
set_option maxRecDepth 20000 in
theorem dX8_isBorder_10 : decode cX8_isBorder 10 = .ok (.istore_n 3, 1) := dc_62 (lxX8_isBorder 0 10 rfl)
set_option maxRecDepth 20000 in
theorem dX8_isBorder_11 : decode cX8_isBorder 11 = .ok (.iconst 0, 1) := dc_3 (lxX8_isBorder 0 11 rfl)
set_option maxRecDepth 20000 in
theorem dX8_isBorder_12 : decode cX8_isBorder 12 = .ok (.istore 4, 2) := dc_54 4 (lxX8_isBorder 0 12 rfl) (lxX8_isBorder 0 13 rfl)
set_option maxRecDepth 20000 in
theorem dX8_isBorder_14 : decode cX8_isBorder 14 = .ok (.iload 4, 2) := dc_21 4 (lxX8_isBorder 0 14 rfl) (lxX8_isBorder 0 15 rfl)
set_option maxRecDepth 20000 in
theorem dX8_isBorder_16 : decode cX8_isBorder 16 = .ok (.iload_n 2, 1) := dc_28 (lxX8_isBorder 1 0 rfl)
set_option maxRecDepth 20000 in
theorem dX8_isBorder_17 : decode cX8_isBorder 17 = .ok (.if_icmp .ge 34, 3) := dc_162 0 34 (lxX8_isBorder 1 1 rfl) (lxX8_isBorder 1 2 rfl) (lxX8_isBorder 1 3 rfl)
set_option maxRecDepth 20000 in
theorem dX8_isBorder_20 : decode cX8_isBorder 20 = .ok (.iload_n 3, 1) := dc_29 (lxX8_isBorder 1 4 rfl)
set_option maxRecDepth 20000 in
theorem dX8_isBorder_21 : decode cX8_isBorder 21 = .ok (.ifCond .eq 30, 3) := dc_153 0 30 (lxX8_isBorder 1 5 rfl) (lxX8_isBorder 1 6 rfl) (lxX8_isBorder 1 7 rfl)
set_option maxRecDepth 20000 in
theorem dX8_isBorder_24 : decode cX8_isBorder 24 = .ok (.aload_n 0, 1) := dc_42 (lxX8_isBorder 1 8 rfl)
set_option maxRecDepth 20000 in
theorem dX8_isBorder_25 : decode cX8_isBorder 25 = .ok (.iload 4, 2) := dc_21 4 (lxX8_isBorder 1 9 rfl) (lxX8_isBorder 1 10 rfl)
set_option maxRecDepth 20000 in
theorem dX8_isBorder_27 : decode cX8_isBorder 27 = .ok (.iaload, 1) := dc_46 (lxX8_isBorder 1 11 rfl)
set_option maxRecDepth 20000 in
theorem dX8_isBorder_28 : decode cX8_isBorder 28 = .ok (.aload_n 0, 1) := dc_42 (lxX8_isBorder 1 12 rfl)
set_option maxRecDepth 20000 in
theorem dX8_isBorder_29 : decode cX8_isBorder 29 = .ok (.iload_n 1, 1) := dc_27 (lxX8_isBorder 1 13 rfl)
set_option maxRecDepth 20000 in
theorem dX8_isBorder_30 : decode cX8_isBorder 30 = .ok (.iload_n 2, 1) := dc_28 (lxX8_isBorder 1 14 rfl)
set_option maxRecDepth 20000 in
theorem dX8_isBorder_31 : decode cX8_isBorder 31 = .ok (.isub, 1) := dc_100 (lxX8_isBorder 1 15 rfl)
set_option maxRecDepth 20000 in
theorem dX8_isBorder_32 : decode cX8_isBorder 32 = .ok (.iload 4, 2) := dc_21 4 (lxX8_isBorder 2 0 rfl) (lxX8_isBorder 2 1 rfl)
set_option maxRecDepth 20000 in
theorem dX8_isBorder_34 : decode cX8_isBorder 34 = .ok (.iadd, 1) := dc_96 (lxX8_isBorder 2 2 rfl)
set_option maxRecDepth 20000 in
theorem dX8_isBorder_35 : decode cX8_isBorder 35 = .ok (.iaload, 1) := dc_46 (lxX8_isBorder 2 3 rfl)
set_option maxRecDepth 20000 in
theorem dX8_isBorder_36 : decode cX8_isBorder 36 = .ok (.if_icmp .ne 7, 3) := dc_160 0 7 (lxX8_isBorder 2 4 rfl) (lxX8_isBorder 2 5 rfl) (lxX8_isBorder 2 6 rfl)
set_option maxRecDepth 20000 in
theorem dX8_isBorder_39 : decode cX8_isBorder 39 = .ok (.iconst 1, 1) := dc_4 (lxX8_isBorder 2 7 rfl)
set_option maxRecDepth 20000 in
theorem dX8_isBorder_40 : decode cX8_isBorder 40 = .ok (.goto 4, 3) := dc_167 0 4 (lxX8_isBorder 2 8 rfl) (lxX8_isBorder 2 9 rfl) (lxX8_isBorder 2 10 rfl)
set_option maxRecDepth 20000 in
theorem dX8_isBorder_43 : decode cX8_isBorder 43 = .ok (.iconst 0, 1) := dc_3 (lxX8_isBorder 2 11 rfl)
set_option maxRecDepth 20000 in
theorem dX8_isBorder_44 : decode cX8_isBorder 44 = .ok (.istore_n 3, 1) := dc_62 (lxX8_isBorder 2 12 rfl)
set_option maxRecDepth 20000 in
theorem dX8_isBorder_45 : decode cX8_isBorder 45 = .ok (.iinc 4 1, 3) := dc_132 4 1 (lxX8_isBorder 2 13 rfl) (lxX8_isBorder 2 14 rfl) (lxX8_isBorder 2 15 rfl)
set_option maxRecDepth 20000 in
theorem dX8_isBorder_48 : decode cX8_isBorder 48 = .ok (.goto (-34), 3) := dc_167 255 222 (lxX8_isBorder 3 0 rfl) (lxX8_isBorder 3 1 rfl) (lxX8_isBorder 3 2 rfl)
set_option maxRecDepth 20000 in
theorem dX8_isBorder_51 : decode cX8_isBorder 51 = .ok (.iload_n 3, 1) := dc_29 (lxX8_isBorder 3 3 rfl)
set_option maxRecDepth 20000 in
theorem dX8_isBorder_52 : decode cX8_isBorder 52 = .ok (.ireturn, 1) := dc_172 (lxX8_isBorder 3 4 rfl)
noncomputable def sgX8_greatest : List (List Cond) := [[.code yX8_greatest cX8_greatest 3 (some .int)], [.methodLink RX8 146 Lib.Math.max.name, .static Lib.Math.max.name, .initialized "java/lang/Math", .code Lib.Math.max.name Lib.Math.max.code 2 (some .int), .methodLink RX8 156 yX8_isBorder, .static yX8_isBorder, .initialized RX8, .code yX8_isBorder cX8_isBorder 5 (some .boolean)]]
theorem seX8_greatest : sgX8_greatest.flatten = wsX8_greatest := by simp only [sgX8_greatest, wsX8_greatest, List.flatten_cons, List.flatten_nil, List.append_assoc, List.append_nil, List.cons_append, List.nil_append]
set_option maxRecDepth 20000 in
theorem ggX8_greatest_X8_isBorder : GoodIn wsX8_greatest wsX8_isBorder := goodIn_s seX8_greatest _ [pq_1_7] (by rfl) (by decide +kernel)
set_option maxRecDepth 20000 in
theorem gX8_greatest_X8_isBorder : GoodIn wsX8_greatest (va_wsS RX8 156 yX8_isBorder wsX8_isBorder) := goodIn_app (goodIn_s seX8_greatest _ [pq_1_4, pq_1_5, pq_1_6] (by rfl) (by decide +kernel)) ggX8_greatest_X8_isBorder
def lb_sgX8_greatest : List (List UInt8) := [[27, 4, 100, 3, 184, 0, 146, 61, 28, 158, 0, 18, 42, 27, 28, 184], [0, 156, 154, 0, 9, 132, 2, 255, 167, 255, 240, 28, 172]]
set_option maxRecDepth 100000 in
theorem lb_seX8_greatest : cX8_greatest.data.toList = lb_sgX8_greatest.flatten := by decide +kernel
theorem lb_lnX8_greatest : ∀ s ∈ lb_sgX8_greatest.dropLast, s.length = 16 := by decide +kernel
theorem lxX8_greatest (k j : Nat) {b : UInt8} (h : (lb_sgX8_greatest[k]?).bind (fun s => s[j]?) = some b) : lb_at cX8_greatest (16 * k + j) b := by
  unfold lb_at
  rw [lb_seX8_greatest]
  exact lb_flat 16 lb_sgX8_greatest k j b lb_lnX8_greatest h
set_option maxRecDepth 20000 in
theorem dX8_greatest_0 : decode cX8_greatest 0 = .ok (.iload_n 1, 1) := dc_27 (lxX8_greatest 0 0 rfl)
set_option maxRecDepth 20000 in
theorem dX8_greatest_1 : decode cX8_greatest 1 = .ok (.iconst 1, 1) := dc_4 (lxX8_greatest 0 1 rfl)
set_option maxRecDepth 20000 in
theorem dX8_greatest_2 : decode cX8_greatest 2 = .ok (.isub, 1) := dc_100 (lxX8_greatest 0 2 rfl)
set_option maxRecDepth 20000 in
theorem dX8_greatest_3 : decode cX8_greatest 3 = .ok (.iconst 0, 1) := dc_3 (lxX8_greatest 0 3 rfl)
set_option maxRecDepth 20000 in
theorem dX8_greatest_4 : decode cX8_greatest 4 = .ok (.invokestatic 146, 3) := dc_184 0 146 (lxX8_greatest 0 4 rfl) (lxX8_greatest 0 5 rfl) (lxX8_greatest 0 6 rfl)
set_option maxRecDepth 20000 in
theorem dX8_greatest_7 : decode cX8_greatest 7 = .ok (.istore_n 2, 1) := dc_61 (lxX8_greatest 0 7 rfl)
set_option maxRecDepth 20000 in
theorem dX8_greatest_8 : decode cX8_greatest 8 = .ok (.iload_n 2, 1) := dc_28 (lxX8_greatest 0 8 rfl)
set_option maxRecDepth 20000 in
theorem dX8_greatest_9 : decode cX8_greatest 9 = .ok (.ifCond .le 18, 3) := dc_158 0 18 (lxX8_greatest 0 9 rfl) (lxX8_greatest 0 10 rfl) (lxX8_greatest 0 11 rfl)
set_option maxRecDepth 20000 in
theorem dX8_greatest_12 : decode cX8_greatest 12 = .ok (.aload_n 0, 1) := dc_42 (lxX8_greatest 0 12 rfl)
set_option maxRecDepth 20000 in
theorem dX8_greatest_13 : decode cX8_greatest 13 = .ok (.iload_n 1, 1) := dc_27 (lxX8_greatest 0 13 rfl)
set_option maxRecDepth 20000 in
theorem dX8_greatest_14 : decode cX8_greatest 14 = .ok (.iload_n 2, 1) := dc_28 (lxX8_greatest 0 14 rfl)
set_option maxRecDepth 20000 in
theorem dX8_greatest_15 : decode cX8_greatest 15 = .ok (.invokestatic 156, 3) := dc_184 0 156 (lxX8_greatest 0 15 rfl) (lxX8_greatest 1 0 rfl) (lxX8_greatest 1 1 rfl)
set_option maxRecDepth 20000 in
theorem dX8_greatest_18 : decode cX8_greatest 18 = .ok (.ifCond .ne 9, 3) := dc_154 0 9 (lxX8_greatest 1 2 rfl) (lxX8_greatest 1 3 rfl) (lxX8_greatest 1 4 rfl)
set_option maxRecDepth 20000 in
theorem dX8_greatest_21 : decode cX8_greatest 21 = .ok (.iinc 2 (-1), 3) := dc_132 2 255 (lxX8_greatest 1 5 rfl) (lxX8_greatest 1 6 rfl) (lxX8_greatest 1 7 rfl)
set_option maxRecDepth 20000 in
theorem dX8_greatest_24 : decode cX8_greatest 24 = .ok (.goto (-16), 3) := dc_167 255 240 (lxX8_greatest 1 8 rfl) (lxX8_greatest 1 9 rfl) (lxX8_greatest 1 10 rfl)
set_option maxRecDepth 20000 in
theorem dX8_greatest_27 : decode cX8_greatest 27 = .ok (.iload_n 2, 1) := dc_28 (lxX8_greatest 1 11 rfl)
set_option maxRecDepth 20000 in
theorem dX8_greatest_28 : decode cX8_greatest 28 = .ok (.ireturn, 1) := dc_172 (lxX8_greatest 1 12 rfl)
noncomputable def sgX8_border : List (List Cond) := [[.code yX8_border cX8_border 2 (some .int)], wsX8_border_r1, wsX8_border_r2, wsX80]
theorem seX8_border : sgX8_border.flatten = wsX8_border := by simp only [sgX8_border, wsX8_border, List.flatten_cons, List.flatten_nil, List.append_assoc, List.append_nil, List.cons_append, List.nil_append]
set_option maxRecDepth 20000 in
theorem ggX8_border_X8_isNoSource : GoodIn wsX8_border wsX8_isNoSource := goodIn_s seX8_border _ [pq_1_3, pq_1_4, pq_1_5, pq_1_2, pq_1_6] (by rfl) (by decide +kernel)
set_option maxRecDepth 20000 in
theorem gX8_border_X8_isNoSource : GoodIn wsX8_border (va_wsS RX8 119 yX8_isNoSource wsX8_isNoSource) := goodIn_app (goodIn_s seX8_border _ [pq_1_0, pq_1_1, pq_1_2] (by rfl) (by decide +kernel)) ggX8_border_X8_isNoSource
set_option maxRecDepth 20000 in
theorem ggX8_border_X8_isThrown : GoodIn wsX8_border wsX8_isThrown := goodIn_s seX8_border _ [pq_1_10, pq_1_11, pq_3_0, pq_3_1, pq_3_2, pq_3_3, pq_3_4, pq_3_5, pq_3_6, pq_3_7, pq_3_8, pq_3_9, pq_3_10] (by rfl) (by decide +kernel)
set_option maxRecDepth 20000 in
theorem gX8_border_X8_isThrown : GoodIn wsX8_border (wsV RX8 81 RX8 yX8_isThrown wsX8_isThrown) := goodIn_app (goodIn_s seX8_border _ [pq_1_7, pq_1_8, pq_1_9, pq_1_2] (by rfl) (by decide +kernel)) ggX8_border_X8_isThrown
set_option maxRecDepth 20000 in
theorem ggX8_border_X8_textOf : GoodIn wsX8_border wsX8_textOf := goodIn_s seX8_border _ [pq_1_15, pq_1_16, pq_1_17, pq_1_18, pq_1_19, pq_1_20, pq_1_21, pq_1_2, pq_1_22, pq_1_23, pq_2_0, pq_2_1, pq_2_2, pq_2_3, pq_3_0, pq_3_1, pq_3_2, pq_3_3, pq_3_4, pq_3_5, pq_3_6, pq_3_7, pq_3_8, pq_3_9, pq_3_10] (by rfl) (by decide +kernel)
set_option maxRecDepth 20000 in
theorem gX8_border_X8_textOf : GoodIn wsX8_border (wsV RX8 122 RX8 yX8_textOf wsX8_textOf) := goodIn_app (goodIn_s seX8_border _ [pq_1_12, pq_1_13, pq_1_14, pq_1_2] (by rfl) (by decide +kernel)) ggX8_border_X8_textOf
set_option maxRecDepth 20000 in
theorem ggX8_border_X8_greatest : GoodIn wsX8_border wsX8_greatest := goodIn_s seX8_border _ [pq_2_6, pq_2_7, pq_2_8, pq_2_9, pq_2_10, pq_2_11, pq_2_12, pq_1_2, pq_2_13] (by rfl) (by decide +kernel)
set_option maxRecDepth 20000 in
theorem gX8_border_X8_greatest : GoodIn wsX8_border (va_wsS RX8 160 yX8_greatest wsX8_greatest) := goodIn_app (goodIn_s seX8_border _ [pq_2_4, pq_2_5, pq_1_2] (by rfl) (by decide +kernel)) ggX8_border_X8_greatest
def lb_sgX8_border : List (List UInt8) := [[42, 27, 184, 0, 119, 3, 182, 0, 81, 153, 0, 7, 3, 167, 0, 17], [42, 27, 182, 0, 122, 42, 27, 182, 0, 122, 190, 184, 0, 160, 172]]
set_option maxRecDepth 100000 in
theorem lb_seX8_border : cX8_border.data.toList = lb_sgX8_border.flatten := by decide +kernel
theorem lb_lnX8_border : ∀ s ∈ lb_sgX8_border.dropLast, s.length = 16 := by decide +kernel
theorem lxX8_border (k j : Nat) {b : UInt8} (h : (lb_sgX8_border[k]?).bind (fun s => s[j]?) = some b) : lb_at cX8_border (16 * k + j) b := by
  unfold lb_at
  rw [lb_seX8_border]
  exact lb_flat 16 lb_sgX8_border k j b lb_lnX8_border h
set_option maxRecDepth 20000 in
theorem dX8_border_0 : decode cX8_border 0 = .ok (.aload_n 0, 1) := dc_42 (lxX8_border 0 0 rfl)
set_option maxRecDepth 20000 in
theorem dX8_border_1 : decode cX8_border 1 = .ok (.iload_n 1, 1) := dc_27 (lxX8_border 0 1 rfl)
set_option maxRecDepth 20000 in
theorem dX8_border_2 : decode cX8_border 2 = .ok (.invokestatic 119, 3) := dc_184 0 119 (lxX8_border 0 2 rfl) (lxX8_border 0 3 rfl) (lxX8_border 0 4 rfl)
set_option maxRecDepth 20000 in
theorem dX8_border_5 : decode cX8_border 5 = .ok (.iconst 0, 1) := dc_3 (lxX8_border 0 5 rfl)
set_option maxRecDepth 20000 in
theorem dX8_border_6 : decode cX8_border 6 = .ok (.invokevirtual 81, 3) := dc_182 0 81 (lxX8_border 0 6 rfl) (lxX8_border 0 7 rfl) (lxX8_border 0 8 rfl)
set_option maxRecDepth 20000 in
theorem dX8_border_9 : decode cX8_border 9 = .ok (.ifCond .eq 7, 3) := dc_153 0 7 (lxX8_border 0 9 rfl) (lxX8_border 0 10 rfl) (lxX8_border 0 11 rfl)
set_option maxRecDepth 20000 in
theorem dX8_border_12 : decode cX8_border 12 = .ok (.iconst 0, 1) := dc_3 (lxX8_border 0 12 rfl)
set_option maxRecDepth 20000 in
theorem dX8_border_13 : decode cX8_border 13 = .ok (.goto 17, 3) := dc_167 0 17 (lxX8_border 0 13 rfl) (lxX8_border 0 14 rfl) (lxX8_border 0 15 rfl)
set_option maxRecDepth 20000 in
theorem dX8_border_16 : decode cX8_border 16 = .ok (.aload_n 0, 1) := dc_42 (lxX8_border 1 0 rfl)
set_option maxRecDepth 20000 in
theorem dX8_border_17 : decode cX8_border 17 = .ok (.iload_n 1, 1) := dc_27 (lxX8_border 1 1 rfl)
set_option maxRecDepth 20000 in
theorem dX8_border_18 : decode cX8_border 18 = .ok (.invokevirtual 122, 3) := dc_182 0 122 (lxX8_border 1 2 rfl) (lxX8_border 1 3 rfl) (lxX8_border 1 4 rfl)
set_option maxRecDepth 20000 in
theorem dX8_border_21 : decode cX8_border 21 = .ok (.aload_n 0, 1) := dc_42 (lxX8_border 1 5 rfl)
set_option maxRecDepth 20000 in
theorem dX8_border_22 : decode cX8_border 22 = .ok (.iload_n 1, 1) := dc_27 (lxX8_border 1 6 rfl)
set_option maxRecDepth 20000 in
theorem dX8_border_23 : decode cX8_border 23 = .ok (.invokevirtual 122, 3) := dc_182 0 122 (lxX8_border 1 7 rfl) (lxX8_border 1 8 rfl) (lxX8_border 1 9 rfl)
set_option maxRecDepth 20000 in
theorem dX8_border_26 : decode cX8_border 26 = .ok (.arraylength, 1) := dc_190 (lxX8_border 1 10 rfl)
set_option maxRecDepth 20000 in
theorem dX8_border_27 : decode cX8_border 27 = .ok (.invokestatic 160, 3) := dc_184 0 160 (lxX8_border 1 11 rfl) (lxX8_border 1 12 rfl) (lxX8_border 1 13 rfl)
set_option maxRecDepth 20000 in
theorem dX8_border_30 : decode cX8_border 30 = .ok (.ireturn, 1) := dc_172 (lxX8_border 1 14 rfl)
noncomputable def sgX8_borders : List (List Cond) := [[.code yX8_borders cX8_borders 5 (some (.object "java/lang/String"))], wsX8_borders_r1, wsX8_borders_r2, wsX8_borders_r3, wsX8_borders_r4, wsX8_borders_r5, wsX8_borders_r6, wsX8_borders_r7, wsX8_borders_r8, wsX8_borders_r9, wsX8_borders_r10, wsX8_borders_r11, wsJ40, wsX80, wsJ00]
theorem seX8_borders : sgX8_borders.flatten = wsX8_borders := by simp only [sgX8_borders, wsX8_borders, List.flatten_cons, List.flatten_nil, List.append_assoc, List.append_nil, List.cons_append, List.nil_append]
set_option maxRecDepth 20000 in
theorem ggX8_borders_X8_isNoSource : GoodIn wsX8_borders wsX8_isNoSource := goodIn_s seX8_borders _ [pq_1_6, pq_1_7, pq_1_8, pq_1_5, pq_1_9] (by rfl) (by decide +kernel)
set_option maxRecDepth 20000 in
theorem gX8_borders_X8_isNoSource : GoodIn wsX8_borders (va_wsS RX8 119 yX8_isNoSource wsX8_isNoSource) := goodIn_app (goodIn_s seX8_borders _ [pq_1_3, pq_1_4, pq_1_5] (by rfl) (by decide +kernel)) ggX8_borders_X8_isNoSource
set_option maxRecDepth 20000 in
theorem ggX8_borders_X8_isThrown : GoodIn wsX8_borders wsX8_isThrown := goodIn_s seX8_borders _ [pq_1_13, pq_1_14, pq_13_0, pq_13_1, pq_13_2, pq_13_3, pq_13_4, pq_13_5, pq_13_6, pq_13_7, pq_13_8, pq_13_9, pq_13_10] (by rfl) (by decide +kernel)
set_option maxRecDepth 20000 in
theorem gX8_borders_X8_isThrown : GoodIn wsX8_borders (wsV RX8 81 RX8 yX8_isThrown wsX8_isThrown) := goodIn_app (goodIn_s seX8_borders _ [pq_1_10, pq_1_11, pq_1_12, pq_1_5] (by rfl) (by decide +kernel)) ggX8_borders_X8_isThrown
set_option maxRecDepth 20000 in
theorem ggX8_borders_X8_textOf : GoodIn wsX8_borders wsX8_textOf := goodIn_s seX8_borders _ [pq_1_18, pq_1_19, pq_1_20, pq_1_21, pq_1_22, pq_1_23, pq_2_0, pq_1_5, pq_2_1, pq_2_2, pq_2_3, pq_2_4, pq_2_5, pq_2_6, pq_13_0, pq_13_1, pq_13_2, pq_13_3, pq_13_4, pq_13_5, pq_13_6, pq_13_7, pq_13_8, pq_13_9, pq_13_10] (by rfl) (by decide +kernel)
set_option maxRecDepth 20000 in
theorem gX8_borders_X8_textOf : GoodIn wsX8_borders (wsV RX8 122 RX8 yX8_textOf wsX8_textOf) := goodIn_app (goodIn_s seX8_borders _ [pq_1_15, pq_1_16, pq_1_17, pq_1_5] (by rfl) (by decide +kernel)) ggX8_borders_X8_textOf
set_option maxRecDepth 20000 in
theorem ggX8_borders_J4_init_da8c8 : GoodIn wsX8_borders wsJ4_init_da8c8 := goodIn_s seX8_borders _ [pq_2_9, pq_2_10, pq_2_11, pq_2_12, pq_2_13, pq_2_14, pq_2_15, pq_2_16, pq_2_17, pq_2_18, pq_2_19, pq_2_20, pq_2_21, pq_2_22, pq_2_23, pq_3_0, pq_3_1, pq_3_2, pq_3_3, pq_3_4, pq_12_0, pq_12_1, pq_12_2, pq_12_3] (by rfl) (by decide +kernel)
set_option maxRecDepth 20000 in
theorem gX8_borders_J4_init_da8c8 : GoodIn wsX8_borders (wsJ4_init_da8c8) := ggX8_borders_J4_init_da8c8
set_option maxRecDepth 20000 in
theorem ggX8_borders_X8_greatest : GoodIn wsX8_borders wsX8_greatest := goodIn_s seX8_borders _ [pq_3_7, pq_3_8, pq_3_9, pq_3_10, pq_3_11, pq_3_12, pq_3_13, pq_1_5, pq_3_14] (by rfl) (by decide +kernel)
set_option maxRecDepth 20000 in
theorem gX8_borders_X8_greatest : GoodIn wsX8_borders (va_wsS RX8 160 yX8_greatest wsX8_greatest) := goodIn_app (goodIn_s seX8_borders _ [pq_3_5, pq_3_6, pq_1_5] (by rfl) (by decide +kernel)) ggX8_borders_X8_greatest
set_option maxRecDepth 20000 in
theorem ggX8_borders_J4_append_bf812 : GoodIn wsX8_borders wsJ4_append_bf812 := goodIn_s seX8_borders _ [pq_3_18, pq_3_19, pq_3_20, pq_3_21, pq_3_22, pq_2_12, pq_3_23, pq_4_0, pq_2_19, pq_4_1, pq_4_2, pq_4_3, pq_4_4, pq_4_5, pq_4_6, pq_4_7, pq_4_8, pq_4_9, pq_2_20, pq_4_10, pq_4_11, pq_4_12, pq_4_13, pq_4_14, pq_4_15, pq_4_16, pq_4_17, pq_4_18, pq_4_19, pq_4_20, pq_3_9, pq_3_10, pq_3_11, pq_4_21, pq_4_22, pq_4_23, pq_5_0, pq_5_1, pq_5_2, pq_5_3, pq_5_4, pq_5_5, pq_5_6, pq_5_7, pq_5_8, pq_5_9, pq_5_10, pq_2_18, pq_5_11, pq_5_12, pq_5_13, pq_5_14, pq_5_15, pq_5_16, pq_5_17, pq_5_18, pq_5_19, pq_5_20, pq_5_21, pq_5_22, pq_2_17, pq_5_23, pq_6_0, pq_6_1, pq_6_2, pq_6_3, pq_6_4, pq_6_5, pq_2_23, pq_6_6, pq_6_7, pq_6_8, pq_6_9, pq_6_10, pq_6_11, pq_6_12, pq_6_13, pq_6_14, pq_6_15, pq_6_16, pq_6_17, pq_6_18, pq_6_19, pq_6_20, pq_6_21, pq_6_22, pq_6_23, pq_7_0, pq_7_1, pq_7_2, pq_7_3, pq_7_4, pq_7_5, pq_7_6, pq_7_7, pq_7_8, pq_12_0, pq_12_1, pq_12_2, pq_12_3] (by rfl) (by decide +kernel)
set_option maxRecDepth 20000 in
theorem gX8_borders_J4_append_bf812 : GoodIn wsX8_borders (wsV RX8 164 RJ4 yJ4_append_bf812 wsJ4_append_bf812) := goodIn_app (goodIn_s seX8_borders _ [pq_3_15, pq_3_16, pq_3_17, pq_1_2] (by rfl) (by decide +kernel)) ggX8_borders_J4_append_bf812
set_option maxRecDepth 20000 in
theorem ggX8_borders_J4_append_cf468 : GoodIn wsX8_borders wsJ4_append_cf468 := goodIn_s seX8_borders _ [pq_7_12, pq_7_13, pq_7_14, pq_3_21, pq_7_15, pq_2_12, pq_7_16, pq_4_0, pq_2_19, pq_4_5, pq_4_6, pq_4_7, pq_4_8, pq_4_9, pq_2_20, pq_4_10, pq_4_11, pq_4_12, pq_4_13, pq_4_14, pq_4_15, pq_4_16, pq_4_17, pq_4_18, pq_4_19, pq_4_20, pq_3_9, pq_3_10, pq_3_11, pq_4_21, pq_4_22, pq_4_23, pq_5_0, pq_5_1, pq_5_2, pq_5_3, pq_5_4, pq_5_5, pq_5_6, pq_5_7, pq_5_8, pq_5_9, pq_5_10, pq_2_18, pq_5_11, pq_5_12, pq_5_13, pq_5_14, pq_5_15, pq_5_16, pq_5_17, pq_5_18, pq_5_19, pq_5_20, pq_5_21, pq_5_22, pq_2_17, pq_7_17, pq_7_18, pq_7_19, pq_7_20, pq_7_21, pq_7_22, pq_7_23, pq_8_0, pq_8_1, pq_2_21, pq_2_22, pq_2_23, pq_3_0, pq_3_1, pq_3_2, pq_3_3, pq_3_4, pq_8_2, pq_8_3, pq_8_4, pq_8_5, pq_8_6, pq_8_7, pq_8_8, pq_8_9, pq_8_10, pq_6_11, pq_6_12, pq_6_13, pq_8_11, pq_8_12, pq_6_16, pq_8_13, pq_6_18, pq_8_14, pq_8_15, pq_6_21, pq_8_16, pq_7_4, pq_7_5, pq_7_6, pq_6_7, pq_7_7, pq_7_8, pq_8_17, pq_8_18, pq_8_19, pq_8_20, pq_8_21, pq_8_22, pq_8_23, pq_9_0, pq_9_1, pq_9_2, pq_9_3, pq_9_4, pq_12_0, pq_12_1, pq_12_2, pq_12_3] (by rfl) (by decide +kernel)
set_option maxRecDepth 20000 in
theorem gX8_borders_J4_append_cf468 : GoodIn wsX8_borders (wsV RX8 69 RJ4 yJ4_append_cf468 wsJ4_append_cf468) := goodIn_app (goodIn_s seX8_borders _ [pq_7_9, pq_7_10, pq_7_11, pq_1_2] (by rfl) (by decide +kernel)) ggX8_borders_J4_append_cf468
set_option maxRecDepth 20000 in
theorem ggX8_borders_J4_toString_0e30d : GoodIn wsX8_borders wsJ4_toString_0e30d := goodIn_s seX8_borders _ [pq_9_8, pq_9_9, pq_9_10, pq_6_16, pq_9_11, pq_9_12, pq_9_13, pq_9_14, pq_9_15, pq_9_16, pq_9_17, pq_2_15, pq_2_16, pq_9_18, pq_9_19, pq_9_20, pq_9_21, pq_9_22, pq_9_23, pq_10_0, pq_10_1, pq_2_12, pq_10_2, pq_2_19, pq_10_3, pq_10_4, pq_10_5, pq_10_6, pq_10_7, pq_1_2, pq_10_8, pq_10_9, pq_3_21, pq_10_10, pq_10_11, pq_4_0, pq_10_12, pq_5_19, pq_5_20, pq_5_21, pq_5_22, pq_2_17, pq_2_20, pq_10_13, pq_10_14, pq_5_3, pq_10_15, pq_5_5, pq_5_6, pq_5_7, pq_5_8, pq_5_9, pq_5_10, pq_10_16, pq_10_17, pq_10_18, pq_2_18, pq_5_11, pq_5_12, pq_3_10, pq_5_13, pq_5_14, pq_5_15, pq_5_16, pq_5_17, pq_10_19, pq_10_20, pq_10_21, pq_10_22, pq_1_1, pq_10_23, pq_11_0, pq_2_23, pq_11_1, pq_11_2, pq_11_3, pq_11_4, pq_8_8, pq_8_9, pq_8_10, pq_6_11, pq_6_12, pq_6_13, pq_8_11, pq_8_12, pq_8_13, pq_6_18, pq_8_14, pq_8_15, pq_6_21, pq_8_16, pq_11_5, pq_11_6, pq_11_7, pq_6_7, pq_7_7, pq_7_8, pq_3_1, pq_3_2, pq_3_3, pq_3_4, pq_11_8, pq_11_9, pq_11_10, pq_11_11, pq_14_0, pq_14_1, pq_14_2, pq_14_3, pq_12_0, pq_12_1, pq_12_2, pq_12_3] (by rfl) (by decide +kernel)
set_option maxRecDepth 20000 in
theorem gX8_borders_J4_toString_0e30d : GoodIn wsX8_borders (wsV RX8 73 RJ4 yJ4_toString_0e30d wsJ4_toString_0e30d) := goodIn_app (goodIn_s seX8_borders _ [pq_9_5, pq_9_6, pq_9_7, pq_1_2] (by rfl) (by decide +kernel)) ggX8_borders_J4_toString_0e30d
def lb_sgX8_borders : List (List UInt8) := [[42, 27, 184, 0, 119, 3, 182, 0, 81, 153, 0, 6, 18, 109, 176, 42], [27, 182, 0, 122, 77, 187, 0, 66, 89, 183, 0, 68, 78, 4, 54, 4], [21, 4, 44, 190, 163, 0, 25, 45, 44, 21, 4, 184, 0, 160, 182, 0], [164, 16, 32, 182, 0, 69, 87, 132, 4, 1, 167, 255, 230, 45, 182, 0], [73, 176]]
set_option maxRecDepth 100000 in
theorem lb_seX8_borders : cX8_borders.data.toList = lb_sgX8_borders.flatten := by decide +kernel
theorem lb_lnX8_borders : ∀ s ∈ lb_sgX8_borders.dropLast, s.length = 16 := by decide +kernel
theorem lxX8_borders (k j : Nat) {b : UInt8} (h : (lb_sgX8_borders[k]?).bind (fun s => s[j]?) = some b) : lb_at cX8_borders (16 * k + j) b := by
  unfold lb_at
  rw [lb_seX8_borders]
  exact lb_flat 16 lb_sgX8_borders k j b lb_lnX8_borders h
set_option maxRecDepth 20000 in
theorem dX8_borders_0 : decode cX8_borders 0 = .ok (.aload_n 0, 1) := dc_42 (lxX8_borders 0 0 rfl)
set_option maxRecDepth 20000 in
theorem dX8_borders_1 : decode cX8_borders 1 = .ok (.iload_n 1, 1) := dc_27 (lxX8_borders 0 1 rfl)
set_option maxRecDepth 20000 in
theorem dX8_borders_2 : decode cX8_borders 2 = .ok (.invokestatic 119, 3) := dc_184 0 119 (lxX8_borders 0 2 rfl) (lxX8_borders 0 3 rfl) (lxX8_borders 0 4 rfl)
set_option maxRecDepth 20000 in
theorem dX8_borders_5 : decode cX8_borders 5 = .ok (.iconst 0, 1) := dc_3 (lxX8_borders 0 5 rfl)
set_option maxRecDepth 20000 in
theorem dX8_borders_6 : decode cX8_borders 6 = .ok (.invokevirtual 81, 3) := dc_182 0 81 (lxX8_borders 0 6 rfl) (lxX8_borders 0 7 rfl) (lxX8_borders 0 8 rfl)
set_option maxRecDepth 20000 in
theorem dX8_borders_9 : decode cX8_borders 9 = .ok (.ifCond .eq 6, 3) := dc_153 0 6 (lxX8_borders 0 9 rfl) (lxX8_borders 0 10 rfl) (lxX8_borders 0 11 rfl)
set_option maxRecDepth 20000 in
theorem dX8_borders_12 : decode cX8_borders 12 = .ok (.ldc 109, 2) := dc_18 109 (lxX8_borders 0 12 rfl) (lxX8_borders 0 13 rfl)
set_option maxRecDepth 20000 in
theorem dX8_borders_14 : decode cX8_borders 14 = .ok (.areturn, 1) := dc_176 (lxX8_borders 0 14 rfl)
set_option maxRecDepth 20000 in
theorem dX8_borders_15 : decode cX8_borders 15 = .ok (.aload_n 0, 1) := dc_42 (lxX8_borders 0 15 rfl)
set_option maxRecDepth 20000 in
theorem dX8_borders_16 : decode cX8_borders 16 = .ok (.iload_n 1, 1) := dc_27 (lxX8_borders 1 0 rfl)
set_option maxRecDepth 20000 in
theorem dX8_borders_17 : decode cX8_borders 17 = .ok (.invokevirtual 122, 3) := dc_182 0 122 (lxX8_borders 1 1 rfl) (lxX8_borders 1 2 rfl) (lxX8_borders 1 3 rfl)
set_option maxRecDepth 20000 in
theorem dX8_borders_20 : decode cX8_borders 20 = .ok (.astore_n 2, 1) := dc_77 (lxX8_borders 1 4 rfl)
set_option maxRecDepth 20000 in
theorem dX8_borders_21 : decode cX8_borders 21 = .ok (.new 66, 3) := dc_187 0 66 (lxX8_borders 1 5 rfl) (lxX8_borders 1 6 rfl) (lxX8_borders 1 7 rfl)
set_option maxRecDepth 20000 in
theorem dX8_borders_24 : decode cX8_borders 24 = .ok (.dup, 1) := dc_89 (lxX8_borders 1 8 rfl)
set_option maxRecDepth 20000 in
theorem dX8_borders_25 : decode cX8_borders 25 = .ok (.invokespecial 68, 3) := dc_183 0 68 (lxX8_borders 1 9 rfl) (lxX8_borders 1 10 rfl) (lxX8_borders 1 11 rfl)
set_option maxRecDepth 20000 in
theorem dX8_borders_28 : decode cX8_borders 28 = .ok (.astore_n 3, 1) := dc_78 (lxX8_borders 1 12 rfl)
set_option maxRecDepth 20000 in
theorem dX8_borders_29 : decode cX8_borders 29 = .ok (.iconst 1, 1) := dc_4 (lxX8_borders 1 13 rfl)
set_option maxRecDepth 20000 in
theorem dX8_borders_30 : decode cX8_borders 30 = .ok (.istore 4, 2) := dc_54 4 (lxX8_borders 1 14 rfl) (lxX8_borders 1 15 rfl)
set_option maxRecDepth 20000 in
theorem dX8_borders_32 : decode cX8_borders 32 = .ok (.iload 4, 2) := dc_21 4 (lxX8_borders 2 0 rfl) (lxX8_borders 2 1 rfl)
set_option maxRecDepth 20000 in
theorem dX8_borders_34 : decode cX8_borders 34 = .ok (.aload_n 2, 1) := dc_44 (lxX8_borders 2 2 rfl)
set_option maxRecDepth 20000 in
theorem dX8_borders_35 : decode cX8_borders 35 = .ok (.arraylength, 1) := dc_190 (lxX8_borders 2 3 rfl)
set_option maxRecDepth 20000 in
theorem dX8_borders_36 : decode cX8_borders 36 = .ok (.if_icmp .gt 25, 3) := dc_163 0 25 (lxX8_borders 2 4 rfl) (lxX8_borders 2 5 rfl) (lxX8_borders 2 6 rfl)
set_option maxRecDepth 20000 in
theorem dX8_borders_39 : decode cX8_borders 39 = .ok (.aload_n 3, 1) := dc_45 (lxX8_borders 2 7 rfl)
set_option maxRecDepth 20000 in
theorem dX8_borders_40 : decode cX8_borders 40 = .ok (.aload_n 2, 1) := dc_44 (lxX8_borders 2 8 rfl)
set_option maxRecDepth 20000 in
theorem dX8_borders_41 : decode cX8_borders 41 = .ok (.iload 4, 2) := dc_21 4 (lxX8_borders 2 9 rfl) (lxX8_borders 2 10 rfl)
set_option maxRecDepth 20000 in
theorem dX8_borders_43 : decode cX8_borders 43 = .ok (.invokestatic 160, 3) := dc_184 0 160 (lxX8_borders 2 11 rfl) (lxX8_borders 2 12 rfl) (lxX8_borders 2 13 rfl)
set_option maxRecDepth 20000 in
theorem dX8_borders_46 : decode cX8_borders 46 = .ok (.invokevirtual 164, 3) := dc_182 0 164 (lxX8_borders 2 14 rfl) (lxX8_borders 2 15 rfl) (lxX8_borders 3 0 rfl)
set_option maxRecDepth 20000 in
theorem dX8_borders_49 : decode cX8_borders 49 = .ok (.bipush 32, 2) := dc_16 32 (lxX8_borders 3 1 rfl) (lxX8_borders 3 2 rfl)
set_option maxRecDepth 20000 in
theorem dX8_borders_51 : decode cX8_borders 51 = .ok (.invokevirtual 69, 3) := dc_182 0 69 (lxX8_borders 3 3 rfl) (lxX8_borders 3 4 rfl) (lxX8_borders 3 5 rfl)
set_option maxRecDepth 20000 in
theorem dX8_borders_54 : decode cX8_borders 54 = .ok (.pop, 1) := dc_87 (lxX8_borders 3 6 rfl)
set_option maxRecDepth 20000 in
theorem dX8_borders_55 : decode cX8_borders 55 = .ok (.iinc 4 1, 3) := dc_132 4 1 (lxX8_borders 3 7 rfl) (lxX8_borders 3 8 rfl) (lxX8_borders 3 9 rfl)
set_option maxRecDepth 20000 in
theorem dX8_borders_58 : decode cX8_borders 58 = .ok (.goto (-26), 3) := dc_167 255 230 (lxX8_borders 3 10 rfl) (lxX8_borders 3 11 rfl) (lxX8_borders 3 12 rfl)
set_option maxRecDepth 20000 in
theorem dX8_borders_61 : decode cX8_borders 61 = .ok (.aload_n 3, 1) := dc_45 (lxX8_borders 3 13 rfl)
set_option maxRecDepth 20000 in
theorem dX8_borders_62 : decode cX8_borders 62 = .ok (.invokevirtual 73, 3) := dc_182 0 73 (lxX8_borders 3 14 rfl) (lxX8_borders 3 15 rfl) (lxX8_borders 4 0 rfl)
set_option maxRecDepth 20000 in
theorem dX8_borders_65 : decode cX8_borders 65 = .ok (.areturn, 1) := dc_176 (lxX8_borders 4 1 rfl)
noncomputable def sgX8_chain : List (List Cond) := [[.code yX8_chain cX8_chain 5 (some (.object "java/lang/String"))], wsX8_chain_r1, wsX8_chain_r2, wsX8_chain_r3, wsX8_chain_r4, wsX8_chain_r5, wsX8_chain_r6, wsX8_chain_r7, wsX8_chain_r8, wsX8_chain_r9, wsX8_chain_r10, wsX8_chain_r11, wsJ40, wsX80, wsJ00]
theorem seX8_chain : sgX8_chain.flatten = wsX8_chain := by simp only [sgX8_chain, wsX8_chain, List.flatten_cons, List.flatten_nil, List.append_assoc, List.append_nil, List.cons_append, List.nil_append]
set_option maxRecDepth 20000 in
theorem ggX8_chain_X8_isNoSource : GoodIn wsX8_chain wsX8_isNoSource := goodIn_s seX8_chain _ [pq_1_6, pq_1_7, pq_1_8, pq_1_5, pq_1_9] (by rfl) (by decide +kernel)
set_option maxRecDepth 20000 in
theorem gX8_chain_X8_isNoSource : GoodIn wsX8_chain (va_wsS RX8 119 yX8_isNoSource wsX8_isNoSource) := goodIn_app (goodIn_s seX8_chain _ [pq_1_3, pq_1_4, pq_1_5] (by rfl) (by decide +kernel)) ggX8_chain_X8_isNoSource
set_option maxRecDepth 20000 in
theorem ggX8_chain_X8_isThrown : GoodIn wsX8_chain wsX8_isThrown := goodIn_s seX8_chain _ [pq_1_13, pq_1_14, pq_13_0, pq_13_1, pq_13_2, pq_13_3, pq_13_4, pq_13_5, pq_13_6, pq_13_7, pq_13_8, pq_13_9, pq_13_10] (by rfl) (by decide +kernel)
set_option maxRecDepth 20000 in
theorem gX8_chain_X8_isThrown : GoodIn wsX8_chain (wsV RX8 81 RX8 yX8_isThrown wsX8_isThrown) := goodIn_app (goodIn_s seX8_chain _ [pq_1_10, pq_1_11, pq_1_12, pq_1_5] (by rfl) (by decide +kernel)) ggX8_chain_X8_isThrown
set_option maxRecDepth 20000 in
theorem ggX8_chain_X8_textOf : GoodIn wsX8_chain wsX8_textOf := goodIn_s seX8_chain _ [pq_1_18, pq_1_19, pq_1_20, pq_1_21, pq_1_22, pq_1_23, pq_2_0, pq_1_5, pq_2_1, pq_2_2, pq_2_3, pq_2_4, pq_2_5, pq_2_6, pq_13_0, pq_13_1, pq_13_2, pq_13_3, pq_13_4, pq_13_5, pq_13_6, pq_13_7, pq_13_8, pq_13_9, pq_13_10] (by rfl) (by decide +kernel)
set_option maxRecDepth 20000 in
theorem gX8_chain_X8_textOf : GoodIn wsX8_chain (wsV RX8 122 RX8 yX8_textOf wsX8_textOf) := goodIn_app (goodIn_s seX8_chain _ [pq_1_15, pq_1_16, pq_1_17, pq_1_5] (by rfl) (by decide +kernel)) ggX8_chain_X8_textOf
set_option maxRecDepth 20000 in
theorem ggX8_chain_J4_init_da8c8 : GoodIn wsX8_chain wsJ4_init_da8c8 := goodIn_s seX8_chain _ [pq_2_9, pq_2_10, pq_2_11, pq_2_12, pq_2_13, pq_2_14, pq_2_15, pq_2_16, pq_2_17, pq_2_18, pq_2_19, pq_2_20, pq_2_21, pq_2_22, pq_2_23, pq_3_0, pq_3_1, pq_3_2, pq_3_3, pq_3_4, pq_12_0, pq_12_1, pq_12_2, pq_12_3] (by rfl) (by decide +kernel)
set_option maxRecDepth 20000 in
theorem gX8_chain_J4_init_da8c8 : GoodIn wsX8_chain (wsJ4_init_da8c8) := ggX8_chain_J4_init_da8c8
set_option maxRecDepth 20000 in
theorem ggX8_chain_X8_isBorder : GoodIn wsX8_chain wsX8_isBorder := goodIn_s seX8_chain _ [pq_3_7] (by rfl) (by decide +kernel)
set_option maxRecDepth 20000 in
theorem gX8_chain_X8_isBorder : GoodIn wsX8_chain (va_wsS RX8 156 yX8_isBorder wsX8_isBorder) := goodIn_app (goodIn_s seX8_chain _ [pq_3_5, pq_3_6, pq_1_5] (by rfl) (by decide +kernel)) ggX8_chain_X8_isBorder
set_option maxRecDepth 20000 in
theorem ggX8_chain_J4_append_bf812 : GoodIn wsX8_chain wsJ4_append_bf812 := goodIn_s seX8_chain _ [pq_3_11, pq_3_12, pq_3_13, pq_3_14, pq_3_15, pq_2_12, pq_3_16, pq_3_17, pq_2_19, pq_3_18, pq_3_19, pq_3_20, pq_3_21, pq_3_22, pq_3_23, pq_4_0, pq_4_1, pq_4_2, pq_2_20, pq_4_3, pq_4_4, pq_4_5, pq_4_6, pq_4_7, pq_4_8, pq_4_9, pq_4_10, pq_4_11, pq_4_12, pq_4_13, pq_4_14, pq_4_15, pq_4_16, pq_4_17, pq_4_18, pq_4_19, pq_4_20, pq_4_21, pq_4_22, pq_4_23, pq_5_0, pq_5_1, pq_5_2, pq_5_3, pq_5_4, pq_5_5, pq_5_6, pq_2_18, pq_5_7, pq_5_8, pq_5_9, pq_5_10, pq_5_11, pq_5_12, pq_5_13, pq_5_14, pq_5_15, pq_5_16, pq_5_17, pq_5_18, pq_2_17, pq_5_19, pq_5_20, pq_5_21, pq_5_22, pq_5_23, pq_6_0, pq_6_1, pq_2_23, pq_6_2, pq_6_3, pq_6_4, pq_6_5, pq_6_6, pq_6_7, pq_6_8, pq_6_9, pq_6_10, pq_6_11, pq_6_12, pq_6_13, pq_6_14, pq_6_15, pq_6_16, pq_6_17, pq_6_18, pq_6_19, pq_6_20, pq_6_21, pq_6_22, pq_6_23, pq_7_0, pq_7_1, pq_7_2, pq_7_3, pq_7_4, pq_12_0, pq_12_1, pq_12_2, pq_12_3] (by rfl) (by decide +kernel)
set_option maxRecDepth 20000 in
theorem gX8_chain_J4_append_bf812 : GoodIn wsX8_chain (wsV RX8 164 RJ4 yJ4_append_bf812 wsJ4_append_bf812) := goodIn_app (goodIn_s seX8_chain _ [pq_3_8, pq_3_9, pq_3_10, pq_1_2] (by rfl) (by decide +kernel)) ggX8_chain_J4_append_bf812
set_option maxRecDepth 20000 in
theorem ggX8_chain_J4_append_cf468 : GoodIn wsX8_chain wsJ4_append_cf468 := goodIn_s seX8_chain _ [pq_7_8, pq_7_9, pq_7_10, pq_3_14, pq_7_11, pq_2_12, pq_7_12, pq_3_17, pq_2_19, pq_3_22, pq_3_23, pq_4_0, pq_4_1, pq_4_2, pq_2_20, pq_4_3, pq_4_4, pq_4_5, pq_4_6, pq_4_7, pq_4_8, pq_4_9, pq_4_10, pq_4_11, pq_4_12, pq_4_13, pq_4_14, pq_4_15, pq_4_16, pq_4_17, pq_4_18, pq_4_19, pq_4_20, pq_4_21, pq_4_22, pq_4_23, pq_5_0, pq_5_1, pq_5_2, pq_5_3, pq_5_4, pq_5_5, pq_5_6, pq_2_18, pq_5_7, pq_5_8, pq_5_9, pq_5_10, pq_5_11, pq_5_12, pq_5_13, pq_5_14, pq_5_15, pq_5_16, pq_5_17, pq_5_18, pq_2_17, pq_7_13, pq_7_14, pq_7_15, pq_7_16, pq_7_17, pq_7_18, pq_7_19, pq_7_20, pq_7_21, pq_2_21, pq_2_22, pq_2_23, pq_3_0, pq_3_1, pq_3_2, pq_3_3, pq_3_4, pq_7_22, pq_7_23, pq_8_0, pq_8_1, pq_8_2, pq_8_3, pq_8_4, pq_8_5, pq_8_6, pq_6_7, pq_6_8, pq_6_9, pq_8_7, pq_8_8, pq_6_12, pq_8_9, pq_6_14, pq_8_10, pq_8_11, pq_6_17, pq_8_12, pq_7_0, pq_7_1, pq_7_2, pq_6_3, pq_7_3, pq_7_4, pq_8_13, pq_8_14, pq_8_15, pq_8_16, pq_8_17, pq_8_18, pq_8_19, pq_8_20, pq_8_21, pq_8_22, pq_8_23, pq_9_0, pq_12_0, pq_12_1, pq_12_2, pq_12_3] (by rfl) (by decide +kernel)
set_option maxRecDepth 20000 in
theorem gX8_chain_J4_append_cf468 : GoodIn wsX8_chain (wsV RX8 69 RJ4 yJ4_append_cf468 wsJ4_append_cf468) := goodIn_app (goodIn_s seX8_chain _ [pq_7_5, pq_7_6, pq_7_7, pq_1_2] (by rfl) (by decide +kernel)) ggX8_chain_J4_append_cf468
set_option maxRecDepth 20000 in
theorem ggX8_chain_J4_toString_0e30d : GoodIn wsX8_chain wsJ4_toString_0e30d := goodIn_s seX8_chain _ [pq_9_4, pq_9_5, pq_9_6, pq_6_12, pq_9_7, pq_9_8, pq_9_9, pq_9_10, pq_9_11, pq_9_12, pq_9_13, pq_2_15, pq_2_16, pq_9_14, pq_9_15, pq_9_16, pq_9_17, pq_9_18, pq_9_19, pq_9_20, pq_9_21, pq_2_12, pq_9_22, pq_2_19, pq_9_23, pq_10_0, pq_10_1, pq_10_2, pq_10_3, pq_1_2, pq_10_4, pq_10_5, pq_3_14, pq_10_6, pq_10_7, pq_3_17, pq_10_8, pq_5_15, pq_5_16, pq_5_17, pq_5_18, pq_2_17, pq_2_20, pq_10_9, pq_10_10, pq_4_23, pq_10_11, pq_5_1, pq_5_2, pq_5_3, pq_5_4, pq_5_5, pq_5_6, pq_10_12, pq_10_13, pq_10_14, pq_2_18, pq_5_7, pq_5_8, pq_4_15, pq_5_9, pq_5_10, pq_5_11, pq_5_12, pq_5_13, pq_10_15, pq_10_16, pq_10_17, pq_10_18, pq_1_1, pq_10_19, pq_10_20, pq_2_23, pq_10_21, pq_10_22, pq_10_23, pq_11_0, pq_8_4, pq_8_5, pq_8_6, pq_6_7, pq_6_8, pq_6_9, pq_8_7, pq_8_8, pq_8_9, pq_6_14, pq_8_10, pq_8_11, pq_6_17, pq_8_12, pq_11_1, pq_11_2, pq_11_3, pq_6_3, pq_7_3, pq_7_4, pq_3_1, pq_3_2, pq_3_3, pq_3_4, pq_11_4, pq_11_5, pq_11_6, pq_11_7, pq_14_0, pq_14_1, pq_14_2, pq_14_3, pq_12_0, pq_12_1, pq_12_2, pq_12_3] (by rfl) (by decide +kernel)
set_option maxRecDepth 20000 in
theorem gX8_chain_J4_toString_0e30d : GoodIn wsX8_chain (wsV RX8 73 RJ4 yJ4_toString_0e30d wsJ4_toString_0e30d) := goodIn_app (goodIn_s seX8_chain _ [pq_9_1, pq_9_2, pq_9_3, pq_1_2] (by rfl) (by decide +kernel)) ggX8_chain_J4_toString_0e30d
def lb_sgX8_chain : List (List UInt8) := [[42, 27, 184, 0, 119, 3, 182, 0, 81, 153, 0, 6, 18, 109, 176, 42], [27, 182, 0, 122, 77, 187, 0, 66, 89, 183, 0, 68, 78, 44, 190, 4], [100, 54, 4, 21, 4, 155, 0, 32, 44, 44, 190, 21, 4, 184, 0, 156], [153, 0, 15, 45, 21, 4, 182, 0, 164, 16, 32, 182, 0, 69, 87, 132], [4, 255, 167, 255, 225, 45, 182, 0, 73, 176]]
set_option maxRecDepth 100000 in
theorem lb_seX8_chain : cX8_chain.data.toList = lb_sgX8_chain.flatten := by decide +kernel
theorem lb_lnX8_chain : ∀ s ∈ lb_sgX8_chain.dropLast, s.length = 16 := by decide +kernel
theorem lxX8_chain (k j : Nat) {b : UInt8} (h : (lb_sgX8_chain[k]?).bind (fun s => s[j]?) = some b) : lb_at cX8_chain (16 * k + j) b := by
  unfold lb_at
  rw [lb_seX8_chain]
  exact lb_flat 16 lb_sgX8_chain k j b lb_lnX8_chain h
set_option maxRecDepth 20000 in
theorem dX8_chain_0 : decode cX8_chain 0 = .ok (.aload_n 0, 1) := dc_42 (lxX8_chain 0 0 rfl)
set_option maxRecDepth 20000 in
theorem dX8_chain_1 : decode cX8_chain 1 = .ok (.iload_n 1, 1) := dc_27 (lxX8_chain 0 1 rfl)
set_option maxRecDepth 20000 in
theorem dX8_chain_2 : decode cX8_chain 2 = .ok (.invokestatic 119, 3) := dc_184 0 119 (lxX8_chain 0 2 rfl) (lxX8_chain 0 3 rfl) (lxX8_chain 0 4 rfl)
set_option maxRecDepth 20000 in
theorem dX8_chain_5 : decode cX8_chain 5 = .ok (.iconst 0, 1) := dc_3 (lxX8_chain 0 5 rfl)
set_option maxRecDepth 20000 in
theorem dX8_chain_6 : decode cX8_chain 6 = .ok (.invokevirtual 81, 3) := dc_182 0 81 (lxX8_chain 0 6 rfl) (lxX8_chain 0 7 rfl) (lxX8_chain 0 8 rfl)
set_option maxRecDepth 20000 in
theorem dX8_chain_9 : decode cX8_chain 9 = .ok (.ifCond .eq 6, 3) := dc_153 0 6 (lxX8_chain 0 9 rfl) (lxX8_chain 0 10 rfl) (lxX8_chain 0 11 rfl)
set_option maxRecDepth 20000 in
theorem dX8_chain_12 : decode cX8_chain 12 = .ok (.ldc 109, 2) := dc_18 109 (lxX8_chain 0 12 rfl) (lxX8_chain 0 13 rfl)
set_option maxRecDepth 20000 in
theorem dX8_chain_14 : decode cX8_chain 14 = .ok (.areturn, 1) := dc_176 (lxX8_chain 0 14 rfl)
set_option maxRecDepth 20000 in
theorem dX8_chain_15 : decode cX8_chain 15 = .ok (.aload_n 0, 1) := dc_42 (lxX8_chain 0 15 rfl)
set_option maxRecDepth 20000 in
theorem dX8_chain_16 : decode cX8_chain 16 = .ok (.iload_n 1, 1) := dc_27 (lxX8_chain 1 0 rfl)
set_option maxRecDepth 20000 in
theorem dX8_chain_17 : decode cX8_chain 17 = .ok (.invokevirtual 122, 3) := dc_182 0 122 (lxX8_chain 1 1 rfl) (lxX8_chain 1 2 rfl) (lxX8_chain 1 3 rfl)
set_option maxRecDepth 20000 in
theorem dX8_chain_20 : decode cX8_chain 20 = .ok (.astore_n 2, 1) := dc_77 (lxX8_chain 1 4 rfl)
set_option maxRecDepth 20000 in
theorem dX8_chain_21 : decode cX8_chain 21 = .ok (.new 66, 3) := dc_187 0 66 (lxX8_chain 1 5 rfl) (lxX8_chain 1 6 rfl) (lxX8_chain 1 7 rfl)
set_option maxRecDepth 20000 in
theorem dX8_chain_24 : decode cX8_chain 24 = .ok (.dup, 1) := dc_89 (lxX8_chain 1 8 rfl)
set_option maxRecDepth 20000 in
theorem dX8_chain_25 : decode cX8_chain 25 = .ok (.invokespecial 68, 3) := dc_183 0 68 (lxX8_chain 1 9 rfl) (lxX8_chain 1 10 rfl) (lxX8_chain 1 11 rfl)
set_option maxRecDepth 20000 in
theorem dX8_chain_28 : decode cX8_chain 28 = .ok (.astore_n 3, 1) := dc_78 (lxX8_chain 1 12 rfl)
set_option maxRecDepth 20000 in
theorem dX8_chain_29 : decode cX8_chain 29 = .ok (.aload_n 2, 1) := dc_44 (lxX8_chain 1 13 rfl)
set_option maxRecDepth 20000 in
theorem dX8_chain_30 : decode cX8_chain 30 = .ok (.arraylength, 1) := dc_190 (lxX8_chain 1 14 rfl)
set_option maxRecDepth 20000 in
theorem dX8_chain_31 : decode cX8_chain 31 = .ok (.iconst 1, 1) := dc_4 (lxX8_chain 1 15 rfl)
set_option maxRecDepth 20000 in
theorem dX8_chain_32 : decode cX8_chain 32 = .ok (.isub, 1) := dc_100 (lxX8_chain 2 0 rfl)
set_option maxRecDepth 20000 in
theorem dX8_chain_33 : decode cX8_chain 33 = .ok (.istore 4, 2) := dc_54 4 (lxX8_chain 2 1 rfl) (lxX8_chain 2 2 rfl)
set_option maxRecDepth 20000 in
theorem dX8_chain_35 : decode cX8_chain 35 = .ok (.iload 4, 2) := dc_21 4 (lxX8_chain 2 3 rfl) (lxX8_chain 2 4 rfl)
set_option maxRecDepth 20000 in
theorem dX8_chain_37 : decode cX8_chain 37 = .ok (.ifCond .lt 32, 3) := dc_155 0 32 (lxX8_chain 2 5 rfl) (lxX8_chain 2 6 rfl) (lxX8_chain 2 7 rfl)
set_option maxRecDepth 20000 in
theorem dX8_chain_40 : decode cX8_chain 40 = .ok (.aload_n 2, 1) := dc_44 (lxX8_chain 2 8 rfl)
set_option maxRecDepth 20000 in
theorem dX8_chain_41 : decode cX8_chain 41 = .ok (.aload_n 2, 1) := dc_44 (lxX8_chain 2 9 rfl)
set_option maxRecDepth 20000 in
theorem dX8_chain_42 : decode cX8_chain 42 = .ok (.arraylength, 1) := dc_190 (lxX8_chain 2 10 rfl)
set_option maxRecDepth 20000 in
theorem dX8_chain_43 : decode cX8_chain 43 = .ok (.iload 4, 2) := dc_21 4 (lxX8_chain 2 11 rfl) (lxX8_chain 2 12 rfl)
set_option maxRecDepth 20000 in
theorem dX8_chain_45 : decode cX8_chain 45 = .ok (.invokestatic 156, 3) := dc_184 0 156 (lxX8_chain 2 13 rfl) (lxX8_chain 2 14 rfl) (lxX8_chain 2 15 rfl)
set_option maxRecDepth 20000 in
theorem dX8_chain_48 : decode cX8_chain 48 = .ok (.ifCond .eq 15, 3) := dc_153 0 15 (lxX8_chain 3 0 rfl) (lxX8_chain 3 1 rfl) (lxX8_chain 3 2 rfl)
set_option maxRecDepth 20000 in
theorem dX8_chain_51 : decode cX8_chain 51 = .ok (.aload_n 3, 1) := dc_45 (lxX8_chain 3 3 rfl)
set_option maxRecDepth 20000 in
theorem dX8_chain_52 : decode cX8_chain 52 = .ok (.iload 4, 2) := dc_21 4 (lxX8_chain 3 4 rfl) (lxX8_chain 3 5 rfl)
set_option maxRecDepth 20000 in
theorem dX8_chain_54 : decode cX8_chain 54 = .ok (.invokevirtual 164, 3) := dc_182 0 164 (lxX8_chain 3 6 rfl) (lxX8_chain 3 7 rfl) (lxX8_chain 3 8 rfl)
set_option maxRecDepth 20000 in
theorem dX8_chain_57 : decode cX8_chain 57 = .ok (.bipush 32, 2) := dc_16 32 (lxX8_chain 3 9 rfl) (lxX8_chain 3 10 rfl)
set_option maxRecDepth 20000 in
theorem dX8_chain_59 : decode cX8_chain 59 = .ok (.invokevirtual 69, 3) := dc_182 0 69 (lxX8_chain 3 11 rfl) (lxX8_chain 3 12 rfl) (lxX8_chain 3 13 rfl)
set_option maxRecDepth 20000 in
theorem dX8_chain_62 : decode cX8_chain 62 = .ok (.pop, 1) := dc_87 (lxX8_chain 3 14 rfl)
set_option maxRecDepth 20000 in
theorem dX8_chain_63 : decode cX8_chain 63 = .ok (.iinc 4 (-1), 3) := dc_132 4 255 (lxX8_chain 3 15 rfl) (lxX8_chain 4 0 rfl) (lxX8_chain 4 1 rfl)
set_option maxRecDepth 20000 in
theorem dX8_chain_66 : decode cX8_chain 66 = .ok (.goto (-31), 3) := dc_167 255 225 (lxX8_chain 4 2 rfl) (lxX8_chain 4 3 rfl) (lxX8_chain 4 4 rfl)
set_option maxRecDepth 20000 in
theorem dX8_chain_69 : decode cX8_chain 69 = .ok (.aload_n 3, 1) := dc_45 (lxX8_chain 4 5 rfl)
set_option maxRecDepth 20000 in
theorem dX8_chain_70 : decode cX8_chain 70 = .ok (.invokevirtual 73, 3) := dc_182 0 73 (lxX8_chain 4 6 rfl) (lxX8_chain 4 7 rfl) (lxX8_chain 4 8 rfl)
set_option maxRecDepth 20000 in
theorem dX8_chain_73 : decode cX8_chain 73 = .ok (.areturn, 1) := dc_176 (lxX8_chain 4 9 rfl)
noncomputable def sgX8_differ : List (List Cond) := [[.code yX8_differ cX8_differ 6 (some .int)], wsX8_differ_r1, wsX8_differ_r2, wsX80]
theorem seX8_differ : sgX8_differ.flatten = wsX8_differ := by simp only [sgX8_differ, wsX8_differ, List.flatten_cons, List.flatten_nil, List.append_assoc, List.append_nil, List.cons_append, List.nil_append]
set_option maxRecDepth 20000 in
theorem ggX8_differ_X8_isNoSource : GoodIn wsX8_differ wsX8_isNoSource := goodIn_s seX8_differ _ [pq_1_3, pq_1_4, pq_1_5, pq_1_2, pq_1_6] (by rfl) (by decide +kernel)
set_option maxRecDepth 20000 in
theorem gX8_differ_X8_isNoSource : GoodIn wsX8_differ (va_wsS RX8 119 yX8_isNoSource wsX8_isNoSource) := goodIn_app (goodIn_s seX8_differ _ [pq_1_0, pq_1_1, pq_1_2] (by rfl) (by decide +kernel)) ggX8_differ_X8_isNoSource
set_option maxRecDepth 20000 in
theorem ggX8_differ_X8_isThrown : GoodIn wsX8_differ wsX8_isThrown := goodIn_s seX8_differ _ [pq_1_10, pq_1_11, pq_3_0, pq_3_1, pq_3_2, pq_3_3, pq_3_4, pq_3_5, pq_3_6, pq_3_7, pq_3_8, pq_3_9, pq_3_10] (by rfl) (by decide +kernel)
set_option maxRecDepth 20000 in
theorem gX8_differ_X8_isThrown : GoodIn wsX8_differ (wsV RX8 81 RX8 yX8_isThrown wsX8_isThrown) := goodIn_app (goodIn_s seX8_differ _ [pq_1_7, pq_1_8, pq_1_9, pq_1_2] (by rfl) (by decide +kernel)) ggX8_differ_X8_isThrown
set_option maxRecDepth 20000 in
theorem ggX8_differ_X8_textOf : GoodIn wsX8_differ wsX8_textOf := goodIn_s seX8_differ _ [pq_1_15, pq_1_16, pq_1_17, pq_1_18, pq_1_19, pq_1_20, pq_1_21, pq_1_2, pq_1_22, pq_1_23, pq_2_0, pq_2_1, pq_2_2, pq_2_3, pq_3_0, pq_3_1, pq_3_2, pq_3_3, pq_3_4, pq_3_5, pq_3_6, pq_3_7, pq_3_8, pq_3_9, pq_3_10] (by rfl) (by decide +kernel)
set_option maxRecDepth 20000 in
theorem gX8_differ_X8_textOf : GoodIn wsX8_differ (wsV RX8 122 RX8 yX8_textOf wsX8_textOf) := goodIn_app (goodIn_s seX8_differ _ [pq_1_12, pq_1_13, pq_1_14, pq_1_2] (by rfl) (by decide +kernel)) ggX8_differ_X8_textOf
def lb_sgX8_differ : List (List UInt8) := [[42, 27, 184, 0, 119, 154, 0, 10, 28, 184, 0, 119, 153, 0, 7, 4], [167, 0, 4, 3, 3, 182, 0, 81, 153, 0, 5, 3, 172, 42, 27, 182], [0, 122, 78, 42, 28, 182, 0, 122, 58, 4, 3, 54, 5, 21, 5, 45], [190, 162, 0, 29, 21, 5, 25, 4, 190, 162, 0, 21, 45, 21, 5, 46], [25, 4, 21, 5, 46, 160, 0, 9, 132, 5, 1, 167, 255, 226, 21, 5], [45, 190, 160, 0, 15, 21, 5, 25, 4, 190, 160, 0, 7, 2, 167, 0], [5, 21, 5, 172]]
set_option maxRecDepth 100000 in
theorem lb_seX8_differ : cX8_differ.data.toList = lb_sgX8_differ.flatten := by decide +kernel
theorem lb_lnX8_differ : ∀ s ∈ lb_sgX8_differ.dropLast, s.length = 16 := by decide +kernel
theorem lxX8_differ (k j : Nat) {b : UInt8} (h : (lb_sgX8_differ[k]?).bind (fun s => s[j]?) = some b) : lb_at cX8_differ (16 * k + j) b := by
  unfold lb_at
  rw [lb_seX8_differ]
  exact lb_flat 16 lb_sgX8_differ k j b lb_lnX8_differ h
set_option maxRecDepth 20000 in
theorem dX8_differ_0 : decode cX8_differ 0 = .ok (.aload_n 0, 1) := dc_42 (lxX8_differ 0 0 rfl)
set_option maxRecDepth 20000 in
theorem dX8_differ_1 : decode cX8_differ 1 = .ok (.iload_n 1, 1) := dc_27 (lxX8_differ 0 1 rfl)
set_option maxRecDepth 20000 in
theorem dX8_differ_2 : decode cX8_differ 2 = .ok (.invokestatic 119, 3) := dc_184 0 119 (lxX8_differ 0 2 rfl) (lxX8_differ 0 3 rfl) (lxX8_differ 0 4 rfl)
set_option maxRecDepth 20000 in
theorem dX8_differ_5 : decode cX8_differ 5 = .ok (.ifCond .ne 10, 3) := dc_154 0 10 (lxX8_differ 0 5 rfl) (lxX8_differ 0 6 rfl) (lxX8_differ 0 7 rfl)
set_option maxRecDepth 20000 in
theorem dX8_differ_8 : decode cX8_differ 8 = .ok (.iload_n 2, 1) := dc_28 (lxX8_differ 0 8 rfl)
set_option maxRecDepth 20000 in
theorem dX8_differ_9 : decode cX8_differ 9 = .ok (.invokestatic 119, 3) := dc_184 0 119 (lxX8_differ 0 9 rfl) (lxX8_differ 0 10 rfl) (lxX8_differ 0 11 rfl)
set_option maxRecDepth 20000 in
theorem dX8_differ_12 : decode cX8_differ 12 = .ok (.ifCond .eq 7, 3) := dc_153 0 7 (lxX8_differ 0 12 rfl) (lxX8_differ 0 13 rfl) (lxX8_differ 0 14 rfl)
set_option maxRecDepth 20000 in
theorem dX8_differ_15 : decode cX8_differ 15 = .ok (.iconst 1, 1) := dc_4 (lxX8_differ 0 15 rfl)
set_option maxRecDepth 20000 in
theorem dX8_differ_16 : decode cX8_differ 16 = .ok (.goto 4, 3) := dc_167 0 4 (lxX8_differ 1 0 rfl) (lxX8_differ 1 1 rfl) (lxX8_differ 1 2 rfl)
set_option maxRecDepth 20000 in
theorem dX8_differ_19 : decode cX8_differ 19 = .ok (.iconst 0, 1) := dc_3 (lxX8_differ 1 3 rfl)
set_option maxRecDepth 20000 in
theorem dX8_differ_20 : decode cX8_differ 20 = .ok (.iconst 0, 1) := dc_3 (lxX8_differ 1 4 rfl)
set_option maxRecDepth 20000 in
theorem dX8_differ_21 : decode cX8_differ 21 = .ok (.invokevirtual 81, 3) := dc_182 0 81 (lxX8_differ 1 5 rfl) (lxX8_differ 1 6 rfl) (lxX8_differ 1 7 rfl)
set_option maxRecDepth 20000 in
theorem dX8_differ_24 : decode cX8_differ 24 = .ok (.ifCond .eq 5, 3) := dc_153 0 5 (lxX8_differ 1 8 rfl) (lxX8_differ 1 9 rfl) (lxX8_differ 1 10 rfl)
set_option maxRecDepth 20000 in
theorem dX8_differ_27 : decode cX8_differ 27 = .ok (.iconst 0, 1) := dc_3 (lxX8_differ 1 11 rfl)
set_option maxRecDepth 20000 in
theorem dX8_differ_28 : decode cX8_differ 28 = .ok (.ireturn, 1) := dc_172 (lxX8_differ 1 12 rfl)
set_option maxRecDepth 20000 in
theorem dX8_differ_29 : decode cX8_differ 29 = .ok (.aload_n 0, 1) := dc_42 (lxX8_differ 1 13 rfl)
set_option maxRecDepth 20000 in
theorem dX8_differ_30 : decode cX8_differ 30 = .ok (.iload_n 1, 1) := dc_27 (lxX8_differ 1 14 rfl)
set_option maxRecDepth 20000 in
theorem dX8_differ_31 : decode cX8_differ 31 = .ok (.invokevirtual 122, 3) := dc_182 0 122 (lxX8_differ 1 15 rfl) (lxX8_differ 2 0 rfl) (lxX8_differ 2 1 rfl)
set_option maxRecDepth 20000 in
theorem dX8_differ_34 : decode cX8_differ 34 = .ok (.astore_n 3, 1) := dc_78 (lxX8_differ 2 2 rfl)
set_option maxRecDepth 20000 in
theorem dX8_differ_35 : decode cX8_differ 35 = .ok (.aload_n 0, 1) := dc_42 (lxX8_differ 2 3 rfl)
set_option maxRecDepth 20000 in
theorem dX8_differ_36 : decode cX8_differ 36 = .ok (.iload_n 2, 1) := dc_28 (lxX8_differ 2 4 rfl)
set_option maxRecDepth 20000 in
theorem dX8_differ_37 : decode cX8_differ 37 = .ok (.invokevirtual 122, 3) := dc_182 0 122 (lxX8_differ 2 5 rfl) (lxX8_differ 2 6 rfl) (lxX8_differ 2 7 rfl)
set_option maxRecDepth 20000 in
theorem dX8_differ_40 : decode cX8_differ 40 = .ok (.astore 4, 2) := dc_58 4 (lxX8_differ 2 8 rfl) (lxX8_differ 2 9 rfl)
set_option maxRecDepth 20000 in
theorem dX8_differ_42 : decode cX8_differ 42 = .ok (.iconst 0, 1) := dc_3 (lxX8_differ 2 10 rfl)
set_option maxRecDepth 20000 in
theorem dX8_differ_43 : decode cX8_differ 43 = .ok (.istore 5, 2) := dc_54 5 (lxX8_differ 2 11 rfl) (lxX8_differ 2 12 rfl)
set_option maxRecDepth 20000 in
theorem dX8_differ_45 : decode cX8_differ 45 = .ok (.iload 5, 2) := dc_21 5 (lxX8_differ 2 13 rfl) (lxX8_differ 2 14 rfl)
set_option maxRecDepth 20000 in
theorem dX8_differ_47 : decode cX8_differ 47 = .ok (.aload_n 3, 1) := dc_45 (lxX8_differ 2 15 rfl)
set_option maxRecDepth 20000 in
theorem dX8_differ_48 : decode cX8_differ 48 = .ok (.arraylength, 1) := dc_190 (lxX8_differ 3 0 rfl)
set_option maxRecDepth 20000 in
theorem dX8_differ_49 : decode cX8_differ 49 = .ok (.if_icmp .ge 29, 3) := dc_162 0 29 (lxX8_differ 3 1 rfl) (lxX8_differ 3 2 rfl) (lxX8_differ 3 3 rfl)
set_option maxRecDepth 20000 in
theorem dX8_differ_52 : decode cX8_differ 52 = .ok (.iload 5, 2) := dc_21 5 (lxX8_differ 3 4 rfl) (lxX8_differ 3 5 rfl)
set_option maxRecDepth 20000 in
theorem dX8_differ_54 : decode cX8_differ 54 = .ok (.aload 4, 2) := dc_25 4 (lxX8_differ 3 6 rfl) (lxX8_differ 3 7 rfl)
set_option maxRecDepth 20000 in
theorem dX8_differ_56 : decode cX8_differ 56 = .ok (.arraylength, 1) := dc_190 (lxX8_differ 3 8 rfl)
set_option maxRecDepth 20000 in
theorem dX8_differ_57 : decode cX8_differ 57 = .ok (.if_icmp .ge 21, 3) := dc_162 0 21 (lxX8_differ 3 9 rfl) (lxX8_differ 3 10 rfl) (lxX8_differ 3 11 rfl)
set_option maxRecDepth 20000 in
theorem dX8_differ_60 : decode cX8_differ 60 = .ok (.aload_n 3, 1) := dc_45 (lxX8_differ 3 12 rfl)
set_option maxRecDepth 20000 in
theorem dX8_differ_61 : decode cX8_differ 61 = .ok (.iload 5, 2) := dc_21 5 (lxX8_differ 3 13 rfl) (lxX8_differ 3 14 rfl)
set_option maxRecDepth 20000 in
theorem dX8_differ_63 : decode cX8_differ 63 = .ok (.iaload, 1) := dc_46 (lxX8_differ 3 15 rfl)
set_option maxRecDepth 20000 in
theorem dX8_differ_64 : decode cX8_differ 64 = .ok (.aload 4, 2) := dc_25 4 (lxX8_differ 4 0 rfl) (lxX8_differ 4 1 rfl)
set_option maxRecDepth 20000 in
theorem dX8_differ_66 : decode cX8_differ 66 = .ok (.iload 5, 2) := dc_21 5 (lxX8_differ 4 2 rfl) (lxX8_differ 4 3 rfl)
set_option maxRecDepth 20000 in
theorem dX8_differ_68 : decode cX8_differ 68 = .ok (.iaload, 1) := dc_46 (lxX8_differ 4 4 rfl)
set_option maxRecDepth 20000 in
theorem dX8_differ_69 : decode cX8_differ 69 = .ok (.if_icmp .ne 9, 3) := dc_160 0 9 (lxX8_differ 4 5 rfl) (lxX8_differ 4 6 rfl) (lxX8_differ 4 7 rfl)
set_option maxRecDepth 20000 in
theorem dX8_differ_72 : decode cX8_differ 72 = .ok (.iinc 5 1, 3) := dc_132 5 1 (lxX8_differ 4 8 rfl) (lxX8_differ 4 9 rfl) (lxX8_differ 4 10 rfl)
set_option maxRecDepth 20000 in
theorem dX8_differ_75 : decode cX8_differ 75 = .ok (.goto (-30), 3) := dc_167 255 226 (lxX8_differ 4 11 rfl) (lxX8_differ 4 12 rfl) (lxX8_differ 4 13 rfl)
set_option maxRecDepth 20000 in
theorem dX8_differ_78 : decode cX8_differ 78 = .ok (.iload 5, 2) := dc_21 5 (lxX8_differ 4 14 rfl) (lxX8_differ 4 15 rfl)
set_option maxRecDepth 20000 in
theorem dX8_differ_80 : decode cX8_differ 80 = .ok (.aload_n 3, 1) := dc_45 (lxX8_differ 5 0 rfl)
set_option maxRecDepth 20000 in
theorem dX8_differ_81 : decode cX8_differ 81 = .ok (.arraylength, 1) := dc_190 (lxX8_differ 5 1 rfl)
set_option maxRecDepth 20000 in
theorem dX8_differ_82 : decode cX8_differ 82 = .ok (.if_icmp .ne 15, 3) := dc_160 0 15 (lxX8_differ 5 2 rfl) (lxX8_differ 5 3 rfl) (lxX8_differ 5 4 rfl)
set_option maxRecDepth 20000 in
theorem dX8_differ_85 : decode cX8_differ 85 = .ok (.iload 5, 2) := dc_21 5 (lxX8_differ 5 5 rfl) (lxX8_differ 5 6 rfl)
set_option maxRecDepth 20000 in
theorem dX8_differ_87 : decode cX8_differ 87 = .ok (.aload 4, 2) := dc_25 4 (lxX8_differ 5 7 rfl) (lxX8_differ 5 8 rfl)
set_option maxRecDepth 20000 in
theorem dX8_differ_89 : decode cX8_differ 89 = .ok (.arraylength, 1) := dc_190 (lxX8_differ 5 9 rfl)
set_option maxRecDepth 20000 in
theorem dX8_differ_90 : decode cX8_differ 90 = .ok (.if_icmp .ne 7, 3) := dc_160 0 7 (lxX8_differ 5 10 rfl) (lxX8_differ 5 11 rfl) (lxX8_differ 5 12 rfl)
set_option maxRecDepth 20000 in
theorem dX8_differ_93 : decode cX8_differ 93 = .ok (.iconst (-1), 1) := dc_2 (lxX8_differ 5 13 rfl)
set_option maxRecDepth 20000 in
theorem dX8_differ_94 : decode cX8_differ 94 = .ok (.goto 5, 3) := dc_167 0 5 (lxX8_differ 5 14 rfl) (lxX8_differ 5 15 rfl) (lxX8_differ 6 0 rfl)
set_option maxRecDepth 20000 in
theorem dX8_differ_97 : decode cX8_differ 97 = .ok (.iload 5, 2) := dc_21 5 (lxX8_differ 6 1 rfl) (lxX8_differ 6 2 rfl)
set_option maxRecDepth 20000 in
theorem dX8_differ_99 : decode cX8_differ 99 = .ok (.ireturn, 1) := dc_172 (lxX8_differ 6 3 rfl)
noncomputable def sgX8_known : List (List Cond) := [[.code yX8_known cX8_known 5 (some .int)], wsX8_known_r1, wsX8_known_r2, wsX80]
theorem seX8_known : sgX8_known.flatten = wsX8_known := by simp only [sgX8_known, wsX8_known, List.flatten_cons, List.flatten_nil, List.append_assoc, List.append_nil, List.cons_append, List.nil_append]
set_option maxRecDepth 20000 in
theorem ggX8_known_X8_isNoSource : GoodIn wsX8_known wsX8_isNoSource := goodIn_s seX8_known _ [pq_1_5, pq_1_6, pq_1_7, pq_1_4, pq_1_8] (by rfl) (by decide +kernel)
set_option maxRecDepth 20000 in
theorem gX8_known_X8_isNoSource : GoodIn wsX8_known (va_wsS RX8 119 yX8_isNoSource wsX8_isNoSource) := goodIn_app (goodIn_s seX8_known _ [pq_1_2, pq_1_3, pq_1_4] (by rfl) (by decide +kernel)) ggX8_known_X8_isNoSource
set_option maxRecDepth 20000 in
theorem ggX8_known_X8_isNo : GoodIn wsX8_known wsX8_isNo := goodIn_s seX8_known _ [pq_1_8] (by rfl) (by decide +kernel)
set_option maxRecDepth 20000 in
theorem gX8_known_X8_isNo : GoodIn wsX8_known (va_wsS RX8 41 yX8_isNo wsX8_isNo) := goodIn_app (goodIn_s seX8_known _ [pq_1_6, pq_1_7, pq_1_4] (by rfl) (by decide +kernel)) ggX8_known_X8_isNo
set_option maxRecDepth 20000 in
theorem ggX8_known_X8_isThrown : GoodIn wsX8_known wsX8_isThrown := goodIn_s seX8_known _ [pq_1_12, pq_1_13, pq_3_0, pq_3_1, pq_3_2, pq_3_3, pq_3_4, pq_3_5, pq_3_6, pq_3_7, pq_3_8, pq_3_9, pq_3_10] (by rfl) (by decide +kernel)
set_option maxRecDepth 20000 in
theorem gX8_known_X8_isThrown : GoodIn wsX8_known (wsV RX8 81 RX8 yX8_isThrown wsX8_isThrown) := goodIn_app (goodIn_s seX8_known _ [pq_1_9, pq_1_10, pq_1_11, pq_1_4] (by rfl) (by decide +kernel)) ggX8_known_X8_isThrown
set_option maxRecDepth 20000 in
theorem ggX8_known_X8_textOf : GoodIn wsX8_known wsX8_textOf := goodIn_s seX8_known _ [pq_1_17, pq_1_0, pq_1_1, pq_1_18, pq_1_19, pq_1_20, pq_1_21, pq_1_4, pq_1_22, pq_1_23, pq_2_0, pq_2_1, pq_2_2, pq_2_3, pq_3_0, pq_3_1, pq_3_2, pq_3_3, pq_3_4, pq_3_5, pq_3_6, pq_3_7, pq_3_8, pq_3_9, pq_3_10] (by rfl) (by decide +kernel)
set_option maxRecDepth 20000 in
theorem gX8_known_X8_textOf : GoodIn wsX8_known (wsV RX8 122 RX8 yX8_textOf wsX8_textOf) := goodIn_app (goodIn_s seX8_known _ [pq_1_14, pq_1_15, pq_1_16, pq_1_4] (by rfl) (by decide +kernel)) ggX8_known_X8_textOf
set_option maxRecDepth 20000 in
theorem ggX8_known_X8_nth : GoodIn wsX8_known wsX8_nth := goodIn_s seX8_known _ [pq_2_6, pq_2_7, pq_2_8, pq_1_4, pq_2_9] (by rfl) (by decide +kernel)
set_option maxRecDepth 20000 in
theorem gX8_known_X8_nth : GoodIn wsX8_known (va_wsS RX8 142 yX8_nth wsX8_nth) := goodIn_app (goodIn_s seX8_known _ [pq_2_4, pq_2_5, pq_1_4] (by rfl) (by decide +kernel)) ggX8_known_X8_nth
set_option maxRecDepth 20000 in
theorem ggX8_known_X8_lastOf : GoodIn wsX8_known wsX8_lastOf := goodIn_s seX8_known _ [pq_2_12, pq_2_13, pq_2_14, pq_2_15, pq_2_16, pq_2_7, pq_2_8, pq_1_4, pq_2_9] (by rfl) (by decide +kernel)
set_option maxRecDepth 20000 in
theorem gX8_known_X8_lastOf : GoodIn wsX8_known (va_wsS RX8 149 yX8_lastOf wsX8_lastOf) := goodIn_app (goodIn_s seX8_known _ [pq_2_10, pq_2_11, pq_1_4] (by rfl) (by decide +kernel)) ggX8_known_X8_lastOf
def lb_sgX8_known : List (List UInt8) := [[42, 27, 184, 0, 119, 28, 3, 7, 184, 0, 41, 182, 0, 81, 153, 0], [5, 3, 172, 28, 5, 159, 0, 8, 28, 6, 160, 0, 10, 42, 180, 0], [18, 167, 0, 7, 42, 180, 0, 21, 78, 42, 27, 182, 0, 122, 58, 4], [28, 7, 160, 0, 19, 45, 25, 4, 3, 184, 0, 142, 156, 0, 7, 3], [167, 0, 4, 4, 172, 28, 5, 112, 154, 0, 13, 45, 25, 4, 3, 184], [0, 142, 167, 0, 9, 45, 25, 4, 184, 0, 149, 172]]
set_option maxRecDepth 100000 in
theorem lb_seX8_known : cX8_known.data.toList = lb_sgX8_known.flatten := by decide +kernel
theorem lb_lnX8_known : ∀ s ∈ lb_sgX8_known.dropLast, s.length = 16 := by decide +kernel
theorem lxX8_known (k j : Nat) {b : UInt8} (h : (lb_sgX8_known[k]?).bind (fun s => s[j]?) = some b) : lb_at cX8_known (16 * k + j) b := by
  unfold lb_at
  rw [lb_seX8_known]
  exact lb_flat 16 lb_sgX8_known k j b lb_lnX8_known h
set_option maxRecDepth 20000 in
theorem dX8_known_0 : decode cX8_known 0 = .ok (.aload_n 0, 1) := dc_42 (lxX8_known 0 0 rfl)
set_option maxRecDepth 20000 in
theorem dX8_known_1 : decode cX8_known 1 = .ok (.iload_n 1, 1) := dc_27 (lxX8_known 0 1 rfl)
set_option maxRecDepth 20000 in
theorem dX8_known_2 : decode cX8_known 2 = .ok (.invokestatic 119, 3) := dc_184 0 119 (lxX8_known 0 2 rfl) (lxX8_known 0 3 rfl) (lxX8_known 0 4 rfl)
set_option maxRecDepth 20000 in
theorem dX8_known_5 : decode cX8_known 5 = .ok (.iload_n 2, 1) := dc_28 (lxX8_known 0 5 rfl)
set_option maxRecDepth 20000 in
theorem dX8_known_6 : decode cX8_known 6 = .ok (.iconst 0, 1) := dc_3 (lxX8_known 0 6 rfl)
set_option maxRecDepth 20000 in
theorem dX8_known_7 : decode cX8_known 7 = .ok (.iconst 4, 1) := dc_7 (lxX8_known 0 7 rfl)
set_option maxRecDepth 20000 in
theorem dX8_known_8 : decode cX8_known 8 = .ok (.invokestatic 41, 3) := dc_184 0 41 (lxX8_known 0 8 rfl) (lxX8_known 0 9 rfl) (lxX8_known 0 10 rfl)
set_option maxRecDepth 20000 in
theorem dX8_known_11 : decode cX8_known 11 = .ok (.invokevirtual 81, 3) := dc_182 0 81 (lxX8_known 0 11 rfl) (lxX8_known 0 12 rfl) (lxX8_known 0 13 rfl)
set_option maxRecDepth 20000 in
theorem dX8_known_14 : decode cX8_known 14 = .ok (.ifCond .eq 5, 3) := dc_153 0 5 (lxX8_known 0 14 rfl) (lxX8_known 0 15 rfl) (lxX8_known 1 0 rfl)
set_option maxRecDepth 20000 in
theorem dX8_known_17 : decode cX8_known 17 = .ok (.iconst 0, 1) := dc_3 (lxX8_known 1 1 rfl)
set_option maxRecDepth 20000 in
theorem dX8_known_18 : decode cX8_known 18 = .ok (.ireturn, 1) := dc_172 (lxX8_known 1 2 rfl)
set_option maxRecDepth 20000 in
theorem dX8_known_19 : decode cX8_known 19 = .ok (.iload_n 2, 1) := dc_28 (lxX8_known 1 3 rfl)
set_option maxRecDepth 20000 in
theorem dX8_known_20 : decode cX8_known 20 = .ok (.iconst 2, 1) := dc_5 (lxX8_known 1 4 rfl)
set_option maxRecDepth 20000 in
theorem dX8_known_21 : decode cX8_known 21 = .ok (.if_icmp .eq 8, 3) := dc_159 0 8 (lxX8_known 1 5 rfl) (lxX8_known 1 6 rfl) (lxX8_known 1 7 rfl)
set_option maxRecDepth 20000 in
theorem dX8_known_24 : decode cX8_known 24 = .ok (.iload_n 2, 1) := dc_28 (lxX8_known 1 8 rfl)
set_option maxRecDepth 20000 in
theorem dX8_known_25 : decode cX8_known 25 = .ok (.iconst 3, 1) := dc_6 (lxX8_known 1 9 rfl)
set_option maxRecDepth 20000 in
theorem dX8_known_26 : decode cX8_known 26 = .ok (.if_icmp .ne 10, 3) := dc_160 0 10 (lxX8_known 1 10 rfl) (lxX8_known 1 11 rfl) (lxX8_known 1 12 rfl)
set_option maxRecDepth 20000 in
theorem dX8_known_29 : decode cX8_known 29 = .ok (.aload_n 0, 1) := dc_42 (lxX8_known 1 13 rfl)
set_option maxRecDepth 20000 in
theorem dX8_known_30 : decode cX8_known 30 = .ok (.getfield 18, 3) := dc_180 0 18 (lxX8_known 1 14 rfl) (lxX8_known 1 15 rfl) (lxX8_known 2 0 rfl)
set_option maxRecDepth 20000 in
theorem dX8_known_33 : decode cX8_known 33 = .ok (.goto 7, 3) := dc_167 0 7 (lxX8_known 2 1 rfl) (lxX8_known 2 2 rfl) (lxX8_known 2 3 rfl)
set_option maxRecDepth 20000 in
theorem dX8_known_36 : decode cX8_known 36 = .ok (.aload_n 0, 1) := dc_42 (lxX8_known 2 4 rfl)
set_option maxRecDepth 20000 in
theorem dX8_known_37 : decode cX8_known 37 = .ok (.getfield 21, 3) := dc_180 0 21 (lxX8_known 2 5 rfl) (lxX8_known 2 6 rfl) (lxX8_known 2 7 rfl)
set_option maxRecDepth 20000 in
theorem dX8_known_40 : decode cX8_known 40 = .ok (.astore_n 3, 1) := dc_78 (lxX8_known 2 8 rfl)
set_option maxRecDepth 20000 in
theorem dX8_known_41 : decode cX8_known 41 = .ok (.aload_n 0, 1) := dc_42 (lxX8_known 2 9 rfl)
set_option maxRecDepth 20000 in
theorem dX8_known_42 : decode cX8_known 42 = .ok (.iload_n 1, 1) := dc_27 (lxX8_known 2 10 rfl)
set_option maxRecDepth 20000 in
theorem dX8_known_43 : decode cX8_known 43 = .ok (.invokevirtual 122, 3) := dc_182 0 122 (lxX8_known 2 11 rfl) (lxX8_known 2 12 rfl) (lxX8_known 2 13 rfl)
set_option maxRecDepth 20000 in
theorem dX8_known_46 : decode cX8_known 46 = .ok (.astore 4, 2) := dc_58 4 (lxX8_known 2 14 rfl) (lxX8_known 2 15 rfl)
set_option maxRecDepth 20000 in
theorem dX8_known_48 : decode cX8_known 48 = .ok (.iload_n 2, 1) := dc_28 (lxX8_known 3 0 rfl)
set_option maxRecDepth 20000 in
theorem dX8_known_49 : decode cX8_known 49 = .ok (.iconst 4, 1) := dc_7 (lxX8_known 3 1 rfl)
set_option maxRecDepth 20000 in
theorem dX8_known_50 : decode cX8_known 50 = .ok (.if_icmp .ne 19, 3) := dc_160 0 19 (lxX8_known 3 2 rfl) (lxX8_known 3 3 rfl) (lxX8_known 3 4 rfl)
set_option maxRecDepth 20000 in
theorem dX8_known_53 : decode cX8_known 53 = .ok (.aload_n 3, 1) := dc_45 (lxX8_known 3 5 rfl)
set_option maxRecDepth 20000 in
theorem dX8_known_54 : decode cX8_known 54 = .ok (.aload 4, 2) := dc_25 4 (lxX8_known 3 6 rfl) (lxX8_known 3 7 rfl)
set_option maxRecDepth 20000 in
theorem dX8_known_56 : decode cX8_known 56 = .ok (.iconst 0, 1) := dc_3 (lxX8_known 3 8 rfl)
set_option maxRecDepth 20000 in
theorem dX8_known_57 : decode cX8_known 57 = .ok (.invokestatic 142, 3) := dc_184 0 142 (lxX8_known 3 9 rfl) (lxX8_known 3 10 rfl) (lxX8_known 3 11 rfl)
set_option maxRecDepth 20000 in
theorem dX8_known_60 : decode cX8_known 60 = .ok (.ifCond .ge 7, 3) := dc_156 0 7 (lxX8_known 3 12 rfl) (lxX8_known 3 13 rfl) (lxX8_known 3 14 rfl)
set_option maxRecDepth 20000 in
theorem dX8_known_63 : decode cX8_known 63 = .ok (.iconst 0, 1) := dc_3 (lxX8_known 3 15 rfl)
set_option maxRecDepth 20000 in
theorem dX8_known_64 : decode cX8_known 64 = .ok (.goto 4, 3) := dc_167 0 4 (lxX8_known 4 0 rfl) (lxX8_known 4 1 rfl) (lxX8_known 4 2 rfl)
set_option maxRecDepth 20000 in
theorem dX8_known_67 : decode cX8_known 67 = .ok (.iconst 1, 1) := dc_4 (lxX8_known 4 3 rfl)
set_option maxRecDepth 20000 in
theorem dX8_known_68 : decode cX8_known 68 = .ok (.ireturn, 1) := dc_172 (lxX8_known 4 4 rfl)
set_option maxRecDepth 20000 in
theorem dX8_known_69 : decode cX8_known 69 = .ok (.iload_n 2, 1) := dc_28 (lxX8_known 4 5 rfl)
set_option maxRecDepth 20000 in
theorem dX8_known_70 : decode cX8_known 70 = .ok (.iconst 2, 1) := dc_5 (lxX8_known 4 6 rfl)
set_option maxRecDepth 20000 in
theorem dX8_known_71 : decode cX8_known 71 = .ok (.irem, 1) := dc_112 (lxX8_known 4 7 rfl)
set_option maxRecDepth 20000 in
theorem dX8_known_72 : decode cX8_known 72 = .ok (.ifCond .ne 13, 3) := dc_154 0 13 (lxX8_known 4 8 rfl) (lxX8_known 4 9 rfl) (lxX8_known 4 10 rfl)
set_option maxRecDepth 20000 in
theorem dX8_known_75 : decode cX8_known 75 = .ok (.aload_n 3, 1) := dc_45 (lxX8_known 4 11 rfl)
set_option maxRecDepth 20000 in
theorem dX8_known_76 : decode cX8_known 76 = .ok (.aload 4, 2) := dc_25 4 (lxX8_known 4 12 rfl) (lxX8_known 4 13 rfl)
set_option maxRecDepth 20000 in
theorem dX8_known_78 : decode cX8_known 78 = .ok (.iconst 0, 1) := dc_3 (lxX8_known 4 14 rfl)
set_option maxRecDepth 20000 in
theorem dX8_known_79 : decode cX8_known 79 = .ok (.invokestatic 142, 3) := dc_184 0 142 (lxX8_known 4 15 rfl) (lxX8_known 5 0 rfl) (lxX8_known 5 1 rfl)
set_option maxRecDepth 20000 in
theorem dX8_known_82 : decode cX8_known 82 = .ok (.goto 9, 3) := dc_167 0 9 (lxX8_known 5 2 rfl) (lxX8_known 5 3 rfl) (lxX8_known 5 4 rfl)
set_option maxRecDepth 20000 in
theorem dX8_known_85 : decode cX8_known 85 = .ok (.aload_n 3, 1) := dc_45 (lxX8_known 5 5 rfl)
set_option maxRecDepth 20000 in
theorem dX8_known_86 : decode cX8_known 86 = .ok (.aload 4, 2) := dc_25 4 (lxX8_known 5 6 rfl) (lxX8_known 5 7 rfl)
set_option maxRecDepth 20000 in
theorem dX8_known_88 : decode cX8_known 88 = .ok (.invokestatic 149, 3) := dc_184 0 149 (lxX8_known 5 8 rfl) (lxX8_known 5 9 rfl) (lxX8_known 5 10 rfl)
set_option maxRecDepth 20000 in
theorem dX8_known_91 : decode cX8_known 91 = .ok (.ireturn, 1) := dc_172 (lxX8_known 5 11 rfl)
noncomputable def sgX8_held : List (List Cond) := [[.code yX8_held cX8_held 1 (some (.object "java/lang/String"))], wsX8_held_r1, wsX8_held_r2, wsX8_held_r3, wsX8_held_r4, wsX8_held_r5, wsX8_held_r6, wsX8_held_r7, wsX8_held_r8, wsX8_held_r9, wsX80, wsJ40, wsJ00]
theorem seX8_held : sgX8_held.flatten = wsX8_held := by simp only [sgX8_held, wsX8_held, List.flatten_cons, List.flatten_nil, List.append_assoc, List.append_nil, List.cons_append, List.nil_append]
set_option maxRecDepth 20000 in
theorem ggX8_held_X8_isThrown : GoodIn wsX8_held wsX8_isThrown := goodIn_s seX8_held _ [pq_1_7, pq_1_8, pq_10_0, pq_10_1, pq_10_2, pq_10_3, pq_10_4, pq_10_5, pq_10_6, pq_10_7, pq_10_8, pq_10_9, pq_10_10] (by rfl) (by decide +kernel)
set_option maxRecDepth 20000 in
theorem gX8_held_X8_isThrown : GoodIn wsX8_held (wsV RX8 81 RX8 yX8_isThrown wsX8_isThrown) := goodIn_app (goodIn_s seX8_held _ [pq_1_3, pq_1_4, pq_1_5, pq_1_6] (by rfl) (by decide +kernel)) ggX8_held_X8_isThrown
set_option maxRecDepth 20000 in
theorem ggX8_held_X8_told : GoodIn wsX8_held wsX8_told := goodIn_s seX8_held _ [pq_1_11, pq_1_12, pq_1_13, pq_1_14, pq_1_15, pq_1_16, pq_1_17, pq_1_18, pq_1_19, pq_1_20, pq_1_21, pq_1_22, pq_1_23, pq_2_0, pq_2_1, pq_2_2, pq_2_3, pq_2_4, pq_2_5, pq_2_6, pq_2_7, pq_2_8, pq_2_9, pq_2_10, pq_2_11, pq_2_12, pq_2_13, pq_2_14, pq_2_15, pq_2_16, pq_2_17, pq_2_18, pq_2_19, pq_2_20, pq_2_21, pq_2_22, pq_2_23, pq_3_0, pq_3_1, pq_3_2, pq_3_3, pq_3_4, pq_3_5, pq_3_6, pq_3_7, pq_3_8, pq_3_9, pq_3_10, pq_3_11, pq_3_12, pq_3_13, pq_3_14, pq_3_15, pq_3_16, pq_3_17, pq_3_18, pq_3_19, pq_3_20, pq_3_21, pq_3_22, pq_3_23, pq_4_0, pq_4_1, pq_4_2, pq_4_3, pq_4_4, pq_4_5, pq_4_6, pq_4_7, pq_4_8, pq_4_9, pq_4_10, pq_4_11, pq_4_12, pq_4_13, pq_4_14, pq_4_15, pq_4_16, pq_4_17, pq_4_18, pq_4_19, pq_4_20, pq_4_21, pq_4_22, pq_4_23, pq_5_0, pq_5_1, pq_5_2, pq_5_3, pq_5_4, pq_5_5, pq_5_6, pq_5_7, pq_5_8, pq_5_9, pq_5_10, pq_5_11, pq_5_12, pq_5_13, pq_5_14, pq_5_15, pq_5_16, pq_5_17, pq_5_18, pq_5_19, pq_5_20, pq_5_21, pq_5_22, pq_5_23, pq_6_0, pq_6_1, pq_6_2, pq_6_3, pq_6_4, pq_6_5, pq_6_6, pq_6_7, pq_6_8, pq_6_9, pq_6_10, pq_6_11, pq_6_12, pq_6_13, pq_6_14, pq_6_15, pq_6_16, pq_6_17, pq_6_18, pq_6_19, pq_6_20, pq_6_21, pq_6_22, pq_6_23, pq_7_0, pq_7_1, pq_7_2, pq_7_3, pq_7_4, pq_7_5, pq_7_6, pq_7_7, pq_7_8, pq_7_9, pq_7_10, pq_7_11, pq_7_12, pq_7_13, pq_7_14, pq_7_15, pq_7_16, pq_7_17, pq_7_18, pq_7_19, pq_7_20, pq_7_21, pq_7_22, pq_7_23, pq_8_0, pq_8_1, pq_8_2, pq_8_3, pq_8_4, pq_8_5, pq_8_6, pq_8_7, pq_8_8, pq_8_9, pq_8_10, pq_8_11, pq_8_12, pq_8_13, pq_8_14, pq_8_15, pq_8_16, pq_8_17, pq_8_18, pq_8_19, pq_8_20, pq_8_21, pq_8_22, pq_8_23, pq_9_0, pq_9_1, pq_9_2, pq_11_0, pq_11_1, pq_11_2, pq_11_3, pq_12_0, pq_12_1, pq_12_2, pq_12_3] (by rfl) (by decide +kernel)
set_option maxRecDepth 20000 in
theorem gX8_held_X8_told : GoodIn wsX8_held (va_wsS RX8 111 yX8_told wsX8_told) := goodIn_app (goodIn_s seX8_held _ [pq_1_9, pq_1_10, pq_1_6] (by rfl) (by decide +kernel)) ggX8_held_X8_told
def lb_sgX8_held : List (List UInt8) := [[42, 3, 3, 182, 0, 81, 87, 42, 180, 0, 24, 42, 180, 0, 132, 42], [180, 0, 129, 184, 0, 111, 176]]
set_option maxRecDepth 100000 in
theorem lb_seX8_held : cX8_held.data.toList = lb_sgX8_held.flatten := by decide +kernel
theorem lb_lnX8_held : ∀ s ∈ lb_sgX8_held.dropLast, s.length = 16 := by decide +kernel
theorem lxX8_held (k j : Nat) {b : UInt8} (h : (lb_sgX8_held[k]?).bind (fun s => s[j]?) = some b) : lb_at cX8_held (16 * k + j) b := by
  unfold lb_at
  rw [lb_seX8_held]
  exact lb_flat 16 lb_sgX8_held k j b lb_lnX8_held h
set_option maxRecDepth 20000 in
theorem dX8_held_0 : decode cX8_held 0 = .ok (.aload_n 0, 1) := dc_42 (lxX8_held 0 0 rfl)
set_option maxRecDepth 20000 in
theorem dX8_held_1 : decode cX8_held 1 = .ok (.iconst 0, 1) := dc_3 (lxX8_held 0 1 rfl)
set_option maxRecDepth 20000 in
theorem dX8_held_2 : decode cX8_held 2 = .ok (.iconst 0, 1) := dc_3 (lxX8_held 0 2 rfl)
set_option maxRecDepth 20000 in
theorem dX8_held_3 : decode cX8_held 3 = .ok (.invokevirtual 81, 3) := dc_182 0 81 (lxX8_held 0 3 rfl) (lxX8_held 0 4 rfl) (lxX8_held 0 5 rfl)
set_option maxRecDepth 20000 in
theorem dX8_held_6 : decode cX8_held 6 = .ok (.pop, 1) := dc_87 (lxX8_held 0 6 rfl)
set_option maxRecDepth 20000 in
theorem dX8_held_7 : decode cX8_held 7 = .ok (.aload_n 0, 1) := dc_42 (lxX8_held 0 7 rfl)
set_option maxRecDepth 20000 in
theorem dX8_held_8 : decode cX8_held 8 = .ok (.getfield 24, 3) := dc_180 0 24 (lxX8_held 0 8 rfl) (lxX8_held 0 9 rfl) (lxX8_held 0 10 rfl)
set_option maxRecDepth 20000 in
theorem dX8_held_11 : decode cX8_held 11 = .ok (.aload_n 0, 1) := dc_42 (lxX8_held 0 11 rfl)
set_option maxRecDepth 20000 in
theorem dX8_held_12 : decode cX8_held 12 = .ok (.getfield 132, 3) := dc_180 0 132 (lxX8_held 0 12 rfl) (lxX8_held 0 13 rfl) (lxX8_held 0 14 rfl)
set_option maxRecDepth 20000 in
theorem dX8_held_15 : decode cX8_held 15 = .ok (.aload_n 0, 1) := dc_42 (lxX8_held 0 15 rfl)
set_option maxRecDepth 20000 in
theorem dX8_held_16 : decode cX8_held 16 = .ok (.getfield 129, 3) := dc_180 0 129 (lxX8_held 1 0 rfl) (lxX8_held 1 1 rfl) (lxX8_held 1 2 rfl)
set_option maxRecDepth 20000 in
theorem dX8_held_19 : decode cX8_held 19 = .ok (.invokestatic 111, 3) := dc_184 0 111 (lxX8_held 1 3 rfl) (lxX8_held 1 4 rfl) (lxX8_held 1 5 rfl)
set_option maxRecDepth 20000 in
theorem dX8_held_22 : decode cX8_held 22 = .ok (.areturn, 1) := dc_176 (lxX8_held 1 6 rfl)
noncomputable def sgX8_travelled : List (List Cond) := [[.code yX8_travelled cX8_travelled 2 (some (.object "java/lang/String"))], wsX8_travelled_r1, wsX8_travelled_r2, wsX8_travelled_r3, wsX8_travelled_r4, wsX8_travelled_r5, wsX8_travelled_r6, wsX8_travelled_r7, wsX8_travelled_r8, wsX8_travelled_r9, wsX80, wsJ40, wsJ00]
theorem seX8_travelled : sgX8_travelled.flatten = wsX8_travelled := by simp only [sgX8_travelled, wsX8_travelled, List.flatten_cons, List.flatten_nil, List.append_assoc, List.append_nil, List.cons_append, List.nil_append]
set_option maxRecDepth 20000 in
theorem ggX8_travelled_X8_isNo : GoodIn wsX8_travelled wsX8_isNo := goodIn_s seX8_travelled _ [pq_1_6] (by rfl) (by decide +kernel)
set_option maxRecDepth 20000 in
theorem gX8_travelled_X8_isNo : GoodIn wsX8_travelled (va_wsS RX8 41 yX8_isNo wsX8_isNo) := goodIn_app (goodIn_s seX8_travelled _ [pq_1_3, pq_1_4, pq_1_5] (by rfl) (by decide +kernel)) ggX8_travelled_X8_isNo
set_option maxRecDepth 20000 in
theorem ggX8_travelled_X8_isThrown : GoodIn wsX8_travelled wsX8_isThrown := goodIn_s seX8_travelled _ [pq_1_10, pq_1_11, pq_10_0, pq_10_1, pq_10_2, pq_10_3, pq_10_4, pq_10_5, pq_10_6, pq_10_7, pq_10_8, pq_10_9, pq_10_10] (by rfl) (by decide +kernel)
set_option maxRecDepth 20000 in
theorem gX8_travelled_X8_isThrown : GoodIn wsX8_travelled (wsV RX8 81 RX8 yX8_isThrown wsX8_isThrown) := goodIn_app (goodIn_s seX8_travelled _ [pq_1_7, pq_1_8, pq_1_9, pq_1_5] (by rfl) (by decide +kernel)) ggX8_travelled_X8_isThrown
set_option maxRecDepth 20000 in
theorem ggX8_travelled_X8_told : GoodIn wsX8_travelled wsX8_told := goodIn_s seX8_travelled _ [pq_1_14, pq_1_15, pq_1_16, pq_1_17, pq_1_18, pq_1_19, pq_1_20, pq_1_21, pq_1_22, pq_1_23, pq_2_0, pq_2_1, pq_2_2, pq_2_3, pq_2_4, pq_2_5, pq_2_6, pq_2_7, pq_2_8, pq_2_9, pq_2_10, pq_2_11, pq_2_12, pq_2_13, pq_2_14, pq_2_15, pq_2_16, pq_2_17, pq_2_18, pq_2_19, pq_2_20, pq_2_21, pq_2_22, pq_2_23, pq_3_0, pq_3_1, pq_3_2, pq_3_3, pq_3_4, pq_3_5, pq_3_6, pq_3_7, pq_3_8, pq_3_9, pq_3_10, pq_3_11, pq_3_12, pq_3_13, pq_3_14, pq_3_15, pq_3_16, pq_3_17, pq_3_18, pq_3_19, pq_3_20, pq_3_21, pq_3_22, pq_3_23, pq_4_0, pq_4_1, pq_4_2, pq_4_3, pq_4_4, pq_4_5, pq_4_6, pq_4_7, pq_4_8, pq_4_9, pq_4_10, pq_4_11, pq_4_12, pq_4_13, pq_4_14, pq_4_15, pq_4_16, pq_4_17, pq_4_18, pq_4_19, pq_4_20, pq_4_21, pq_4_22, pq_4_23, pq_5_0, pq_5_1, pq_5_2, pq_5_3, pq_5_4, pq_5_5, pq_5_6, pq_5_7, pq_5_8, pq_5_9, pq_5_10, pq_5_11, pq_5_12, pq_5_13, pq_5_14, pq_5_15, pq_5_16, pq_5_17, pq_5_18, pq_5_19, pq_5_20, pq_5_21, pq_5_22, pq_5_23, pq_6_0, pq_6_1, pq_6_2, pq_6_3, pq_6_4, pq_6_5, pq_6_6, pq_6_7, pq_6_8, pq_6_9, pq_6_10, pq_6_11, pq_6_12, pq_6_13, pq_6_14, pq_6_15, pq_6_16, pq_6_17, pq_6_18, pq_6_19, pq_6_20, pq_6_21, pq_6_22, pq_6_23, pq_7_0, pq_7_1, pq_7_2, pq_7_3, pq_7_4, pq_7_5, pq_7_6, pq_7_7, pq_7_8, pq_7_9, pq_7_10, pq_7_11, pq_7_12, pq_7_13, pq_7_14, pq_7_15, pq_7_16, pq_7_17, pq_7_18, pq_7_19, pq_7_20, pq_7_21, pq_7_22, pq_7_23, pq_8_0, pq_8_1, pq_8_2, pq_8_3, pq_8_4, pq_8_5, pq_8_6, pq_8_7, pq_8_8, pq_8_9, pq_8_10, pq_8_11, pq_8_12, pq_8_13, pq_8_14, pq_8_15, pq_8_16, pq_8_17, pq_8_18, pq_8_19, pq_8_20, pq_8_21, pq_8_22, pq_8_23, pq_9_0, pq_9_1, pq_9_2, pq_9_3, pq_9_4, pq_9_5, pq_11_0, pq_11_1, pq_11_2, pq_11_3, pq_12_0, pq_12_1, pq_12_2, pq_12_3] (by rfl) (by decide +kernel)
set_option maxRecDepth 20000 in
theorem gX8_travelled_X8_told : GoodIn wsX8_travelled (va_wsS RX8 111 yX8_told wsX8_told) := goodIn_app (goodIn_s seX8_travelled _ [pq_1_12, pq_1_13, pq_1_5] (by rfl) (by decide +kernel)) ggX8_travelled_X8_told
def lb_sgX8_travelled : List (List UInt8) := [[42, 27, 3, 4, 184, 0, 41, 3, 182, 0, 81, 153, 0, 8, 18, 109], [167, 0, 26, 42, 180, 0, 24, 3, 27, 154, 0, 10, 42, 180, 0, 129], [167, 0, 7, 42, 180, 0, 132, 184, 0, 111, 176]]
set_option maxRecDepth 100000 in
theorem lb_seX8_travelled : cX8_travelled.data.toList = lb_sgX8_travelled.flatten := by decide +kernel
theorem lb_lnX8_travelled : ∀ s ∈ lb_sgX8_travelled.dropLast, s.length = 16 := by decide +kernel
theorem lxX8_travelled (k j : Nat) {b : UInt8} (h : (lb_sgX8_travelled[k]?).bind (fun s => s[j]?) = some b) : lb_at cX8_travelled (16 * k + j) b := by
  unfold lb_at
  rw [lb_seX8_travelled]
  exact lb_flat 16 lb_sgX8_travelled k j b lb_lnX8_travelled h
set_option maxRecDepth 20000 in
theorem dX8_travelled_0 : decode cX8_travelled 0 = .ok (.aload_n 0, 1) := dc_42 (lxX8_travelled 0 0 rfl)
set_option maxRecDepth 20000 in
theorem dX8_travelled_1 : decode cX8_travelled 1 = .ok (.iload_n 1, 1) := dc_27 (lxX8_travelled 0 1 rfl)
set_option maxRecDepth 20000 in
theorem dX8_travelled_2 : decode cX8_travelled 2 = .ok (.iconst 0, 1) := dc_3 (lxX8_travelled 0 2 rfl)
set_option maxRecDepth 20000 in
theorem dX8_travelled_3 : decode cX8_travelled 3 = .ok (.iconst 1, 1) := dc_4 (lxX8_travelled 0 3 rfl)
set_option maxRecDepth 20000 in
theorem dX8_travelled_4 : decode cX8_travelled 4 = .ok (.invokestatic 41, 3) := dc_184 0 41 (lxX8_travelled 0 4 rfl) (lxX8_travelled 0 5 rfl) (lxX8_travelled 0 6 rfl)
set_option maxRecDepth 20000 in
theorem dX8_travelled_7 : decode cX8_travelled 7 = .ok (.iconst 0, 1) := dc_3 (lxX8_travelled 0 7 rfl)
set_option maxRecDepth 20000 in
theorem dX8_travelled_8 : decode cX8_travelled 8 = .ok (.invokevirtual 81, 3) := dc_182 0 81 (lxX8_travelled 0 8 rfl) (lxX8_travelled 0 9 rfl) (lxX8_travelled 0 10 rfl)
set_option maxRecDepth 20000 in
theorem dX8_travelled_11 : decode cX8_travelled 11 = .ok (.ifCond .eq 8, 3) := dc_153 0 8 (lxX8_travelled 0 11 rfl) (lxX8_travelled 0 12 rfl) (lxX8_travelled 0 13 rfl)
set_option maxRecDepth 20000 in
theorem dX8_travelled_14 : decode cX8_travelled 14 = .ok (.ldc 109, 2) := dc_18 109 (lxX8_travelled 0 14 rfl) (lxX8_travelled 0 15 rfl)
set_option maxRecDepth 20000 in
theorem dX8_travelled_16 : decode cX8_travelled 16 = .ok (.goto 26, 3) := dc_167 0 26 (lxX8_travelled 1 0 rfl) (lxX8_travelled 1 1 rfl) (lxX8_travelled 1 2 rfl)
set_option maxRecDepth 20000 in
theorem dX8_travelled_19 : decode cX8_travelled 19 = .ok (.aload_n 0, 1) := dc_42 (lxX8_travelled 1 3 rfl)
set_option maxRecDepth 20000 in
theorem dX8_travelled_20 : decode cX8_travelled 20 = .ok (.getfield 24, 3) := dc_180 0 24 (lxX8_travelled 1 4 rfl) (lxX8_travelled 1 5 rfl) (lxX8_travelled 1 6 rfl)
set_option maxRecDepth 20000 in
theorem dX8_travelled_23 : decode cX8_travelled 23 = .ok (.iconst 0, 1) := dc_3 (lxX8_travelled 1 7 rfl)
set_option maxRecDepth 20000 in
theorem dX8_travelled_24 : decode cX8_travelled 24 = .ok (.iload_n 1, 1) := dc_27 (lxX8_travelled 1 8 rfl)
set_option maxRecDepth 20000 in
theorem dX8_travelled_25 : decode cX8_travelled 25 = .ok (.ifCond .ne 10, 3) := dc_154 0 10 (lxX8_travelled 1 9 rfl) (lxX8_travelled 1 10 rfl) (lxX8_travelled 1 11 rfl)
set_option maxRecDepth 20000 in
theorem dX8_travelled_28 : decode cX8_travelled 28 = .ok (.aload_n 0, 1) := dc_42 (lxX8_travelled 1 12 rfl)
set_option maxRecDepth 20000 in
theorem dX8_travelled_29 : decode cX8_travelled 29 = .ok (.getfield 129, 3) := dc_180 0 129 (lxX8_travelled 1 13 rfl) (lxX8_travelled 1 14 rfl) (lxX8_travelled 1 15 rfl)
set_option maxRecDepth 20000 in
theorem dX8_travelled_32 : decode cX8_travelled 32 = .ok (.goto 7, 3) := dc_167 0 7 (lxX8_travelled 2 0 rfl) (lxX8_travelled 2 1 rfl) (lxX8_travelled 2 2 rfl)
set_option maxRecDepth 20000 in
theorem dX8_travelled_35 : decode cX8_travelled 35 = .ok (.aload_n 0, 1) := dc_42 (lxX8_travelled 2 3 rfl)
set_option maxRecDepth 20000 in
theorem dX8_travelled_36 : decode cX8_travelled 36 = .ok (.getfield 132, 3) := dc_180 0 132 (lxX8_travelled 2 4 rfl) (lxX8_travelled 2 5 rfl) (lxX8_travelled 2 6 rfl)
set_option maxRecDepth 20000 in
theorem dX8_travelled_39 : decode cX8_travelled 39 = .ok (.invokestatic 111, 3) := dc_184 0 111 (lxX8_travelled 2 7 rfl) (lxX8_travelled 2 8 rfl) (lxX8_travelled 2 9 rfl)
set_option maxRecDepth 20000 in
theorem dX8_travelled_42 : decode cX8_travelled 42 = .ok (.areturn, 1) := dc_176 (lxX8_travelled 2 10 rfl)
noncomputable def sgX8_house : List (List Cond) := [[.code yX8_house cX8_house 2 (some .int)], [.fieldLink RX8 31 "SashwordsModel" "tallies" "[I", .methodLink RX8 41 yX8_isNo, .static yX8_isNo, .initialized RX8, .code yX8_isNo cX8_isNo 3 (some .boolean), .methodLink RX8 81 yX8_isThrown, .instanceMethod yX8_isThrown, .selects RX8 yX8_isThrown yX8_isThrown, .code yX8_isThrown cX8_isThrown 3 (some .boolean), .fieldLink RX8 38 "SashwordsModel" "thrown" "I"], wsX80]
theorem seX8_house : sgX8_house.flatten = wsX8_house := by simp only [sgX8_house, wsX8_house, List.flatten_cons, List.flatten_nil, List.append_assoc, List.append_nil, List.cons_append, List.nil_append]
set_option maxRecDepth 20000 in
theorem ggX8_house_X8_isNo : GoodIn wsX8_house wsX8_isNo := goodIn_s seX8_house _ [pq_1_4] (by rfl) (by decide +kernel)
set_option maxRecDepth 20000 in
theorem gX8_house_X8_isNo : GoodIn wsX8_house (va_wsS RX8 41 yX8_isNo wsX8_isNo) := goodIn_app (goodIn_s seX8_house _ [pq_1_1, pq_1_2, pq_1_3] (by rfl) (by decide +kernel)) ggX8_house_X8_isNo
set_option maxRecDepth 20000 in
theorem ggX8_house_X8_isThrown : GoodIn wsX8_house wsX8_isThrown := goodIn_s seX8_house _ [pq_1_8, pq_1_9, pq_2_0, pq_2_1, pq_2_2, pq_2_3, pq_2_4, pq_2_5, pq_2_6, pq_2_7, pq_2_8, pq_2_9, pq_2_10] (by rfl) (by decide +kernel)
set_option maxRecDepth 20000 in
theorem gX8_house_X8_isThrown : GoodIn wsX8_house (wsV RX8 81 RX8 yX8_isThrown wsX8_isThrown) := goodIn_app (goodIn_s seX8_house _ [pq_1_5, pq_1_6, pq_1_7, pq_1_3] (by rfl) (by decide +kernel)) ggX8_house_X8_isThrown
def lb_sgX8_house : List (List UInt8) := [[42, 27, 3, 6, 184, 0, 41, 3, 182, 0, 81, 153, 0, 7, 3, 167], [0, 9, 42, 180, 0, 31, 27, 46, 172]]
set_option maxRecDepth 100000 in
theorem lb_seX8_house : cX8_house.data.toList = lb_sgX8_house.flatten := by decide +kernel
theorem lb_lnX8_house : ∀ s ∈ lb_sgX8_house.dropLast, s.length = 16 := by decide +kernel
theorem lxX8_house (k j : Nat) {b : UInt8} (h : (lb_sgX8_house[k]?).bind (fun s => s[j]?) = some b) : lb_at cX8_house (16 * k + j) b := by
  unfold lb_at
  rw [lb_seX8_house]
  exact lb_flat 16 lb_sgX8_house k j b lb_lnX8_house h
set_option maxRecDepth 20000 in
theorem dX8_house_0 : decode cX8_house 0 = .ok (.aload_n 0, 1) := dc_42 (lxX8_house 0 0 rfl)
set_option maxRecDepth 20000 in
theorem dX8_house_1 : decode cX8_house 1 = .ok (.iload_n 1, 1) := dc_27 (lxX8_house 0 1 rfl)
set_option maxRecDepth 20000 in
theorem dX8_house_2 : decode cX8_house 2 = .ok (.iconst 0, 1) := dc_3 (lxX8_house 0 2 rfl)
set_option maxRecDepth 20000 in
theorem dX8_house_3 : decode cX8_house 3 = .ok (.iconst 3, 1) := dc_6 (lxX8_house 0 3 rfl)
set_option maxRecDepth 20000 in
theorem dX8_house_4 : decode cX8_house 4 = .ok (.invokestatic 41, 3) := dc_184 0 41 (lxX8_house 0 4 rfl) (lxX8_house 0 5 rfl) (lxX8_house 0 6 rfl)
set_option maxRecDepth 20000 in
theorem dX8_house_7 : decode cX8_house 7 = .ok (.iconst 0, 1) := dc_3 (lxX8_house 0 7 rfl)
set_option maxRecDepth 20000 in
theorem dX8_house_8 : decode cX8_house 8 = .ok (.invokevirtual 81, 3) := dc_182 0 81 (lxX8_house 0 8 rfl) (lxX8_house 0 9 rfl) (lxX8_house 0 10 rfl)
set_option maxRecDepth 20000 in
theorem dX8_house_11 : decode cX8_house 11 = .ok (.ifCond .eq 7, 3) := dc_153 0 7 (lxX8_house 0 11 rfl) (lxX8_house 0 12 rfl) (lxX8_house 0 13 rfl)
set_option maxRecDepth 20000 in
theorem dX8_house_14 : decode cX8_house 14 = .ok (.iconst 0, 1) := dc_3 (lxX8_house 0 14 rfl)
set_option maxRecDepth 20000 in
theorem dX8_house_15 : decode cX8_house 15 = .ok (.goto 9, 3) := dc_167 0 9 (lxX8_house 0 15 rfl) (lxX8_house 1 0 rfl) (lxX8_house 1 1 rfl)
set_option maxRecDepth 20000 in
theorem dX8_house_18 : decode cX8_house 18 = .ok (.aload_n 0, 1) := dc_42 (lxX8_house 1 2 rfl)
set_option maxRecDepth 20000 in
theorem dX8_house_19 : decode cX8_house 19 = .ok (.getfield 31, 3) := dc_180 0 31 (lxX8_house 1 3 rfl) (lxX8_house 1 4 rfl) (lxX8_house 1 5 rfl)
set_option maxRecDepth 20000 in
theorem dX8_house_22 : decode cX8_house 22 = .ok (.iload_n 1, 1) := dc_27 (lxX8_house 1 6 rfl)
set_option maxRecDepth 20000 in
theorem dX8_house_23 : decode cX8_house 23 = .ok (.iaload, 1) := dc_46 (lxX8_house 1 7 rfl)
set_option maxRecDepth 20000 in
theorem dX8_house_24 : decode cX8_house 24 = .ok (.ireturn, 1) := dc_172 (lxX8_house 1 8 rfl)
noncomputable def sgX8_knock : List (List Cond) := [[.code yX8_knock cX8_knock 1 (some .int)], [.fieldLink RX8 31 "SashwordsModel" "tallies" "[I", .methodLink RX8 81 yX8_isThrown, .instanceMethod yX8_isThrown, .selects RX8 yX8_isThrown yX8_isThrown, .initialized RX8, .code yX8_isThrown cX8_isThrown 3 (some .boolean), .fieldLink RX8 38 "SashwordsModel" "thrown" "I"], wsX80]
theorem seX8_knock : sgX8_knock.flatten = wsX8_knock := by simp only [sgX8_knock, wsX8_knock, List.flatten_cons, List.flatten_nil, List.append_assoc, List.append_nil, List.cons_append, List.nil_append]
set_option maxRecDepth 20000 in
theorem ggX8_knock_X8_isThrown : GoodIn wsX8_knock wsX8_isThrown := goodIn_s seX8_knock _ [pq_1_5, pq_1_6, pq_2_0, pq_2_1, pq_2_2, pq_2_3, pq_2_4, pq_2_5, pq_2_6, pq_2_7, pq_2_8, pq_2_9, pq_2_10] (by rfl) (by decide +kernel)
set_option maxRecDepth 20000 in
theorem gX8_knock_X8_isThrown : GoodIn wsX8_knock (wsV RX8 81 RX8 yX8_isThrown wsX8_isThrown) := goodIn_app (goodIn_s seX8_knock _ [pq_1_1, pq_1_2, pq_1_3, pq_1_4] (by rfl) (by decide +kernel)) ggX8_knock_X8_isThrown
def lb_sgX8_knock : List (List UInt8) := [[42, 3, 3, 182, 0, 81, 87, 42, 180, 0, 31, 5, 92, 46, 4, 96], [91, 79, 172]]
set_option maxRecDepth 100000 in
theorem lb_seX8_knock : cX8_knock.data.toList = lb_sgX8_knock.flatten := by decide +kernel
theorem lb_lnX8_knock : ∀ s ∈ lb_sgX8_knock.dropLast, s.length = 16 := by decide +kernel
theorem lxX8_knock (k j : Nat) {b : UInt8} (h : (lb_sgX8_knock[k]?).bind (fun s => s[j]?) = some b) : lb_at cX8_knock (16 * k + j) b := by
  unfold lb_at
  rw [lb_seX8_knock]
  exact lb_flat 16 lb_sgX8_knock k j b lb_lnX8_knock h
set_option maxRecDepth 20000 in
theorem dX8_knock_0 : decode cX8_knock 0 = .ok (.aload_n 0, 1) := dc_42 (lxX8_knock 0 0 rfl)
set_option maxRecDepth 20000 in
theorem dX8_knock_1 : decode cX8_knock 1 = .ok (.iconst 0, 1) := dc_3 (lxX8_knock 0 1 rfl)
set_option maxRecDepth 20000 in
theorem dX8_knock_2 : decode cX8_knock 2 = .ok (.iconst 0, 1) := dc_3 (lxX8_knock 0 2 rfl)
set_option maxRecDepth 20000 in
theorem dX8_knock_3 : decode cX8_knock 3 = .ok (.invokevirtual 81, 3) := dc_182 0 81 (lxX8_knock 0 3 rfl) (lxX8_knock 0 4 rfl) (lxX8_knock 0 5 rfl)
set_option maxRecDepth 20000 in
theorem dX8_knock_6 : decode cX8_knock 6 = .ok (.pop, 1) := dc_87 (lxX8_knock 0 6 rfl)
set_option maxRecDepth 20000 in
theorem dX8_knock_7 : decode cX8_knock 7 = .ok (.aload_n 0, 1) := dc_42 (lxX8_knock 0 7 rfl)
set_option maxRecDepth 20000 in
theorem dX8_knock_8 : decode cX8_knock 8 = .ok (.getfield 31, 3) := dc_180 0 31 (lxX8_knock 0 8 rfl) (lxX8_knock 0 9 rfl) (lxX8_knock 0 10 rfl)
set_option maxRecDepth 20000 in
theorem dX8_knock_11 : decode cX8_knock 11 = .ok (.iconst 2, 1) := dc_5 (lxX8_knock 0 11 rfl)
set_option maxRecDepth 20000 in
theorem dX8_knock_12 : decode cX8_knock 12 = .ok (.dup2, 1) := dc_92 (lxX8_knock 0 12 rfl)
set_option maxRecDepth 20000 in
theorem dX8_knock_13 : decode cX8_knock 13 = .ok (.iaload, 1) := dc_46 (lxX8_knock 0 13 rfl)
set_option maxRecDepth 20000 in
theorem dX8_knock_14 : decode cX8_knock 14 = .ok (.iconst 1, 1) := dc_4 (lxX8_knock 0 14 rfl)
set_option maxRecDepth 20000 in
theorem dX8_knock_15 : decode cX8_knock 15 = .ok (.iadd, 1) := dc_96 (lxX8_knock 0 15 rfl)
set_option maxRecDepth 20000 in
theorem dX8_knock_16 : decode cX8_knock 16 = .ok (.dup_x2, 1) := dc_91 (lxX8_knock 1 0 rfl)
set_option maxRecDepth 20000 in
theorem dX8_knock_17 : decode cX8_knock 17 = .ok (.iastore, 1) := dc_79 (lxX8_knock 1 1 rfl)
set_option maxRecDepth 20000 in
theorem dX8_knock_18 : decode cX8_knock 18 = .ok (.ireturn, 1) := dc_172 (lxX8_knock 1 2 rfl)
noncomputable def sgX8_isRight : List (List Cond) := [[.code yX8_isRight cX8_isRight 6 (some .boolean)], wsX8_isRight_r1, wsX8_isRight_r2, wsX80]
theorem seX8_isRight : sgX8_isRight.flatten = wsX8_isRight := by simp only [sgX8_isRight, wsX8_isRight, List.flatten_cons, List.flatten_nil, List.append_assoc, List.append_nil, List.cons_append, List.nil_append]
set_option maxRecDepth 20000 in
theorem ggX8_isRight_X8_text : GoodIn wsX8_isRight wsX8_text := goodIn_s seX8_isRight _ [pq_1_11, pq_1_12, pq_1_13, pq_1_14, pq_1_15, pq_1_10, pq_1_16, pq_3_0, pq_3_1, pq_3_2, pq_3_3, pq_3_4, pq_3_5, pq_3_6, pq_3_7, pq_3_8, pq_3_9, pq_3_10] (by rfl) (by decide +kernel)
set_option maxRecDepth 20000 in
theorem gX8_isRight_X8_text : GoodIn wsX8_isRight (wsV RX8 58 RX8 yX8_text wsX8_text) := goodIn_app (goodIn_s seX8_isRight _ [pq_1_7, pq_1_8, pq_1_9, pq_1_10] (by rfl) (by decide +kernel)) ggX8_isRight_X8_text
set_option maxRecDepth 20000 in
theorem ggX8_isRight_X8_nth : GoodIn wsX8_isRight wsX8_nth := goodIn_s seX8_isRight _ [pq_1_19, pq_1_20, pq_1_21, pq_1_10, pq_1_22] (by rfl) (by decide +kernel)
set_option maxRecDepth 20000 in
theorem gX8_isRight_X8_nth : GoodIn wsX8_isRight (va_wsS RX8 142 yX8_nth wsX8_nth) := goodIn_app (goodIn_s seX8_isRight _ [pq_1_17, pq_1_18, pq_1_10] (by rfl) (by decide +kernel)) ggX8_isRight_X8_nth
set_option maxRecDepth 20000 in
theorem ggX8_isRight_X8_lastOf : GoodIn wsX8_isRight wsX8_lastOf := goodIn_s seX8_isRight _ [pq_2_1, pq_2_2, pq_2_3, pq_2_4, pq_2_5, pq_1_20, pq_1_21, pq_1_10, pq_1_22] (by rfl) (by decide +kernel)
set_option maxRecDepth 20000 in
theorem gX8_isRight_X8_lastOf : GoodIn wsX8_isRight (va_wsS RX8 149 yX8_lastOf wsX8_lastOf) := goodIn_app (goodIn_s seX8_isRight _ [pq_1_23, pq_2_0, pq_1_10] (by rfl) (by decide +kernel)) ggX8_isRight_X8_lastOf
def lb_sgX8_isRight : List (List UInt8) := [[42, 180, 0, 132, 42, 180, 0, 129, 163, 0, 43, 42, 180, 0, 129, 42], [180, 0, 132, 100, 42, 180, 0, 27, 163, 0, 27, 42, 180, 0, 129, 17], [0, 160, 163, 0, 17, 42, 180, 0, 18, 190, 16, 80, 163, 0, 7, 4], [167, 0, 4, 3, 60, 42, 180, 0, 14, 77, 44, 190, 62, 3, 54, 4], [21, 4, 29, 162, 0, 133, 44, 21, 4, 50, 58, 5, 27, 25, 5, 7], [46, 25, 5, 6, 46, 163, 0, 52, 25, 5, 6, 46, 155, 0, 45, 25], [5, 6, 46, 25, 5, 5, 46, 163, 0, 34, 25, 5, 5, 46, 25, 5], [4, 46, 163, 0, 23, 25, 5, 3, 46, 25, 5, 4, 46, 96, 42, 180], [0, 45, 163, 0, 7, 4, 167, 0, 4, 3, 126, 60, 27, 42, 25, 5], [182, 0, 58, 42, 180, 0, 21, 3, 184, 0, 142, 156, 0, 7, 4, 167], [0, 4, 3, 42, 25, 5, 182, 0, 58, 42, 180, 0, 21, 184, 0, 149], [156, 0, 7, 4, 167, 0, 4, 3, 160, 0, 7, 4, 167, 0, 4, 3], [126, 60, 132, 4, 1, 167, 255, 123, 27, 172]]
set_option maxRecDepth 100000 in
theorem lb_seX8_isRight : cX8_isRight.data.toList = lb_sgX8_isRight.flatten := by decide +kernel
theorem lb_lnX8_isRight : ∀ s ∈ lb_sgX8_isRight.dropLast, s.length = 16 := by decide +kernel
theorem lxX8_isRight (k j : Nat) {b : UInt8} (h : (lb_sgX8_isRight[k]?).bind (fun s => s[j]?) = some b) : lb_at cX8_isRight (16 * k + j) b := by
  unfold lb_at
  rw [lb_seX8_isRight]
  exact lb_flat 16 lb_sgX8_isRight k j b lb_lnX8_isRight h
set_option maxRecDepth 20000 in
theorem dX8_isRight_0 : decode cX8_isRight 0 = .ok (.aload_n 0, 1) := dc_42 (lxX8_isRight 0 0 rfl)
set_option maxRecDepth 20000 in
theorem dX8_isRight_1 : decode cX8_isRight 1 = .ok (.getfield 132, 3) := dc_180 0 132 (lxX8_isRight 0 1 rfl) (lxX8_isRight 0 2 rfl) (lxX8_isRight 0 3 rfl)
set_option maxRecDepth 20000 in
theorem dX8_isRight_4 : decode cX8_isRight 4 = .ok (.aload_n 0, 1) := dc_42 (lxX8_isRight 0 4 rfl)
set_option maxRecDepth 20000 in
theorem dX8_isRight_5 : decode cX8_isRight 5 = .ok (.getfield 129, 3) := dc_180 0 129 (lxX8_isRight 0 5 rfl) (lxX8_isRight 0 6 rfl) (lxX8_isRight 0 7 rfl)
set_option maxRecDepth 20000 in
theorem dX8_isRight_8 : decode cX8_isRight 8 = .ok (.if_icmp .gt 43, 3) := dc_163 0 43 (lxX8_isRight 0 8 rfl) (lxX8_isRight 0 9 rfl) (lxX8_isRight 0 10 rfl)
set_option maxRecDepth 20000 in
theorem dX8_isRight_11 : decode cX8_isRight 11 = .ok (.aload_n 0, 1) := dc_42 (lxX8_isRight 0 11 rfl)
set_option maxRecDepth 20000 in
theorem dX8_isRight_12 : decode cX8_isRight 12 = .ok (.getfield 129, 3) := dc_180 0 129 (lxX8_isRight 0 12 rfl) (lxX8_isRight 0 13 rfl) (lxX8_isRight 0 14 rfl)
set_option maxRecDepth 20000 in
theorem dX8_isRight_15 : decode cX8_isRight 15 = .ok (.aload_n 0, 1) := dc_42 (lxX8_isRight 0 15 rfl)
set_option maxRecDepth 20000 in
theorem dX8_isRight_16 : decode cX8_isRight 16 = .ok (.getfield 132, 3) := dc_180 0 132 (lxX8_isRight 1 0 rfl) (lxX8_isRight 1 1 rfl) (lxX8_isRight 1 2 rfl)
set_option maxRecDepth 20000 in
theorem dX8_isRight_19 : decode cX8_isRight 19 = .ok (.isub, 1) := dc_100 (lxX8_isRight 1 3 rfl)
set_option maxRecDepth 20000 in
theorem dX8_isRight_20 : decode cX8_isRight 20 = .ok (.aload_n 0, 1) := dc_42 (lxX8_isRight 1 4 rfl)
set_option maxRecDepth 20000 in
theorem dX8_isRight_21 : decode cX8_isRight 21 = .ok (.getfield 27, 3) := dc_180 0 27 (lxX8_isRight 1 5 rfl) (lxX8_isRight 1 6 rfl) (lxX8_isRight 1 7 rfl)
set_option maxRecDepth 20000 in
theorem dX8_isRight_24 : decode cX8_isRight 24 = .ok (.if_icmp .gt 27, 3) := dc_163 0 27 (lxX8_isRight 1 8 rfl) (lxX8_isRight 1 9 rfl) (lxX8_isRight 1 10 rfl)
set_option maxRecDepth 20000 in
theorem dX8_isRight_27 : decode cX8_isRight 27 = .ok (.aload_n 0, 1) := dc_42 (lxX8_isRight 1 11 rfl)
set_option maxRecDepth 20000 in
theorem dX8_isRight_28 : decode cX8_isRight 28 = .ok (.getfield 129, 3) := dc_180 0 129 (lxX8_isRight 1 12 rfl) (lxX8_isRight 1 13 rfl) (lxX8_isRight 1 14 rfl)
set_option maxRecDepth 20000 in
theorem dX8_isRight_31 : decode cX8_isRight 31 = .ok (.sipush 160, 3) := dc_17 0 160 (lxX8_isRight 1 15 rfl) (lxX8_isRight 2 0 rfl) (lxX8_isRight 2 1 rfl)
set_option maxRecDepth 20000 in
theorem dX8_isRight_34 : decode cX8_isRight 34 = .ok (.if_icmp .gt 17, 3) := dc_163 0 17 (lxX8_isRight 2 2 rfl) (lxX8_isRight 2 3 rfl) (lxX8_isRight 2 4 rfl)
set_option maxRecDepth 20000 in
theorem dX8_isRight_37 : decode cX8_isRight 37 = .ok (.aload_n 0, 1) := dc_42 (lxX8_isRight 2 5 rfl)
set_option maxRecDepth 20000 in
theorem dX8_isRight_38 : decode cX8_isRight 38 = .ok (.getfield 18, 3) := dc_180 0 18 (lxX8_isRight 2 6 rfl) (lxX8_isRight 2 7 rfl) (lxX8_isRight 2 8 rfl)
set_option maxRecDepth 20000 in
theorem dX8_isRight_41 : decode cX8_isRight 41 = .ok (.arraylength, 1) := dc_190 (lxX8_isRight 2 9 rfl)
set_option maxRecDepth 20000 in
theorem dX8_isRight_42 : decode cX8_isRight 42 = .ok (.bipush 80, 2) := dc_16 80 (lxX8_isRight 2 10 rfl) (lxX8_isRight 2 11 rfl)
set_option maxRecDepth 20000 in
theorem dX8_isRight_44 : decode cX8_isRight 44 = .ok (.if_icmp .gt 7, 3) := dc_163 0 7 (lxX8_isRight 2 12 rfl) (lxX8_isRight 2 13 rfl) (lxX8_isRight 2 14 rfl)
set_option maxRecDepth 20000 in
theorem dX8_isRight_47 : decode cX8_isRight 47 = .ok (.iconst 1, 1) := dc_4 (lxX8_isRight 2 15 rfl)
set_option maxRecDepth 20000 in
theorem dX8_isRight_48 : decode cX8_isRight 48 = .ok (.goto 4, 3) := dc_167 0 4 (lxX8_isRight 3 0 rfl) (lxX8_isRight 3 1 rfl) (lxX8_isRight 3 2 rfl)
set_option maxRecDepth 20000 in
theorem dX8_isRight_51 : decode cX8_isRight 51 = .ok (.iconst 0, 1) := dc_3 (lxX8_isRight 3 3 rfl)
set_option maxRecDepth 20000 in
theorem dX8_isRight_52 : decode cX8_isRight 52 = .ok (.istore_n 1, 1) := dc_60 (lxX8_isRight 3 4 rfl)
set_option maxRecDepth 20000 in
theorem dX8_isRight_53 : decode cX8_isRight 53 = .ok (.aload_n 0, 1) := dc_42 (lxX8_isRight 3 5 rfl)
set_option maxRecDepth 20000 in
theorem dX8_isRight_54 : decode cX8_isRight 54 = .ok (.getfield 14, 3) := dc_180 0 14 (lxX8_isRight 3 6 rfl) (lxX8_isRight 3 7 rfl) (lxX8_isRight 3 8 rfl)
set_option maxRecDepth 20000 in
theorem dX8_isRight_57 : decode cX8_isRight 57 = .ok (.astore_n 2, 1) := dc_77 (lxX8_isRight 3 9 rfl)
set_option maxRecDepth 20000 in
theorem dX8_isRight_58 : decode cX8_isRight 58 = .ok (.aload_n 2, 1) := dc_44 (lxX8_isRight 3 10 rfl)
set_option maxRecDepth 20000 in
theorem dX8_isRight_59 : decode cX8_isRight 59 = .ok (.arraylength, 1) := dc_190 (lxX8_isRight 3 11 rfl)
set_option maxRecDepth 20000 in
theorem dX8_isRight_60 : decode cX8_isRight 60 = .ok (.istore_n 3, 1) := dc_62 (lxX8_isRight 3 12 rfl)
set_option maxRecDepth 20000 in
theorem dX8_isRight_61 : decode cX8_isRight 61 = .ok (.iconst 0, 1) := dc_3 (lxX8_isRight 3 13 rfl)
set_option maxRecDepth 20000 in
theorem dX8_isRight_62 : decode cX8_isRight 62 = .ok (.istore 4, 2) := dc_54 4 (lxX8_isRight 3 14 rfl) (lxX8_isRight 3 15 rfl)
set_option maxRecDepth 20000 in
theorem dX8_isRight_64 : decode cX8_isRight 64 = .ok (.iload 4, 2) := dc_21 4 (lxX8_isRight 4 0 rfl) (lxX8_isRight 4 1 rfl)
set_option maxRecDepth 20000 in
theorem dX8_isRight_66 : decode cX8_isRight 66 = .ok (.iload_n 3, 1) := dc_29 (lxX8_isRight 4 2 rfl)
set_option maxRecDepth 20000 in
theorem dX8_isRight_67 : decode cX8_isRight 67 = .ok (.if_icmp .ge 133, 3) := dc_162 0 133 (lxX8_isRight 4 3 rfl) (lxX8_isRight 4 4 rfl) (lxX8_isRight 4 5 rfl)
set_option maxRecDepth 20000 in
theorem dX8_isRight_70 : decode cX8_isRight 70 = .ok (.aload_n 2, 1) := dc_44 (lxX8_isRight 4 6 rfl)
set_option maxRecDepth 20000 in
theorem dX8_isRight_71 : decode cX8_isRight 71 = .ok (.iload 4, 2) := dc_21 4 (lxX8_isRight 4 7 rfl) (lxX8_isRight 4 8 rfl)
set_option maxRecDepth 20000 in
theorem dX8_isRight_73 : decode cX8_isRight 73 = .ok (.aaload, 1) := dc_50 (lxX8_isRight 4 9 rfl)
set_option maxRecDepth 20000 in
theorem dX8_isRight_74 : decode cX8_isRight 74 = .ok (.astore 5, 2) := dc_58 5 (lxX8_isRight 4 10 rfl) (lxX8_isRight 4 11 rfl)
set_option maxRecDepth 20000 in
theorem dX8_isRight_76 : decode cX8_isRight 76 = .ok (.iload_n 1, 1) := dc_27 (lxX8_isRight 4 12 rfl)
set_option maxRecDepth 20000 in
theorem dX8_isRight_77 : decode cX8_isRight 77 = .ok (.aload 5, 2) := dc_25 5 (lxX8_isRight 4 13 rfl) (lxX8_isRight 4 14 rfl)
set_option maxRecDepth 20000 in
theorem dX8_isRight_79 : decode cX8_isRight 79 = .ok (.iconst 4, 1) := dc_7 (lxX8_isRight 4 15 rfl)
set_option maxRecDepth 20000 in
theorem dX8_isRight_80 : decode cX8_isRight 80 = .ok (.iaload, 1) := dc_46 (lxX8_isRight 5 0 rfl)
set_option maxRecDepth 20000 in
theorem dX8_isRight_81 : decode cX8_isRight 81 = .ok (.aload 5, 2) := dc_25 5 (lxX8_isRight 5 1 rfl) (lxX8_isRight 5 2 rfl)
set_option maxRecDepth 20000 in
theorem dX8_isRight_83 : decode cX8_isRight 83 = .ok (.iconst 3, 1) := dc_6 (lxX8_isRight 5 3 rfl)
set_option maxRecDepth 20000 in
theorem dX8_isRight_84 : decode cX8_isRight 84 = .ok (.iaload, 1) := dc_46 (lxX8_isRight 5 4 rfl)
set_option maxRecDepth 20000 in
theorem dX8_isRight_85 : decode cX8_isRight 85 = .ok (.if_icmp .gt 52, 3) := dc_163 0 52 (lxX8_isRight 5 5 rfl) (lxX8_isRight 5 6 rfl) (lxX8_isRight 5 7 rfl)
set_option maxRecDepth 20000 in
theorem dX8_isRight_88 : decode cX8_isRight 88 = .ok (.aload 5, 2) := dc_25 5 (lxX8_isRight 5 8 rfl) (lxX8_isRight 5 9 rfl)
set_option maxRecDepth 20000 in
theorem dX8_isRight_90 : decode cX8_isRight 90 = .ok (.iconst 3, 1) := dc_6 (lxX8_isRight 5 10 rfl)
set_option maxRecDepth 20000 in
theorem dX8_isRight_91 : decode cX8_isRight 91 = .ok (.iaload, 1) := dc_46 (lxX8_isRight 5 11 rfl)
set_option maxRecDepth 20000 in
theorem dX8_isRight_92 : decode cX8_isRight 92 = .ok (.ifCond .lt 45, 3) := dc_155 0 45 (lxX8_isRight 5 12 rfl) (lxX8_isRight 5 13 rfl) (lxX8_isRight 5 14 rfl)
set_option maxRecDepth 20000 in
theorem dX8_isRight_95 : decode cX8_isRight 95 = .ok (.aload 5, 2) := dc_25 5 (lxX8_isRight 5 15 rfl) (lxX8_isRight 6 0 rfl)
set_option maxRecDepth 20000 in
theorem dX8_isRight_97 : decode cX8_isRight 97 = .ok (.iconst 3, 1) := dc_6 (lxX8_isRight 6 1 rfl)
set_option maxRecDepth 20000 in
theorem dX8_isRight_98 : decode cX8_isRight 98 = .ok (.iaload, 1) := dc_46 (lxX8_isRight 6 2 rfl)
set_option maxRecDepth 20000 in
theorem dX8_isRight_99 : decode cX8_isRight 99 = .ok (.aload 5, 2) := dc_25 5 (lxX8_isRight 6 3 rfl) (lxX8_isRight 6 4 rfl)
set_option maxRecDepth 20000 in
theorem dX8_isRight_101 : decode cX8_isRight 101 = .ok (.iconst 2, 1) := dc_5 (lxX8_isRight 6 5 rfl)
set_option maxRecDepth 20000 in
theorem dX8_isRight_102 : decode cX8_isRight 102 = .ok (.iaload, 1) := dc_46 (lxX8_isRight 6 6 rfl)
set_option maxRecDepth 20000 in
theorem dX8_isRight_103 : decode cX8_isRight 103 = .ok (.if_icmp .gt 34, 3) := dc_163 0 34 (lxX8_isRight 6 7 rfl) (lxX8_isRight 6 8 rfl) (lxX8_isRight 6 9 rfl)
set_option maxRecDepth 20000 in
theorem dX8_isRight_106 : decode cX8_isRight 106 = .ok (.aload 5, 2) := dc_25 5 (lxX8_isRight 6 10 rfl) (lxX8_isRight 6 11 rfl)
set_option maxRecDepth 20000 in
theorem dX8_isRight_108 : decode cX8_isRight 108 = .ok (.iconst 2, 1) := dc_5 (lxX8_isRight 6 12 rfl)
set_option maxRecDepth 20000 in
theorem dX8_isRight_109 : decode cX8_isRight 109 = .ok (.iaload, 1) := dc_46 (lxX8_isRight 6 13 rfl)
set_option maxRecDepth 20000 in
theorem dX8_isRight_110 : decode cX8_isRight 110 = .ok (.aload 5, 2) := dc_25 5 (lxX8_isRight 6 14 rfl) (lxX8_isRight 6 15 rfl)
set_option maxRecDepth 20000 in
theorem dX8_isRight_112 : decode cX8_isRight 112 = .ok (.iconst 1, 1) := dc_4 (lxX8_isRight 7 0 rfl)
set_option maxRecDepth 20000 in
theorem dX8_isRight_113 : decode cX8_isRight 113 = .ok (.iaload, 1) := dc_46 (lxX8_isRight 7 1 rfl)
set_option maxRecDepth 20000 in
theorem dX8_isRight_114 : decode cX8_isRight 114 = .ok (.if_icmp .gt 23, 3) := dc_163 0 23 (lxX8_isRight 7 2 rfl) (lxX8_isRight 7 3 rfl) (lxX8_isRight 7 4 rfl)
set_option maxRecDepth 20000 in
theorem dX8_isRight_117 : decode cX8_isRight 117 = .ok (.aload 5, 2) := dc_25 5 (lxX8_isRight 7 5 rfl) (lxX8_isRight 7 6 rfl)
set_option maxRecDepth 20000 in
theorem dX8_isRight_119 : decode cX8_isRight 119 = .ok (.iconst 0, 1) := dc_3 (lxX8_isRight 7 7 rfl)
set_option maxRecDepth 20000 in
theorem dX8_isRight_120 : decode cX8_isRight 120 = .ok (.iaload, 1) := dc_46 (lxX8_isRight 7 8 rfl)
set_option maxRecDepth 20000 in
theorem dX8_isRight_121 : decode cX8_isRight 121 = .ok (.aload 5, 2) := dc_25 5 (lxX8_isRight 7 9 rfl) (lxX8_isRight 7 10 rfl)
set_option maxRecDepth 20000 in
theorem dX8_isRight_123 : decode cX8_isRight 123 = .ok (.iconst 1, 1) := dc_4 (lxX8_isRight 7 11 rfl)
set_option maxRecDepth 20000 in
theorem dX8_isRight_124 : decode cX8_isRight 124 = .ok (.iaload, 1) := dc_46 (lxX8_isRight 7 12 rfl)
set_option maxRecDepth 20000 in
theorem dX8_isRight_125 : decode cX8_isRight 125 = .ok (.iadd, 1) := dc_96 (lxX8_isRight 7 13 rfl)
set_option maxRecDepth 20000 in
theorem dX8_isRight_126 : decode cX8_isRight 126 = .ok (.aload_n 0, 1) := dc_42 (lxX8_isRight 7 14 rfl)
set_option maxRecDepth 20000 in
theorem dX8_isRight_127 : decode cX8_isRight 127 = .ok (.getfield 45, 3) := dc_180 0 45 (lxX8_isRight 7 15 rfl) (lxX8_isRight 8 0 rfl) (lxX8_isRight 8 1 rfl)
set_option maxRecDepth 20000 in
theorem dX8_isRight_130 : decode cX8_isRight 130 = .ok (.if_icmp .gt 7, 3) := dc_163 0 7 (lxX8_isRight 8 2 rfl) (lxX8_isRight 8 3 rfl) (lxX8_isRight 8 4 rfl)
set_option maxRecDepth 20000 in
theorem dX8_isRight_133 : decode cX8_isRight 133 = .ok (.iconst 1, 1) := dc_4 (lxX8_isRight 8 5 rfl)
set_option maxRecDepth 20000 in
theorem dX8_isRight_134 : decode cX8_isRight 134 = .ok (.goto 4, 3) := dc_167 0 4 (lxX8_isRight 8 6 rfl) (lxX8_isRight 8 7 rfl) (lxX8_isRight 8 8 rfl)
set_option maxRecDepth 20000 in
theorem dX8_isRight_137 : decode cX8_isRight 137 = .ok (.iconst 0, 1) := dc_3 (lxX8_isRight 8 9 rfl)
set_option maxRecDepth 20000 in
theorem dX8_isRight_138 : decode cX8_isRight 138 = .ok (.iand, 1) := dc_126 (lxX8_isRight 8 10 rfl)
set_option maxRecDepth 20000 in
theorem dX8_isRight_139 : decode cX8_isRight 139 = .ok (.istore_n 1, 1) := dc_60 (lxX8_isRight 8 11 rfl)
set_option maxRecDepth 20000 in
theorem dX8_isRight_140 : decode cX8_isRight 140 = .ok (.iload_n 1, 1) := dc_27 (lxX8_isRight 8 12 rfl)
set_option maxRecDepth 20000 in
theorem dX8_isRight_141 : decode cX8_isRight 141 = .ok (.aload_n 0, 1) := dc_42 (lxX8_isRight 8 13 rfl)
set_option maxRecDepth 20000 in
theorem dX8_isRight_142 : decode cX8_isRight 142 = .ok (.aload 5, 2) := dc_25 5 (lxX8_isRight 8 14 rfl) (lxX8_isRight 8 15 rfl)
set_option maxRecDepth 20000 in
theorem dX8_isRight_144 : decode cX8_isRight 144 = .ok (.invokevirtual 58, 3) := dc_182 0 58 (lxX8_isRight 9 0 rfl) (lxX8_isRight 9 1 rfl) (lxX8_isRight 9 2 rfl)
set_option maxRecDepth 20000 in
theorem dX8_isRight_147 : decode cX8_isRight 147 = .ok (.aload_n 0, 1) := dc_42 (lxX8_isRight 9 3 rfl)
set_option maxRecDepth 20000 in
theorem dX8_isRight_148 : decode cX8_isRight 148 = .ok (.getfield 21, 3) := dc_180 0 21 (lxX8_isRight 9 4 rfl) (lxX8_isRight 9 5 rfl) (lxX8_isRight 9 6 rfl)
set_option maxRecDepth 20000 in
theorem dX8_isRight_151 : decode cX8_isRight 151 = .ok (.iconst 0, 1) := dc_3 (lxX8_isRight 9 7 rfl)
set_option maxRecDepth 20000 in
theorem dX8_isRight_152 : decode cX8_isRight 152 = .ok (.invokestatic 142, 3) := dc_184 0 142 (lxX8_isRight 9 8 rfl) (lxX8_isRight 9 9 rfl) (lxX8_isRight 9 10 rfl)
set_option maxRecDepth 20000 in
theorem dX8_isRight_155 : decode cX8_isRight 155 = .ok (.ifCond .ge 7, 3) := dc_156 0 7 (lxX8_isRight 9 11 rfl) (lxX8_isRight 9 12 rfl) (lxX8_isRight 9 13 rfl)
set_option maxRecDepth 20000 in
theorem dX8_isRight_158 : decode cX8_isRight 158 = .ok (.iconst 1, 1) := dc_4 (lxX8_isRight 9 14 rfl)
set_option maxRecDepth 20000 in
theorem dX8_isRight_159 : decode cX8_isRight 159 = .ok (.goto 4, 3) := dc_167 0 4 (lxX8_isRight 9 15 rfl) (lxX8_isRight 10 0 rfl) (lxX8_isRight 10 1 rfl)
set_option maxRecDepth 20000 in
theorem dX8_isRight_162 : decode cX8_isRight 162 = .ok (.iconst 0, 1) := dc_3 (lxX8_isRight 10 2 rfl)
set_option maxRecDepth 20000 in
theorem dX8_isRight_163 : decode cX8_isRight 163 = .ok (.aload_n 0, 1) := dc_42 (lxX8_isRight 10 3 rfl)
set_option maxRecDepth 20000 in
theorem dX8_isRight_164 : decode cX8_isRight 164 = .ok (.aload 5, 2) := dc_25 5 (lxX8_isRight 10 4 rfl) (lxX8_isRight 10 5 rfl)
set_option maxRecDepth 20000 in
theorem dX8_isRight_166 : decode cX8_isRight 166 = .ok (.invokevirtual 58, 3) := dc_182 0 58 (lxX8_isRight 10 6 rfl) (lxX8_isRight 10 7 rfl) (lxX8_isRight 10 8 rfl)
set_option maxRecDepth 20000 in
theorem dX8_isRight_169 : decode cX8_isRight 169 = .ok (.aload_n 0, 1) := dc_42 (lxX8_isRight 10 9 rfl)
set_option maxRecDepth 20000 in
theorem dX8_isRight_170 : decode cX8_isRight 170 = .ok (.getfield 21, 3) := dc_180 0 21 (lxX8_isRight 10 10 rfl) (lxX8_isRight 10 11 rfl) (lxX8_isRight 10 12 rfl)
set_option maxRecDepth 20000 in
theorem dX8_isRight_173 : decode cX8_isRight 173 = .ok (.invokestatic 149, 3) := dc_184 0 149 (lxX8_isRight 10 13 rfl) (lxX8_isRight 10 14 rfl) (lxX8_isRight 10 15 rfl)
set_option maxRecDepth 20000 in
theorem dX8_isRight_176 : decode cX8_isRight 176 = .ok (.ifCond .ge 7, 3) := dc_156 0 7 (lxX8_isRight 11 0 rfl) (lxX8_isRight 11 1 rfl) (lxX8_isRight 11 2 rfl)
set_option maxRecDepth 20000 in
theorem dX8_isRight_179 : decode cX8_isRight 179 = .ok (.iconst 1, 1) := dc_4 (lxX8_isRight 11 3 rfl)
set_option maxRecDepth 20000 in
theorem dX8_isRight_180 : decode cX8_isRight 180 = .ok (.goto 4, 3) := dc_167 0 4 (lxX8_isRight 11 4 rfl) (lxX8_isRight 11 5 rfl) (lxX8_isRight 11 6 rfl)
set_option maxRecDepth 20000 in
theorem dX8_isRight_183 : decode cX8_isRight 183 = .ok (.iconst 0, 1) := dc_3 (lxX8_isRight 11 7 rfl)
set_option maxRecDepth 20000 in
theorem dX8_isRight_184 : decode cX8_isRight 184 = .ok (.if_icmp .ne 7, 3) := dc_160 0 7 (lxX8_isRight 11 8 rfl) (lxX8_isRight 11 9 rfl) (lxX8_isRight 11 10 rfl)
set_option maxRecDepth 20000 in
theorem dX8_isRight_187 : decode cX8_isRight 187 = .ok (.iconst 1, 1) := dc_4 (lxX8_isRight 11 11 rfl)
set_option maxRecDepth 20000 in
theorem dX8_isRight_188 : decode cX8_isRight 188 = .ok (.goto 4, 3) := dc_167 0 4 (lxX8_isRight 11 12 rfl) (lxX8_isRight 11 13 rfl) (lxX8_isRight 11 14 rfl)
set_option maxRecDepth 20000 in
theorem dX8_isRight_191 : decode cX8_isRight 191 = .ok (.iconst 0, 1) := dc_3 (lxX8_isRight 11 15 rfl)
set_option maxRecDepth 20000 in
theorem dX8_isRight_192 : decode cX8_isRight 192 = .ok (.iand, 1) := dc_126 (lxX8_isRight 12 0 rfl)
set_option maxRecDepth 20000 in
theorem dX8_isRight_193 : decode cX8_isRight 193 = .ok (.istore_n 1, 1) := dc_60 (lxX8_isRight 12 1 rfl)
set_option maxRecDepth 20000 in
theorem dX8_isRight_194 : decode cX8_isRight 194 = .ok (.iinc 4 1, 3) := dc_132 4 1 (lxX8_isRight 12 2 rfl) (lxX8_isRight 12 3 rfl) (lxX8_isRight 12 4 rfl)
set_option maxRecDepth 20000 in
theorem dX8_isRight_197 : decode cX8_isRight 197 = .ok (.goto (-133), 3) := dc_167 255 123 (lxX8_isRight 12 5 rfl) (lxX8_isRight 12 6 rfl) (lxX8_isRight 12 7 rfl)
set_option maxRecDepth 20000 in
theorem dX8_isRight_200 : decode cX8_isRight 200 = .ok (.iload_n 1, 1) := dc_27 (lxX8_isRight 12 8 rfl)
set_option maxRecDepth 20000 in
theorem dX8_isRight_201 : decode cX8_isRight 201 = .ok (.ireturn, 1) := dc_172 (lxX8_isRight 12 9 rfl)
noncomputable def sgX8_isSound : List (List Cond) := [[.code yX8_isSound cX8_isSound 1 (some .boolean)], wsX8_isSound_r1, wsX8_isSound_r2, wsX80]
theorem seX8_isSound : sgX8_isSound.flatten = wsX8_isSound := by simp only [sgX8_isSound, wsX8_isSound, List.flatten_cons, List.flatten_nil, List.append_assoc, List.append_nil, List.cons_append, List.nil_append]
set_option maxRecDepth 20000 in
theorem ggX8_isSound_X8_isThrown : GoodIn wsX8_isSound wsX8_isThrown := goodIn_s seX8_isSound _ [pq_1_4, pq_1_5, pq_3_0, pq_3_1, pq_3_2, pq_3_3, pq_3_4, pq_3_5, pq_3_6, pq_3_7, pq_3_8, pq_3_9, pq_3_10] (by rfl) (by decide +kernel)
set_option maxRecDepth 20000 in
theorem gX8_isSound_X8_isThrown : GoodIn wsX8_isSound (wsV RX8 81 RX8 yX8_isThrown wsX8_isThrown) := goodIn_app (goodIn_s seX8_isSound _ [pq_1_0, pq_1_1, pq_1_2, pq_1_3] (by rfl) (by decide +kernel)) ggX8_isSound_X8_isThrown
set_option maxRecDepth 20000 in
theorem ggX8_isSound_X8_isRight : GoodIn wsX8_isSound wsX8_isRight := goodIn_s seX8_isSound _ [pq_1_9, pq_1_10, pq_1_11, pq_1_12, pq_1_13, pq_1_14, pq_1_15, pq_1_16, pq_1_17, pq_1_18, pq_1_19, pq_1_3, pq_1_20, pq_1_21, pq_1_22, pq_1_23, pq_2_0, pq_2_1, pq_2_2, pq_2_3, pq_2_4, pq_2_5, pq_2_6, pq_2_7, pq_2_8, pq_2_9, pq_2_10, pq_2_11, pq_2_12, pq_2_13, pq_2_14, pq_3_0, pq_3_1, pq_3_2, pq_3_3, pq_3_4, pq_3_5, pq_3_6, pq_3_7, pq_3_8, pq_3_9, pq_3_10] (by rfl) (by decide +kernel)
set_option maxRecDepth 20000 in
theorem gX8_isSound_X8_isRight : GoodIn wsX8_isSound (wsV RX8 167 RX8 yX8_isRight wsX8_isRight) := goodIn_app (goodIn_s seX8_isSound _ [pq_1_6, pq_1_7, pq_1_8, pq_1_3] (by rfl) (by decide +kernel)) ggX8_isSound_X8_isRight
set_option maxRecDepth 20000 in
theorem dX8_isSound_0 : decode cX8_isSound 0 = .ok (.aload_n 0, 1) := dc_42 rfl
set_option maxRecDepth 20000 in
theorem dX8_isSound_1 : decode cX8_isSound 1 = .ok (.iconst 0, 1) := dc_3 rfl
set_option maxRecDepth 20000 in
theorem dX8_isSound_2 : decode cX8_isSound 2 = .ok (.iconst 0, 1) := dc_3 rfl
set_option maxRecDepth 20000 in
theorem dX8_isSound_3 : decode cX8_isSound 3 = .ok (.invokevirtual 81, 3) := dc_182 0 81 rfl rfl rfl
set_option maxRecDepth 20000 in
theorem dX8_isSound_6 : decode cX8_isSound 6 = .ok (.pop, 1) := dc_87 rfl
set_option maxRecDepth 20000 in
theorem dX8_isSound_7 : decode cX8_isSound 7 = .ok (.aload_n 0, 1) := dc_42 rfl
set_option maxRecDepth 20000 in
theorem dX8_isSound_8 : decode cX8_isSound 8 = .ok (.invokevirtual 167, 3) := dc_182 0 167 rfl rfl rfl
set_option maxRecDepth 20000 in
theorem dX8_isSound_11 : decode cX8_isSound 11 = .ok (.ireturn, 1) := dc_172 rfl
def lb_sgX8_mixed : List (List UInt8) := [[30, 66, 44, 58, 5, 25, 5, 190, 54, 6, 3, 54, 7, 21, 7, 21], [6, 162, 0, 26, 25, 5, 21, 7, 46, 54, 8, 33, 20, 0, 171, 105], [21, 8, 133, 97, 66, 132, 7, 1, 167, 255, 229, 33, 173]]
set_option maxRecDepth 100000 in
theorem lb_seX8_mixed : cX8_mixed.data.toList = lb_sgX8_mixed.flatten := by decide +kernel
theorem lb_lnX8_mixed : ∀ s ∈ lb_sgX8_mixed.dropLast, s.length = 16 := by decide +kernel
theorem lxX8_mixed (k j : Nat) {b : UInt8} (h : (lb_sgX8_mixed[k]?).bind (fun s => s[j]?) = some b) : lb_at cX8_mixed (16 * k + j) b := by
  unfold lb_at
  rw [lb_seX8_mixed]
  exact lb_flat 16 lb_sgX8_mixed k j b lb_lnX8_mixed h
set_option maxRecDepth 20000 in
theorem dX8_mixed_0 : decode cX8_mixed 0 = .ok (.lload_n 0, 1) := dc_30 (lxX8_mixed 0 0 rfl)
set_option maxRecDepth 20000 in
theorem dX8_mixed_1 : decode cX8_mixed 1 = .ok (.lstore_n 3, 1) := dc_66 (lxX8_mixed 0 1 rfl)
set_option maxRecDepth 20000 in
theorem dX8_mixed_2 : decode cX8_mixed 2 = .ok (.aload_n 2, 1) := dc_44 (lxX8_mixed 0 2 rfl)
set_option maxRecDepth 20000 in
theorem dX8_mixed_3 : decode cX8_mixed 3 = .ok (.astore 5, 2) := dc_58 5 (lxX8_mixed 0 3 rfl) (lxX8_mixed 0 4 rfl)
set_option maxRecDepth 20000 in
theorem dX8_mixed_5 : decode cX8_mixed 5 = .ok (.aload 5, 2) := dc_25 5 (lxX8_mixed 0 5 rfl) (lxX8_mixed 0 6 rfl)
set_option maxRecDepth 20000 in
theorem dX8_mixed_7 : decode cX8_mixed 7 = .ok (.arraylength, 1) := dc_190 (lxX8_mixed 0 7 rfl)
set_option maxRecDepth 20000 in
theorem dX8_mixed_8 : decode cX8_mixed 8 = .ok (.istore 6, 2) := dc_54 6 (lxX8_mixed 0 8 rfl) (lxX8_mixed 0 9 rfl)
set_option maxRecDepth 20000 in
theorem dX8_mixed_10 : decode cX8_mixed 10 = .ok (.iconst 0, 1) := dc_3 (lxX8_mixed 0 10 rfl)
set_option maxRecDepth 20000 in
theorem dX8_mixed_11 : decode cX8_mixed 11 = .ok (.istore 7, 2) := dc_54 7 (lxX8_mixed 0 11 rfl) (lxX8_mixed 0 12 rfl)
set_option maxRecDepth 20000 in
theorem dX8_mixed_13 : decode cX8_mixed 13 = .ok (.iload 7, 2) := dc_21 7 (lxX8_mixed 0 13 rfl) (lxX8_mixed 0 14 rfl)
set_option maxRecDepth 20000 in
theorem dX8_mixed_15 : decode cX8_mixed 15 = .ok (.iload 6, 2) := dc_21 6 (lxX8_mixed 0 15 rfl) (lxX8_mixed 1 0 rfl)
set_option maxRecDepth 20000 in
theorem dX8_mixed_17 : decode cX8_mixed 17 = .ok (.if_icmp .ge 26, 3) := dc_162 0 26 (lxX8_mixed 1 1 rfl) (lxX8_mixed 1 2 rfl) (lxX8_mixed 1 3 rfl)
set_option maxRecDepth 20000 in
theorem dX8_mixed_20 : decode cX8_mixed 20 = .ok (.aload 5, 2) := dc_25 5 (lxX8_mixed 1 4 rfl) (lxX8_mixed 1 5 rfl)
set_option maxRecDepth 20000 in
theorem dX8_mixed_22 : decode cX8_mixed 22 = .ok (.iload 7, 2) := dc_21 7 (lxX8_mixed 1 6 rfl) (lxX8_mixed 1 7 rfl)
set_option maxRecDepth 20000 in
theorem dX8_mixed_24 : decode cX8_mixed 24 = .ok (.iaload, 1) := dc_46 (lxX8_mixed 1 8 rfl)
set_option maxRecDepth 20000 in
theorem dX8_mixed_25 : decode cX8_mixed 25 = .ok (.istore 8, 2) := dc_54 8 (lxX8_mixed 1 9 rfl) (lxX8_mixed 1 10 rfl)
set_option maxRecDepth 20000 in
theorem dX8_mixed_27 : decode cX8_mixed 27 = .ok (.lload_n 3, 1) := dc_33 (lxX8_mixed 1 11 rfl)
set_option maxRecDepth 20000 in
theorem dX8_mixed_28 : decode cX8_mixed 28 = .ok (.ldc2_w 171, 3) := dc_20 0 171 (lxX8_mixed 1 12 rfl) (lxX8_mixed 1 13 rfl) (lxX8_mixed 1 14 rfl)
set_option maxRecDepth 20000 in
theorem dX8_mixed_31 : decode cX8_mixed 31 = .ok (.lmul, 1) := dc_105 (lxX8_mixed 1 15 rfl)
set_option maxRecDepth 20000 in
theorem dX8_mixed_32 : decode cX8_mixed 32 = .ok (.iload 8, 2) := dc_21 8 (lxX8_mixed 2 0 rfl) (lxX8_mixed 2 1 rfl)
set_option maxRecDepth 20000 in
theorem dX8_mixed_34 : decode cX8_mixed 34 = .ok (.i2l, 1) := dc_133 (lxX8_mixed 2 2 rfl)
set_option maxRecDepth 20000 in
theorem dX8_mixed_35 : decode cX8_mixed 35 = .ok (.ladd, 1) := dc_97 (lxX8_mixed 2 3 rfl)
set_option maxRecDepth 20000 in
theorem dX8_mixed_36 : decode cX8_mixed 36 = .ok (.lstore_n 3, 1) := dc_66 (lxX8_mixed 2 4 rfl)
set_option maxRecDepth 20000 in
theorem dX8_mixed_37 : decode cX8_mixed 37 = .ok (.iinc 7 1, 3) := dc_132 7 1 (lxX8_mixed 2 5 rfl) (lxX8_mixed 2 6 rfl) (lxX8_mixed 2 7 rfl)
set_option maxRecDepth 20000 in
theorem dX8_mixed_40 : decode cX8_mixed 40 = .ok (.goto (-27), 3) := dc_167 255 229 (lxX8_mixed 2 8 rfl) (lxX8_mixed 2 9 rfl) (lxX8_mixed 2 10 rfl)
set_option maxRecDepth 20000 in
theorem dX8_mixed_43 : decode cX8_mixed 43 = .ok (.lload_n 3, 1) := dc_33 (lxX8_mixed 2 11 rfl)
set_option maxRecDepth 20000 in
theorem dX8_mixed_44 : decode cX8_mixed 44 = .ok (.lreturn, 1) := dc_173 (lxX8_mixed 2 12 rfl)
noncomputable def sgX8_digest : List (List Cond) := [[.code yX8_digest cX8_digest 8 (some .long)], wsX8_digest_r1, wsX8_digest_r2, wsX8_digest_r3, wsX80]
theorem seX8_digest : sgX8_digest.flatten = wsX8_digest := by simp only [sgX8_digest, wsX8_digest, List.flatten_cons, List.flatten_nil, List.append_assoc, List.append_nil, List.cons_append, List.nil_append]
set_option maxRecDepth 20000 in
theorem ggX8_digest_X8_isThrown : GoodIn wsX8_digest wsX8_isThrown := goodIn_s seX8_digest _ [pq_1_14, pq_1_15, pq_4_0, pq_4_1, pq_4_2, pq_4_3, pq_4_4, pq_4_5, pq_4_6, pq_4_7, pq_4_8, pq_4_9, pq_4_10] (by rfl) (by decide +kernel)
set_option maxRecDepth 20000 in
theorem gX8_digest_X8_isThrown : GoodIn wsX8_digest (wsV RX8 81 RX8 yX8_isThrown wsX8_isThrown) := goodIn_app (goodIn_s seX8_digest _ [pq_1_10, pq_1_11, pq_1_12, pq_1_13] (by rfl) (by decide +kernel)) ggX8_digest_X8_isThrown
set_option maxRecDepth 20000 in
theorem ggX8_digest_X8_text : GoodIn wsX8_digest wsX8_text := goodIn_s seX8_digest _ [pq_1_19, pq_1_2, pq_1_20, pq_1_21, pq_1_22, pq_1_13, pq_1_23, pq_4_0, pq_4_1, pq_4_2, pq_4_3, pq_4_4, pq_4_5, pq_4_6, pq_4_7, pq_4_8, pq_4_9, pq_4_10] (by rfl) (by decide +kernel)
set_option maxRecDepth 20000 in
theorem gX8_digest_X8_text : GoodIn wsX8_digest (wsV RX8 58 RX8 yX8_text wsX8_text) := goodIn_app (goodIn_s seX8_digest _ [pq_1_16, pq_1_17, pq_1_18, pq_1_13] (by rfl) (by decide +kernel)) ggX8_digest_X8_text
set_option maxRecDepth 20000 in
theorem ggX8_digest_X8_markOf : GoodIn wsX8_digest wsX8_markOf := goodIn_s seX8_digest _ [pq_2_2] (by rfl) (by decide +kernel)
set_option maxRecDepth 20000 in
theorem gX8_digest_X8_markOf : GoodIn wsX8_digest (va_wsS RX8 135 yX8_markOf wsX8_markOf) := goodIn_app (goodIn_s seX8_digest _ [pq_2_0, pq_2_1, pq_1_13] (by rfl) (by decide +kernel)) ggX8_digest_X8_markOf
set_option maxRecDepth 20000 in
theorem ggX8_digest_X8_mixed : GoodIn wsX8_digest wsX8_mixed := goodIn_s seX8_digest _ [pq_2_5, pq_1_4] (by rfl) (by decide +kernel)
set_option maxRecDepth 20000 in
theorem gX8_digest_X8_mixed : GoodIn wsX8_digest (va_wsS RX8 175 yX8_mixed wsX8_mixed) := goodIn_app (goodIn_s seX8_digest _ [pq_2_3, pq_2_4, pq_1_13] (by rfl) (by decide +kernel)) ggX8_digest_X8_mixed
set_option maxRecDepth 20000 in
theorem ggX8_digest_X8_greatest : GoodIn wsX8_digest wsX8_greatest := goodIn_s seX8_digest _ [pq_2_8, pq_2_9, pq_2_10, pq_2_11, pq_2_12, pq_2_13, pq_2_14, pq_1_13, pq_2_15] (by rfl) (by decide +kernel)
set_option maxRecDepth 20000 in
theorem gX8_digest_X8_greatest : GoodIn wsX8_digest (va_wsS RX8 160 yX8_greatest wsX8_greatest) := goodIn_app (goodIn_s seX8_digest _ [pq_2_6, pq_2_7, pq_1_13] (by rfl) (by decide +kernel)) ggX8_digest_X8_greatest
set_option maxRecDepth 20000 in
theorem ggX8_digest_X8_nth : GoodIn wsX8_digest wsX8_nth := goodIn_s seX8_digest _ [pq_2_18, pq_2_19, pq_2_20, pq_1_13, pq_2_21] (by rfl) (by decide +kernel)
set_option maxRecDepth 20000 in
theorem gX8_digest_X8_nth : GoodIn wsX8_digest (va_wsS RX8 142 yX8_nth wsX8_nth) := goodIn_app (goodIn_s seX8_digest _ [pq_2_16, pq_2_17, pq_1_13] (by rfl) (by decide +kernel)) ggX8_digest_X8_nth
set_option maxRecDepth 20000 in
theorem ggX8_digest_X8_places : GoodIn wsX8_digest wsX8_places := goodIn_s seX8_digest _ [pq_3_0, pq_2_16, pq_2_17, pq_1_13, pq_2_18, pq_2_19, pq_2_20, pq_2_21] (by rfl) (by decide +kernel)
set_option maxRecDepth 20000 in
theorem gX8_digest_X8_places : GoodIn wsX8_digest (va_wsS RX8 153 yX8_places wsX8_places) := goodIn_app (goodIn_s seX8_digest _ [pq_2_22, pq_2_23, pq_1_13] (by rfl) (by decide +kernel)) ggX8_digest_X8_places
set_option maxRecDepth 20000 in
theorem ggX8_digest_X8_isRight : GoodIn wsX8_digest wsX8_isRight := goodIn_s seX8_digest _ [pq_3_4, pq_1_7, pq_1_6, pq_3_5, pq_1_5, pq_1_1, pq_3_6, pq_1_3, pq_1_16, pq_1_17, pq_1_18, pq_1_13, pq_1_19, pq_1_2, pq_1_20, pq_1_21, pq_1_22, pq_1_23, pq_2_16, pq_2_17, pq_2_18, pq_2_19, pq_2_20, pq_2_21, pq_3_7, pq_3_8, pq_3_9, pq_2_9, pq_2_10, pq_2_11, pq_2_12, pq_4_0, pq_4_1, pq_4_2, pq_4_3, pq_4_4, pq_4_5, pq_4_6, pq_4_7, pq_4_8, pq_4_9, pq_4_10] (by rfl) (by decide +kernel)
set_option maxRecDepth 20000 in
theorem gX8_digest_X8_isRight : GoodIn wsX8_digest (wsV RX8 167 RX8 yX8_isRight wsX8_isRight) := goodIn_app (goodIn_s seX8_digest _ [pq_3_1, pq_3_2, pq_3_3, pq_1_13] (by rfl) (by decide +kernel)) ggX8_digest_X8_isRight
def lb_sgX8_digest : List (List UInt8) := [[42, 3, 3, 182, 0, 81, 87, 20, 0, 173, 64, 42, 180, 0, 14, 78], [45, 190, 54, 4, 3, 54, 5, 21, 5, 21, 4, 162, 0, 97, 45, 21], [5, 50, 58, 6, 42, 25, 6, 182, 0, 58, 58, 7, 31, 7, 188, 10], [89, 3, 25, 6, 6, 46, 79, 89, 4, 25, 6, 5, 46, 79, 89, 5], [25, 6, 4, 46, 79, 89, 6, 25, 6, 184, 0, 135, 79, 184, 0, 175], [64, 31, 25, 7, 184, 0, 175, 5, 188, 10, 89, 3, 25, 7, 25, 7], [190, 184, 0, 160, 79, 89, 4, 25, 7, 42, 180, 0, 21, 3, 184, 0], [142, 79, 184, 0, 175, 64, 132, 5, 1, 167, 255, 158, 31, 20, 0, 171], [105, 42, 180, 0, 18, 190, 133, 97, 42, 180, 0, 18, 184, 0, 175, 20], [0, 171, 105, 42, 180, 0, 21, 190, 133, 97, 42, 180, 0, 21, 184, 0], [175, 64, 31, 8, 188, 10, 89, 3, 42, 180, 0, 18, 42, 180, 0, 18], [190, 184, 0, 160, 79, 89, 4, 42, 180, 0, 21, 42, 180, 0, 21, 190], [184, 0, 160, 79, 89, 5, 42, 180, 0, 18, 42, 180, 0, 21, 184, 0], [153, 79, 89, 6, 42, 180, 0, 21, 42, 180, 0, 18, 184, 0, 153, 79], [89, 7, 42, 180, 0, 129, 42, 180, 0, 132, 100, 79, 184, 0, 175, 64], [42, 180, 0, 132, 62, 29, 42, 180, 0, 129, 162, 0, 23, 31, 20, 0], [171, 105, 42, 180, 0, 24, 29, 46, 133, 97, 64, 132, 3, 1, 167, 255], [231, 31, 20, 0, 171, 105, 42, 180, 0, 129, 133, 97, 42, 180, 0, 31], [184, 0, 175, 4, 188, 10, 89, 3, 42, 182, 0, 167, 153, 0, 7, 4], [167, 0, 4, 3, 79, 184, 0, 175, 173]]
set_option maxRecDepth 100000 in
theorem lb_seX8_digest : cX8_digest.data.toList = lb_sgX8_digest.flatten := by decide +kernel
theorem lb_lnX8_digest : ∀ s ∈ lb_sgX8_digest.dropLast, s.length = 16 := by decide +kernel
theorem lxX8_digest (k j : Nat) {b : UInt8} (h : (lb_sgX8_digest[k]?).bind (fun s => s[j]?) = some b) : lb_at cX8_digest (16 * k + j) b := by
  unfold lb_at
  rw [lb_seX8_digest]
  exact lb_flat 16 lb_sgX8_digest k j b lb_lnX8_digest h
set_option maxRecDepth 20000 in
theorem dX8_digest_0 : decode cX8_digest 0 = .ok (.aload_n 0, 1) := dc_42 (lxX8_digest 0 0 rfl)
set_option maxRecDepth 20000 in
theorem dX8_digest_1 : decode cX8_digest 1 = .ok (.iconst 0, 1) := dc_3 (lxX8_digest 0 1 rfl)
set_option maxRecDepth 20000 in
theorem dX8_digest_2 : decode cX8_digest 2 = .ok (.iconst 0, 1) := dc_3 (lxX8_digest 0 2 rfl)
set_option maxRecDepth 20000 in
theorem dX8_digest_3 : decode cX8_digest 3 = .ok (.invokevirtual 81, 3) := dc_182 0 81 (lxX8_digest 0 3 rfl) (lxX8_digest 0 4 rfl) (lxX8_digest 0 5 rfl)
set_option maxRecDepth 20000 in
theorem dX8_digest_6 : decode cX8_digest 6 = .ok (.pop, 1) := dc_87 (lxX8_digest 0 6 rfl)
set_option maxRecDepth 20000 in
theorem dX8_digest_7 : decode cX8_digest 7 = .ok (.ldc2_w 173, 3) := dc_20 0 173 (lxX8_digest 0 7 rfl) (lxX8_digest 0 8 rfl) (lxX8_digest 0 9 rfl)
set_option maxRecDepth 20000 in
theorem dX8_digest_10 : decode cX8_digest 10 = .ok (.lstore_n 1, 1) := dc_64 (lxX8_digest 0 10 rfl)
set_option maxRecDepth 20000 in
theorem dX8_digest_11 : decode cX8_digest 11 = .ok (.aload_n 0, 1) := dc_42 (lxX8_digest 0 11 rfl)
set_option maxRecDepth 20000 in
theorem dX8_digest_12 : decode cX8_digest 12 = .ok (.getfield 14, 3) := dc_180 0 14 (lxX8_digest 0 12 rfl) (lxX8_digest 0 13 rfl) (lxX8_digest 0 14 rfl)
set_option maxRecDepth 20000 in
theorem dX8_digest_15 : decode cX8_digest 15 = .ok (.astore_n 3, 1) := dc_78 (lxX8_digest 0 15 rfl)
set_option maxRecDepth 20000 in
theorem dX8_digest_16 : decode cX8_digest 16 = .ok (.aload_n 3, 1) := dc_45 (lxX8_digest 1 0 rfl)
set_option maxRecDepth 20000 in
theorem dX8_digest_17 : decode cX8_digest 17 = .ok (.arraylength, 1) := dc_190 (lxX8_digest 1 1 rfl)
set_option maxRecDepth 20000 in
theorem dX8_digest_18 : decode cX8_digest 18 = .ok (.istore 4, 2) := dc_54 4 (lxX8_digest 1 2 rfl) (lxX8_digest 1 3 rfl)
set_option maxRecDepth 20000 in
theorem dX8_digest_20 : decode cX8_digest 20 = .ok (.iconst 0, 1) := dc_3 (lxX8_digest 1 4 rfl)
set_option maxRecDepth 20000 in
theorem dX8_digest_21 : decode cX8_digest 21 = .ok (.istore 5, 2) := dc_54 5 (lxX8_digest 1 5 rfl) (lxX8_digest 1 6 rfl)
set_option maxRecDepth 20000 in
theorem dX8_digest_23 : decode cX8_digest 23 = .ok (.iload 5, 2) := dc_21 5 (lxX8_digest 1 7 rfl) (lxX8_digest 1 8 rfl)
set_option maxRecDepth 20000 in
theorem dX8_digest_25 : decode cX8_digest 25 = .ok (.iload 4, 2) := dc_21 4 (lxX8_digest 1 9 rfl) (lxX8_digest 1 10 rfl)
set_option maxRecDepth 20000 in
theorem dX8_digest_27 : decode cX8_digest 27 = .ok (.if_icmp .ge 97, 3) := dc_162 0 97 (lxX8_digest 1 11 rfl) (lxX8_digest 1 12 rfl) (lxX8_digest 1 13 rfl)
set_option maxRecDepth 20000 in
theorem dX8_digest_30 : decode cX8_digest 30 = .ok (.aload_n 3, 1) := dc_45 (lxX8_digest 1 14 rfl)
set_option maxRecDepth 20000 in
theorem dX8_digest_31 : decode cX8_digest 31 = .ok (.iload 5, 2) := dc_21 5 (lxX8_digest 1 15 rfl) (lxX8_digest 2 0 rfl)
set_option maxRecDepth 20000 in
theorem dX8_digest_33 : decode cX8_digest 33 = .ok (.aaload, 1) := dc_50 (lxX8_digest 2 1 rfl)
set_option maxRecDepth 20000 in
theorem dX8_digest_34 : decode cX8_digest 34 = .ok (.astore 6, 2) := dc_58 6 (lxX8_digest 2 2 rfl) (lxX8_digest 2 3 rfl)
set_option maxRecDepth 20000 in
theorem dX8_digest_36 : decode cX8_digest 36 = .ok (.aload_n 0, 1) := dc_42 (lxX8_digest 2 4 rfl)
set_option maxRecDepth 20000 in
theorem dX8_digest_37 : decode cX8_digest 37 = .ok (.aload 6, 2) := dc_25 6 (lxX8_digest 2 5 rfl) (lxX8_digest 2 6 rfl)
set_option maxRecDepth 20000 in
theorem dX8_digest_39 : decode cX8_digest 39 = .ok (.invokevirtual 58, 3) := dc_182 0 58 (lxX8_digest 2 7 rfl) (lxX8_digest 2 8 rfl) (lxX8_digest 2 9 rfl)
set_option maxRecDepth 20000 in
theorem dX8_digest_42 : decode cX8_digest 42 = .ok (.astore 7, 2) := dc_58 7 (lxX8_digest 2 10 rfl) (lxX8_digest 2 11 rfl)
set_option maxRecDepth 20000 in
theorem dX8_digest_44 : decode cX8_digest 44 = .ok (.lload_n 1, 1) := dc_31 (lxX8_digest 2 12 rfl)
set_option maxRecDepth 20000 in
theorem dX8_digest_45 : decode cX8_digest 45 = .ok (.iconst 4, 1) := dc_7 (lxX8_digest 2 13 rfl)
theorem dX8_digest_46 : decode cX8_digest 46 = .ok (.newarray .int, 2) := by decide +kernel
set_option maxRecDepth 20000 in
theorem dX8_digest_48 : decode cX8_digest 48 = .ok (.dup, 1) := dc_89 (lxX8_digest 3 0 rfl)
set_option maxRecDepth 20000 in
theorem dX8_digest_49 : decode cX8_digest 49 = .ok (.iconst 0, 1) := dc_3 (lxX8_digest 3 1 rfl)
set_option maxRecDepth 20000 in
theorem dX8_digest_50 : decode cX8_digest 50 = .ok (.aload 6, 2) := dc_25 6 (lxX8_digest 3 2 rfl) (lxX8_digest 3 3 rfl)
set_option maxRecDepth 20000 in
theorem dX8_digest_52 : decode cX8_digest 52 = .ok (.iconst 3, 1) := dc_6 (lxX8_digest 3 4 rfl)
set_option maxRecDepth 20000 in
theorem dX8_digest_53 : decode cX8_digest 53 = .ok (.iaload, 1) := dc_46 (lxX8_digest 3 5 rfl)
set_option maxRecDepth 20000 in
theorem dX8_digest_54 : decode cX8_digest 54 = .ok (.iastore, 1) := dc_79 (lxX8_digest 3 6 rfl)
set_option maxRecDepth 20000 in
theorem dX8_digest_55 : decode cX8_digest 55 = .ok (.dup, 1) := dc_89 (lxX8_digest 3 7 rfl)
set_option maxRecDepth 20000 in
theorem dX8_digest_56 : decode cX8_digest 56 = .ok (.iconst 1, 1) := dc_4 (lxX8_digest 3 8 rfl)
set_option maxRecDepth 20000 in
theorem dX8_digest_57 : decode cX8_digest 57 = .ok (.aload 6, 2) := dc_25 6 (lxX8_digest 3 9 rfl) (lxX8_digest 3 10 rfl)
set_option maxRecDepth 20000 in
theorem dX8_digest_59 : decode cX8_digest 59 = .ok (.iconst 2, 1) := dc_5 (lxX8_digest 3 11 rfl)
set_option maxRecDepth 20000 in
theorem dX8_digest_60 : decode cX8_digest 60 = .ok (.iaload, 1) := dc_46 (lxX8_digest 3 12 rfl)
set_option maxRecDepth 20000 in
theorem dX8_digest_61 : decode cX8_digest 61 = .ok (.iastore, 1) := dc_79 (lxX8_digest 3 13 rfl)
set_option maxRecDepth 20000 in
theorem dX8_digest_62 : decode cX8_digest 62 = .ok (.dup, 1) := dc_89 (lxX8_digest 3 14 rfl)
set_option maxRecDepth 20000 in
theorem dX8_digest_63 : decode cX8_digest 63 = .ok (.iconst 2, 1) := dc_5 (lxX8_digest 3 15 rfl)
set_option maxRecDepth 20000 in
theorem dX8_digest_64 : decode cX8_digest 64 = .ok (.aload 6, 2) := dc_25 6 (lxX8_digest 4 0 rfl) (lxX8_digest 4 1 rfl)
set_option maxRecDepth 20000 in
theorem dX8_digest_66 : decode cX8_digest 66 = .ok (.iconst 1, 1) := dc_4 (lxX8_digest 4 2 rfl)
set_option maxRecDepth 20000 in
theorem dX8_digest_67 : decode cX8_digest 67 = .ok (.iaload, 1) := dc_46 (lxX8_digest 4 3 rfl)
set_option maxRecDepth 20000 in
theorem dX8_digest_68 : decode cX8_digest 68 = .ok (.iastore, 1) := dc_79 (lxX8_digest 4 4 rfl)
set_option maxRecDepth 20000 in
theorem dX8_digest_69 : decode cX8_digest 69 = .ok (.dup, 1) := dc_89 (lxX8_digest 4 5 rfl)
set_option maxRecDepth 20000 in
theorem dX8_digest_70 : decode cX8_digest 70 = .ok (.iconst 3, 1) := dc_6 (lxX8_digest 4 6 rfl)
set_option maxRecDepth 20000 in
theorem dX8_digest_71 : decode cX8_digest 71 = .ok (.aload 6, 2) := dc_25 6 (lxX8_digest 4 7 rfl) (lxX8_digest 4 8 rfl)
set_option maxRecDepth 20000 in
theorem dX8_digest_73 : decode cX8_digest 73 = .ok (.invokestatic 135, 3) := dc_184 0 135 (lxX8_digest 4 9 rfl) (lxX8_digest 4 10 rfl) (lxX8_digest 4 11 rfl)
set_option maxRecDepth 20000 in
theorem dX8_digest_76 : decode cX8_digest 76 = .ok (.iastore, 1) := dc_79 (lxX8_digest 4 12 rfl)
set_option maxRecDepth 20000 in
theorem dX8_digest_77 : decode cX8_digest 77 = .ok (.invokestatic 175, 3) := dc_184 0 175 (lxX8_digest 4 13 rfl) (lxX8_digest 4 14 rfl) (lxX8_digest 4 15 rfl)
set_option maxRecDepth 20000 in
theorem dX8_digest_80 : decode cX8_digest 80 = .ok (.lstore_n 1, 1) := dc_64 (lxX8_digest 5 0 rfl)
set_option maxRecDepth 20000 in
theorem dX8_digest_81 : decode cX8_digest 81 = .ok (.lload_n 1, 1) := dc_31 (lxX8_digest 5 1 rfl)
set_option maxRecDepth 20000 in
theorem dX8_digest_82 : decode cX8_digest 82 = .ok (.aload 7, 2) := dc_25 7 (lxX8_digest 5 2 rfl) (lxX8_digest 5 3 rfl)
set_option maxRecDepth 20000 in
theorem dX8_digest_84 : decode cX8_digest 84 = .ok (.invokestatic 175, 3) := dc_184 0 175 (lxX8_digest 5 4 rfl) (lxX8_digest 5 5 rfl) (lxX8_digest 5 6 rfl)
set_option maxRecDepth 20000 in
theorem dX8_digest_87 : decode cX8_digest 87 = .ok (.iconst 2, 1) := dc_5 (lxX8_digest 5 7 rfl)
theorem dX8_digest_88 : decode cX8_digest 88 = .ok (.newarray .int, 2) := by decide +kernel
set_option maxRecDepth 20000 in
theorem dX8_digest_90 : decode cX8_digest 90 = .ok (.dup, 1) := dc_89 (lxX8_digest 5 10 rfl)
set_option maxRecDepth 20000 in
theorem dX8_digest_91 : decode cX8_digest 91 = .ok (.iconst 0, 1) := dc_3 (lxX8_digest 5 11 rfl)
set_option maxRecDepth 20000 in
theorem dX8_digest_92 : decode cX8_digest 92 = .ok (.aload 7, 2) := dc_25 7 (lxX8_digest 5 12 rfl) (lxX8_digest 5 13 rfl)
set_option maxRecDepth 20000 in
theorem dX8_digest_94 : decode cX8_digest 94 = .ok (.aload 7, 2) := dc_25 7 (lxX8_digest 5 14 rfl) (lxX8_digest 5 15 rfl)
set_option maxRecDepth 20000 in
theorem dX8_digest_96 : decode cX8_digest 96 = .ok (.arraylength, 1) := dc_190 (lxX8_digest 6 0 rfl)
set_option maxRecDepth 20000 in
theorem dX8_digest_97 : decode cX8_digest 97 = .ok (.invokestatic 160, 3) := dc_184 0 160 (lxX8_digest 6 1 rfl) (lxX8_digest 6 2 rfl) (lxX8_digest 6 3 rfl)
set_option maxRecDepth 20000 in
theorem dX8_digest_100 : decode cX8_digest 100 = .ok (.iastore, 1) := dc_79 (lxX8_digest 6 4 rfl)
set_option maxRecDepth 20000 in
theorem dX8_digest_101 : decode cX8_digest 101 = .ok (.dup, 1) := dc_89 (lxX8_digest 6 5 rfl)
set_option maxRecDepth 20000 in
theorem dX8_digest_102 : decode cX8_digest 102 = .ok (.iconst 1, 1) := dc_4 (lxX8_digest 6 6 rfl)
set_option maxRecDepth 20000 in
theorem dX8_digest_103 : decode cX8_digest 103 = .ok (.aload 7, 2) := dc_25 7 (lxX8_digest 6 7 rfl) (lxX8_digest 6 8 rfl)
set_option maxRecDepth 20000 in
theorem dX8_digest_105 : decode cX8_digest 105 = .ok (.aload_n 0, 1) := dc_42 (lxX8_digest 6 9 rfl)
set_option maxRecDepth 20000 in
theorem dX8_digest_106 : decode cX8_digest 106 = .ok (.getfield 21, 3) := dc_180 0 21 (lxX8_digest 6 10 rfl) (lxX8_digest 6 11 rfl) (lxX8_digest 6 12 rfl)
set_option maxRecDepth 20000 in
theorem dX8_digest_109 : decode cX8_digest 109 = .ok (.iconst 0, 1) := dc_3 (lxX8_digest 6 13 rfl)
set_option maxRecDepth 20000 in
theorem dX8_digest_110 : decode cX8_digest 110 = .ok (.invokestatic 142, 3) := dc_184 0 142 (lxX8_digest 6 14 rfl) (lxX8_digest 6 15 rfl) (lxX8_digest 7 0 rfl)
set_option maxRecDepth 20000 in
theorem dX8_digest_113 : decode cX8_digest 113 = .ok (.iastore, 1) := dc_79 (lxX8_digest 7 1 rfl)
set_option maxRecDepth 20000 in
theorem dX8_digest_114 : decode cX8_digest 114 = .ok (.invokestatic 175, 3) := dc_184 0 175 (lxX8_digest 7 2 rfl) (lxX8_digest 7 3 rfl) (lxX8_digest 7 4 rfl)
set_option maxRecDepth 20000 in
theorem dX8_digest_117 : decode cX8_digest 117 = .ok (.lstore_n 1, 1) := dc_64 (lxX8_digest 7 5 rfl)
set_option maxRecDepth 20000 in
theorem dX8_digest_118 : decode cX8_digest 118 = .ok (.iinc 5 1, 3) := dc_132 5 1 (lxX8_digest 7 6 rfl) (lxX8_digest 7 7 rfl) (lxX8_digest 7 8 rfl)
set_option maxRecDepth 20000 in
theorem dX8_digest_121 : decode cX8_digest 121 = .ok (.goto (-98), 3) := dc_167 255 158 (lxX8_digest 7 9 rfl) (lxX8_digest 7 10 rfl) (lxX8_digest 7 11 rfl)
set_option maxRecDepth 20000 in
theorem dX8_digest_124 : decode cX8_digest 124 = .ok (.lload_n 1, 1) := dc_31 (lxX8_digest 7 12 rfl)
set_option maxRecDepth 20000 in
theorem dX8_digest_125 : decode cX8_digest 125 = .ok (.ldc2_w 171, 3) := dc_20 0 171 (lxX8_digest 7 13 rfl) (lxX8_digest 7 14 rfl) (lxX8_digest 7 15 rfl)
set_option maxRecDepth 20000 in
theorem dX8_digest_128 : decode cX8_digest 128 = .ok (.lmul, 1) := dc_105 (lxX8_digest 8 0 rfl)
set_option maxRecDepth 20000 in
theorem dX8_digest_129 : decode cX8_digest 129 = .ok (.aload_n 0, 1) := dc_42 (lxX8_digest 8 1 rfl)
set_option maxRecDepth 20000 in
theorem dX8_digest_130 : decode cX8_digest 130 = .ok (.getfield 18, 3) := dc_180 0 18 (lxX8_digest 8 2 rfl) (lxX8_digest 8 3 rfl) (lxX8_digest 8 4 rfl)
set_option maxRecDepth 20000 in
theorem dX8_digest_133 : decode cX8_digest 133 = .ok (.arraylength, 1) := dc_190 (lxX8_digest 8 5 rfl)
set_option maxRecDepth 20000 in
theorem dX8_digest_134 : decode cX8_digest 134 = .ok (.i2l, 1) := dc_133 (lxX8_digest 8 6 rfl)
set_option maxRecDepth 20000 in
theorem dX8_digest_135 : decode cX8_digest 135 = .ok (.ladd, 1) := dc_97 (lxX8_digest 8 7 rfl)
set_option maxRecDepth 20000 in
theorem dX8_digest_136 : decode cX8_digest 136 = .ok (.aload_n 0, 1) := dc_42 (lxX8_digest 8 8 rfl)
set_option maxRecDepth 20000 in
theorem dX8_digest_137 : decode cX8_digest 137 = .ok (.getfield 18, 3) := dc_180 0 18 (lxX8_digest 8 9 rfl) (lxX8_digest 8 10 rfl) (lxX8_digest 8 11 rfl)
set_option maxRecDepth 20000 in
theorem dX8_digest_140 : decode cX8_digest 140 = .ok (.invokestatic 175, 3) := dc_184 0 175 (lxX8_digest 8 12 rfl) (lxX8_digest 8 13 rfl) (lxX8_digest 8 14 rfl)
set_option maxRecDepth 20000 in
theorem dX8_digest_143 : decode cX8_digest 143 = .ok (.ldc2_w 171, 3) := dc_20 0 171 (lxX8_digest 8 15 rfl) (lxX8_digest 9 0 rfl) (lxX8_digest 9 1 rfl)
set_option maxRecDepth 20000 in
theorem dX8_digest_146 : decode cX8_digest 146 = .ok (.lmul, 1) := dc_105 (lxX8_digest 9 2 rfl)
set_option maxRecDepth 20000 in
theorem dX8_digest_147 : decode cX8_digest 147 = .ok (.aload_n 0, 1) := dc_42 (lxX8_digest 9 3 rfl)
set_option maxRecDepth 20000 in
theorem dX8_digest_148 : decode cX8_digest 148 = .ok (.getfield 21, 3) := dc_180 0 21 (lxX8_digest 9 4 rfl) (lxX8_digest 9 5 rfl) (lxX8_digest 9 6 rfl)
set_option maxRecDepth 20000 in
theorem dX8_digest_151 : decode cX8_digest 151 = .ok (.arraylength, 1) := dc_190 (lxX8_digest 9 7 rfl)
set_option maxRecDepth 20000 in
theorem dX8_digest_152 : decode cX8_digest 152 = .ok (.i2l, 1) := dc_133 (lxX8_digest 9 8 rfl)
set_option maxRecDepth 20000 in
theorem dX8_digest_153 : decode cX8_digest 153 = .ok (.ladd, 1) := dc_97 (lxX8_digest 9 9 rfl)
set_option maxRecDepth 20000 in
theorem dX8_digest_154 : decode cX8_digest 154 = .ok (.aload_n 0, 1) := dc_42 (lxX8_digest 9 10 rfl)
set_option maxRecDepth 20000 in
theorem dX8_digest_155 : decode cX8_digest 155 = .ok (.getfield 21, 3) := dc_180 0 21 (lxX8_digest 9 11 rfl) (lxX8_digest 9 12 rfl) (lxX8_digest 9 13 rfl)
set_option maxRecDepth 20000 in
theorem dX8_digest_158 : decode cX8_digest 158 = .ok (.invokestatic 175, 3) := dc_184 0 175 (lxX8_digest 9 14 rfl) (lxX8_digest 9 15 rfl) (lxX8_digest 10 0 rfl)
set_option maxRecDepth 20000 in
theorem dX8_digest_161 : decode cX8_digest 161 = .ok (.lstore_n 1, 1) := dc_64 (lxX8_digest 10 1 rfl)
set_option maxRecDepth 20000 in
theorem dX8_digest_162 : decode cX8_digest 162 = .ok (.lload_n 1, 1) := dc_31 (lxX8_digest 10 2 rfl)
set_option maxRecDepth 20000 in
theorem dX8_digest_163 : decode cX8_digest 163 = .ok (.iconst 5, 1) := dc_8 (lxX8_digest 10 3 rfl)
theorem dX8_digest_164 : decode cX8_digest 164 = .ok (.newarray .int, 2) := by decide +kernel
set_option maxRecDepth 20000 in
theorem dX8_digest_166 : decode cX8_digest 166 = .ok (.dup, 1) := dc_89 (lxX8_digest 10 6 rfl)
set_option maxRecDepth 20000 in
theorem dX8_digest_167 : decode cX8_digest 167 = .ok (.iconst 0, 1) := dc_3 (lxX8_digest 10 7 rfl)
set_option maxRecDepth 20000 in
theorem dX8_digest_168 : decode cX8_digest 168 = .ok (.aload_n 0, 1) := dc_42 (lxX8_digest 10 8 rfl)
set_option maxRecDepth 20000 in
theorem dX8_digest_169 : decode cX8_digest 169 = .ok (.getfield 18, 3) := dc_180 0 18 (lxX8_digest 10 9 rfl) (lxX8_digest 10 10 rfl) (lxX8_digest 10 11 rfl)
set_option maxRecDepth 20000 in
theorem dX8_digest_172 : decode cX8_digest 172 = .ok (.aload_n 0, 1) := dc_42 (lxX8_digest 10 12 rfl)
set_option maxRecDepth 20000 in
theorem dX8_digest_173 : decode cX8_digest 173 = .ok (.getfield 18, 3) := dc_180 0 18 (lxX8_digest 10 13 rfl) (lxX8_digest 10 14 rfl) (lxX8_digest 10 15 rfl)
set_option maxRecDepth 20000 in
theorem dX8_digest_176 : decode cX8_digest 176 = .ok (.arraylength, 1) := dc_190 (lxX8_digest 11 0 rfl)
set_option maxRecDepth 20000 in
theorem dX8_digest_177 : decode cX8_digest 177 = .ok (.invokestatic 160, 3) := dc_184 0 160 (lxX8_digest 11 1 rfl) (lxX8_digest 11 2 rfl) (lxX8_digest 11 3 rfl)
set_option maxRecDepth 20000 in
theorem dX8_digest_180 : decode cX8_digest 180 = .ok (.iastore, 1) := dc_79 (lxX8_digest 11 4 rfl)
set_option maxRecDepth 20000 in
theorem dX8_digest_181 : decode cX8_digest 181 = .ok (.dup, 1) := dc_89 (lxX8_digest 11 5 rfl)
set_option maxRecDepth 20000 in
theorem dX8_digest_182 : decode cX8_digest 182 = .ok (.iconst 1, 1) := dc_4 (lxX8_digest 11 6 rfl)
set_option maxRecDepth 20000 in
theorem dX8_digest_183 : decode cX8_digest 183 = .ok (.aload_n 0, 1) := dc_42 (lxX8_digest 11 7 rfl)
set_option maxRecDepth 20000 in
theorem dX8_digest_184 : decode cX8_digest 184 = .ok (.getfield 21, 3) := dc_180 0 21 (lxX8_digest 11 8 rfl) (lxX8_digest 11 9 rfl) (lxX8_digest 11 10 rfl)
set_option maxRecDepth 20000 in
theorem dX8_digest_187 : decode cX8_digest 187 = .ok (.aload_n 0, 1) := dc_42 (lxX8_digest 11 11 rfl)
set_option maxRecDepth 20000 in
theorem dX8_digest_188 : decode cX8_digest 188 = .ok (.getfield 21, 3) := dc_180 0 21 (lxX8_digest 11 12 rfl) (lxX8_digest 11 13 rfl) (lxX8_digest 11 14 rfl)
set_option maxRecDepth 20000 in
theorem dX8_digest_191 : decode cX8_digest 191 = .ok (.arraylength, 1) := dc_190 (lxX8_digest 11 15 rfl)
set_option maxRecDepth 20000 in
theorem dX8_digest_192 : decode cX8_digest 192 = .ok (.invokestatic 160, 3) := dc_184 0 160 (lxX8_digest 12 0 rfl) (lxX8_digest 12 1 rfl) (lxX8_digest 12 2 rfl)
set_option maxRecDepth 20000 in
theorem dX8_digest_195 : decode cX8_digest 195 = .ok (.iastore, 1) := dc_79 (lxX8_digest 12 3 rfl)
set_option maxRecDepth 20000 in
theorem dX8_digest_196 : decode cX8_digest 196 = .ok (.dup, 1) := dc_89 (lxX8_digest 12 4 rfl)
set_option maxRecDepth 20000 in
theorem dX8_digest_197 : decode cX8_digest 197 = .ok (.iconst 2, 1) := dc_5 (lxX8_digest 12 5 rfl)
set_option maxRecDepth 20000 in
theorem dX8_digest_198 : decode cX8_digest 198 = .ok (.aload_n 0, 1) := dc_42 (lxX8_digest 12 6 rfl)
set_option maxRecDepth 20000 in
theorem dX8_digest_199 : decode cX8_digest 199 = .ok (.getfield 18, 3) := dc_180 0 18 (lxX8_digest 12 7 rfl) (lxX8_digest 12 8 rfl) (lxX8_digest 12 9 rfl)
set_option maxRecDepth 20000 in
theorem dX8_digest_202 : decode cX8_digest 202 = .ok (.aload_n 0, 1) := dc_42 (lxX8_digest 12 10 rfl)
set_option maxRecDepth 20000 in
theorem dX8_digest_203 : decode cX8_digest 203 = .ok (.getfield 21, 3) := dc_180 0 21 (lxX8_digest 12 11 rfl) (lxX8_digest 12 12 rfl) (lxX8_digest 12 13 rfl)
set_option maxRecDepth 20000 in
theorem dX8_digest_206 : decode cX8_digest 206 = .ok (.invokestatic 153, 3) := dc_184 0 153 (lxX8_digest 12 14 rfl) (lxX8_digest 12 15 rfl) (lxX8_digest 13 0 rfl)
set_option maxRecDepth 20000 in
theorem dX8_digest_209 : decode cX8_digest 209 = .ok (.iastore, 1) := dc_79 (lxX8_digest 13 1 rfl)
set_option maxRecDepth 20000 in
theorem dX8_digest_210 : decode cX8_digest 210 = .ok (.dup, 1) := dc_89 (lxX8_digest 13 2 rfl)
set_option maxRecDepth 20000 in
theorem dX8_digest_211 : decode cX8_digest 211 = .ok (.iconst 3, 1) := dc_6 (lxX8_digest 13 3 rfl)
set_option maxRecDepth 20000 in
theorem dX8_digest_212 : decode cX8_digest 212 = .ok (.aload_n 0, 1) := dc_42 (lxX8_digest 13 4 rfl)
set_option maxRecDepth 20000 in
theorem dX8_digest_213 : decode cX8_digest 213 = .ok (.getfield 21, 3) := dc_180 0 21 (lxX8_digest 13 5 rfl) (lxX8_digest 13 6 rfl) (lxX8_digest 13 7 rfl)
set_option maxRecDepth 20000 in
theorem dX8_digest_216 : decode cX8_digest 216 = .ok (.aload_n 0, 1) := dc_42 (lxX8_digest 13 8 rfl)
set_option maxRecDepth 20000 in
theorem dX8_digest_217 : decode cX8_digest 217 = .ok (.getfield 18, 3) := dc_180 0 18 (lxX8_digest 13 9 rfl) (lxX8_digest 13 10 rfl) (lxX8_digest 13 11 rfl)
set_option maxRecDepth 20000 in
theorem dX8_digest_220 : decode cX8_digest 220 = .ok (.invokestatic 153, 3) := dc_184 0 153 (lxX8_digest 13 12 rfl) (lxX8_digest 13 13 rfl) (lxX8_digest 13 14 rfl)
set_option maxRecDepth 20000 in
theorem dX8_digest_223 : decode cX8_digest 223 = .ok (.iastore, 1) := dc_79 (lxX8_digest 13 15 rfl)
set_option maxRecDepth 20000 in
theorem dX8_digest_224 : decode cX8_digest 224 = .ok (.dup, 1) := dc_89 (lxX8_digest 14 0 rfl)
set_option maxRecDepth 20000 in
theorem dX8_digest_225 : decode cX8_digest 225 = .ok (.iconst 4, 1) := dc_7 (lxX8_digest 14 1 rfl)
set_option maxRecDepth 20000 in
theorem dX8_digest_226 : decode cX8_digest 226 = .ok (.aload_n 0, 1) := dc_42 (lxX8_digest 14 2 rfl)
set_option maxRecDepth 20000 in
theorem dX8_digest_227 : decode cX8_digest 227 = .ok (.getfield 129, 3) := dc_180 0 129 (lxX8_digest 14 3 rfl) (lxX8_digest 14 4 rfl) (lxX8_digest 14 5 rfl)
set_option maxRecDepth 20000 in
theorem dX8_digest_230 : decode cX8_digest 230 = .ok (.aload_n 0, 1) := dc_42 (lxX8_digest 14 6 rfl)
set_option maxRecDepth 20000 in
theorem dX8_digest_231 : decode cX8_digest 231 = .ok (.getfield 132, 3) := dc_180 0 132 (lxX8_digest 14 7 rfl) (lxX8_digest 14 8 rfl) (lxX8_digest 14 9 rfl)
set_option maxRecDepth 20000 in
theorem dX8_digest_234 : decode cX8_digest 234 = .ok (.isub, 1) := dc_100 (lxX8_digest 14 10 rfl)
set_option maxRecDepth 20000 in
theorem dX8_digest_235 : decode cX8_digest 235 = .ok (.iastore, 1) := dc_79 (lxX8_digest 14 11 rfl)
set_option maxRecDepth 20000 in
theorem dX8_digest_236 : decode cX8_digest 236 = .ok (.invokestatic 175, 3) := dc_184 0 175 (lxX8_digest 14 12 rfl) (lxX8_digest 14 13 rfl) (lxX8_digest 14 14 rfl)
set_option maxRecDepth 20000 in
theorem dX8_digest_239 : decode cX8_digest 239 = .ok (.lstore_n 1, 1) := dc_64 (lxX8_digest 14 15 rfl)
set_option maxRecDepth 20000 in
theorem dX8_digest_240 : decode cX8_digest 240 = .ok (.aload_n 0, 1) := dc_42 (lxX8_digest 15 0 rfl)
set_option maxRecDepth 20000 in
theorem dX8_digest_241 : decode cX8_digest 241 = .ok (.getfield 132, 3) := dc_180 0 132 (lxX8_digest 15 1 rfl) (lxX8_digest 15 2 rfl) (lxX8_digest 15 3 rfl)
set_option maxRecDepth 20000 in
theorem dX8_digest_244 : decode cX8_digest 244 = .ok (.istore_n 3, 1) := dc_62 (lxX8_digest 15 4 rfl)
set_option maxRecDepth 20000 in
theorem dX8_digest_245 : decode cX8_digest 245 = .ok (.iload_n 3, 1) := dc_29 (lxX8_digest 15 5 rfl)
set_option maxRecDepth 20000 in
theorem dX8_digest_246 : decode cX8_digest 246 = .ok (.aload_n 0, 1) := dc_42 (lxX8_digest 15 6 rfl)
set_option maxRecDepth 20000 in
theorem dX8_digest_247 : decode cX8_digest 247 = .ok (.getfield 129, 3) := dc_180 0 129 (lxX8_digest 15 7 rfl) (lxX8_digest 15 8 rfl) (lxX8_digest 15 9 rfl)
set_option maxRecDepth 20000 in
theorem dX8_digest_250 : decode cX8_digest 250 = .ok (.if_icmp .ge 23, 3) := dc_162 0 23 (lxX8_digest 15 10 rfl) (lxX8_digest 15 11 rfl) (lxX8_digest 15 12 rfl)
set_option maxRecDepth 20000 in
theorem dX8_digest_253 : decode cX8_digest 253 = .ok (.lload_n 1, 1) := dc_31 (lxX8_digest 15 13 rfl)
set_option maxRecDepth 20000 in
theorem dX8_digest_254 : decode cX8_digest 254 = .ok (.ldc2_w 171, 3) := dc_20 0 171 (lxX8_digest 15 14 rfl) (lxX8_digest 15 15 rfl) (lxX8_digest 16 0 rfl)
set_option maxRecDepth 20000 in
theorem dX8_digest_257 : decode cX8_digest 257 = .ok (.lmul, 1) := dc_105 (lxX8_digest 16 1 rfl)
set_option maxRecDepth 20000 in
theorem dX8_digest_258 : decode cX8_digest 258 = .ok (.aload_n 0, 1) := dc_42 (lxX8_digest 16 2 rfl)
set_option maxRecDepth 20000 in
theorem dX8_digest_259 : decode cX8_digest 259 = .ok (.getfield 24, 3) := dc_180 0 24 (lxX8_digest 16 3 rfl) (lxX8_digest 16 4 rfl) (lxX8_digest 16 5 rfl)
set_option maxRecDepth 20000 in
theorem dX8_digest_262 : decode cX8_digest 262 = .ok (.iload_n 3, 1) := dc_29 (lxX8_digest 16 6 rfl)
set_option maxRecDepth 20000 in
theorem dX8_digest_263 : decode cX8_digest 263 = .ok (.iaload, 1) := dc_46 (lxX8_digest 16 7 rfl)
set_option maxRecDepth 20000 in
theorem dX8_digest_264 : decode cX8_digest 264 = .ok (.i2l, 1) := dc_133 (lxX8_digest 16 8 rfl)
set_option maxRecDepth 20000 in
theorem dX8_digest_265 : decode cX8_digest 265 = .ok (.ladd, 1) := dc_97 (lxX8_digest 16 9 rfl)
set_option maxRecDepth 20000 in
theorem dX8_digest_266 : decode cX8_digest 266 = .ok (.lstore_n 1, 1) := dc_64 (lxX8_digest 16 10 rfl)
set_option maxRecDepth 20000 in
theorem dX8_digest_267 : decode cX8_digest 267 = .ok (.iinc 3 1, 3) := dc_132 3 1 (lxX8_digest 16 11 rfl) (lxX8_digest 16 12 rfl) (lxX8_digest 16 13 rfl)
set_option maxRecDepth 20000 in
theorem dX8_digest_270 : decode cX8_digest 270 = .ok (.goto (-25), 3) := dc_167 255 231 (lxX8_digest 16 14 rfl) (lxX8_digest 16 15 rfl) (lxX8_digest 17 0 rfl)
set_option maxRecDepth 20000 in
theorem dX8_digest_273 : decode cX8_digest 273 = .ok (.lload_n 1, 1) := dc_31 (lxX8_digest 17 1 rfl)
set_option maxRecDepth 20000 in
theorem dX8_digest_274 : decode cX8_digest 274 = .ok (.ldc2_w 171, 3) := dc_20 0 171 (lxX8_digest 17 2 rfl) (lxX8_digest 17 3 rfl) (lxX8_digest 17 4 rfl)
set_option maxRecDepth 20000 in
theorem dX8_digest_277 : decode cX8_digest 277 = .ok (.lmul, 1) := dc_105 (lxX8_digest 17 5 rfl)
set_option maxRecDepth 20000 in
theorem dX8_digest_278 : decode cX8_digest 278 = .ok (.aload_n 0, 1) := dc_42 (lxX8_digest 17 6 rfl)
set_option maxRecDepth 20000 in
theorem dX8_digest_279 : decode cX8_digest 279 = .ok (.getfield 129, 3) := dc_180 0 129 (lxX8_digest 17 7 rfl) (lxX8_digest 17 8 rfl) (lxX8_digest 17 9 rfl)
set_option maxRecDepth 20000 in
theorem dX8_digest_282 : decode cX8_digest 282 = .ok (.i2l, 1) := dc_133 (lxX8_digest 17 10 rfl)
set_option maxRecDepth 20000 in
theorem dX8_digest_283 : decode cX8_digest 283 = .ok (.ladd, 1) := dc_97 (lxX8_digest 17 11 rfl)
set_option maxRecDepth 20000 in
theorem dX8_digest_284 : decode cX8_digest 284 = .ok (.aload_n 0, 1) := dc_42 (lxX8_digest 17 12 rfl)
set_option maxRecDepth 20000 in
theorem dX8_digest_285 : decode cX8_digest 285 = .ok (.getfield 31, 3) := dc_180 0 31 (lxX8_digest 17 13 rfl) (lxX8_digest 17 14 rfl) (lxX8_digest 17 15 rfl)
set_option maxRecDepth 20000 in
theorem dX8_digest_288 : decode cX8_digest 288 = .ok (.invokestatic 175, 3) := dc_184 0 175 (lxX8_digest 18 0 rfl) (lxX8_digest 18 1 rfl) (lxX8_digest 18 2 rfl)
set_option maxRecDepth 20000 in
theorem dX8_digest_291 : decode cX8_digest 291 = .ok (.iconst 1, 1) := dc_4 (lxX8_digest 18 3 rfl)
theorem dX8_digest_292 : decode cX8_digest 292 = .ok (.newarray .int, 2) := by decide +kernel
set_option maxRecDepth 20000 in
theorem dX8_digest_294 : decode cX8_digest 294 = .ok (.dup, 1) := dc_89 (lxX8_digest 18 6 rfl)
set_option maxRecDepth 20000 in
theorem dX8_digest_295 : decode cX8_digest 295 = .ok (.iconst 0, 1) := dc_3 (lxX8_digest 18 7 rfl)
set_option maxRecDepth 20000 in
theorem dX8_digest_296 : decode cX8_digest 296 = .ok (.aload_n 0, 1) := dc_42 (lxX8_digest 18 8 rfl)
set_option maxRecDepth 20000 in
theorem dX8_digest_297 : decode cX8_digest 297 = .ok (.invokevirtual 167, 3) := dc_182 0 167 (lxX8_digest 18 9 rfl) (lxX8_digest 18 10 rfl) (lxX8_digest 18 11 rfl)
set_option maxRecDepth 20000 in
theorem dX8_digest_300 : decode cX8_digest 300 = .ok (.ifCond .eq 7, 3) := dc_153 0 7 (lxX8_digest 18 12 rfl) (lxX8_digest 18 13 rfl) (lxX8_digest 18 14 rfl)
set_option maxRecDepth 20000 in
theorem dX8_digest_303 : decode cX8_digest 303 = .ok (.iconst 1, 1) := dc_4 (lxX8_digest 18 15 rfl)
set_option maxRecDepth 20000 in
theorem dX8_digest_304 : decode cX8_digest 304 = .ok (.goto 4, 3) := dc_167 0 4 (lxX8_digest 19 0 rfl) (lxX8_digest 19 1 rfl) (lxX8_digest 19 2 rfl)
set_option maxRecDepth 20000 in
theorem dX8_digest_307 : decode cX8_digest 307 = .ok (.iconst 0, 1) := dc_3 (lxX8_digest 19 3 rfl)
set_option maxRecDepth 20000 in
theorem dX8_digest_308 : decode cX8_digest 308 = .ok (.iastore, 1) := dc_79 (lxX8_digest 19 4 rfl)
set_option maxRecDepth 20000 in
theorem dX8_digest_309 : decode cX8_digest 309 = .ok (.invokestatic 175, 3) := dc_184 0 175 (lxX8_digest 19 5 rfl) (lxX8_digest 19 6 rfl) (lxX8_digest 19 7 rfl)
set_option maxRecDepth 20000 in
theorem dX8_digest_312 : decode cX8_digest 312 = .ok (.lreturn, 1) := dc_173 (lxX8_digest 19 8 rfl)
