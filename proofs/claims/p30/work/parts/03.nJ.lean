noncomputable def sgJ5_init_d00df : List (List Cond) := [[.code yJ5_init_d00df cJ5_init_d00df 2 none], [.methodLink RJ5 3 objectInit, .instanceMethod objectInit, .code objectInit ⟨#[0xb1]⟩ 1 none, .fieldLink RJ5 18 "java/lang/String" "COMPACT_STRINGS" "Z", .arrayClass .byte, .fieldLink RJ5 15 "java/lang/AbstractStringBuilder" "value" "[B", .fieldLink RJ5 22 "java/lang/AbstractStringBuilder" "coder" "B", .methodLink RJ5 26 yJ2_newBytesFor_77867, .static yJ2_newBytesFor_77867, .initialized RJ2, .code yJ2_newBytesFor_77867 cJ2_newBytesFor_77867 1 (some (.array .byte)), .methodLink RJ2 11 yJ2_newBytesLength_0f7a4, .static yJ2_newBytesLength_0f7a4, .code yJ2_newBytesLength_0f7a4 cJ2_newBytesLength_0f7a4 1 (some .int), .constant RJ2 20 (1073741823)], wsJ40]
theorem seJ5_init_d00df : sgJ5_init_d00df.flatten = wsJ5_init_d00df := by simp only [sgJ5_init_d00df, wsJ5_init_d00df, List.flatten_cons, List.flatten_nil, List.append_assoc, List.append_nil, List.cons_append, List.nil_append]
set_option maxRecDepth 20000 in
theorem ggJ5_init_d00df_J2_newBytesFor_77867 : GoodIn wsJ5_init_d00df wsJ2_newBytesFor_77867 := goodIn_s seJ5_init_d00df _ [pq_1_10, pq_1_4, pq_1_11, pq_1_12, pq_1_9, pq_1_13, pq_1_14] (by rfl) gw_wsJ2_newBytesFor_77867
set_option maxRecDepth 20000 in
theorem gJ5_init_d00df_J2_newBytesFor_77867 : GoodIn wsJ5_init_d00df (va_wsS RJ5 26 yJ2_newBytesFor_77867 wsJ2_newBytesFor_77867) := goodIn_app (goodIn_s seJ5_init_d00df _ [pq_1_7, pq_1_8, pq_1_9] (by rfl) (by decide +kernel)) ggJ5_init_d00df_J2_newBytesFor_77867
def lb_sgJ5_init_d00df : List (List UInt8) := [[42, 183, 0, 3, 178, 0, 18, 153, 0, 18, 42, 27, 188, 8, 181, 0], [15, 42, 3, 181, 0, 22, 167, 0, 16, 42, 27, 184, 0, 26, 181, 0], [15, 42, 4, 181, 0, 22, 177]]
set_option maxRecDepth 100000 in
theorem lb_seJ5_init_d00df : cJ5_init_d00df.data.toList = lb_sgJ5_init_d00df.flatten := by decide +kernel
theorem lb_lnJ5_init_d00df : ∀ s ∈ lb_sgJ5_init_d00df.dropLast, s.length = 16 := by decide +kernel
theorem lxJ5_init_d00df (k j : Nat) {b : UInt8} (h : (lb_sgJ5_init_d00df[k]?).bind (fun s => s[j]?) = some b) : lb_at cJ5_init_d00df (16 * k + j) b := by
  unfold lb_at
  rw [lb_seJ5_init_d00df]
  exact lb_flat 16 lb_sgJ5_init_d00df k j b lb_lnJ5_init_d00df h
set_option maxRecDepth 20000 in
theorem dJ5_init_d00df_0 : decode cJ5_init_d00df 0 = .ok (.aload_n 0, 1) := dc_42 (lxJ5_init_d00df 0 0 rfl)
set_option maxRecDepth 20000 in
theorem dJ5_init_d00df_1 : decode cJ5_init_d00df 1 = .ok (.invokespecial 3, 3) := dc_183 0 3 (lxJ5_init_d00df 0 1 rfl) (lxJ5_init_d00df 0 2 rfl) (lxJ5_init_d00df 0 3 rfl)
set_option maxRecDepth 20000 in
theorem dJ5_init_d00df_4 : decode cJ5_init_d00df 4 = .ok (.getstatic 18, 3) := dc_178 0 18 (lxJ5_init_d00df 0 4 rfl) (lxJ5_init_d00df 0 5 rfl) (lxJ5_init_d00df 0 6 rfl)
set_option maxRecDepth 20000 in
theorem dJ5_init_d00df_7 : decode cJ5_init_d00df 7 = .ok (.ifCond .eq 18, 3) := dc_153 0 18 (lxJ5_init_d00df 0 7 rfl) (lxJ5_init_d00df 0 8 rfl) (lxJ5_init_d00df 0 9 rfl)
set_option maxRecDepth 20000 in
theorem dJ5_init_d00df_10 : decode cJ5_init_d00df 10 = .ok (.aload_n 0, 1) := dc_42 (lxJ5_init_d00df 0 10 rfl)
set_option maxRecDepth 20000 in
theorem dJ5_init_d00df_11 : decode cJ5_init_d00df 11 = .ok (.iload_n 1, 1) := dc_27 (lxJ5_init_d00df 0 11 rfl)
theorem dJ5_init_d00df_12 : decode cJ5_init_d00df 12 = .ok (.newarray .byte, 2) := by decide +kernel
set_option maxRecDepth 20000 in
theorem dJ5_init_d00df_14 : decode cJ5_init_d00df 14 = .ok (.putfield 15, 3) := dc_181 0 15 (lxJ5_init_d00df 0 14 rfl) (lxJ5_init_d00df 0 15 rfl) (lxJ5_init_d00df 1 0 rfl)
set_option maxRecDepth 20000 in
theorem dJ5_init_d00df_17 : decode cJ5_init_d00df 17 = .ok (.aload_n 0, 1) := dc_42 (lxJ5_init_d00df 1 1 rfl)
set_option maxRecDepth 20000 in
theorem dJ5_init_d00df_18 : decode cJ5_init_d00df 18 = .ok (.iconst 0, 1) := dc_3 (lxJ5_init_d00df 1 2 rfl)
set_option maxRecDepth 20000 in
theorem dJ5_init_d00df_19 : decode cJ5_init_d00df 19 = .ok (.putfield 22, 3) := dc_181 0 22 (lxJ5_init_d00df 1 3 rfl) (lxJ5_init_d00df 1 4 rfl) (lxJ5_init_d00df 1 5 rfl)
set_option maxRecDepth 20000 in
theorem dJ5_init_d00df_22 : decode cJ5_init_d00df 22 = .ok (.goto 16, 3) := dc_167 0 16 (lxJ5_init_d00df 1 6 rfl) (lxJ5_init_d00df 1 7 rfl) (lxJ5_init_d00df 1 8 rfl)
set_option maxRecDepth 20000 in
theorem dJ5_init_d00df_25 : decode cJ5_init_d00df 25 = .ok (.aload_n 0, 1) := dc_42 (lxJ5_init_d00df 1 9 rfl)
set_option maxRecDepth 20000 in
theorem dJ5_init_d00df_26 : decode cJ5_init_d00df 26 = .ok (.iload_n 1, 1) := dc_27 (lxJ5_init_d00df 1 10 rfl)
set_option maxRecDepth 20000 in
theorem dJ5_init_d00df_27 : decode cJ5_init_d00df 27 = .ok (.invokestatic 26, 3) := dc_184 0 26 (lxJ5_init_d00df 1 11 rfl) (lxJ5_init_d00df 1 12 rfl) (lxJ5_init_d00df 1 13 rfl)
set_option maxRecDepth 20000 in
theorem dJ5_init_d00df_30 : decode cJ5_init_d00df 30 = .ok (.putfield 15, 3) := dc_181 0 15 (lxJ5_init_d00df 1 14 rfl) (lxJ5_init_d00df 1 15 rfl) (lxJ5_init_d00df 2 0 rfl)
set_option maxRecDepth 20000 in
theorem dJ5_init_d00df_33 : decode cJ5_init_d00df 33 = .ok (.aload_n 0, 1) := dc_42 (lxJ5_init_d00df 2 1 rfl)
set_option maxRecDepth 20000 in
theorem dJ5_init_d00df_34 : decode cJ5_init_d00df 34 = .ok (.iconst 1, 1) := dc_4 (lxJ5_init_d00df 2 2 rfl)
set_option maxRecDepth 20000 in
theorem dJ5_init_d00df_35 : decode cJ5_init_d00df 35 = .ok (.putfield 22, 3) := dc_181 0 22 (lxJ5_init_d00df 2 3 rfl) (lxJ5_init_d00df 2 4 rfl) (lxJ5_init_d00df 2 5 rfl)
set_option maxRecDepth 20000 in
theorem dJ5_init_d00df_38 : decode cJ5_init_d00df 38 = .ok (.return_, 1) := dc_177 (lxJ5_init_d00df 2 6 rfl)
set_option maxRecDepth 20000 in
theorem dJ5_length_8abf5_0 : decode cJ5_length_8abf5 0 = .ok (.aload_n 0, 1) := dc_42 rfl
set_option maxRecDepth 20000 in
theorem dJ5_length_8abf5_1 : decode cJ5_length_8abf5 1 = .ok (.getfield 79, 3) := dc_180 0 79 rfl rfl rfl
set_option maxRecDepth 20000 in
theorem dJ5_length_8abf5_4 : decode cJ5_length_8abf5 4 = .ok (.ireturn, 1) := dc_172 rfl
noncomputable def sgJ5_ensureCapacityInternal_d00df : List (List Cond) := [[.code yJ5_ensureCapacityInternal_d00df cJ5_ensureCapacityInternal_d00df 3 none], wsJ5_ensureCapacityInternal_d00df_r1, wsJ5_ensureCapacityInternal_d00df_r2, wsJ40]
theorem seJ5_ensureCapacityInternal_d00df : sgJ5_ensureCapacityInternal_d00df.flatten = wsJ5_ensureCapacityInternal_d00df := by simp only [sgJ5_ensureCapacityInternal_d00df, wsJ5_ensureCapacityInternal_d00df, List.flatten_cons, List.flatten_nil, List.append_assoc, List.append_nil, List.cons_append, List.nil_append]
set_option maxRecDepth 20000 in
theorem ggJ5_ensureCapacityInternal_d00df_J5_newCapacity_0f7a4 : GoodIn wsJ5_ensureCapacityInternal_d00df wsJ5_newCapacity_0f7a4 := goodIn_s seJ5_ensureCapacityInternal_d00df _ [pq_1_7, pq_1_0, pq_1_1, pq_1_8, pq_1_9, pq_1_10, pq_1_11, pq_1_12, pq_1_13, pq_1_14, pq_1_15, pq_1_16, pq_1_17, pq_1_18, pq_1_19, pq_1_20, pq_3_0, pq_3_1, pq_3_2, pq_3_3] (by rfl) gw_wsJ5_newCapacity_0f7a4
set_option maxRecDepth 20000 in
theorem gJ5_ensureCapacityInternal_d00df_J5_newCapacity_0f7a4_u104J4 : GoodIn wsJ5_ensureCapacityInternal_d00df (va_wsU RJ5 104 RJ4 "java/lang/AbstractStringBuilder" ⟨"java/lang/AbstractStringBuilder", "newCapacity", "(I)I"⟩ yJ5_newCapacity_0f7a4 wsJ5_newCapacity_0f7a4) := goodIn_app (goodIn_s seJ5_ensureCapacityInternal_d00df _ [pq_1_2, pq_1_3, pq_1_4, pq_1_5, pq_1_6] (by rfl) (by decide +kernel)) ggJ5_ensureCapacityInternal_d00df_J5_newCapacity_0f7a4
set_option maxRecDepth 20000 in
theorem ggJ5_ensureCapacityInternal_d00df_J7_copyOf_9075b : GoodIn wsJ5_ensureCapacityInternal_d00df wsJ7_copyOf_9075b := goodIn_s seJ5_ensureCapacityInternal_d00df _ [pq_2_0, pq_2_1, pq_2_2, pq_2_3, pq_2_4, pq_2_5, pq_2_6, pq_2_7, pq_2_8, pq_2_9, pq_1_15, pq_2_10, pq_2_11, pq_2_12, pq_2_13, pq_2_14] (by rfl) gw_wsJ7_copyOf_9075b
set_option maxRecDepth 20000 in
theorem gJ5_ensureCapacityInternal_d00df_J7_copyOf_9075b : GoodIn wsJ5_ensureCapacityInternal_d00df (va_wsS RJ5 108 yJ7_copyOf_9075b wsJ7_copyOf_9075b) := goodIn_app (goodIn_s seJ5_ensureCapacityInternal_d00df _ [pq_1_21, pq_1_22, pq_1_23] (by rfl) (by decide +kernel)) ggJ5_ensureCapacityInternal_d00df_J7_copyOf_9075b
def lb_sgJ5_ensureCapacityInternal_d00df : List (List UInt8) := [[42, 180, 0, 15, 190, 42, 180, 0, 22, 122, 61, 27, 28, 100, 158, 0], [24, 42, 42, 180, 0, 15, 42, 27, 182, 0, 104, 42, 180, 0, 22, 120], [184, 0, 108, 181, 0, 15, 177]]
set_option maxRecDepth 100000 in
theorem lb_seJ5_ensureCapacityInternal_d00df : cJ5_ensureCapacityInternal_d00df.data.toList = lb_sgJ5_ensureCapacityInternal_d00df.flatten := by decide +kernel
theorem lb_lnJ5_ensureCapacityInternal_d00df : ∀ s ∈ lb_sgJ5_ensureCapacityInternal_d00df.dropLast, s.length = 16 := by decide +kernel
theorem lxJ5_ensureCapacityInternal_d00df (k j : Nat) {b : UInt8} (h : (lb_sgJ5_ensureCapacityInternal_d00df[k]?).bind (fun s => s[j]?) = some b) : lb_at cJ5_ensureCapacityInternal_d00df (16 * k + j) b := by
  unfold lb_at
  rw [lb_seJ5_ensureCapacityInternal_d00df]
  exact lb_flat 16 lb_sgJ5_ensureCapacityInternal_d00df k j b lb_lnJ5_ensureCapacityInternal_d00df h
set_option maxRecDepth 20000 in
theorem dJ5_ensureCapacityInternal_d00df_0 : decode cJ5_ensureCapacityInternal_d00df 0 = .ok (.aload_n 0, 1) := dc_42 (lxJ5_ensureCapacityInternal_d00df 0 0 rfl)
set_option maxRecDepth 20000 in
theorem dJ5_ensureCapacityInternal_d00df_1 : decode cJ5_ensureCapacityInternal_d00df 1 = .ok (.getfield 15, 3) := dc_180 0 15 (lxJ5_ensureCapacityInternal_d00df 0 1 rfl) (lxJ5_ensureCapacityInternal_d00df 0 2 rfl) (lxJ5_ensureCapacityInternal_d00df 0 3 rfl)
set_option maxRecDepth 20000 in
theorem dJ5_ensureCapacityInternal_d00df_4 : decode cJ5_ensureCapacityInternal_d00df 4 = .ok (.arraylength, 1) := dc_190 (lxJ5_ensureCapacityInternal_d00df 0 4 rfl)
set_option maxRecDepth 20000 in
theorem dJ5_ensureCapacityInternal_d00df_5 : decode cJ5_ensureCapacityInternal_d00df 5 = .ok (.aload_n 0, 1) := dc_42 (lxJ5_ensureCapacityInternal_d00df 0 5 rfl)
set_option maxRecDepth 20000 in
theorem dJ5_ensureCapacityInternal_d00df_6 : decode cJ5_ensureCapacityInternal_d00df 6 = .ok (.getfield 22, 3) := dc_180 0 22 (lxJ5_ensureCapacityInternal_d00df 0 6 rfl) (lxJ5_ensureCapacityInternal_d00df 0 7 rfl) (lxJ5_ensureCapacityInternal_d00df 0 8 rfl)
set_option maxRecDepth 20000 in
theorem dJ5_ensureCapacityInternal_d00df_9 : decode cJ5_ensureCapacityInternal_d00df 9 = .ok (.ishr, 1) := dc_122 (lxJ5_ensureCapacityInternal_d00df 0 9 rfl)
set_option maxRecDepth 20000 in
theorem dJ5_ensureCapacityInternal_d00df_10 : decode cJ5_ensureCapacityInternal_d00df 10 = .ok (.istore_n 2, 1) := dc_61 (lxJ5_ensureCapacityInternal_d00df 0 10 rfl)
set_option maxRecDepth 20000 in
theorem dJ5_ensureCapacityInternal_d00df_11 : decode cJ5_ensureCapacityInternal_d00df 11 = .ok (.iload_n 1, 1) := dc_27 (lxJ5_ensureCapacityInternal_d00df 0 11 rfl)
set_option maxRecDepth 20000 in
theorem dJ5_ensureCapacityInternal_d00df_12 : decode cJ5_ensureCapacityInternal_d00df 12 = .ok (.iload_n 2, 1) := dc_28 (lxJ5_ensureCapacityInternal_d00df 0 12 rfl)
set_option maxRecDepth 20000 in
theorem dJ5_ensureCapacityInternal_d00df_13 : decode cJ5_ensureCapacityInternal_d00df 13 = .ok (.isub, 1) := dc_100 (lxJ5_ensureCapacityInternal_d00df 0 13 rfl)
set_option maxRecDepth 20000 in
theorem dJ5_ensureCapacityInternal_d00df_14 : decode cJ5_ensureCapacityInternal_d00df 14 = .ok (.ifCond .le 24, 3) := dc_158 0 24 (lxJ5_ensureCapacityInternal_d00df 0 14 rfl) (lxJ5_ensureCapacityInternal_d00df 0 15 rfl) (lxJ5_ensureCapacityInternal_d00df 1 0 rfl)
set_option maxRecDepth 20000 in
theorem dJ5_ensureCapacityInternal_d00df_17 : decode cJ5_ensureCapacityInternal_d00df 17 = .ok (.aload_n 0, 1) := dc_42 (lxJ5_ensureCapacityInternal_d00df 1 1 rfl)
set_option maxRecDepth 20000 in
theorem dJ5_ensureCapacityInternal_d00df_18 : decode cJ5_ensureCapacityInternal_d00df 18 = .ok (.aload_n 0, 1) := dc_42 (lxJ5_ensureCapacityInternal_d00df 1 2 rfl)
set_option maxRecDepth 20000 in
theorem dJ5_ensureCapacityInternal_d00df_19 : decode cJ5_ensureCapacityInternal_d00df 19 = .ok (.getfield 15, 3) := dc_180 0 15 (lxJ5_ensureCapacityInternal_d00df 1 3 rfl) (lxJ5_ensureCapacityInternal_d00df 1 4 rfl) (lxJ5_ensureCapacityInternal_d00df 1 5 rfl)
set_option maxRecDepth 20000 in
theorem dJ5_ensureCapacityInternal_d00df_22 : decode cJ5_ensureCapacityInternal_d00df 22 = .ok (.aload_n 0, 1) := dc_42 (lxJ5_ensureCapacityInternal_d00df 1 6 rfl)
set_option maxRecDepth 20000 in
theorem dJ5_ensureCapacityInternal_d00df_23 : decode cJ5_ensureCapacityInternal_d00df 23 = .ok (.iload_n 1, 1) := dc_27 (lxJ5_ensureCapacityInternal_d00df 1 7 rfl)
set_option maxRecDepth 20000 in
theorem dJ5_ensureCapacityInternal_d00df_24 : decode cJ5_ensureCapacityInternal_d00df 24 = .ok (.invokevirtual 104, 3) := dc_182 0 104 (lxJ5_ensureCapacityInternal_d00df 1 8 rfl) (lxJ5_ensureCapacityInternal_d00df 1 9 rfl) (lxJ5_ensureCapacityInternal_d00df 1 10 rfl)
set_option maxRecDepth 20000 in
theorem dJ5_ensureCapacityInternal_d00df_27 : decode cJ5_ensureCapacityInternal_d00df 27 = .ok (.aload_n 0, 1) := dc_42 (lxJ5_ensureCapacityInternal_d00df 1 11 rfl)
set_option maxRecDepth 20000 in
theorem dJ5_ensureCapacityInternal_d00df_28 : decode cJ5_ensureCapacityInternal_d00df 28 = .ok (.getfield 22, 3) := dc_180 0 22 (lxJ5_ensureCapacityInternal_d00df 1 12 rfl) (lxJ5_ensureCapacityInternal_d00df 1 13 rfl) (lxJ5_ensureCapacityInternal_d00df 1 14 rfl)
set_option maxRecDepth 20000 in
theorem dJ5_ensureCapacityInternal_d00df_31 : decode cJ5_ensureCapacityInternal_d00df 31 = .ok (.ishl, 1) := dc_120 (lxJ5_ensureCapacityInternal_d00df 1 15 rfl)
set_option maxRecDepth 20000 in
theorem dJ5_ensureCapacityInternal_d00df_32 : decode cJ5_ensureCapacityInternal_d00df 32 = .ok (.invokestatic 108, 3) := dc_184 0 108 (lxJ5_ensureCapacityInternal_d00df 2 0 rfl) (lxJ5_ensureCapacityInternal_d00df 2 1 rfl) (lxJ5_ensureCapacityInternal_d00df 2 2 rfl)
set_option maxRecDepth 20000 in
theorem dJ5_ensureCapacityInternal_d00df_35 : decode cJ5_ensureCapacityInternal_d00df 35 = .ok (.putfield 15, 3) := dc_181 0 15 (lxJ5_ensureCapacityInternal_d00df 2 3 rfl) (lxJ5_ensureCapacityInternal_d00df 2 4 rfl) (lxJ5_ensureCapacityInternal_d00df 2 5 rfl)
set_option maxRecDepth 20000 in
theorem dJ5_ensureCapacityInternal_d00df_38 : decode cJ5_ensureCapacityInternal_d00df 38 = .ok (.return_, 1) := dc_177 (lxJ5_ensureCapacityInternal_d00df 2 6 rfl)
noncomputable def sgJ5_newCapacity_0f7a4 : List (List Cond) := [[.code yJ5_newCapacity_0f7a4 cJ5_newCapacity_0f7a4 6 (some .int)], [.fieldLink RJ5 15 "java/lang/AbstractStringBuilder" "value" "[B", .fieldLink RJ5 22 "java/lang/AbstractStringBuilder" "coder" "B", .constant RJ5 39 (2147483647), .methodLink RJ5 114 yJ8_newLength_cabcc, .static yJ8_newLength_cabcc, .initialized RJ8, .code yJ8_newLength_cabcc cJ8_newLength_cabcc 4 (some .int), .methodLink RJ8 194 Lib.Math.max.name, .static Lib.Math.max.name, .initialized "java/lang/Math", .code Lib.Math.max.name Lib.Math.max.code 2 (some .int), .constant RJ8 200 (2147483639), .methodLink RJ8 201 yJ8_hugeLength_7cf53, .static yJ8_hugeLength_7cf53, .code yJ8_hugeLength_7cf53 cJ8_hugeLength_7cf53 3 (some .int)], wsJ40]
theorem seJ5_newCapacity_0f7a4 : sgJ5_newCapacity_0f7a4.flatten = wsJ5_newCapacity_0f7a4 := by simp only [sgJ5_newCapacity_0f7a4, wsJ5_newCapacity_0f7a4, List.flatten_cons, List.flatten_nil, List.append_assoc, List.append_nil, List.cons_append, List.nil_append]
set_option maxRecDepth 20000 in
theorem ggJ5_newCapacity_0f7a4_J8_newLength_cabcc : GoodIn wsJ5_newCapacity_0f7a4 wsJ8_newLength_cabcc := goodIn_s seJ5_newCapacity_0f7a4 _ [pq_1_6, pq_1_7, pq_1_8, pq_1_9, pq_1_10, pq_1_11, pq_1_12, pq_1_13, pq_1_5, pq_1_14] (by rfl) gw_wsJ8_newLength_cabcc
set_option maxRecDepth 20000 in
theorem gJ5_newCapacity_0f7a4_J8_newLength_cabcc : GoodIn wsJ5_newCapacity_0f7a4 (va_wsS RJ5 114 yJ8_newLength_cabcc wsJ8_newLength_cabcc) := goodIn_app (goodIn_s seJ5_newCapacity_0f7a4 _ [pq_1_3, pq_1_4, pq_1_5] (by rfl) (by decide +kernel)) ggJ5_newCapacity_0f7a4_J8_newLength_cabcc
def lb_sgJ5_newCapacity_0f7a4 : List (List UInt8) := [[42, 180, 0, 15, 190, 61, 27, 42, 180, 0, 22, 120, 62, 29, 28, 100], [54, 4, 28, 21, 4, 28, 5, 42, 180, 0, 22, 120, 96, 184, 0, 114], [54, 5, 21, 5, 18, 39, 160, 0, 13, 187, 0, 120, 89, 18, 122, 183], [0, 124, 191, 21, 5, 42, 180, 0, 22, 122, 172]]
set_option maxRecDepth 100000 in
theorem lb_seJ5_newCapacity_0f7a4 : cJ5_newCapacity_0f7a4.data.toList = lb_sgJ5_newCapacity_0f7a4.flatten := by decide +kernel
theorem lb_lnJ5_newCapacity_0f7a4 : ∀ s ∈ lb_sgJ5_newCapacity_0f7a4.dropLast, s.length = 16 := by decide +kernel
theorem lxJ5_newCapacity_0f7a4 (k j : Nat) {b : UInt8} (h : (lb_sgJ5_newCapacity_0f7a4[k]?).bind (fun s => s[j]?) = some b) : lb_at cJ5_newCapacity_0f7a4 (16 * k + j) b := by
  unfold lb_at
  rw [lb_seJ5_newCapacity_0f7a4]
  exact lb_flat 16 lb_sgJ5_newCapacity_0f7a4 k j b lb_lnJ5_newCapacity_0f7a4 h
set_option maxRecDepth 20000 in
theorem dJ5_newCapacity_0f7a4_0 : decode cJ5_newCapacity_0f7a4 0 = .ok (.aload_n 0, 1) := dc_42 (lxJ5_newCapacity_0f7a4 0 0 rfl)
set_option maxRecDepth 20000 in
theorem dJ5_newCapacity_0f7a4_1 : decode cJ5_newCapacity_0f7a4 1 = .ok (.getfield 15, 3) := dc_180 0 15 (lxJ5_newCapacity_0f7a4 0 1 rfl) (lxJ5_newCapacity_0f7a4 0 2 rfl) (lxJ5_newCapacity_0f7a4 0 3 rfl)
set_option maxRecDepth 20000 in
theorem dJ5_newCapacity_0f7a4_4 : decode cJ5_newCapacity_0f7a4 4 = .ok (.arraylength, 1) := dc_190 (lxJ5_newCapacity_0f7a4 0 4 rfl)
set_option maxRecDepth 20000 in
theorem dJ5_newCapacity_0f7a4_5 : decode cJ5_newCapacity_0f7a4 5 = .ok (.istore_n 2, 1) := dc_61 (lxJ5_newCapacity_0f7a4 0 5 rfl)
set_option maxRecDepth 20000 in
theorem dJ5_newCapacity_0f7a4_6 : decode cJ5_newCapacity_0f7a4 6 = .ok (.iload_n 1, 1) := dc_27 (lxJ5_newCapacity_0f7a4 0 6 rfl)
set_option maxRecDepth 20000 in
theorem dJ5_newCapacity_0f7a4_7 : decode cJ5_newCapacity_0f7a4 7 = .ok (.aload_n 0, 1) := dc_42 (lxJ5_newCapacity_0f7a4 0 7 rfl)
set_option maxRecDepth 20000 in
theorem dJ5_newCapacity_0f7a4_8 : decode cJ5_newCapacity_0f7a4 8 = .ok (.getfield 22, 3) := dc_180 0 22 (lxJ5_newCapacity_0f7a4 0 8 rfl) (lxJ5_newCapacity_0f7a4 0 9 rfl) (lxJ5_newCapacity_0f7a4 0 10 rfl)
set_option maxRecDepth 20000 in
theorem dJ5_newCapacity_0f7a4_11 : decode cJ5_newCapacity_0f7a4 11 = .ok (.ishl, 1) := dc_120 (lxJ5_newCapacity_0f7a4 0 11 rfl)
set_option maxRecDepth 20000 in
theorem dJ5_newCapacity_0f7a4_12 : decode cJ5_newCapacity_0f7a4 12 = .ok (.istore_n 3, 1) := dc_62 (lxJ5_newCapacity_0f7a4 0 12 rfl)
set_option maxRecDepth 20000 in
theorem dJ5_newCapacity_0f7a4_13 : decode cJ5_newCapacity_0f7a4 13 = .ok (.iload_n 3, 1) := dc_29 (lxJ5_newCapacity_0f7a4 0 13 rfl)
set_option maxRecDepth 20000 in
theorem dJ5_newCapacity_0f7a4_14 : decode cJ5_newCapacity_0f7a4 14 = .ok (.iload_n 2, 1) := dc_28 (lxJ5_newCapacity_0f7a4 0 14 rfl)
set_option maxRecDepth 20000 in
theorem dJ5_newCapacity_0f7a4_15 : decode cJ5_newCapacity_0f7a4 15 = .ok (.isub, 1) := dc_100 (lxJ5_newCapacity_0f7a4 0 15 rfl)
set_option maxRecDepth 20000 in
theorem dJ5_newCapacity_0f7a4_16 : decode cJ5_newCapacity_0f7a4 16 = .ok (.istore 4, 2) := dc_54 4 (lxJ5_newCapacity_0f7a4 1 0 rfl) (lxJ5_newCapacity_0f7a4 1 1 rfl)
set_option maxRecDepth 20000 in
theorem dJ5_newCapacity_0f7a4_18 : decode cJ5_newCapacity_0f7a4 18 = .ok (.iload_n 2, 1) := dc_28 (lxJ5_newCapacity_0f7a4 1 2 rfl)
set_option maxRecDepth 20000 in
theorem dJ5_newCapacity_0f7a4_19 : decode cJ5_newCapacity_0f7a4 19 = .ok (.iload 4, 2) := dc_21 4 (lxJ5_newCapacity_0f7a4 1 3 rfl) (lxJ5_newCapacity_0f7a4 1 4 rfl)
set_option maxRecDepth 20000 in
theorem dJ5_newCapacity_0f7a4_21 : decode cJ5_newCapacity_0f7a4 21 = .ok (.iload_n 2, 1) := dc_28 (lxJ5_newCapacity_0f7a4 1 5 rfl)
set_option maxRecDepth 20000 in
theorem dJ5_newCapacity_0f7a4_22 : decode cJ5_newCapacity_0f7a4 22 = .ok (.iconst 2, 1) := dc_5 (lxJ5_newCapacity_0f7a4 1 6 rfl)
set_option maxRecDepth 20000 in
theorem dJ5_newCapacity_0f7a4_23 : decode cJ5_newCapacity_0f7a4 23 = .ok (.aload_n 0, 1) := dc_42 (lxJ5_newCapacity_0f7a4 1 7 rfl)
set_option maxRecDepth 20000 in
theorem dJ5_newCapacity_0f7a4_24 : decode cJ5_newCapacity_0f7a4 24 = .ok (.getfield 22, 3) := dc_180 0 22 (lxJ5_newCapacity_0f7a4 1 8 rfl) (lxJ5_newCapacity_0f7a4 1 9 rfl) (lxJ5_newCapacity_0f7a4 1 10 rfl)
set_option maxRecDepth 20000 in
theorem dJ5_newCapacity_0f7a4_27 : decode cJ5_newCapacity_0f7a4 27 = .ok (.ishl, 1) := dc_120 (lxJ5_newCapacity_0f7a4 1 11 rfl)
set_option maxRecDepth 20000 in
theorem dJ5_newCapacity_0f7a4_28 : decode cJ5_newCapacity_0f7a4 28 = .ok (.iadd, 1) := dc_96 (lxJ5_newCapacity_0f7a4 1 12 rfl)
set_option maxRecDepth 20000 in
theorem dJ5_newCapacity_0f7a4_29 : decode cJ5_newCapacity_0f7a4 29 = .ok (.invokestatic 114, 3) := dc_184 0 114 (lxJ5_newCapacity_0f7a4 1 13 rfl) (lxJ5_newCapacity_0f7a4 1 14 rfl) (lxJ5_newCapacity_0f7a4 1 15 rfl)
set_option maxRecDepth 20000 in
theorem dJ5_newCapacity_0f7a4_32 : decode cJ5_newCapacity_0f7a4 32 = .ok (.istore 5, 2) := dc_54 5 (lxJ5_newCapacity_0f7a4 2 0 rfl) (lxJ5_newCapacity_0f7a4 2 1 rfl)
set_option maxRecDepth 20000 in
theorem dJ5_newCapacity_0f7a4_34 : decode cJ5_newCapacity_0f7a4 34 = .ok (.iload 5, 2) := dc_21 5 (lxJ5_newCapacity_0f7a4 2 2 rfl) (lxJ5_newCapacity_0f7a4 2 3 rfl)
set_option maxRecDepth 20000 in
theorem dJ5_newCapacity_0f7a4_36 : decode cJ5_newCapacity_0f7a4 36 = .ok (.ldc 39, 2) := dc_18 39 (lxJ5_newCapacity_0f7a4 2 4 rfl) (lxJ5_newCapacity_0f7a4 2 5 rfl)
set_option maxRecDepth 20000 in
theorem dJ5_newCapacity_0f7a4_38 : decode cJ5_newCapacity_0f7a4 38 = .ok (.if_icmp .ne 13, 3) := dc_160 0 13 (lxJ5_newCapacity_0f7a4 2 6 rfl) (lxJ5_newCapacity_0f7a4 2 7 rfl) (lxJ5_newCapacity_0f7a4 2 8 rfl)
set_option maxRecDepth 20000 in
theorem dJ5_newCapacity_0f7a4_41 : decode cJ5_newCapacity_0f7a4 41 = .ok (.new 120, 3) := dc_187 0 120 (lxJ5_newCapacity_0f7a4 2 9 rfl) (lxJ5_newCapacity_0f7a4 2 10 rfl) (lxJ5_newCapacity_0f7a4 2 11 rfl)
set_option maxRecDepth 20000 in
theorem dJ5_newCapacity_0f7a4_44 : decode cJ5_newCapacity_0f7a4 44 = .ok (.dup, 1) := dc_89 (lxJ5_newCapacity_0f7a4 2 12 rfl)
set_option maxRecDepth 20000 in
theorem dJ5_newCapacity_0f7a4_45 : decode cJ5_newCapacity_0f7a4 45 = .ok (.ldc 122, 2) := dc_18 122 (lxJ5_newCapacity_0f7a4 2 13 rfl) (lxJ5_newCapacity_0f7a4 2 14 rfl)
set_option maxRecDepth 20000 in
theorem dJ5_newCapacity_0f7a4_47 : decode cJ5_newCapacity_0f7a4 47 = .ok (.invokespecial 124, 3) := dc_183 0 124 (lxJ5_newCapacity_0f7a4 2 15 rfl) (lxJ5_newCapacity_0f7a4 3 0 rfl) (lxJ5_newCapacity_0f7a4 3 1 rfl)
set_option maxRecDepth 20000 in
theorem dJ5_newCapacity_0f7a4_50 : decode cJ5_newCapacity_0f7a4 50 = .ok (.athrow, 1) := dc_191 (lxJ5_newCapacity_0f7a4 3 2 rfl)
set_option maxRecDepth 20000 in
theorem dJ5_newCapacity_0f7a4_51 : decode cJ5_newCapacity_0f7a4 51 = .ok (.iload 5, 2) := dc_21 5 (lxJ5_newCapacity_0f7a4 3 3 rfl) (lxJ5_newCapacity_0f7a4 3 4 rfl)
set_option maxRecDepth 20000 in
theorem dJ5_newCapacity_0f7a4_53 : decode cJ5_newCapacity_0f7a4 53 = .ok (.aload_n 0, 1) := dc_42 (lxJ5_newCapacity_0f7a4 3 5 rfl)
set_option maxRecDepth 20000 in
theorem dJ5_newCapacity_0f7a4_54 : decode cJ5_newCapacity_0f7a4 54 = .ok (.getfield 22, 3) := dc_180 0 22 (lxJ5_newCapacity_0f7a4 3 6 rfl) (lxJ5_newCapacity_0f7a4 3 7 rfl) (lxJ5_newCapacity_0f7a4 3 8 rfl)
set_option maxRecDepth 20000 in
theorem dJ5_newCapacity_0f7a4_57 : decode cJ5_newCapacity_0f7a4 57 = .ok (.ishr, 1) := dc_122 (lxJ5_newCapacity_0f7a4 3 9 rfl)
set_option maxRecDepth 20000 in
theorem dJ5_newCapacity_0f7a4_58 : decode cJ5_newCapacity_0f7a4 58 = .ok (.ireturn, 1) := dc_172 (lxJ5_newCapacity_0f7a4 3 10 rfl)
noncomputable def sgJ5_append_3fe6f : List (List Cond) := [[.code yJ5_append_3fe6f cJ5_append_3fe6f 2 (some (.object "java/lang/AbstractStringBuilder"))], wsJ5_append_3fe6f_r1, wsJ5_append_3fe6f_r2, wsJ5_append_3fe6f_r3, wsJ5_append_3fe6f_r4, wsJ5_append_3fe6f_r5, wsJ40]
theorem seJ5_append_3fe6f : sgJ5_append_3fe6f.flatten = wsJ5_append_3fe6f := by simp only [sgJ5_append_3fe6f, wsJ5_append_3fe6f, List.flatten_cons, List.flatten_nil, List.append_assoc, List.append_nil, List.cons_append, List.nil_append]
set_option maxRecDepth 20000 in
theorem ggJ5_append_3fe6f_J5_ensureCapacityInternal_d00df : GoodIn wsJ5_append_3fe6f wsJ5_ensureCapacityInternal_d00df := goodIn_s seJ5_append_3fe6f _ [pq_1_7, pq_1_1, pq_1_8, pq_1_9, pq_1_10, pq_1_11, pq_1_12, pq_1_6, pq_1_13, pq_1_14, pq_1_15, pq_1_16, pq_1_17, pq_1_18, pq_1_19, pq_1_20, pq_1_21, pq_1_22, pq_1_23, pq_2_0, pq_2_1, pq_2_2, pq_2_3, pq_2_4, pq_2_5, pq_2_6, pq_2_7, pq_2_8, pq_2_9, pq_2_10, pq_2_11, pq_2_12, pq_2_13, pq_2_14, pq_2_15, pq_2_16, pq_2_17, pq_2_18, pq_2_19, pq_2_20, pq_6_0, pq_6_1, pq_6_2, pq_6_3] (by rfl) gw_wsJ5_ensureCapacityInternal_d00df
set_option maxRecDepth 20000 in
theorem gJ5_append_3fe6f_J5_ensureCapacityInternal_d00df_u100J4 : GoodIn wsJ5_append_3fe6f (va_wsU RJ5 100 RJ4 "java/lang/AbstractStringBuilder" ⟨"java/lang/AbstractStringBuilder", "ensureCapacityInternal", "(I)V"⟩ yJ5_ensureCapacityInternal_d00df wsJ5_ensureCapacityInternal_d00df) := goodIn_app (goodIn_s seJ5_append_3fe6f _ [pq_1_2, pq_1_3, pq_1_4, pq_1_5, pq_1_6] (by rfl) (by decide +kernel)) ggJ5_append_3fe6f_J5_ensureCapacityInternal_d00df
set_option maxRecDepth 20000 in
theorem ggJ5_append_3fe6f_J5_isLatin1_aae02 : GoodIn wsJ5_append_3fe6f wsJ5_isLatin1_aae02 := goodIn_s seJ5_append_3fe6f _ [pq_3_1, pq_3_2, pq_1_8, pq_6_0, pq_6_1, pq_6_2, pq_6_3] (by rfl) gw_wsJ5_isLatin1_aae02
set_option maxRecDepth 20000 in
theorem gJ5_append_3fe6f_J5_isLatin1_aae02_u83J4 : GoodIn wsJ5_append_3fe6f (va_wsU RJ5 83 RJ4 "java/lang/AbstractStringBuilder" ⟨"java/lang/AbstractStringBuilder", "isLatin1", "()Z"⟩ yJ5_isLatin1_aae02 wsJ5_isLatin1_aae02) := goodIn_app (goodIn_s seJ5_append_3fe6f _ [pq_2_21, pq_2_22, pq_2_23, pq_3_0, pq_1_6] (by rfl) (by decide +kernel)) ggJ5_append_3fe6f_J5_isLatin1_aae02
set_option maxRecDepth 20000 in
theorem ggJ5_append_3fe6f_J1_canEncode_fc78d : GoodIn wsJ5_append_3fe6f wsJ1_canEncode_fc78d := goodIn_s seJ5_append_3fe6f _ [pq_3_6] (by rfl) gw_wsJ1_canEncode_fc78d
set_option maxRecDepth 20000 in
theorem gJ5_append_3fe6f_J1_canEncode_fc78d : GoodIn wsJ5_append_3fe6f (va_wsS RJ5 191 yJ1_canEncode_fc78d wsJ1_canEncode_fc78d) := goodIn_app (goodIn_s seJ5_append_3fe6f _ [pq_3_3, pq_3_4, pq_3_5] (by rfl) (by decide +kernel)) ggJ5_append_3fe6f_J1_canEncode_fc78d
set_option maxRecDepth 20000 in
theorem ggJ5_append_3fe6f_J5_inflate_da8c8 : GoodIn wsJ5_append_3fe6f wsJ5_inflate_da8c8 := goodIn_s seJ5_append_3fe6f _ [pq_3_11, pq_1_1, pq_1_0, pq_1_8, pq_2_21, pq_2_22, pq_2_23, pq_3_0, pq_1_6, pq_3_1, pq_3_2, pq_3_12, pq_3_13, pq_3_14, pq_3_15, pq_2_13, pq_3_16, pq_3_17, pq_3_18, pq_3_19, pq_3_20, pq_3_21, pq_3_5, pq_3_22, pq_3_23, pq_4_0, pq_4_1, pq_4_2, pq_4_3, pq_4_4, pq_4_5, pq_4_6, pq_4_7, pq_4_8, pq_4_9, pq_4_10, pq_4_11, pq_4_12, pq_4_13, pq_4_14, pq_4_15, pq_4_16, pq_4_17, pq_4_18, pq_4_19, pq_4_20, pq_4_21, pq_4_22, pq_6_0, pq_6_1, pq_6_2, pq_6_3] (by rfl) gw_wsJ5_inflate_da8c8
set_option maxRecDepth 20000 in
theorem gJ5_append_3fe6f_J5_inflate_da8c8_u195J4 : GoodIn wsJ5_append_3fe6f (va_wsU RJ5 195 RJ4 "java/lang/AbstractStringBuilder" ⟨"java/lang/AbstractStringBuilder", "inflate", "()V"⟩ yJ5_inflate_da8c8 wsJ5_inflate_da8c8) := goodIn_app (goodIn_s seJ5_append_3fe6f _ [pq_3_7, pq_3_8, pq_3_9, pq_3_10, pq_1_6] (by rfl) (by decide +kernel)) ggJ5_append_3fe6f_J5_inflate_da8c8
set_option maxRecDepth 20000 in
theorem ggJ5_append_3fe6f_J2_putCharSB_b72d1 : GoodIn wsJ5_append_3fe6f wsJ2_putCharSB_b72d1 := goodIn_s seJ5_append_3fe6f _ [pq_5_1, pq_5_2, pq_5_3, pq_3_14, pq_5_4, pq_4_5, pq_4_6, pq_4_7, pq_5_5, pq_5_6, pq_4_10, pq_5_7, pq_4_12, pq_5_8, pq_5_9, pq_4_15, pq_5_10, pq_4_17, pq_4_18, pq_4_19, pq_4_20, pq_4_21, pq_4_22] (by rfl) gw_wsJ2_putCharSB_b72d1
set_option maxRecDepth 20000 in
theorem gJ5_append_3fe6f_J2_putCharSB_b72d1 : GoodIn wsJ5_append_3fe6f (va_wsS RJ5 197 yJ2_putCharSB_b72d1 wsJ2_putCharSB_b72d1) := goodIn_app (goodIn_s seJ5_append_3fe6f _ [pq_4_23, pq_5_0, pq_3_14] (by rfl) (by decide +kernel)) ggJ5_append_3fe6f_J2_putCharSB_b72d1
def lb_sgJ5_append_3fe6f : List (List UInt8) := [[42, 42, 180, 0, 79, 4, 96, 182, 0, 100, 42, 182, 0, 83, 153, 0], [31, 27, 184, 0, 191, 153, 0, 24, 42, 180, 0, 15, 42, 89, 180, 0], [79, 90, 4, 96, 181, 0, 79, 27, 145, 84, 167, 0, 33, 42, 182, 0], [83, 153, 0, 7, 42, 182, 0, 195, 42, 180, 0, 15, 42, 89, 180, 0], [79, 90, 4, 96, 181, 0, 79, 27, 184, 0, 197, 42, 176]]
set_option maxRecDepth 100000 in
theorem lb_seJ5_append_3fe6f : cJ5_append_3fe6f.data.toList = lb_sgJ5_append_3fe6f.flatten := by decide +kernel
theorem lb_lnJ5_append_3fe6f : ∀ s ∈ lb_sgJ5_append_3fe6f.dropLast, s.length = 16 := by decide +kernel
theorem lxJ5_append_3fe6f (k j : Nat) {b : UInt8} (h : (lb_sgJ5_append_3fe6f[k]?).bind (fun s => s[j]?) = some b) : lb_at cJ5_append_3fe6f (16 * k + j) b := by
  unfold lb_at
  rw [lb_seJ5_append_3fe6f]
  exact lb_flat 16 lb_sgJ5_append_3fe6f k j b lb_lnJ5_append_3fe6f h
set_option maxRecDepth 20000 in
theorem dJ5_append_3fe6f_0 : decode cJ5_append_3fe6f 0 = .ok (.aload_n 0, 1) := dc_42 (lxJ5_append_3fe6f 0 0 rfl)
set_option maxRecDepth 20000 in
theorem dJ5_append_3fe6f_1 : decode cJ5_append_3fe6f 1 = .ok (.aload_n 0, 1) := dc_42 (lxJ5_append_3fe6f 0 1 rfl)
set_option maxRecDepth 20000 in
theorem dJ5_append_3fe6f_2 : decode cJ5_append_3fe6f 2 = .ok (.getfield 79, 3) := dc_180 0 79 (lxJ5_append_3fe6f 0 2 rfl) (lxJ5_append_3fe6f 0 3 rfl) (lxJ5_append_3fe6f 0 4 rfl)
set_option maxRecDepth 20000 in
theorem dJ5_append_3fe6f_5 : decode cJ5_append_3fe6f 5 = .ok (.iconst 1, 1) := dc_4 (lxJ5_append_3fe6f 0 5 rfl)
set_option maxRecDepth 20000 in
theorem dJ5_append_3fe6f_6 : decode cJ5_append_3fe6f 6 = .ok (.iadd, 1) := dc_96 (lxJ5_append_3fe6f 0 6 rfl)
set_option maxRecDepth 20000 in
theorem dJ5_append_3fe6f_7 : decode cJ5_append_3fe6f 7 = .ok (.invokevirtual 100, 3) := dc_182 0 100 (lxJ5_append_3fe6f 0 7 rfl) (lxJ5_append_3fe6f 0 8 rfl) (lxJ5_append_3fe6f 0 9 rfl)
set_option maxRecDepth 20000 in
theorem dJ5_append_3fe6f_10 : decode cJ5_append_3fe6f 10 = .ok (.aload_n 0, 1) := dc_42 (lxJ5_append_3fe6f 0 10 rfl)
set_option maxRecDepth 20000 in
theorem dJ5_append_3fe6f_11 : decode cJ5_append_3fe6f 11 = .ok (.invokevirtual 83, 3) := dc_182 0 83 (lxJ5_append_3fe6f 0 11 rfl) (lxJ5_append_3fe6f 0 12 rfl) (lxJ5_append_3fe6f 0 13 rfl)
set_option maxRecDepth 20000 in
theorem dJ5_append_3fe6f_14 : decode cJ5_append_3fe6f 14 = .ok (.ifCond .eq 31, 3) := dc_153 0 31 (lxJ5_append_3fe6f 0 14 rfl) (lxJ5_append_3fe6f 0 15 rfl) (lxJ5_append_3fe6f 1 0 rfl)
set_option maxRecDepth 20000 in
theorem dJ5_append_3fe6f_17 : decode cJ5_append_3fe6f 17 = .ok (.iload_n 1, 1) := dc_27 (lxJ5_append_3fe6f 1 1 rfl)
set_option maxRecDepth 20000 in
theorem dJ5_append_3fe6f_18 : decode cJ5_append_3fe6f 18 = .ok (.invokestatic 191, 3) := dc_184 0 191 (lxJ5_append_3fe6f 1 2 rfl) (lxJ5_append_3fe6f 1 3 rfl) (lxJ5_append_3fe6f 1 4 rfl)
set_option maxRecDepth 20000 in
theorem dJ5_append_3fe6f_21 : decode cJ5_append_3fe6f 21 = .ok (.ifCond .eq 24, 3) := dc_153 0 24 (lxJ5_append_3fe6f 1 5 rfl) (lxJ5_append_3fe6f 1 6 rfl) (lxJ5_append_3fe6f 1 7 rfl)
set_option maxRecDepth 20000 in
theorem dJ5_append_3fe6f_24 : decode cJ5_append_3fe6f 24 = .ok (.aload_n 0, 1) := dc_42 (lxJ5_append_3fe6f 1 8 rfl)
set_option maxRecDepth 20000 in
theorem dJ5_append_3fe6f_25 : decode cJ5_append_3fe6f 25 = .ok (.getfield 15, 3) := dc_180 0 15 (lxJ5_append_3fe6f 1 9 rfl) (lxJ5_append_3fe6f 1 10 rfl) (lxJ5_append_3fe6f 1 11 rfl)
set_option maxRecDepth 20000 in
theorem dJ5_append_3fe6f_28 : decode cJ5_append_3fe6f 28 = .ok (.aload_n 0, 1) := dc_42 (lxJ5_append_3fe6f 1 12 rfl)
set_option maxRecDepth 20000 in
theorem dJ5_append_3fe6f_29 : decode cJ5_append_3fe6f 29 = .ok (.dup, 1) := dc_89 (lxJ5_append_3fe6f 1 13 rfl)
set_option maxRecDepth 20000 in
theorem dJ5_append_3fe6f_30 : decode cJ5_append_3fe6f 30 = .ok (.getfield 79, 3) := dc_180 0 79 (lxJ5_append_3fe6f 1 14 rfl) (lxJ5_append_3fe6f 1 15 rfl) (lxJ5_append_3fe6f 2 0 rfl)
set_option maxRecDepth 20000 in
theorem dJ5_append_3fe6f_33 : decode cJ5_append_3fe6f 33 = .ok (.dup_x1, 1) := dc_90 (lxJ5_append_3fe6f 2 1 rfl)
set_option maxRecDepth 20000 in
theorem dJ5_append_3fe6f_34 : decode cJ5_append_3fe6f 34 = .ok (.iconst 1, 1) := dc_4 (lxJ5_append_3fe6f 2 2 rfl)
set_option maxRecDepth 20000 in
theorem dJ5_append_3fe6f_35 : decode cJ5_append_3fe6f 35 = .ok (.iadd, 1) := dc_96 (lxJ5_append_3fe6f 2 3 rfl)
set_option maxRecDepth 20000 in
theorem dJ5_append_3fe6f_36 : decode cJ5_append_3fe6f 36 = .ok (.putfield 79, 3) := dc_181 0 79 (lxJ5_append_3fe6f 2 4 rfl) (lxJ5_append_3fe6f 2 5 rfl) (lxJ5_append_3fe6f 2 6 rfl)
set_option maxRecDepth 20000 in
theorem dJ5_append_3fe6f_39 : decode cJ5_append_3fe6f 39 = .ok (.iload_n 1, 1) := dc_27 (lxJ5_append_3fe6f 2 7 rfl)
set_option maxRecDepth 20000 in
theorem dJ5_append_3fe6f_40 : decode cJ5_append_3fe6f 40 = .ok (.i2b, 1) := dc_145 (lxJ5_append_3fe6f 2 8 rfl)
set_option maxRecDepth 20000 in
theorem dJ5_append_3fe6f_41 : decode cJ5_append_3fe6f 41 = .ok (.bastore, 1) := dc_84 (lxJ5_append_3fe6f 2 9 rfl)
set_option maxRecDepth 20000 in
theorem dJ5_append_3fe6f_42 : decode cJ5_append_3fe6f 42 = .ok (.goto 33, 3) := dc_167 0 33 (lxJ5_append_3fe6f 2 10 rfl) (lxJ5_append_3fe6f 2 11 rfl) (lxJ5_append_3fe6f 2 12 rfl)
set_option maxRecDepth 20000 in
theorem dJ5_append_3fe6f_45 : decode cJ5_append_3fe6f 45 = .ok (.aload_n 0, 1) := dc_42 (lxJ5_append_3fe6f 2 13 rfl)
set_option maxRecDepth 20000 in
theorem dJ5_append_3fe6f_46 : decode cJ5_append_3fe6f 46 = .ok (.invokevirtual 83, 3) := dc_182 0 83 (lxJ5_append_3fe6f 2 14 rfl) (lxJ5_append_3fe6f 2 15 rfl) (lxJ5_append_3fe6f 3 0 rfl)
set_option maxRecDepth 20000 in
theorem dJ5_append_3fe6f_49 : decode cJ5_append_3fe6f 49 = .ok (.ifCond .eq 7, 3) := dc_153 0 7 (lxJ5_append_3fe6f 3 1 rfl) (lxJ5_append_3fe6f 3 2 rfl) (lxJ5_append_3fe6f 3 3 rfl)
set_option maxRecDepth 20000 in
theorem dJ5_append_3fe6f_52 : decode cJ5_append_3fe6f 52 = .ok (.aload_n 0, 1) := dc_42 (lxJ5_append_3fe6f 3 4 rfl)
set_option maxRecDepth 20000 in
theorem dJ5_append_3fe6f_53 : decode cJ5_append_3fe6f 53 = .ok (.invokevirtual 195, 3) := dc_182 0 195 (lxJ5_append_3fe6f 3 5 rfl) (lxJ5_append_3fe6f 3 6 rfl) (lxJ5_append_3fe6f 3 7 rfl)
set_option maxRecDepth 20000 in
theorem dJ5_append_3fe6f_56 : decode cJ5_append_3fe6f 56 = .ok (.aload_n 0, 1) := dc_42 (lxJ5_append_3fe6f 3 8 rfl)
set_option maxRecDepth 20000 in
theorem dJ5_append_3fe6f_57 : decode cJ5_append_3fe6f 57 = .ok (.getfield 15, 3) := dc_180 0 15 (lxJ5_append_3fe6f 3 9 rfl) (lxJ5_append_3fe6f 3 10 rfl) (lxJ5_append_3fe6f 3 11 rfl)
set_option maxRecDepth 20000 in
theorem dJ5_append_3fe6f_60 : decode cJ5_append_3fe6f 60 = .ok (.aload_n 0, 1) := dc_42 (lxJ5_append_3fe6f 3 12 rfl)
set_option maxRecDepth 20000 in
theorem dJ5_append_3fe6f_61 : decode cJ5_append_3fe6f 61 = .ok (.dup, 1) := dc_89 (lxJ5_append_3fe6f 3 13 rfl)
set_option maxRecDepth 20000 in
theorem dJ5_append_3fe6f_62 : decode cJ5_append_3fe6f 62 = .ok (.getfield 79, 3) := dc_180 0 79 (lxJ5_append_3fe6f 3 14 rfl) (lxJ5_append_3fe6f 3 15 rfl) (lxJ5_append_3fe6f 4 0 rfl)
set_option maxRecDepth 20000 in
theorem dJ5_append_3fe6f_65 : decode cJ5_append_3fe6f 65 = .ok (.dup_x1, 1) := dc_90 (lxJ5_append_3fe6f 4 1 rfl)
set_option maxRecDepth 20000 in
theorem dJ5_append_3fe6f_66 : decode cJ5_append_3fe6f 66 = .ok (.iconst 1, 1) := dc_4 (lxJ5_append_3fe6f 4 2 rfl)
set_option maxRecDepth 20000 in
theorem dJ5_append_3fe6f_67 : decode cJ5_append_3fe6f 67 = .ok (.iadd, 1) := dc_96 (lxJ5_append_3fe6f 4 3 rfl)
set_option maxRecDepth 20000 in
theorem dJ5_append_3fe6f_68 : decode cJ5_append_3fe6f 68 = .ok (.putfield 79, 3) := dc_181 0 79 (lxJ5_append_3fe6f 4 4 rfl) (lxJ5_append_3fe6f 4 5 rfl) (lxJ5_append_3fe6f 4 6 rfl)
set_option maxRecDepth 20000 in
theorem dJ5_append_3fe6f_71 : decode cJ5_append_3fe6f 71 = .ok (.iload_n 1, 1) := dc_27 (lxJ5_append_3fe6f 4 7 rfl)
set_option maxRecDepth 20000 in
theorem dJ5_append_3fe6f_72 : decode cJ5_append_3fe6f 72 = .ok (.invokestatic 197, 3) := dc_184 0 197 (lxJ5_append_3fe6f 4 8 rfl) (lxJ5_append_3fe6f 4 9 rfl) (lxJ5_append_3fe6f 4 10 rfl)
set_option maxRecDepth 20000 in
theorem dJ5_append_3fe6f_75 : decode cJ5_append_3fe6f 75 = .ok (.aload_n 0, 1) := dc_42 (lxJ5_append_3fe6f 4 11 rfl)
set_option maxRecDepth 20000 in
theorem dJ5_append_3fe6f_76 : decode cJ5_append_3fe6f 76 = .ok (.areturn, 1) := dc_176 (lxJ5_append_3fe6f 4 12 rfl)
noncomputable def sgJ5_append_c97b9 : List (List Cond) := [[.code yJ5_append_c97b9 cJ5_append_c97b9 4 (some (.object "java/lang/AbstractStringBuilder"))], wsJ5_append_c97b9_r1, wsJ5_append_c97b9_r2, wsJ5_append_c97b9_r3, wsJ5_append_c97b9_r4, wsJ40]
theorem seJ5_append_c97b9 : sgJ5_append_c97b9.flatten = wsJ5_append_c97b9 := by simp only [sgJ5_append_c97b9, wsJ5_append_c97b9, List.flatten_cons, List.flatten_nil, List.append_assoc, List.append_nil, List.cons_append, List.nil_append]
set_option maxRecDepth 20000 in
theorem ggJ5_append_c97b9_J6_stringSize_0f7a4 : GoodIn wsJ5_append_c97b9 wsJ6_stringSize_0f7a4 := goodIn_s seJ5_append_c97b9 _ [pq_1_5] (by rfl) gw_wsJ6_stringSize_0f7a4
set_option maxRecDepth 20000 in
theorem gJ5_append_c97b9_J6_stringSize_0f7a4 : GoodIn wsJ5_append_c97b9 (va_wsS RJ5 245 yJ6_stringSize_0f7a4 wsJ6_stringSize_0f7a4) := goodIn_app (goodIn_s seJ5_append_c97b9 _ [pq_1_2, pq_1_3, pq_1_4] (by rfl) (by decide +kernel)) ggJ5_append_c97b9_J6_stringSize_0f7a4
set_option maxRecDepth 20000 in
theorem ggJ5_append_c97b9_J5_ensureCapacityInternal_d00df : GoodIn wsJ5_append_c97b9 wsJ5_ensureCapacityInternal_d00df := goodIn_s seJ5_append_c97b9 _ [pq_1_11, pq_1_1, pq_1_12, pq_1_13, pq_1_14, pq_1_15, pq_1_16, pq_1_10, pq_1_17, pq_1_18, pq_1_19, pq_1_20, pq_1_21, pq_1_22, pq_1_23, pq_2_0, pq_2_1, pq_2_2, pq_2_3, pq_2_4, pq_2_5, pq_2_6, pq_2_7, pq_2_8, pq_2_9, pq_2_10, pq_2_11, pq_2_12, pq_2_13, pq_2_14, pq_2_15, pq_2_16, pq_2_17, pq_2_18, pq_2_19, pq_2_20, pq_2_21, pq_2_22, pq_2_23, pq_3_0, pq_5_0, pq_5_1, pq_5_2, pq_5_3] (by rfl) gw_wsJ5_ensureCapacityInternal_d00df
set_option maxRecDepth 20000 in
theorem gJ5_append_c97b9_J5_ensureCapacityInternal_d00df_u100J4 : GoodIn wsJ5_append_c97b9 (va_wsU RJ5 100 RJ4 "java/lang/AbstractStringBuilder" ⟨"java/lang/AbstractStringBuilder", "ensureCapacityInternal", "(I)V"⟩ yJ5_ensureCapacityInternal_d00df wsJ5_ensureCapacityInternal_d00df) := goodIn_app (goodIn_s seJ5_append_c97b9 _ [pq_1_6, pq_1_7, pq_1_8, pq_1_9, pq_1_10] (by rfl) (by decide +kernel)) ggJ5_append_c97b9_J5_ensureCapacityInternal_d00df
set_option maxRecDepth 20000 in
theorem ggJ5_append_c97b9_J5_isLatin1_aae02 : GoodIn wsJ5_append_c97b9 wsJ5_isLatin1_aae02 := goodIn_s seJ5_append_c97b9 _ [pq_3_5, pq_3_6, pq_1_12, pq_5_0, pq_5_1, pq_5_2, pq_5_3] (by rfl) gw_wsJ5_isLatin1_aae02
set_option maxRecDepth 20000 in
theorem gJ5_append_c97b9_J5_isLatin1_aae02_u83J4 : GoodIn wsJ5_append_c97b9 (va_wsU RJ5 83 RJ4 "java/lang/AbstractStringBuilder" ⟨"java/lang/AbstractStringBuilder", "isLatin1", "()Z"⟩ yJ5_isLatin1_aae02 wsJ5_isLatin1_aae02) := goodIn_app (goodIn_s seJ5_append_c97b9 _ [pq_3_1, pq_3_2, pq_3_3, pq_3_4, pq_1_10] (by rfl) (by decide +kernel)) ggJ5_append_c97b9_J5_isLatin1_aae02
set_option maxRecDepth 20000 in
theorem ggJ5_append_c97b9_J6_getChars_ba4f3 : GoodIn wsJ5_append_c97b9 wsJ6_getChars_ba4f3 := goodIn_s seJ5_append_c97b9 _ [pq_3_9, pq_3_10, pq_3_11] (by rfl) gw_wsJ6_getChars_ba4f3
set_option maxRecDepth 20000 in
theorem gJ5_append_c97b9_J6_getChars_ba4f3 : GoodIn wsJ5_append_c97b9 (va_wsS RJ5 248 yJ6_getChars_ba4f3 wsJ6_getChars_ba4f3) := goodIn_app (goodIn_s seJ5_append_c97b9 _ [pq_3_7, pq_3_8, pq_1_4] (by rfl) (by decide +kernel)) ggJ5_append_c97b9_J6_getChars_ba4f3
set_option maxRecDepth 20000 in
theorem ggJ5_append_c97b9_J2_getChars_46870 : GoodIn wsJ5_append_c97b9 wsJ2_getChars_46870 := goodIn_s seJ5_append_c97b9 _ [pq_3_15, pq_3_16, pq_3_17, pq_3_18, pq_3_14, pq_3_19, pq_3_20, pq_3_21, pq_3_22, pq_3_23, pq_4_0, pq_4_1, pq_4_2, pq_4_3, pq_4_4, pq_4_5, pq_4_6, pq_4_7, pq_4_8, pq_4_9, pq_4_10, pq_4_11, pq_4_12, pq_4_13, pq_4_14, pq_4_15, pq_4_16, pq_4_17] (by rfl) gw_wsJ2_getChars_46870
set_option maxRecDepth 20000 in
theorem gJ5_append_c97b9_J2_getChars_46870 : GoodIn wsJ5_append_c97b9 (va_wsS RJ5 251 yJ2_getChars_46870 wsJ2_getChars_46870) := goodIn_app (goodIn_s seJ5_append_c97b9 _ [pq_3_12, pq_3_13, pq_3_14] (by rfl) (by decide +kernel)) ggJ5_append_c97b9_J2_getChars_46870
def lb_sgJ5_append_c97b9 : List (List UInt8) := [[42, 180, 0, 79, 61, 28, 27, 184, 0, 245, 96, 62, 42, 29, 182, 0], [100, 42, 182, 0, 83, 153, 0, 16, 27, 29, 42, 180, 0, 15, 184, 0], [248, 87, 167, 0, 14, 27, 28, 29, 42, 180, 0, 15, 184, 0, 251, 87], [42, 29, 181, 0, 79, 42, 176]]
set_option maxRecDepth 100000 in
theorem lb_seJ5_append_c97b9 : cJ5_append_c97b9.data.toList = lb_sgJ5_append_c97b9.flatten := by decide +kernel
theorem lb_lnJ5_append_c97b9 : ∀ s ∈ lb_sgJ5_append_c97b9.dropLast, s.length = 16 := by decide +kernel
theorem lxJ5_append_c97b9 (k j : Nat) {b : UInt8} (h : (lb_sgJ5_append_c97b9[k]?).bind (fun s => s[j]?) = some b) : lb_at cJ5_append_c97b9 (16 * k + j) b := by
  unfold lb_at
  rw [lb_seJ5_append_c97b9]
  exact lb_flat 16 lb_sgJ5_append_c97b9 k j b lb_lnJ5_append_c97b9 h
set_option maxRecDepth 20000 in
theorem dJ5_append_c97b9_0 : decode cJ5_append_c97b9 0 = .ok (.aload_n 0, 1) := dc_42 (lxJ5_append_c97b9 0 0 rfl)
set_option maxRecDepth 20000 in
theorem dJ5_append_c97b9_1 : decode cJ5_append_c97b9 1 = .ok (.getfield 79, 3) := dc_180 0 79 (lxJ5_append_c97b9 0 1 rfl) (lxJ5_append_c97b9 0 2 rfl) (lxJ5_append_c97b9 0 3 rfl)
set_option maxRecDepth 20000 in
theorem dJ5_append_c97b9_4 : decode cJ5_append_c97b9 4 = .ok (.istore_n 2, 1) := dc_61 (lxJ5_append_c97b9 0 4 rfl)
set_option maxRecDepth 20000 in
theorem dJ5_append_c97b9_5 : decode cJ5_append_c97b9 5 = .ok (.iload_n 2, 1) := dc_28 (lxJ5_append_c97b9 0 5 rfl)
set_option maxRecDepth 20000 in
theorem dJ5_append_c97b9_6 : decode cJ5_append_c97b9 6 = .ok (.iload_n 1, 1) := dc_27 (lxJ5_append_c97b9 0 6 rfl)
set_option maxRecDepth 20000 in
theorem dJ5_append_c97b9_7 : decode cJ5_append_c97b9 7 = .ok (.invokestatic 245, 3) := dc_184 0 245 (lxJ5_append_c97b9 0 7 rfl) (lxJ5_append_c97b9 0 8 rfl) (lxJ5_append_c97b9 0 9 rfl)
set_option maxRecDepth 20000 in
theorem dJ5_append_c97b9_10 : decode cJ5_append_c97b9 10 = .ok (.iadd, 1) := dc_96 (lxJ5_append_c97b9 0 10 rfl)
set_option maxRecDepth 20000 in
theorem dJ5_append_c97b9_11 : decode cJ5_append_c97b9 11 = .ok (.istore_n 3, 1) := dc_62 (lxJ5_append_c97b9 0 11 rfl)
set_option maxRecDepth 20000 in
theorem dJ5_append_c97b9_12 : decode cJ5_append_c97b9 12 = .ok (.aload_n 0, 1) := dc_42 (lxJ5_append_c97b9 0 12 rfl)
set_option maxRecDepth 20000 in
theorem dJ5_append_c97b9_13 : decode cJ5_append_c97b9 13 = .ok (.iload_n 3, 1) := dc_29 (lxJ5_append_c97b9 0 13 rfl)
set_option maxRecDepth 20000 in
theorem dJ5_append_c97b9_14 : decode cJ5_append_c97b9 14 = .ok (.invokevirtual 100, 3) := dc_182 0 100 (lxJ5_append_c97b9 0 14 rfl) (lxJ5_append_c97b9 0 15 rfl) (lxJ5_append_c97b9 1 0 rfl)
set_option maxRecDepth 20000 in
theorem dJ5_append_c97b9_17 : decode cJ5_append_c97b9 17 = .ok (.aload_n 0, 1) := dc_42 (lxJ5_append_c97b9 1 1 rfl)
set_option maxRecDepth 20000 in
theorem dJ5_append_c97b9_18 : decode cJ5_append_c97b9 18 = .ok (.invokevirtual 83, 3) := dc_182 0 83 (lxJ5_append_c97b9 1 2 rfl) (lxJ5_append_c97b9 1 3 rfl) (lxJ5_append_c97b9 1 4 rfl)
set_option maxRecDepth 20000 in
theorem dJ5_append_c97b9_21 : decode cJ5_append_c97b9 21 = .ok (.ifCond .eq 16, 3) := dc_153 0 16 (lxJ5_append_c97b9 1 5 rfl) (lxJ5_append_c97b9 1 6 rfl) (lxJ5_append_c97b9 1 7 rfl)
set_option maxRecDepth 20000 in
theorem dJ5_append_c97b9_24 : decode cJ5_append_c97b9 24 = .ok (.iload_n 1, 1) := dc_27 (lxJ5_append_c97b9 1 8 rfl)
set_option maxRecDepth 20000 in
theorem dJ5_append_c97b9_25 : decode cJ5_append_c97b9 25 = .ok (.iload_n 3, 1) := dc_29 (lxJ5_append_c97b9 1 9 rfl)
set_option maxRecDepth 20000 in
theorem dJ5_append_c97b9_26 : decode cJ5_append_c97b9 26 = .ok (.aload_n 0, 1) := dc_42 (lxJ5_append_c97b9 1 10 rfl)
set_option maxRecDepth 20000 in
theorem dJ5_append_c97b9_27 : decode cJ5_append_c97b9 27 = .ok (.getfield 15, 3) := dc_180 0 15 (lxJ5_append_c97b9 1 11 rfl) (lxJ5_append_c97b9 1 12 rfl) (lxJ5_append_c97b9 1 13 rfl)
set_option maxRecDepth 20000 in
theorem dJ5_append_c97b9_30 : decode cJ5_append_c97b9 30 = .ok (.invokestatic 248, 3) := dc_184 0 248 (lxJ5_append_c97b9 1 14 rfl) (lxJ5_append_c97b9 1 15 rfl) (lxJ5_append_c97b9 2 0 rfl)
set_option maxRecDepth 20000 in
theorem dJ5_append_c97b9_33 : decode cJ5_append_c97b9 33 = .ok (.pop, 1) := dc_87 (lxJ5_append_c97b9 2 1 rfl)
set_option maxRecDepth 20000 in
theorem dJ5_append_c97b9_34 : decode cJ5_append_c97b9 34 = .ok (.goto 14, 3) := dc_167 0 14 (lxJ5_append_c97b9 2 2 rfl) (lxJ5_append_c97b9 2 3 rfl) (lxJ5_append_c97b9 2 4 rfl)
set_option maxRecDepth 20000 in
theorem dJ5_append_c97b9_37 : decode cJ5_append_c97b9 37 = .ok (.iload_n 1, 1) := dc_27 (lxJ5_append_c97b9 2 5 rfl)
set_option maxRecDepth 20000 in
theorem dJ5_append_c97b9_38 : decode cJ5_append_c97b9 38 = .ok (.iload_n 2, 1) := dc_28 (lxJ5_append_c97b9 2 6 rfl)
set_option maxRecDepth 20000 in
theorem dJ5_append_c97b9_39 : decode cJ5_append_c97b9 39 = .ok (.iload_n 3, 1) := dc_29 (lxJ5_append_c97b9 2 7 rfl)
set_option maxRecDepth 20000 in
theorem dJ5_append_c97b9_40 : decode cJ5_append_c97b9 40 = .ok (.aload_n 0, 1) := dc_42 (lxJ5_append_c97b9 2 8 rfl)
set_option maxRecDepth 20000 in
theorem dJ5_append_c97b9_41 : decode cJ5_append_c97b9 41 = .ok (.getfield 15, 3) := dc_180 0 15 (lxJ5_append_c97b9 2 9 rfl) (lxJ5_append_c97b9 2 10 rfl) (lxJ5_append_c97b9 2 11 rfl)
set_option maxRecDepth 20000 in
theorem dJ5_append_c97b9_44 : decode cJ5_append_c97b9 44 = .ok (.invokestatic 251, 3) := dc_184 0 251 (lxJ5_append_c97b9 2 12 rfl) (lxJ5_append_c97b9 2 13 rfl) (lxJ5_append_c97b9 2 14 rfl)
set_option maxRecDepth 20000 in
theorem dJ5_append_c97b9_47 : decode cJ5_append_c97b9 47 = .ok (.pop, 1) := dc_87 (lxJ5_append_c97b9 2 15 rfl)
set_option maxRecDepth 20000 in
theorem dJ5_append_c97b9_48 : decode cJ5_append_c97b9 48 = .ok (.aload_n 0, 1) := dc_42 (lxJ5_append_c97b9 3 0 rfl)
set_option maxRecDepth 20000 in
theorem dJ5_append_c97b9_49 : decode cJ5_append_c97b9 49 = .ok (.iload_n 3, 1) := dc_29 (lxJ5_append_c97b9 3 1 rfl)
set_option maxRecDepth 20000 in
theorem dJ5_append_c97b9_50 : decode cJ5_append_c97b9 50 = .ok (.putfield 79, 3) := dc_181 0 79 (lxJ5_append_c97b9 3 2 rfl) (lxJ5_append_c97b9 3 3 rfl) (lxJ5_append_c97b9 3 4 rfl)
set_option maxRecDepth 20000 in
theorem dJ5_append_c97b9_53 : decode cJ5_append_c97b9 53 = .ok (.aload_n 0, 1) := dc_42 (lxJ5_append_c97b9 3 5 rfl)
set_option maxRecDepth 20000 in
theorem dJ5_append_c97b9_54 : decode cJ5_append_c97b9 54 = .ok (.areturn, 1) := dc_176 (lxJ5_append_c97b9 3 6 rfl)
set_option maxRecDepth 20000 in
theorem dJ5_getValue_6d5f1_0 : decode cJ5_getValue_6d5f1 0 = .ok (.aload_n 0, 1) := dc_42 rfl
set_option maxRecDepth 20000 in
theorem dJ5_getValue_6d5f1_1 : decode cJ5_getValue_6d5f1 1 = .ok (.getfield 15, 3) := dc_180 0 15 rfl rfl rfl
set_option maxRecDepth 20000 in
theorem dJ5_getValue_6d5f1_4 : decode cJ5_getValue_6d5f1 4 = .ok (.areturn, 1) := dc_176 rfl
def lb_sgJ5_isLatin1_aae02 : List (List UInt8) := [[178, 0, 18, 153, 0, 14, 42, 180, 0, 22, 154, 0, 7, 4, 167, 0], [4, 3, 172]]
set_option maxRecDepth 100000 in
theorem lb_seJ5_isLatin1_aae02 : cJ5_isLatin1_aae02.data.toList = lb_sgJ5_isLatin1_aae02.flatten := by decide +kernel
theorem lb_lnJ5_isLatin1_aae02 : ∀ s ∈ lb_sgJ5_isLatin1_aae02.dropLast, s.length = 16 := by decide +kernel
theorem lxJ5_isLatin1_aae02 (k j : Nat) {b : UInt8} (h : (lb_sgJ5_isLatin1_aae02[k]?).bind (fun s => s[j]?) = some b) : lb_at cJ5_isLatin1_aae02 (16 * k + j) b := by
  unfold lb_at
  rw [lb_seJ5_isLatin1_aae02]
  exact lb_flat 16 lb_sgJ5_isLatin1_aae02 k j b lb_lnJ5_isLatin1_aae02 h
set_option maxRecDepth 20000 in
theorem dJ5_isLatin1_aae02_0 : decode cJ5_isLatin1_aae02 0 = .ok (.getstatic 18, 3) := dc_178 0 18 (lxJ5_isLatin1_aae02 0 0 rfl) (lxJ5_isLatin1_aae02 0 1 rfl) (lxJ5_isLatin1_aae02 0 2 rfl)
set_option maxRecDepth 20000 in
theorem dJ5_isLatin1_aae02_3 : decode cJ5_isLatin1_aae02 3 = .ok (.ifCond .eq 14, 3) := dc_153 0 14 (lxJ5_isLatin1_aae02 0 3 rfl) (lxJ5_isLatin1_aae02 0 4 rfl) (lxJ5_isLatin1_aae02 0 5 rfl)
set_option maxRecDepth 20000 in
theorem dJ5_isLatin1_aae02_6 : decode cJ5_isLatin1_aae02 6 = .ok (.aload_n 0, 1) := dc_42 (lxJ5_isLatin1_aae02 0 6 rfl)
set_option maxRecDepth 20000 in
theorem dJ5_isLatin1_aae02_7 : decode cJ5_isLatin1_aae02 7 = .ok (.getfield 22, 3) := dc_180 0 22 (lxJ5_isLatin1_aae02 0 7 rfl) (lxJ5_isLatin1_aae02 0 8 rfl) (lxJ5_isLatin1_aae02 0 9 rfl)
set_option maxRecDepth 20000 in
theorem dJ5_isLatin1_aae02_10 : decode cJ5_isLatin1_aae02 10 = .ok (.ifCond .ne 7, 3) := dc_154 0 7 (lxJ5_isLatin1_aae02 0 10 rfl) (lxJ5_isLatin1_aae02 0 11 rfl) (lxJ5_isLatin1_aae02 0 12 rfl)
set_option maxRecDepth 20000 in
theorem dJ5_isLatin1_aae02_13 : decode cJ5_isLatin1_aae02 13 = .ok (.iconst 1, 1) := dc_4 (lxJ5_isLatin1_aae02 0 13 rfl)
set_option maxRecDepth 20000 in
theorem dJ5_isLatin1_aae02_14 : decode cJ5_isLatin1_aae02 14 = .ok (.goto 4, 3) := dc_167 0 4 (lxJ5_isLatin1_aae02 0 14 rfl) (lxJ5_isLatin1_aae02 0 15 rfl) (lxJ5_isLatin1_aae02 1 0 rfl)
set_option maxRecDepth 20000 in
theorem dJ5_isLatin1_aae02_17 : decode cJ5_isLatin1_aae02 17 = .ok (.iconst 0, 1) := dc_3 (lxJ5_isLatin1_aae02 1 1 rfl)
set_option maxRecDepth 20000 in
theorem dJ5_isLatin1_aae02_18 : decode cJ5_isLatin1_aae02 18 = .ok (.ireturn, 1) := dc_172 (lxJ5_isLatin1_aae02 1 2 rfl)
def lb_sgJ6_getChars_ba4f3 : List (List UInt8) := [[27, 54, 5, 26, 156, 0, 7, 4, 167, 0, 4, 3, 54, 6, 21, 6], [154, 0, 6, 26, 116, 59, 26, 16, 156, 163, 0, 47, 26, 16, 100, 108], [62, 29, 16, 100, 104, 26, 100, 54, 4, 29, 59, 44, 132, 5, 255, 21], [5, 178, 0, 83, 21, 4, 51, 84, 44, 132, 5, 255, 21, 5, 178, 0], [87, 21, 4, 51, 84, 167, 255, 209, 44, 132, 5, 255, 21, 5, 178, 0], [83, 26, 116, 51, 84, 26, 16, 247, 162, 0, 16, 44, 132, 5, 255, 21], [5, 178, 0, 87, 26, 116, 51, 84, 21, 6, 153, 0, 12, 44, 132, 5], [255, 21, 5, 16, 45, 84, 21, 5, 172]]
set_option maxRecDepth 100000 in
theorem lb_seJ6_getChars_ba4f3 : cJ6_getChars_ba4f3.data.toList = lb_sgJ6_getChars_ba4f3.flatten := by decide +kernel
theorem lb_lnJ6_getChars_ba4f3 : ∀ s ∈ lb_sgJ6_getChars_ba4f3.dropLast, s.length = 16 := by decide +kernel
theorem lxJ6_getChars_ba4f3 (k j : Nat) {b : UInt8} (h : (lb_sgJ6_getChars_ba4f3[k]?).bind (fun s => s[j]?) = some b) : lb_at cJ6_getChars_ba4f3 (16 * k + j) b := by
  unfold lb_at
  rw [lb_seJ6_getChars_ba4f3]
  exact lb_flat 16 lb_sgJ6_getChars_ba4f3 k j b lb_lnJ6_getChars_ba4f3 h
set_option maxRecDepth 20000 in
theorem dJ6_getChars_ba4f3_0 : decode cJ6_getChars_ba4f3 0 = .ok (.iload_n 1, 1) := dc_27 (lxJ6_getChars_ba4f3 0 0 rfl)
set_option maxRecDepth 20000 in
theorem dJ6_getChars_ba4f3_1 : decode cJ6_getChars_ba4f3 1 = .ok (.istore 5, 2) := dc_54 5 (lxJ6_getChars_ba4f3 0 1 rfl) (lxJ6_getChars_ba4f3 0 2 rfl)
set_option maxRecDepth 20000 in
theorem dJ6_getChars_ba4f3_3 : decode cJ6_getChars_ba4f3 3 = .ok (.iload_n 0, 1) := dc_26 (lxJ6_getChars_ba4f3 0 3 rfl)
set_option maxRecDepth 20000 in
theorem dJ6_getChars_ba4f3_4 : decode cJ6_getChars_ba4f3 4 = .ok (.ifCond .ge 7, 3) := dc_156 0 7 (lxJ6_getChars_ba4f3 0 4 rfl) (lxJ6_getChars_ba4f3 0 5 rfl) (lxJ6_getChars_ba4f3 0 6 rfl)
set_option maxRecDepth 20000 in
theorem dJ6_getChars_ba4f3_7 : decode cJ6_getChars_ba4f3 7 = .ok (.iconst 1, 1) := dc_4 (lxJ6_getChars_ba4f3 0 7 rfl)
set_option maxRecDepth 20000 in
theorem dJ6_getChars_ba4f3_8 : decode cJ6_getChars_ba4f3 8 = .ok (.goto 4, 3) := dc_167 0 4 (lxJ6_getChars_ba4f3 0 8 rfl) (lxJ6_getChars_ba4f3 0 9 rfl) (lxJ6_getChars_ba4f3 0 10 rfl)
set_option maxRecDepth 20000 in
theorem dJ6_getChars_ba4f3_11 : decode cJ6_getChars_ba4f3 11 = .ok (.iconst 0, 1) := dc_3 (lxJ6_getChars_ba4f3 0 11 rfl)
set_option maxRecDepth 20000 in
theorem dJ6_getChars_ba4f3_12 : decode cJ6_getChars_ba4f3 12 = .ok (.istore 6, 2) := dc_54 6 (lxJ6_getChars_ba4f3 0 12 rfl) (lxJ6_getChars_ba4f3 0 13 rfl)
set_option maxRecDepth 20000 in
theorem dJ6_getChars_ba4f3_14 : decode cJ6_getChars_ba4f3 14 = .ok (.iload 6, 2) := dc_21 6 (lxJ6_getChars_ba4f3 0 14 rfl) (lxJ6_getChars_ba4f3 0 15 rfl)
set_option maxRecDepth 20000 in
theorem dJ6_getChars_ba4f3_16 : decode cJ6_getChars_ba4f3 16 = .ok (.ifCond .ne 6, 3) := dc_154 0 6 (lxJ6_getChars_ba4f3 1 0 rfl) (lxJ6_getChars_ba4f3 1 1 rfl) (lxJ6_getChars_ba4f3 1 2 rfl)
set_option maxRecDepth 20000 in
theorem dJ6_getChars_ba4f3_19 : decode cJ6_getChars_ba4f3 19 = .ok (.iload_n 0, 1) := dc_26 (lxJ6_getChars_ba4f3 1 3 rfl)
set_option maxRecDepth 20000 in
theorem dJ6_getChars_ba4f3_20 : decode cJ6_getChars_ba4f3 20 = .ok (.ineg, 1) := dc_116 (lxJ6_getChars_ba4f3 1 4 rfl)
set_option maxRecDepth 20000 in
theorem dJ6_getChars_ba4f3_21 : decode cJ6_getChars_ba4f3 21 = .ok (.istore_n 0, 1) := dc_59 (lxJ6_getChars_ba4f3 1 5 rfl)
set_option maxRecDepth 20000 in
theorem dJ6_getChars_ba4f3_22 : decode cJ6_getChars_ba4f3 22 = .ok (.iload_n 0, 1) := dc_26 (lxJ6_getChars_ba4f3 1 6 rfl)
set_option maxRecDepth 20000 in
theorem dJ6_getChars_ba4f3_23 : decode cJ6_getChars_ba4f3 23 = .ok (.bipush (-100), 2) := dc_16 156 (lxJ6_getChars_ba4f3 1 7 rfl) (lxJ6_getChars_ba4f3 1 8 rfl)
set_option maxRecDepth 20000 in
theorem dJ6_getChars_ba4f3_25 : decode cJ6_getChars_ba4f3 25 = .ok (.if_icmp .gt 47, 3) := dc_163 0 47 (lxJ6_getChars_ba4f3 1 9 rfl) (lxJ6_getChars_ba4f3 1 10 rfl) (lxJ6_getChars_ba4f3 1 11 rfl)
set_option maxRecDepth 20000 in
theorem dJ6_getChars_ba4f3_28 : decode cJ6_getChars_ba4f3 28 = .ok (.iload_n 0, 1) := dc_26 (lxJ6_getChars_ba4f3 1 12 rfl)
set_option maxRecDepth 20000 in
theorem dJ6_getChars_ba4f3_29 : decode cJ6_getChars_ba4f3 29 = .ok (.bipush 100, 2) := dc_16 100 (lxJ6_getChars_ba4f3 1 13 rfl) (lxJ6_getChars_ba4f3 1 14 rfl)
set_option maxRecDepth 20000 in
theorem dJ6_getChars_ba4f3_31 : decode cJ6_getChars_ba4f3 31 = .ok (.idiv, 1) := dc_108 (lxJ6_getChars_ba4f3 1 15 rfl)
set_option maxRecDepth 20000 in
theorem dJ6_getChars_ba4f3_32 : decode cJ6_getChars_ba4f3 32 = .ok (.istore_n 3, 1) := dc_62 (lxJ6_getChars_ba4f3 2 0 rfl)
set_option maxRecDepth 20000 in
theorem dJ6_getChars_ba4f3_33 : decode cJ6_getChars_ba4f3 33 = .ok (.iload_n 3, 1) := dc_29 (lxJ6_getChars_ba4f3 2 1 rfl)
set_option maxRecDepth 20000 in
theorem dJ6_getChars_ba4f3_34 : decode cJ6_getChars_ba4f3 34 = .ok (.bipush 100, 2) := dc_16 100 (lxJ6_getChars_ba4f3 2 2 rfl) (lxJ6_getChars_ba4f3 2 3 rfl)
set_option maxRecDepth 20000 in
theorem dJ6_getChars_ba4f3_36 : decode cJ6_getChars_ba4f3 36 = .ok (.imul, 1) := dc_104 (lxJ6_getChars_ba4f3 2 4 rfl)
set_option maxRecDepth 20000 in
theorem dJ6_getChars_ba4f3_37 : decode cJ6_getChars_ba4f3 37 = .ok (.iload_n 0, 1) := dc_26 (lxJ6_getChars_ba4f3 2 5 rfl)
set_option maxRecDepth 20000 in
theorem dJ6_getChars_ba4f3_38 : decode cJ6_getChars_ba4f3 38 = .ok (.isub, 1) := dc_100 (lxJ6_getChars_ba4f3 2 6 rfl)
set_option maxRecDepth 20000 in
theorem dJ6_getChars_ba4f3_39 : decode cJ6_getChars_ba4f3 39 = .ok (.istore 4, 2) := dc_54 4 (lxJ6_getChars_ba4f3 2 7 rfl) (lxJ6_getChars_ba4f3 2 8 rfl)
set_option maxRecDepth 20000 in
theorem dJ6_getChars_ba4f3_41 : decode cJ6_getChars_ba4f3 41 = .ok (.iload_n 3, 1) := dc_29 (lxJ6_getChars_ba4f3 2 9 rfl)
set_option maxRecDepth 20000 in
theorem dJ6_getChars_ba4f3_42 : decode cJ6_getChars_ba4f3 42 = .ok (.istore_n 0, 1) := dc_59 (lxJ6_getChars_ba4f3 2 10 rfl)
set_option maxRecDepth 20000 in
theorem dJ6_getChars_ba4f3_43 : decode cJ6_getChars_ba4f3 43 = .ok (.aload_n 2, 1) := dc_44 (lxJ6_getChars_ba4f3 2 11 rfl)
set_option maxRecDepth 20000 in
theorem dJ6_getChars_ba4f3_44 : decode cJ6_getChars_ba4f3 44 = .ok (.iinc 5 (-1), 3) := dc_132 5 255 (lxJ6_getChars_ba4f3 2 12 rfl) (lxJ6_getChars_ba4f3 2 13 rfl) (lxJ6_getChars_ba4f3 2 14 rfl)
set_option maxRecDepth 20000 in
theorem dJ6_getChars_ba4f3_47 : decode cJ6_getChars_ba4f3 47 = .ok (.iload 5, 2) := dc_21 5 (lxJ6_getChars_ba4f3 2 15 rfl) (lxJ6_getChars_ba4f3 3 0 rfl)
set_option maxRecDepth 20000 in
theorem dJ6_getChars_ba4f3_49 : decode cJ6_getChars_ba4f3 49 = .ok (.getstatic 83, 3) := dc_178 0 83 (lxJ6_getChars_ba4f3 3 1 rfl) (lxJ6_getChars_ba4f3 3 2 rfl) (lxJ6_getChars_ba4f3 3 3 rfl)
set_option maxRecDepth 20000 in
theorem dJ6_getChars_ba4f3_52 : decode cJ6_getChars_ba4f3 52 = .ok (.iload 4, 2) := dc_21 4 (lxJ6_getChars_ba4f3 3 4 rfl) (lxJ6_getChars_ba4f3 3 5 rfl)
set_option maxRecDepth 20000 in
theorem dJ6_getChars_ba4f3_54 : decode cJ6_getChars_ba4f3 54 = .ok (.baload, 1) := dc_51 (lxJ6_getChars_ba4f3 3 6 rfl)
set_option maxRecDepth 20000 in
theorem dJ6_getChars_ba4f3_55 : decode cJ6_getChars_ba4f3 55 = .ok (.bastore, 1) := dc_84 (lxJ6_getChars_ba4f3 3 7 rfl)
set_option maxRecDepth 20000 in
theorem dJ6_getChars_ba4f3_56 : decode cJ6_getChars_ba4f3 56 = .ok (.aload_n 2, 1) := dc_44 (lxJ6_getChars_ba4f3 3 8 rfl)
set_option maxRecDepth 20000 in
theorem dJ6_getChars_ba4f3_57 : decode cJ6_getChars_ba4f3 57 = .ok (.iinc 5 (-1), 3) := dc_132 5 255 (lxJ6_getChars_ba4f3 3 9 rfl) (lxJ6_getChars_ba4f3 3 10 rfl) (lxJ6_getChars_ba4f3 3 11 rfl)
set_option maxRecDepth 20000 in
theorem dJ6_getChars_ba4f3_60 : decode cJ6_getChars_ba4f3 60 = .ok (.iload 5, 2) := dc_21 5 (lxJ6_getChars_ba4f3 3 12 rfl) (lxJ6_getChars_ba4f3 3 13 rfl)
set_option maxRecDepth 20000 in
theorem dJ6_getChars_ba4f3_62 : decode cJ6_getChars_ba4f3 62 = .ok (.getstatic 87, 3) := dc_178 0 87 (lxJ6_getChars_ba4f3 3 14 rfl) (lxJ6_getChars_ba4f3 3 15 rfl) (lxJ6_getChars_ba4f3 4 0 rfl)
set_option maxRecDepth 20000 in
theorem dJ6_getChars_ba4f3_65 : decode cJ6_getChars_ba4f3 65 = .ok (.iload 4, 2) := dc_21 4 (lxJ6_getChars_ba4f3 4 1 rfl) (lxJ6_getChars_ba4f3 4 2 rfl)
set_option maxRecDepth 20000 in
theorem dJ6_getChars_ba4f3_67 : decode cJ6_getChars_ba4f3 67 = .ok (.baload, 1) := dc_51 (lxJ6_getChars_ba4f3 4 3 rfl)
set_option maxRecDepth 20000 in
theorem dJ6_getChars_ba4f3_68 : decode cJ6_getChars_ba4f3 68 = .ok (.bastore, 1) := dc_84 (lxJ6_getChars_ba4f3 4 4 rfl)
set_option maxRecDepth 20000 in
theorem dJ6_getChars_ba4f3_69 : decode cJ6_getChars_ba4f3 69 = .ok (.goto (-47), 3) := dc_167 255 209 (lxJ6_getChars_ba4f3 4 5 rfl) (lxJ6_getChars_ba4f3 4 6 rfl) (lxJ6_getChars_ba4f3 4 7 rfl)
set_option maxRecDepth 20000 in
theorem dJ6_getChars_ba4f3_72 : decode cJ6_getChars_ba4f3 72 = .ok (.aload_n 2, 1) := dc_44 (lxJ6_getChars_ba4f3 4 8 rfl)
set_option maxRecDepth 20000 in
theorem dJ6_getChars_ba4f3_73 : decode cJ6_getChars_ba4f3 73 = .ok (.iinc 5 (-1), 3) := dc_132 5 255 (lxJ6_getChars_ba4f3 4 9 rfl) (lxJ6_getChars_ba4f3 4 10 rfl) (lxJ6_getChars_ba4f3 4 11 rfl)
set_option maxRecDepth 20000 in
theorem dJ6_getChars_ba4f3_76 : decode cJ6_getChars_ba4f3 76 = .ok (.iload 5, 2) := dc_21 5 (lxJ6_getChars_ba4f3 4 12 rfl) (lxJ6_getChars_ba4f3 4 13 rfl)
set_option maxRecDepth 20000 in
theorem dJ6_getChars_ba4f3_78 : decode cJ6_getChars_ba4f3 78 = .ok (.getstatic 83, 3) := dc_178 0 83 (lxJ6_getChars_ba4f3 4 14 rfl) (lxJ6_getChars_ba4f3 4 15 rfl) (lxJ6_getChars_ba4f3 5 0 rfl)
set_option maxRecDepth 20000 in
theorem dJ6_getChars_ba4f3_81 : decode cJ6_getChars_ba4f3 81 = .ok (.iload_n 0, 1) := dc_26 (lxJ6_getChars_ba4f3 5 1 rfl)
set_option maxRecDepth 20000 in
theorem dJ6_getChars_ba4f3_82 : decode cJ6_getChars_ba4f3 82 = .ok (.ineg, 1) := dc_116 (lxJ6_getChars_ba4f3 5 2 rfl)
set_option maxRecDepth 20000 in
theorem dJ6_getChars_ba4f3_83 : decode cJ6_getChars_ba4f3 83 = .ok (.baload, 1) := dc_51 (lxJ6_getChars_ba4f3 5 3 rfl)
set_option maxRecDepth 20000 in
theorem dJ6_getChars_ba4f3_84 : decode cJ6_getChars_ba4f3 84 = .ok (.bastore, 1) := dc_84 (lxJ6_getChars_ba4f3 5 4 rfl)
set_option maxRecDepth 20000 in
theorem dJ6_getChars_ba4f3_85 : decode cJ6_getChars_ba4f3 85 = .ok (.iload_n 0, 1) := dc_26 (lxJ6_getChars_ba4f3 5 5 rfl)
set_option maxRecDepth 20000 in
theorem dJ6_getChars_ba4f3_86 : decode cJ6_getChars_ba4f3 86 = .ok (.bipush (-9), 2) := dc_16 247 (lxJ6_getChars_ba4f3 5 6 rfl) (lxJ6_getChars_ba4f3 5 7 rfl)
set_option maxRecDepth 20000 in
theorem dJ6_getChars_ba4f3_88 : decode cJ6_getChars_ba4f3 88 = .ok (.if_icmp .ge 16, 3) := dc_162 0 16 (lxJ6_getChars_ba4f3 5 8 rfl) (lxJ6_getChars_ba4f3 5 9 rfl) (lxJ6_getChars_ba4f3 5 10 rfl)
set_option maxRecDepth 20000 in
theorem dJ6_getChars_ba4f3_91 : decode cJ6_getChars_ba4f3 91 = .ok (.aload_n 2, 1) := dc_44 (lxJ6_getChars_ba4f3 5 11 rfl)
set_option maxRecDepth 20000 in
theorem dJ6_getChars_ba4f3_92 : decode cJ6_getChars_ba4f3 92 = .ok (.iinc 5 (-1), 3) := dc_132 5 255 (lxJ6_getChars_ba4f3 5 12 rfl) (lxJ6_getChars_ba4f3 5 13 rfl) (lxJ6_getChars_ba4f3 5 14 rfl)
set_option maxRecDepth 20000 in
theorem dJ6_getChars_ba4f3_95 : decode cJ6_getChars_ba4f3 95 = .ok (.iload 5, 2) := dc_21 5 (lxJ6_getChars_ba4f3 5 15 rfl) (lxJ6_getChars_ba4f3 6 0 rfl)
set_option maxRecDepth 20000 in
theorem dJ6_getChars_ba4f3_97 : decode cJ6_getChars_ba4f3 97 = .ok (.getstatic 87, 3) := dc_178 0 87 (lxJ6_getChars_ba4f3 6 1 rfl) (lxJ6_getChars_ba4f3 6 2 rfl) (lxJ6_getChars_ba4f3 6 3 rfl)
set_option maxRecDepth 20000 in
theorem dJ6_getChars_ba4f3_100 : decode cJ6_getChars_ba4f3 100 = .ok (.iload_n 0, 1) := dc_26 (lxJ6_getChars_ba4f3 6 4 rfl)
set_option maxRecDepth 20000 in
theorem dJ6_getChars_ba4f3_101 : decode cJ6_getChars_ba4f3 101 = .ok (.ineg, 1) := dc_116 (lxJ6_getChars_ba4f3 6 5 rfl)
set_option maxRecDepth 20000 in
theorem dJ6_getChars_ba4f3_102 : decode cJ6_getChars_ba4f3 102 = .ok (.baload, 1) := dc_51 (lxJ6_getChars_ba4f3 6 6 rfl)
set_option maxRecDepth 20000 in
theorem dJ6_getChars_ba4f3_103 : decode cJ6_getChars_ba4f3 103 = .ok (.bastore, 1) := dc_84 (lxJ6_getChars_ba4f3 6 7 rfl)
set_option maxRecDepth 20000 in
theorem dJ6_getChars_ba4f3_104 : decode cJ6_getChars_ba4f3 104 = .ok (.iload 6, 2) := dc_21 6 (lxJ6_getChars_ba4f3 6 8 rfl) (lxJ6_getChars_ba4f3 6 9 rfl)
set_option maxRecDepth 20000 in
theorem dJ6_getChars_ba4f3_106 : decode cJ6_getChars_ba4f3 106 = .ok (.ifCond .eq 12, 3) := dc_153 0 12 (lxJ6_getChars_ba4f3 6 10 rfl) (lxJ6_getChars_ba4f3 6 11 rfl) (lxJ6_getChars_ba4f3 6 12 rfl)
set_option maxRecDepth 20000 in
theorem dJ6_getChars_ba4f3_109 : decode cJ6_getChars_ba4f3 109 = .ok (.aload_n 2, 1) := dc_44 (lxJ6_getChars_ba4f3 6 13 rfl)
set_option maxRecDepth 20000 in
theorem dJ6_getChars_ba4f3_110 : decode cJ6_getChars_ba4f3 110 = .ok (.iinc 5 (-1), 3) := dc_132 5 255 (lxJ6_getChars_ba4f3 6 14 rfl) (lxJ6_getChars_ba4f3 6 15 rfl) (lxJ6_getChars_ba4f3 7 0 rfl)
set_option maxRecDepth 20000 in
theorem dJ6_getChars_ba4f3_113 : decode cJ6_getChars_ba4f3 113 = .ok (.iload 5, 2) := dc_21 5 (lxJ6_getChars_ba4f3 7 1 rfl) (lxJ6_getChars_ba4f3 7 2 rfl)
set_option maxRecDepth 20000 in
theorem dJ6_getChars_ba4f3_115 : decode cJ6_getChars_ba4f3 115 = .ok (.bipush 45, 2) := dc_16 45 (lxJ6_getChars_ba4f3 7 3 rfl) (lxJ6_getChars_ba4f3 7 4 rfl)
set_option maxRecDepth 20000 in
theorem dJ6_getChars_ba4f3_117 : decode cJ6_getChars_ba4f3 117 = .ok (.bastore, 1) := dc_84 (lxJ6_getChars_ba4f3 7 5 rfl)
set_option maxRecDepth 20000 in
theorem dJ6_getChars_ba4f3_118 : decode cJ6_getChars_ba4f3 118 = .ok (.iload 5, 2) := dc_21 5 (lxJ6_getChars_ba4f3 7 6 rfl) (lxJ6_getChars_ba4f3 7 7 rfl)
set_option maxRecDepth 20000 in
theorem dJ6_getChars_ba4f3_120 : decode cJ6_getChars_ba4f3 120 = .ok (.ireturn, 1) := dc_172 (lxJ6_getChars_ba4f3 7 8 rfl)
def lb_sgJ6_stringSize_0f7a4 : List (List UInt8) := [[4, 60, 26, 155, 0, 8, 3, 60, 26, 116, 59, 16, 246, 61, 4, 62], [29, 16, 10, 162, 0, 23, 26, 28, 164, 0, 7, 29, 27, 96, 172, 16], [10, 28, 104, 61, 132, 3, 1, 167, 255, 233, 16, 10, 27, 96, 172]]
set_option maxRecDepth 100000 in
theorem lb_seJ6_stringSize_0f7a4 : cJ6_stringSize_0f7a4.data.toList = lb_sgJ6_stringSize_0f7a4.flatten := by decide +kernel
theorem lb_lnJ6_stringSize_0f7a4 : ∀ s ∈ lb_sgJ6_stringSize_0f7a4.dropLast, s.length = 16 := by decide +kernel
theorem lxJ6_stringSize_0f7a4 (k j : Nat) {b : UInt8} (h : (lb_sgJ6_stringSize_0f7a4[k]?).bind (fun s => s[j]?) = some b) : lb_at cJ6_stringSize_0f7a4 (16 * k + j) b := by
  unfold lb_at
  rw [lb_seJ6_stringSize_0f7a4]
  exact lb_flat 16 lb_sgJ6_stringSize_0f7a4 k j b lb_lnJ6_stringSize_0f7a4 h
set_option maxRecDepth 20000 in
theorem dJ6_stringSize_0f7a4_0 : decode cJ6_stringSize_0f7a4 0 = .ok (.iconst 1, 1) := dc_4 (lxJ6_stringSize_0f7a4 0 0 rfl)
set_option maxRecDepth 20000 in
theorem dJ6_stringSize_0f7a4_1 : decode cJ6_stringSize_0f7a4 1 = .ok (.istore_n 1, 1) := dc_60 (lxJ6_stringSize_0f7a4 0 1 rfl)
set_option maxRecDepth 20000 in
theorem dJ6_stringSize_0f7a4_2 : decode cJ6_stringSize_0f7a4 2 = .ok (.iload_n 0, 1) := dc_26 (lxJ6_stringSize_0f7a4 0 2 rfl)
set_option maxRecDepth 20000 in
theorem dJ6_stringSize_0f7a4_3 : decode cJ6_stringSize_0f7a4 3 = .ok (.ifCond .lt 8, 3) := dc_155 0 8 (lxJ6_stringSize_0f7a4 0 3 rfl) (lxJ6_stringSize_0f7a4 0 4 rfl) (lxJ6_stringSize_0f7a4 0 5 rfl)
set_option maxRecDepth 20000 in
theorem dJ6_stringSize_0f7a4_6 : decode cJ6_stringSize_0f7a4 6 = .ok (.iconst 0, 1) := dc_3 (lxJ6_stringSize_0f7a4 0 6 rfl)
set_option maxRecDepth 20000 in
theorem dJ6_stringSize_0f7a4_7 : decode cJ6_stringSize_0f7a4 7 = .ok (.istore_n 1, 1) := dc_60 (lxJ6_stringSize_0f7a4 0 7 rfl)
set_option maxRecDepth 20000 in
theorem dJ6_stringSize_0f7a4_8 : decode cJ6_stringSize_0f7a4 8 = .ok (.iload_n 0, 1) := dc_26 (lxJ6_stringSize_0f7a4 0 8 rfl)
set_option maxRecDepth 20000 in
theorem dJ6_stringSize_0f7a4_9 : decode cJ6_stringSize_0f7a4 9 = .ok (.ineg, 1) := dc_116 (lxJ6_stringSize_0f7a4 0 9 rfl)
set_option maxRecDepth 20000 in
theorem dJ6_stringSize_0f7a4_10 : decode cJ6_stringSize_0f7a4 10 = .ok (.istore_n 0, 1) := dc_59 (lxJ6_stringSize_0f7a4 0 10 rfl)
set_option maxRecDepth 20000 in
theorem dJ6_stringSize_0f7a4_11 : decode cJ6_stringSize_0f7a4 11 = .ok (.bipush (-10), 2) := dc_16 246 (lxJ6_stringSize_0f7a4 0 11 rfl) (lxJ6_stringSize_0f7a4 0 12 rfl)
set_option maxRecDepth 20000 in
theorem dJ6_stringSize_0f7a4_13 : decode cJ6_stringSize_0f7a4 13 = .ok (.istore_n 2, 1) := dc_61 (lxJ6_stringSize_0f7a4 0 13 rfl)
set_option maxRecDepth 20000 in
theorem dJ6_stringSize_0f7a4_14 : decode cJ6_stringSize_0f7a4 14 = .ok (.iconst 1, 1) := dc_4 (lxJ6_stringSize_0f7a4 0 14 rfl)
set_option maxRecDepth 20000 in
theorem dJ6_stringSize_0f7a4_15 : decode cJ6_stringSize_0f7a4 15 = .ok (.istore_n 3, 1) := dc_62 (lxJ6_stringSize_0f7a4 0 15 rfl)
set_option maxRecDepth 20000 in
theorem dJ6_stringSize_0f7a4_16 : decode cJ6_stringSize_0f7a4 16 = .ok (.iload_n 3, 1) := dc_29 (lxJ6_stringSize_0f7a4 1 0 rfl)
set_option maxRecDepth 20000 in
theorem dJ6_stringSize_0f7a4_17 : decode cJ6_stringSize_0f7a4 17 = .ok (.bipush 10, 2) := dc_16 10 (lxJ6_stringSize_0f7a4 1 1 rfl) (lxJ6_stringSize_0f7a4 1 2 rfl)
set_option maxRecDepth 20000 in
theorem dJ6_stringSize_0f7a4_19 : decode cJ6_stringSize_0f7a4 19 = .ok (.if_icmp .ge 23, 3) := dc_162 0 23 (lxJ6_stringSize_0f7a4 1 3 rfl) (lxJ6_stringSize_0f7a4 1 4 rfl) (lxJ6_stringSize_0f7a4 1 5 rfl)
set_option maxRecDepth 20000 in
theorem dJ6_stringSize_0f7a4_22 : decode cJ6_stringSize_0f7a4 22 = .ok (.iload_n 0, 1) := dc_26 (lxJ6_stringSize_0f7a4 1 6 rfl)
set_option maxRecDepth 20000 in
theorem dJ6_stringSize_0f7a4_23 : decode cJ6_stringSize_0f7a4 23 = .ok (.iload_n 2, 1) := dc_28 (lxJ6_stringSize_0f7a4 1 7 rfl)
set_option maxRecDepth 20000 in
theorem dJ6_stringSize_0f7a4_24 : decode cJ6_stringSize_0f7a4 24 = .ok (.if_icmp .le 7, 3) := dc_164 0 7 (lxJ6_stringSize_0f7a4 1 8 rfl) (lxJ6_stringSize_0f7a4 1 9 rfl) (lxJ6_stringSize_0f7a4 1 10 rfl)
set_option maxRecDepth 20000 in
theorem dJ6_stringSize_0f7a4_27 : decode cJ6_stringSize_0f7a4 27 = .ok (.iload_n 3, 1) := dc_29 (lxJ6_stringSize_0f7a4 1 11 rfl)
set_option maxRecDepth 20000 in
theorem dJ6_stringSize_0f7a4_28 : decode cJ6_stringSize_0f7a4 28 = .ok (.iload_n 1, 1) := dc_27 (lxJ6_stringSize_0f7a4 1 12 rfl)
set_option maxRecDepth 20000 in
theorem dJ6_stringSize_0f7a4_29 : decode cJ6_stringSize_0f7a4 29 = .ok (.iadd, 1) := dc_96 (lxJ6_stringSize_0f7a4 1 13 rfl)
set_option maxRecDepth 20000 in
theorem dJ6_stringSize_0f7a4_30 : decode cJ6_stringSize_0f7a4 30 = .ok (.ireturn, 1) := dc_172 (lxJ6_stringSize_0f7a4 1 14 rfl)
set_option maxRecDepth 20000 in
theorem dJ6_stringSize_0f7a4_31 : decode cJ6_stringSize_0f7a4 31 = .ok (.bipush 10, 2) := dc_16 10 (lxJ6_stringSize_0f7a4 1 15 rfl) (lxJ6_stringSize_0f7a4 2 0 rfl)
set_option maxRecDepth 20000 in
theorem dJ6_stringSize_0f7a4_33 : decode cJ6_stringSize_0f7a4 33 = .ok (.iload_n 2, 1) := dc_28 (lxJ6_stringSize_0f7a4 2 1 rfl)
set_option maxRecDepth 20000 in
theorem dJ6_stringSize_0f7a4_34 : decode cJ6_stringSize_0f7a4 34 = .ok (.imul, 1) := dc_104 (lxJ6_stringSize_0f7a4 2 2 rfl)
set_option maxRecDepth 20000 in
theorem dJ6_stringSize_0f7a4_35 : decode cJ6_stringSize_0f7a4 35 = .ok (.istore_n 2, 1) := dc_61 (lxJ6_stringSize_0f7a4 2 3 rfl)
set_option maxRecDepth 20000 in
theorem dJ6_stringSize_0f7a4_36 : decode cJ6_stringSize_0f7a4 36 = .ok (.iinc 3 1, 3) := dc_132 3 1 (lxJ6_stringSize_0f7a4 2 4 rfl) (lxJ6_stringSize_0f7a4 2 5 rfl) (lxJ6_stringSize_0f7a4 2 6 rfl)
set_option maxRecDepth 20000 in
theorem dJ6_stringSize_0f7a4_39 : decode cJ6_stringSize_0f7a4 39 = .ok (.goto (-23), 3) := dc_167 255 233 (lxJ6_stringSize_0f7a4 2 7 rfl) (lxJ6_stringSize_0f7a4 2 8 rfl) (lxJ6_stringSize_0f7a4 2 9 rfl)
set_option maxRecDepth 20000 in
theorem dJ6_stringSize_0f7a4_42 : decode cJ6_stringSize_0f7a4 42 = .ok (.bipush 10, 2) := dc_16 10 (lxJ6_stringSize_0f7a4 2 10 rfl) (lxJ6_stringSize_0f7a4 2 11 rfl)
set_option maxRecDepth 20000 in
theorem dJ6_stringSize_0f7a4_44 : decode cJ6_stringSize_0f7a4 44 = .ok (.iload_n 1, 1) := dc_27 (lxJ6_stringSize_0f7a4 2 12 rfl)
set_option maxRecDepth 20000 in
theorem dJ6_stringSize_0f7a4_45 : decode cJ6_stringSize_0f7a4 45 = .ok (.iadd, 1) := dc_96 (lxJ6_stringSize_0f7a4 2 13 rfl)
set_option maxRecDepth 20000 in
theorem dJ6_stringSize_0f7a4_46 : decode cJ6_stringSize_0f7a4 46 = .ok (.ireturn, 1) := dc_172 (lxJ6_stringSize_0f7a4 2 14 rfl)
noncomputable def sgJ0_init_81219 : List (List Cond) := [[.code yJ0_init_81219 cJ0_init_81219 2 none], wsJ0_init_81219_r1, wsJ0_init_81219_r2, wsJ0_init_81219_r3, wsJ0_init_81219_r4, wsJ0_init_81219_r5, wsJ00, wsJ40]
theorem seJ0_init_81219 : sgJ0_init_81219.flatten = wsJ0_init_81219 := by simp only [sgJ0_init_81219, wsJ0_init_81219, List.flatten_cons, List.flatten_nil, List.append_assoc, List.append_nil, List.cons_append, List.nil_append]
set_option maxRecDepth 20000 in
theorem ggJ0_init_81219_J0_init_db425 : GoodIn wsJ0_init_81219 wsJ0_init_db425 := goodIn_s seJ0_init_81219 _ [pq_1_3, pq_1_4, pq_1_5, pq_1_6, pq_1_7, pq_1_8, pq_1_9, pq_1_10, pq_1_11, pq_1_12, pq_1_13, pq_1_14, pq_1_15, pq_1_16, pq_1_17, pq_1_18, pq_1_19, pq_1_20, pq_1_21, pq_1_22, pq_1_23, pq_2_0, pq_2_1, pq_2_2, pq_2_3, pq_2_4, pq_2_5, pq_2_6, pq_2_7, pq_2_8, pq_2_9, pq_2_10, pq_2_11, pq_2_12, pq_2_13, pq_2_14, pq_2_15, pq_2_16, pq_2_17, pq_2_18, pq_2_19, pq_2_20, pq_2_21, pq_2_22, pq_2_23, pq_3_0, pq_3_1, pq_3_2, pq_3_3, pq_3_4, pq_3_5, pq_3_6, pq_3_7, pq_3_8, pq_3_9, pq_3_10, pq_3_11, pq_3_12, pq_3_13, pq_3_14, pq_3_15, pq_3_16, pq_3_17, pq_3_18, pq_3_19, pq_3_20, pq_3_21, pq_3_22, pq_3_23, pq_4_0, pq_4_1, pq_4_2, pq_4_3, pq_4_4, pq_4_5, pq_4_6, pq_1_2, pq_4_7, pq_4_8, pq_4_9, pq_4_10, pq_4_11, pq_4_12, pq_4_13, pq_4_14, pq_4_15, pq_4_16, pq_4_17, pq_4_18, pq_4_19, pq_4_20, pq_4_21, pq_4_22, pq_4_23, pq_5_0, pq_5_1, pq_5_2, pq_6_0, pq_6_1, pq_6_2, pq_6_3, pq_7_0, pq_7_1, pq_7_2, pq_7_3] (by rfl) gw_wsJ0_init_db425
set_option maxRecDepth 20000 in
theorem gJ0_init_81219_J0_init_db425 : GoodIn wsJ0_init_81219 (wsJ0_init_db425) := ggJ0_init_81219_J0_init_db425
set_option maxRecDepth 20000 in
theorem dJ0_init_81219_0 : decode cJ0_init_81219 0 = .ok (.aload_n 0, 1) := dc_42 rfl
set_option maxRecDepth 20000 in
theorem dJ0_init_81219_1 : decode cJ0_init_81219 1 = .ok (.aload_n 1, 1) := dc_43 rfl
set_option maxRecDepth 20000 in
theorem dJ0_init_81219_2 : decode cJ0_init_81219 2 = .ok (.aconst_null, 1) := dc_1 rfl
set_option maxRecDepth 20000 in
theorem dJ0_init_81219_3 : decode cJ0_init_81219 3 = .ok (.invokespecial 489, 3) := dc_183 1 233 rfl rfl rfl
set_option maxRecDepth 20000 in
theorem dJ0_init_81219_6 : decode cJ0_init_81219 6 = .ok (.return_, 1) := dc_177 rfl
noncomputable def sgJ0_init_db425 : List (List Cond) := [[.code yJ0_init_db425 cJ0_init_db425 5 none], wsJ0_init_db425_r1, wsJ0_init_db425_r2, wsJ0_init_db425_r3, wsJ0_init_db425_r4, wsJ00, wsJ40]
theorem seJ0_init_db425 : sgJ0_init_db425.flatten = wsJ0_init_db425 := by simp only [sgJ0_init_db425, wsJ0_init_db425, List.flatten_cons, List.flatten_nil, List.append_assoc, List.append_nil, List.cons_append, List.nil_append]
set_option maxRecDepth 20000 in
theorem ggJ0_init_db425_J5_getValue_6d5f1 : GoodIn wsJ0_init_db425 wsJ5_getValue_6d5f1 := goodIn_s seJ0_init_db425 _ [pq_1_12, pq_1_13, pq_6_0, pq_6_1, pq_6_2, pq_6_3] (by rfl) gw_wsJ5_getValue_6d5f1
set_option maxRecDepth 20000 in
theorem gJ0_init_db425_J5_getValue_6d5f1_u552J4 : GoodIn wsJ0_init_db425 (va_wsU RJ0 552 RJ4 "java/lang/AbstractStringBuilder" ⟨"java/lang/AbstractStringBuilder", "getValue", "()[B"⟩ yJ5_getValue_6d5f1 wsJ5_getValue_6d5f1) := goodIn_app (goodIn_s seJ0_init_db425 _ [pq_1_7, pq_1_8, pq_1_9, pq_1_10, pq_1_11] (by rfl) (by decide +kernel)) ggJ0_init_db425_J5_getValue_6d5f1
set_option maxRecDepth 20000 in
theorem ggJ0_init_db425_J4_length_8abf5 : GoodIn wsJ0_init_db425 wsJ4_length_8abf5 := goodIn_s seJ0_init_db425 _ [pq_1_20, pq_1_21, pq_1_15, pq_1_22, pq_1_23, pq_1_11, pq_2_0, pq_2_1, pq_6_0, pq_6_1, pq_6_2, pq_6_3] (by rfl) gw_wsJ4_length_8abf5
set_option maxRecDepth 20000 in
theorem gJ0_init_db425_J4_length_8abf5_u549J4 : GoodIn wsJ0_init_db425 (va_wsO RJ0 549 RJ4 "java/lang/AbstractStringBuilder" ⟨"java/lang/AbstractStringBuilder", "length", "()I"⟩ yJ4_length_8abf5 wsJ4_length_8abf5) := goodIn_app (goodIn_s seJ0_init_db425 _ [pq_1_14, pq_1_15, pq_1_16, pq_1_17, pq_1_18, pq_1_19] (by rfl) (by decide +kernel)) ggJ0_init_db425_J4_length_8abf5
set_option maxRecDepth 20000 in
theorem ggJ0_init_db425_J5_isLatin1_aae02 : GoodIn wsJ0_init_db425 wsJ5_isLatin1_aae02 := goodIn_s seJ0_init_db425 _ [pq_2_6, pq_2_7, pq_2_8, pq_6_0, pq_6_1, pq_6_2, pq_6_3] (by rfl) gw_wsJ5_isLatin1_aae02
set_option maxRecDepth 20000 in
theorem gJ0_init_db425_J5_isLatin1_aae02_u1047J4 : GoodIn wsJ0_init_db425 (va_wsU RJ0 1047 RJ4 "java/lang/AbstractStringBuilder" ⟨"java/lang/AbstractStringBuilder", "isLatin1", "()Z"⟩ yJ5_isLatin1_aae02 wsJ5_isLatin1_aae02) := goodIn_app (goodIn_s seJ0_init_db425 _ [pq_2_2, pq_2_3, pq_2_4, pq_2_5, pq_1_11] (by rfl) (by decide +kernel)) ggJ0_init_db425_J5_isLatin1_aae02
set_option maxRecDepth 20000 in
theorem ggJ0_init_db425_J7_copyOfRange_39247 : GoodIn wsJ0_init_db425 wsJ7_copyOfRange_39247 := goodIn_s seJ0_init_db425 _ [pq_2_12, pq_2_13, pq_2_14, pq_2_15, pq_2_16, pq_2_17, pq_2_18, pq_2_19, pq_2_20, pq_2_11, pq_2_21, pq_2_22, pq_2_23, pq_3_0, pq_3_1, pq_3_2, pq_3_3, pq_3_4, pq_3_5, pq_3_6, pq_3_7, pq_3_8, pq_3_9, pq_3_10, pq_3_11, pq_1_19, pq_6_0, pq_6_1, pq_6_2, pq_6_3] (by rfl) gw_wsJ7_copyOfRange_39247
set_option maxRecDepth 20000 in
theorem gJ0_init_db425_J7_copyOfRange_39247 : GoodIn wsJ0_init_db425 (va_wsS RJ0 54 yJ7_copyOfRange_39247 wsJ7_copyOfRange_39247) := goodIn_app (goodIn_s seJ0_init_db425 _ [pq_2_9, pq_2_10, pq_2_11] (by rfl) (by decide +kernel)) ggJ0_init_db425_J7_copyOfRange_39247
set_option maxRecDepth 20000 in
theorem ggJ0_init_db425_J2_compress_39247 : GoodIn wsJ0_init_db425 wsJ2_compress_39247 := goodIn_s seJ0_init_db425 _ [pq_3_15, pq_2_22, pq_3_16, pq_3_17, pq_3_14, pq_3_18, pq_3_19, pq_3_20, pq_3_21, pq_3_22, pq_3_23, pq_4_0, pq_4_1, pq_4_2, pq_4_3, pq_4_4, pq_4_5, pq_4_6, pq_4_7, pq_4_8, pq_4_9, pq_4_10, pq_4_11, pq_4_12, pq_4_13, pq_4_14, pq_4_15, pq_4_16, pq_4_17, pq_4_18, pq_4_19, pq_4_20, pq_2_10, pq_2_11, pq_2_12, pq_2_13, pq_2_14, pq_2_15, pq_2_16, pq_2_17, pq_2_18, pq_2_19, pq_2_20, pq_2_21, pq_2_23, pq_3_0, pq_3_1, pq_3_2, pq_3_3, pq_3_4, pq_3_5, pq_3_6, pq_3_7, pq_3_8, pq_3_9, pq_3_10, pq_3_11, pq_1_19, pq_6_0, pq_6_1, pq_6_2, pq_6_3] (by rfl) gw_wsJ2_compress_39247
set_option maxRecDepth 20000 in
theorem gJ0_init_db425_J2_compress_39247 : GoodIn wsJ0_init_db425 (va_wsS RJ0 1051 yJ2_compress_39247 wsJ2_compress_39247) := goodIn_app (goodIn_s seJ0_init_db425 _ [pq_3_12, pq_3_13, pq_3_14] (by rfl) (by decide +kernel)) ggJ0_init_db425_J2_compress_39247
set_option maxRecDepth 20000 in
theorem ggJ0_init_db425_J2_coderFromArrayLen_85cad : GoodIn wsJ0_init_db425 wsJ2_coderFromArrayLen_85cad := goodIn_s seJ0_init_db425 _ [pq_4_23] (by rfl) gw_wsJ2_coderFromArrayLen_85cad
set_option maxRecDepth 20000 in
theorem gJ0_init_db425_J2_coderFromArrayLen_85cad : GoodIn wsJ0_init_db425 (va_wsS RJ0 47 yJ2_coderFromArrayLen_85cad wsJ2_coderFromArrayLen_85cad) := goodIn_app (goodIn_s seJ0_init_db425 _ [pq_4_21, pq_4_22, pq_3_14] (by rfl) (by decide +kernel)) ggJ0_init_db425_J2_coderFromArrayLen_85cad
def lb_sgJ0_init_db425 : List (List UInt8) := [[42, 183, 0, 1, 43, 182, 2, 40, 78, 43, 182, 2, 37, 54, 4, 43], [182, 4, 23, 153, 0, 22, 42, 3, 181, 0, 15, 42, 45, 3, 21, 4], [184, 0, 54, 181, 0, 9, 167, 0, 59, 178, 0, 38, 153, 0, 35, 43], [180, 4, 24, 153, 0, 28, 42, 45, 3, 21, 4, 184, 4, 27, 181, 0], [9, 42, 42, 180, 0, 9, 21, 4, 184, 0, 47, 181, 0, 15, 177, 42], [4, 181, 0, 15, 42, 45, 3, 21, 4, 4, 120, 184, 0, 54, 181, 0], [9, 177]]
set_option maxRecDepth 100000 in
theorem lb_seJ0_init_db425 : cJ0_init_db425.data.toList = lb_sgJ0_init_db425.flatten := by decide +kernel
theorem lb_lnJ0_init_db425 : ∀ s ∈ lb_sgJ0_init_db425.dropLast, s.length = 16 := by decide +kernel
theorem lxJ0_init_db425 (k j : Nat) {b : UInt8} (h : (lb_sgJ0_init_db425[k]?).bind (fun s => s[j]?) = some b) : lb_at cJ0_init_db425 (16 * k + j) b := by
  unfold lb_at
  rw [lb_seJ0_init_db425]
  exact lb_flat 16 lb_sgJ0_init_db425 k j b lb_lnJ0_init_db425 h
set_option maxRecDepth 20000 in
theorem dJ0_init_db425_0 : decode cJ0_init_db425 0 = .ok (.aload_n 0, 1) := dc_42 (lxJ0_init_db425 0 0 rfl)
set_option maxRecDepth 20000 in
theorem dJ0_init_db425_1 : decode cJ0_init_db425 1 = .ok (.invokespecial 1, 3) := dc_183 0 1 (lxJ0_init_db425 0 1 rfl) (lxJ0_init_db425 0 2 rfl) (lxJ0_init_db425 0 3 rfl)
set_option maxRecDepth 20000 in
theorem dJ0_init_db425_4 : decode cJ0_init_db425 4 = .ok (.aload_n 1, 1) := dc_43 (lxJ0_init_db425 0 4 rfl)
set_option maxRecDepth 20000 in
theorem dJ0_init_db425_5 : decode cJ0_init_db425 5 = .ok (.invokevirtual 552, 3) := dc_182 2 40 (lxJ0_init_db425 0 5 rfl) (lxJ0_init_db425 0 6 rfl) (lxJ0_init_db425 0 7 rfl)
set_option maxRecDepth 20000 in
theorem dJ0_init_db425_8 : decode cJ0_init_db425 8 = .ok (.astore_n 3, 1) := dc_78 (lxJ0_init_db425 0 8 rfl)
set_option maxRecDepth 20000 in
theorem dJ0_init_db425_9 : decode cJ0_init_db425 9 = .ok (.aload_n 1, 1) := dc_43 (lxJ0_init_db425 0 9 rfl)
set_option maxRecDepth 20000 in
theorem dJ0_init_db425_10 : decode cJ0_init_db425 10 = .ok (.invokevirtual 549, 3) := dc_182 2 37 (lxJ0_init_db425 0 10 rfl) (lxJ0_init_db425 0 11 rfl) (lxJ0_init_db425 0 12 rfl)
set_option maxRecDepth 20000 in
theorem dJ0_init_db425_13 : decode cJ0_init_db425 13 = .ok (.istore 4, 2) := dc_54 4 (lxJ0_init_db425 0 13 rfl) (lxJ0_init_db425 0 14 rfl)
set_option maxRecDepth 20000 in
theorem dJ0_init_db425_15 : decode cJ0_init_db425 15 = .ok (.aload_n 1, 1) := dc_43 (lxJ0_init_db425 0 15 rfl)
set_option maxRecDepth 20000 in
theorem dJ0_init_db425_16 : decode cJ0_init_db425 16 = .ok (.invokevirtual 1047, 3) := dc_182 4 23 (lxJ0_init_db425 1 0 rfl) (lxJ0_init_db425 1 1 rfl) (lxJ0_init_db425 1 2 rfl)
set_option maxRecDepth 20000 in
theorem dJ0_init_db425_19 : decode cJ0_init_db425 19 = .ok (.ifCond .eq 22, 3) := dc_153 0 22 (lxJ0_init_db425 1 3 rfl) (lxJ0_init_db425 1 4 rfl) (lxJ0_init_db425 1 5 rfl)
set_option maxRecDepth 20000 in
theorem dJ0_init_db425_22 : decode cJ0_init_db425 22 = .ok (.aload_n 0, 1) := dc_42 (lxJ0_init_db425 1 6 rfl)
set_option maxRecDepth 20000 in
theorem dJ0_init_db425_23 : decode cJ0_init_db425 23 = .ok (.iconst 0, 1) := dc_3 (lxJ0_init_db425 1 7 rfl)
set_option maxRecDepth 20000 in
theorem dJ0_init_db425_24 : decode cJ0_init_db425 24 = .ok (.putfield 15, 3) := dc_181 0 15 (lxJ0_init_db425 1 8 rfl) (lxJ0_init_db425 1 9 rfl) (lxJ0_init_db425 1 10 rfl)
set_option maxRecDepth 20000 in
theorem dJ0_init_db425_27 : decode cJ0_init_db425 27 = .ok (.aload_n 0, 1) := dc_42 (lxJ0_init_db425 1 11 rfl)
set_option maxRecDepth 20000 in
theorem dJ0_init_db425_28 : decode cJ0_init_db425 28 = .ok (.aload_n 3, 1) := dc_45 (lxJ0_init_db425 1 12 rfl)
set_option maxRecDepth 20000 in
theorem dJ0_init_db425_29 : decode cJ0_init_db425 29 = .ok (.iconst 0, 1) := dc_3 (lxJ0_init_db425 1 13 rfl)
set_option maxRecDepth 20000 in
theorem dJ0_init_db425_30 : decode cJ0_init_db425 30 = .ok (.iload 4, 2) := dc_21 4 (lxJ0_init_db425 1 14 rfl) (lxJ0_init_db425 1 15 rfl)
set_option maxRecDepth 20000 in
theorem dJ0_init_db425_32 : decode cJ0_init_db425 32 = .ok (.invokestatic 54, 3) := dc_184 0 54 (lxJ0_init_db425 2 0 rfl) (lxJ0_init_db425 2 1 rfl) (lxJ0_init_db425 2 2 rfl)
set_option maxRecDepth 20000 in
theorem dJ0_init_db425_35 : decode cJ0_init_db425 35 = .ok (.putfield 9, 3) := dc_181 0 9 (lxJ0_init_db425 2 3 rfl) (lxJ0_init_db425 2 4 rfl) (lxJ0_init_db425 2 5 rfl)
set_option maxRecDepth 20000 in
theorem dJ0_init_db425_38 : decode cJ0_init_db425 38 = .ok (.goto 59, 3) := dc_167 0 59 (lxJ0_init_db425 2 6 rfl) (lxJ0_init_db425 2 7 rfl) (lxJ0_init_db425 2 8 rfl)
set_option maxRecDepth 20000 in
theorem dJ0_init_db425_41 : decode cJ0_init_db425 41 = .ok (.getstatic 38, 3) := dc_178 0 38 (lxJ0_init_db425 2 9 rfl) (lxJ0_init_db425 2 10 rfl) (lxJ0_init_db425 2 11 rfl)
set_option maxRecDepth 20000 in
theorem dJ0_init_db425_44 : decode cJ0_init_db425 44 = .ok (.ifCond .eq 35, 3) := dc_153 0 35 (lxJ0_init_db425 2 12 rfl) (lxJ0_init_db425 2 13 rfl) (lxJ0_init_db425 2 14 rfl)
set_option maxRecDepth 20000 in
theorem dJ0_init_db425_47 : decode cJ0_init_db425 47 = .ok (.aload_n 1, 1) := dc_43 (lxJ0_init_db425 2 15 rfl)
set_option maxRecDepth 20000 in
theorem dJ0_init_db425_48 : decode cJ0_init_db425 48 = .ok (.getfield 1048, 3) := dc_180 4 24 (lxJ0_init_db425 3 0 rfl) (lxJ0_init_db425 3 1 rfl) (lxJ0_init_db425 3 2 rfl)
set_option maxRecDepth 20000 in
theorem dJ0_init_db425_51 : decode cJ0_init_db425 51 = .ok (.ifCond .eq 28, 3) := dc_153 0 28 (lxJ0_init_db425 3 3 rfl) (lxJ0_init_db425 3 4 rfl) (lxJ0_init_db425 3 5 rfl)
set_option maxRecDepth 20000 in
theorem dJ0_init_db425_54 : decode cJ0_init_db425 54 = .ok (.aload_n 0, 1) := dc_42 (lxJ0_init_db425 3 6 rfl)
set_option maxRecDepth 20000 in
theorem dJ0_init_db425_55 : decode cJ0_init_db425 55 = .ok (.aload_n 3, 1) := dc_45 (lxJ0_init_db425 3 7 rfl)
set_option maxRecDepth 20000 in
theorem dJ0_init_db425_56 : decode cJ0_init_db425 56 = .ok (.iconst 0, 1) := dc_3 (lxJ0_init_db425 3 8 rfl)
set_option maxRecDepth 20000 in
theorem dJ0_init_db425_57 : decode cJ0_init_db425 57 = .ok (.iload 4, 2) := dc_21 4 (lxJ0_init_db425 3 9 rfl) (lxJ0_init_db425 3 10 rfl)
set_option maxRecDepth 20000 in
theorem dJ0_init_db425_59 : decode cJ0_init_db425 59 = .ok (.invokestatic 1051, 3) := dc_184 4 27 (lxJ0_init_db425 3 11 rfl) (lxJ0_init_db425 3 12 rfl) (lxJ0_init_db425 3 13 rfl)
set_option maxRecDepth 20000 in
theorem dJ0_init_db425_62 : decode cJ0_init_db425 62 = .ok (.putfield 9, 3) := dc_181 0 9 (lxJ0_init_db425 3 14 rfl) (lxJ0_init_db425 3 15 rfl) (lxJ0_init_db425 4 0 rfl)
set_option maxRecDepth 20000 in
theorem dJ0_init_db425_65 : decode cJ0_init_db425 65 = .ok (.aload_n 0, 1) := dc_42 (lxJ0_init_db425 4 1 rfl)
set_option maxRecDepth 20000 in
theorem dJ0_init_db425_66 : decode cJ0_init_db425 66 = .ok (.aload_n 0, 1) := dc_42 (lxJ0_init_db425 4 2 rfl)
set_option maxRecDepth 20000 in
theorem dJ0_init_db425_67 : decode cJ0_init_db425 67 = .ok (.getfield 9, 3) := dc_180 0 9 (lxJ0_init_db425 4 3 rfl) (lxJ0_init_db425 4 4 rfl) (lxJ0_init_db425 4 5 rfl)
set_option maxRecDepth 20000 in
theorem dJ0_init_db425_70 : decode cJ0_init_db425 70 = .ok (.iload 4, 2) := dc_21 4 (lxJ0_init_db425 4 6 rfl) (lxJ0_init_db425 4 7 rfl)
set_option maxRecDepth 20000 in
theorem dJ0_init_db425_72 : decode cJ0_init_db425 72 = .ok (.invokestatic 47, 3) := dc_184 0 47 (lxJ0_init_db425 4 8 rfl) (lxJ0_init_db425 4 9 rfl) (lxJ0_init_db425 4 10 rfl)
set_option maxRecDepth 20000 in
theorem dJ0_init_db425_75 : decode cJ0_init_db425 75 = .ok (.putfield 15, 3) := dc_181 0 15 (lxJ0_init_db425 4 11 rfl) (lxJ0_init_db425 4 12 rfl) (lxJ0_init_db425 4 13 rfl)
set_option maxRecDepth 20000 in
theorem dJ0_init_db425_78 : decode cJ0_init_db425 78 = .ok (.return_, 1) := dc_177 (lxJ0_init_db425 4 14 rfl)
set_option maxRecDepth 20000 in
theorem dJ0_init_db425_79 : decode cJ0_init_db425 79 = .ok (.aload_n 0, 1) := dc_42 (lxJ0_init_db425 4 15 rfl)
set_option maxRecDepth 20000 in
theorem dJ0_init_db425_80 : decode cJ0_init_db425 80 = .ok (.iconst 1, 1) := dc_4 (lxJ0_init_db425 5 0 rfl)
set_option maxRecDepth 20000 in
theorem dJ0_init_db425_81 : decode cJ0_init_db425 81 = .ok (.putfield 15, 3) := dc_181 0 15 (lxJ0_init_db425 5 1 rfl) (lxJ0_init_db425 5 2 rfl) (lxJ0_init_db425 5 3 rfl)
set_option maxRecDepth 20000 in
theorem dJ0_init_db425_84 : decode cJ0_init_db425 84 = .ok (.aload_n 0, 1) := dc_42 (lxJ0_init_db425 5 4 rfl)
set_option maxRecDepth 20000 in
theorem dJ0_init_db425_85 : decode cJ0_init_db425 85 = .ok (.aload_n 3, 1) := dc_45 (lxJ0_init_db425 5 5 rfl)
set_option maxRecDepth 20000 in
theorem dJ0_init_db425_86 : decode cJ0_init_db425 86 = .ok (.iconst 0, 1) := dc_3 (lxJ0_init_db425 5 6 rfl)
set_option maxRecDepth 20000 in
theorem dJ0_init_db425_87 : decode cJ0_init_db425 87 = .ok (.iload 4, 2) := dc_21 4 (lxJ0_init_db425 5 7 rfl) (lxJ0_init_db425 5 8 rfl)
set_option maxRecDepth 20000 in
theorem dJ0_init_db425_89 : decode cJ0_init_db425 89 = .ok (.iconst 1, 1) := dc_4 (lxJ0_init_db425 5 9 rfl)
set_option maxRecDepth 20000 in
theorem dJ0_init_db425_90 : decode cJ0_init_db425 90 = .ok (.ishl, 1) := dc_120 (lxJ0_init_db425 5 10 rfl)
set_option maxRecDepth 20000 in
theorem dJ0_init_db425_91 : decode cJ0_init_db425 91 = .ok (.invokestatic 54, 3) := dc_184 0 54 (lxJ0_init_db425 5 11 rfl) (lxJ0_init_db425 5 12 rfl) (lxJ0_init_db425 5 13 rfl)
set_option maxRecDepth 20000 in
theorem dJ0_init_db425_94 : decode cJ0_init_db425 94 = .ok (.putfield 9, 3) := dc_181 0 9 (lxJ0_init_db425 5 14 rfl) (lxJ0_init_db425 5 15 rfl) (lxJ0_init_db425 6 0 rfl)
set_option maxRecDepth 20000 in
theorem dJ0_init_db425_97 : decode cJ0_init_db425 97 = .ok (.return_, 1) := dc_177 (lxJ0_init_db425 6 1 rfl)
noncomputable def sgJ4_init_da8c8 : List (List Cond) := [[.code yJ4_init_da8c8 cJ4_init_da8c8 1 none], [.methodLink RJ4 1 yJ5_init_d00df, .instanceMethod yJ5_init_d00df, .initialized RJ5, .code yJ5_init_d00df cJ5_init_d00df 2 none, .methodLink RJ5 3 objectInit, .instanceMethod objectInit, .code objectInit ⟨#[0xb1]⟩ 1 none, .fieldLink RJ5 18 "java/lang/String" "COMPACT_STRINGS" "Z", .arrayClass .byte, .fieldLink RJ5 15 "java/lang/AbstractStringBuilder" "value" "[B", .fieldLink RJ5 22 "java/lang/AbstractStringBuilder" "coder" "B", .methodLink RJ5 26 yJ2_newBytesFor_77867, .static yJ2_newBytesFor_77867, .initialized RJ2, .code yJ2_newBytesFor_77867 cJ2_newBytesFor_77867 1 (some (.array .byte)), .methodLink RJ2 11 yJ2_newBytesLength_0f7a4, .static yJ2_newBytesLength_0f7a4, .code yJ2_newBytesLength_0f7a4 cJ2_newBytesLength_0f7a4 1 (some .int), .constant RJ2 20 (1073741823)], wsJ40]
theorem seJ4_init_da8c8 : sgJ4_init_da8c8.flatten = wsJ4_init_da8c8 := by simp only [sgJ4_init_da8c8, wsJ4_init_da8c8, List.flatten_cons, List.flatten_nil, List.append_assoc, List.append_nil, List.cons_append, List.nil_append]
set_option maxRecDepth 20000 in
theorem ggJ4_init_da8c8_J5_init_d00df : GoodIn wsJ4_init_da8c8 wsJ5_init_d00df := goodIn_s seJ4_init_da8c8 _ [pq_1_3, pq_1_4, pq_1_5, pq_1_6, pq_1_7, pq_1_8, pq_1_9, pq_1_10, pq_1_11, pq_1_12, pq_1_13, pq_1_14, pq_1_15, pq_1_16, pq_1_17, pq_1_18, pq_2_0, pq_2_1, pq_2_2, pq_2_3] (by rfl) gw_wsJ5_init_d00df
set_option maxRecDepth 20000 in
theorem gJ4_init_da8c8_J5_init_d00df : GoodIn wsJ4_init_da8c8 (wsJ5_init_d00df) := ggJ4_init_da8c8_J5_init_d00df
set_option maxRecDepth 20000 in
theorem dJ4_init_da8c8_0 : decode cJ4_init_da8c8 0 = .ok (.aload_n 0, 1) := dc_42 rfl
set_option maxRecDepth 20000 in
theorem dJ4_init_da8c8_1 : decode cJ4_init_da8c8 1 = .ok (.bipush 16, 2) := dc_16 16 rfl rfl
set_option maxRecDepth 20000 in
theorem dJ4_init_da8c8_3 : decode cJ4_init_da8c8 3 = .ok (.invokespecial 1, 3) := dc_183 0 1 rfl rfl rfl
set_option maxRecDepth 20000 in
theorem dJ4_init_da8c8_6 : decode cJ4_init_da8c8 6 = .ok (.return_, 1) := dc_177 rfl
noncomputable def sgJ4_append_cf468 : List (List Cond) := [[.code yJ4_append_cf468 cJ4_append_cf468 2 (some (.object "java/lang/StringBuilder"))], wsJ4_append_cf468_r1, wsJ4_append_cf468_r2, wsJ4_append_cf468_r3, wsJ4_append_cf468_r4, wsJ4_append_cf468_r5, wsJ40]
theorem seJ4_append_cf468 : sgJ4_append_cf468.flatten = wsJ4_append_cf468 := by simp only [sgJ4_append_cf468, wsJ4_append_cf468, List.flatten_cons, List.flatten_nil, List.append_assoc, List.append_nil, List.cons_append, List.nil_append]
set_option maxRecDepth 20000 in
theorem ggJ4_append_cf468_J5_append_3fe6f : GoodIn wsJ4_append_cf468 wsJ5_append_3fe6f := goodIn_s seJ4_append_cf468 _ [pq_1_5, pq_1_6, pq_1_7, pq_1_8, pq_1_9, pq_1_10, pq_1_11, pq_1_4, pq_1_12, pq_1_13, pq_1_14, pq_1_15, pq_1_16, pq_1_17, pq_1_18, pq_1_19, pq_1_20, pq_1_21, pq_1_22, pq_1_23, pq_2_0, pq_2_1, pq_2_2, pq_2_3, pq_2_4, pq_2_5, pq_2_6, pq_2_7, pq_2_8, pq_2_9, pq_2_10, pq_2_11, pq_2_12, pq_2_13, pq_2_14, pq_2_15, pq_2_16, pq_2_17, pq_2_18, pq_2_19, pq_2_20, pq_2_21, pq_2_22, pq_2_23, pq_3_0, pq_3_1, pq_3_2, pq_3_3, pq_3_4, pq_3_5, pq_3_6, pq_3_7, pq_3_8, pq_3_9, pq_3_10, pq_3_11, pq_3_12, pq_3_13, pq_3_14, pq_3_15, pq_3_16, pq_3_17, pq_3_18, pq_3_19, pq_3_20, pq_3_21, pq_3_22, pq_3_23, pq_4_0, pq_4_1, pq_4_2, pq_4_3, pq_4_4, pq_4_5, pq_4_6, pq_4_7, pq_4_8, pq_4_9, pq_4_10, pq_4_11, pq_4_12, pq_4_13, pq_4_14, pq_4_15, pq_4_16, pq_4_17, pq_4_18, pq_4_19, pq_4_20, pq_4_21, pq_4_22, pq_4_23, pq_5_0, pq_5_1, pq_5_2, pq_5_3, pq_5_4, pq_5_5, pq_5_6, pq_5_7, pq_5_8, pq_5_9, pq_5_10, pq_5_11, pq_5_12, pq_5_13, pq_5_14, pq_5_15, pq_6_0, pq_6_1, pq_6_2, pq_6_3] (by rfl) gw_wsJ5_append_3fe6f
set_option maxRecDepth 20000 in
theorem gJ4_append_cf468_J5_append_3fe6f_s50 : GoodIn wsJ4_append_cf468 (va_wsSU RJ4 50 yJ5_append_3fe6f wsJ5_append_3fe6f) := goodIn_app (goodIn_s seJ4_append_cf468 _ [pq_1_0, pq_1_1, pq_1_2, pq_1_3, pq_1_4] (by rfl) (by decide +kernel)) ggJ4_append_cf468_J5_append_3fe6f
set_option maxRecDepth 20000 in
theorem dJ4_append_cf468_0 : decode cJ4_append_cf468 0 = .ok (.aload_n 0, 1) := dc_42 rfl
set_option maxRecDepth 20000 in
theorem dJ4_append_cf468_1 : decode cJ4_append_cf468 1 = .ok (.iload_n 1, 1) := dc_27 rfl
set_option maxRecDepth 20000 in
theorem dJ4_append_cf468_2 : decode cJ4_append_cf468 2 = .ok (.invokespecial 50, 3) := dc_183 0 50 rfl rfl rfl
set_option maxRecDepth 20000 in
theorem dJ4_append_cf468_5 : decode cJ4_append_cf468 5 = .ok (.pop, 1) := dc_87 rfl
set_option maxRecDepth 20000 in
theorem dJ4_append_cf468_6 : decode cJ4_append_cf468 6 = .ok (.aload_n 0, 1) := dc_42 rfl
set_option maxRecDepth 20000 in
theorem dJ4_append_cf468_7 : decode cJ4_append_cf468 7 = .ok (.areturn, 1) := dc_176 rfl
noncomputable def sgJ4_append_bf812 : List (List Cond) := [[.code yJ4_append_bf812 cJ4_append_bf812 2 (some (.object "java/lang/StringBuilder"))], wsJ4_append_bf812_r1, wsJ4_append_bf812_r2, wsJ4_append_bf812_r3, wsJ4_append_bf812_r4, wsJ40]
theorem seJ4_append_bf812 : sgJ4_append_bf812.flatten = wsJ4_append_bf812 := by simp only [sgJ4_append_bf812, wsJ4_append_bf812, List.flatten_cons, List.flatten_nil, List.append_assoc, List.append_nil, List.cons_append, List.nil_append]
set_option maxRecDepth 20000 in
theorem ggJ4_append_bf812_J5_append_c97b9 : GoodIn wsJ4_append_bf812 wsJ5_append_c97b9 := goodIn_s seJ4_append_bf812 _ [pq_1_5, pq_1_6, pq_1_7, pq_1_8, pq_1_9, pq_1_10, pq_1_11, pq_1_12, pq_1_13, pq_1_14, pq_1_15, pq_1_4, pq_1_16, pq_1_17, pq_1_18, pq_1_19, pq_1_20, pq_1_21, pq_1_22, pq_1_23, pq_2_0, pq_2_1, pq_2_2, pq_2_3, pq_2_4, pq_2_5, pq_2_6, pq_2_7, pq_2_8, pq_2_9, pq_2_10, pq_2_11, pq_2_12, pq_2_13, pq_2_14, pq_2_15, pq_2_16, pq_2_17, pq_2_18, pq_2_19, pq_2_20, pq_2_21, pq_2_22, pq_2_23, pq_3_0, pq_3_1, pq_3_2, pq_3_3, pq_3_4, pq_3_5, pq_3_6, pq_3_7, pq_3_8, pq_3_9, pq_3_10, pq_3_11, pq_3_12, pq_3_13, pq_3_14, pq_3_15, pq_3_16, pq_3_17, pq_3_18, pq_3_19, pq_3_20, pq_3_21, pq_3_22, pq_3_23, pq_4_0, pq_4_1, pq_4_2, pq_4_3, pq_4_4, pq_4_5, pq_4_6, pq_4_7, pq_4_8, pq_4_9, pq_4_10, pq_4_11, pq_4_12, pq_4_13, pq_4_14, pq_4_15, pq_4_16, pq_4_17, pq_4_18, pq_4_19, pq_4_20, pq_4_21, pq_4_22, pq_5_0, pq_5_1, pq_5_2, pq_5_3] (by rfl) gw_wsJ5_append_c97b9
set_option maxRecDepth 20000 in
theorem gJ4_append_bf812_J5_append_c97b9_s53 : GoodIn wsJ4_append_bf812 (va_wsSU RJ4 53 yJ5_append_c97b9 wsJ5_append_c97b9) := goodIn_app (goodIn_s seJ4_append_bf812 _ [pq_1_0, pq_1_1, pq_1_2, pq_1_3, pq_1_4] (by rfl) (by decide +kernel)) ggJ4_append_bf812_J5_append_c97b9
set_option maxRecDepth 20000 in
theorem dJ4_append_bf812_0 : decode cJ4_append_bf812 0 = .ok (.aload_n 0, 1) := dc_42 rfl
set_option maxRecDepth 20000 in
theorem dJ4_append_bf812_1 : decode cJ4_append_bf812 1 = .ok (.iload_n 1, 1) := dc_27 rfl
set_option maxRecDepth 20000 in
theorem dJ4_append_bf812_2 : decode cJ4_append_bf812 2 = .ok (.invokespecial 53, 3) := dc_183 0 53 rfl rfl rfl
set_option maxRecDepth 20000 in
theorem dJ4_append_bf812_5 : decode cJ4_append_bf812 5 = .ok (.pop, 1) := dc_87 rfl
set_option maxRecDepth 20000 in
theorem dJ4_append_bf812_6 : decode cJ4_append_bf812 6 = .ok (.aload_n 0, 1) := dc_42 rfl
set_option maxRecDepth 20000 in
theorem dJ4_append_bf812_7 : decode cJ4_append_bf812 7 = .ok (.areturn, 1) := dc_176 rfl
noncomputable def sgJ4_toString_0e30d : List (List Cond) := [[.code yJ4_toString_0e30d cJ4_toString_0e30d 1 (some (.object "java/lang/String"))], wsJ4_toString_0e30d_r1, wsJ4_toString_0e30d_r2, wsJ4_toString_0e30d_r3, wsJ4_toString_0e30d_r4, wsJ4_toString_0e30d_r5, wsJ00, wsJ40]
theorem seJ4_toString_0e30d : sgJ4_toString_0e30d.flatten = wsJ4_toString_0e30d := by simp only [sgJ4_toString_0e30d, wsJ4_toString_0e30d, List.flatten_cons, List.flatten_nil, List.append_assoc, List.append_nil, List.cons_append, List.nil_append]
set_option maxRecDepth 20000 in
theorem ggJ4_toString_0e30d_J0_init_81219 : GoodIn wsJ4_toString_0e30d wsJ0_init_81219 := goodIn_s seJ4_toString_0e30d _ [pq_1_5, pq_1_6, pq_1_7, pq_1_2, pq_1_8, pq_1_9, pq_1_10, pq_1_11, pq_1_12, pq_1_13, pq_1_14, pq_1_15, pq_1_16, pq_1_17, pq_1_18, pq_1_19, pq_1_20, pq_1_21, pq_1_22, pq_1_23, pq_2_0, pq_2_1, pq_2_2, pq_2_3, pq_2_4, pq_2_5, pq_2_6, pq_2_7, pq_2_8, pq_2_9, pq_2_10, pq_2_11, pq_2_12, pq_2_13, pq_2_14, pq_2_15, pq_2_16, pq_2_17, pq_2_18, pq_2_19, pq_2_20, pq_2_21, pq_2_22, pq_2_23, pq_3_0, pq_3_1, pq_3_2, pq_3_3, pq_3_4, pq_3_5, pq_3_6, pq_3_7, pq_3_8, pq_3_9, pq_3_10, pq_3_11, pq_3_12, pq_3_13, pq_3_14, pq_3_15, pq_3_16, pq_3_17, pq_3_18, pq_3_19, pq_3_20, pq_3_21, pq_3_22, pq_3_23, pq_4_0, pq_4_1, pq_4_2, pq_4_3, pq_4_4, pq_4_5, pq_4_6, pq_4_7, pq_4_8, pq_4_9, pq_4_10, pq_4_11, pq_4_12, pq_4_13, pq_4_14, pq_4_15, pq_4_16, pq_4_17, pq_4_18, pq_4_19, pq_4_20, pq_4_21, pq_4_22, pq_4_23, pq_5_0, pq_5_1, pq_5_2, pq_5_3, pq_5_4, pq_5_5, pq_5_6, pq_5_7, pq_6_0, pq_6_1, pq_6_2, pq_6_3, pq_7_0, pq_7_1, pq_7_2, pq_7_3] (by rfl) gw_wsJ0_init_81219
set_option maxRecDepth 20000 in
theorem gJ4_toString_0e30d_J0_init_81219 : GoodIn wsJ4_toString_0e30d (wsJ0_init_81219) := ggJ4_toString_0e30d_J0_init_81219
set_option maxRecDepth 20000 in
theorem dJ4_toString_0e30d_0 : decode cJ4_toString_0e30d 0 = .ok (.new 18, 3) := dc_187 0 18 rfl rfl rfl
set_option maxRecDepth 20000 in
theorem dJ4_toString_0e30d_3 : decode cJ4_toString_0e30d 3 = .ok (.dup, 1) := dc_89 rfl
set_option maxRecDepth 20000 in
theorem dJ4_toString_0e30d_4 : decode cJ4_toString_0e30d 4 = .ok (.aload_n 0, 1) := dc_42 rfl
set_option maxRecDepth 20000 in
theorem dJ4_toString_0e30d_5 : decode cJ4_toString_0e30d 5 = .ok (.invokespecial 137, 3) := dc_183 0 137 rfl rfl rfl
set_option maxRecDepth 20000 in
theorem dJ4_toString_0e30d_8 : decode cJ4_toString_0e30d 8 = .ok (.areturn, 1) := dc_176 rfl
noncomputable def sgJ4_length_8abf5 : List (List Cond) := [[.code yJ4_length_8abf5 cJ4_length_8abf5 1 (some .int)], [.methodLink RJ4 343 yJ5_length_8abf5, .sameMethod "java/lang/AbstractStringBuilder" "java/lang/AbstractStringBuilder" "length" "()I", .superclass RJ4 RJ5, .instanceMethod yJ5_length_8abf5, .initialized RJ5, .code yJ5_length_8abf5 cJ5_length_8abf5 1 (some .int), .fieldLink RJ5 79 "java/lang/AbstractStringBuilder" "count" "I"], wsJ40]
theorem seJ4_length_8abf5 : sgJ4_length_8abf5.flatten = wsJ4_length_8abf5 := by simp only [sgJ4_length_8abf5, wsJ4_length_8abf5, List.flatten_cons, List.flatten_nil, List.append_assoc, List.append_nil, List.cons_append, List.nil_append]
set_option maxRecDepth 20000 in
theorem ggJ4_length_8abf5_J5_length_8abf5 : GoodIn wsJ4_length_8abf5 wsJ5_length_8abf5 := goodIn_s seJ4_length_8abf5 _ [pq_1_5, pq_1_6, pq_2_0, pq_2_1, pq_2_2, pq_2_3] (by rfl) gw_wsJ5_length_8abf5
set_option maxRecDepth 20000 in
theorem gJ4_length_8abf5_J5_length_8abf5_s343 : GoodIn wsJ4_length_8abf5 (va_wsSU RJ4 343 yJ5_length_8abf5 wsJ5_length_8abf5) := goodIn_app (goodIn_s seJ4_length_8abf5 _ [pq_1_0, pq_1_1, pq_1_2, pq_1_3, pq_1_4] (by rfl) (by decide +kernel)) ggJ4_length_8abf5_J5_length_8abf5
set_option maxRecDepth 20000 in
theorem dJ4_length_8abf5_0 : decode cJ4_length_8abf5 0 = .ok (.aload_n 0, 1) := dc_42 rfl
set_option maxRecDepth 20000 in
theorem dJ4_length_8abf5_1 : decode cJ4_length_8abf5 1 = .ok (.invokespecial 343, 3) := dc_183 1 87 rfl rfl rfl
set_option maxRecDepth 20000 in
theorem dJ4_length_8abf5_4 : decode cJ4_length_8abf5 4 = .ok (.ireturn, 1) := dc_172 rfl
def lb_sgJ1_canEncode_fc78d : List (List UInt8) := [[26, 17, 0, 255, 163, 0, 7, 4, 167, 0, 4, 3, 172]]
set_option maxRecDepth 100000 in
theorem lb_seJ1_canEncode_fc78d : cJ1_canEncode_fc78d.data.toList = lb_sgJ1_canEncode_fc78d.flatten := by decide +kernel
theorem lb_lnJ1_canEncode_fc78d : ∀ s ∈ lb_sgJ1_canEncode_fc78d.dropLast, s.length = 16 := by decide +kernel
theorem lxJ1_canEncode_fc78d (k j : Nat) {b : UInt8} (h : (lb_sgJ1_canEncode_fc78d[k]?).bind (fun s => s[j]?) = some b) : lb_at cJ1_canEncode_fc78d (16 * k + j) b := by
  unfold lb_at
  rw [lb_seJ1_canEncode_fc78d]
  exact lb_flat 16 lb_sgJ1_canEncode_fc78d k j b lb_lnJ1_canEncode_fc78d h
set_option maxRecDepth 20000 in
theorem dJ1_canEncode_fc78d_0 : decode cJ1_canEncode_fc78d 0 = .ok (.iload_n 0, 1) := dc_26 (lxJ1_canEncode_fc78d 0 0 rfl)
set_option maxRecDepth 20000 in
theorem dJ1_canEncode_fc78d_1 : decode cJ1_canEncode_fc78d 1 = .ok (.sipush 255, 3) := dc_17 0 255 (lxJ1_canEncode_fc78d 0 1 rfl) (lxJ1_canEncode_fc78d 0 2 rfl) (lxJ1_canEncode_fc78d 0 3 rfl)
set_option maxRecDepth 20000 in
theorem dJ1_canEncode_fc78d_4 : decode cJ1_canEncode_fc78d 4 = .ok (.if_icmp .gt 7, 3) := dc_163 0 7 (lxJ1_canEncode_fc78d 0 4 rfl) (lxJ1_canEncode_fc78d 0 5 rfl) (lxJ1_canEncode_fc78d 0 6 rfl)
set_option maxRecDepth 20000 in
theorem dJ1_canEncode_fc78d_7 : decode cJ1_canEncode_fc78d 7 = .ok (.iconst 1, 1) := dc_4 (lxJ1_canEncode_fc78d 0 7 rfl)
set_option maxRecDepth 20000 in
theorem dJ1_canEncode_fc78d_8 : decode cJ1_canEncode_fc78d 8 = .ok (.goto 4, 3) := dc_167 0 4 (lxJ1_canEncode_fc78d 0 8 rfl) (lxJ1_canEncode_fc78d 0 9 rfl) (lxJ1_canEncode_fc78d 0 10 rfl)
set_option maxRecDepth 20000 in
theorem dJ1_canEncode_fc78d_11 : decode cJ1_canEncode_fc78d 11 = .ok (.iconst 0, 1) := dc_3 (lxJ1_canEncode_fc78d 0 11 rfl)
set_option maxRecDepth 20000 in
theorem dJ1_canEncode_fc78d_12 : decode cJ1_canEncode_fc78d 12 = .ok (.ireturn, 1) := dc_172 (lxJ1_canEncode_fc78d 0 12 rfl)
def lb_sgJ7_copyOf_9075b : List (List UInt8) := [[27, 42, 190, 160, 0, 11, 42, 182, 1, 54, 192, 1, 55, 176, 27, 188], [8, 77, 42, 3, 44, 3, 42, 190, 27, 184, 1, 48, 184, 0, 150, 44], [176]]
set_option maxRecDepth 100000 in
theorem lb_seJ7_copyOf_9075b : cJ7_copyOf_9075b.data.toList = lb_sgJ7_copyOf_9075b.flatten := by decide +kernel
theorem lb_lnJ7_copyOf_9075b : ∀ s ∈ lb_sgJ7_copyOf_9075b.dropLast, s.length = 16 := by decide +kernel
theorem lxJ7_copyOf_9075b (k j : Nat) {b : UInt8} (h : (lb_sgJ7_copyOf_9075b[k]?).bind (fun s => s[j]?) = some b) : lb_at cJ7_copyOf_9075b (16 * k + j) b := by
  unfold lb_at
  rw [lb_seJ7_copyOf_9075b]
  exact lb_flat 16 lb_sgJ7_copyOf_9075b k j b lb_lnJ7_copyOf_9075b h
set_option maxRecDepth 20000 in
theorem dJ7_copyOf_9075b_0 : decode cJ7_copyOf_9075b 0 = .ok (.iload_n 1, 1) := dc_27 (lxJ7_copyOf_9075b 0 0 rfl)
set_option maxRecDepth 20000 in
theorem dJ7_copyOf_9075b_1 : decode cJ7_copyOf_9075b 1 = .ok (.aload_n 0, 1) := dc_42 (lxJ7_copyOf_9075b 0 1 rfl)
set_option maxRecDepth 20000 in
theorem dJ7_copyOf_9075b_2 : decode cJ7_copyOf_9075b 2 = .ok (.arraylength, 1) := dc_190 (lxJ7_copyOf_9075b 0 2 rfl)
set_option maxRecDepth 20000 in
theorem dJ7_copyOf_9075b_3 : decode cJ7_copyOf_9075b 3 = .ok (.if_icmp .ne 11, 3) := dc_160 0 11 (lxJ7_copyOf_9075b 0 3 rfl) (lxJ7_copyOf_9075b 0 4 rfl) (lxJ7_copyOf_9075b 0 5 rfl)
set_option maxRecDepth 20000 in
theorem dJ7_copyOf_9075b_6 : decode cJ7_copyOf_9075b 6 = .ok (.aload_n 0, 1) := dc_42 (lxJ7_copyOf_9075b 0 6 rfl)
set_option maxRecDepth 20000 in
theorem dJ7_copyOf_9075b_7 : decode cJ7_copyOf_9075b 7 = .ok (.invokevirtual 310, 3) := dc_182 1 54 (lxJ7_copyOf_9075b 0 7 rfl) (lxJ7_copyOf_9075b 0 8 rfl) (lxJ7_copyOf_9075b 0 9 rfl)
set_option maxRecDepth 20000 in
theorem dJ7_copyOf_9075b_10 : decode cJ7_copyOf_9075b 10 = .ok (.checkcast 311, 3) := dc_192 1 55 (lxJ7_copyOf_9075b 0 10 rfl) (lxJ7_copyOf_9075b 0 11 rfl) (lxJ7_copyOf_9075b 0 12 rfl)
set_option maxRecDepth 20000 in
theorem dJ7_copyOf_9075b_13 : decode cJ7_copyOf_9075b 13 = .ok (.areturn, 1) := dc_176 (lxJ7_copyOf_9075b 0 13 rfl)
set_option maxRecDepth 20000 in
theorem dJ7_copyOf_9075b_14 : decode cJ7_copyOf_9075b 14 = .ok (.iload_n 1, 1) := dc_27 (lxJ7_copyOf_9075b 0 14 rfl)
theorem dJ7_copyOf_9075b_15 : decode cJ7_copyOf_9075b 15 = .ok (.newarray .byte, 2) := by decide +kernel
set_option maxRecDepth 20000 in
theorem dJ7_copyOf_9075b_17 : decode cJ7_copyOf_9075b 17 = .ok (.astore_n 2, 1) := dc_77 (lxJ7_copyOf_9075b 1 1 rfl)
set_option maxRecDepth 20000 in
theorem dJ7_copyOf_9075b_18 : decode cJ7_copyOf_9075b 18 = .ok (.aload_n 0, 1) := dc_42 (lxJ7_copyOf_9075b 1 2 rfl)
set_option maxRecDepth 20000 in
theorem dJ7_copyOf_9075b_19 : decode cJ7_copyOf_9075b 19 = .ok (.iconst 0, 1) := dc_3 (lxJ7_copyOf_9075b 1 3 rfl)
set_option maxRecDepth 20000 in
theorem dJ7_copyOf_9075b_20 : decode cJ7_copyOf_9075b 20 = .ok (.aload_n 2, 1) := dc_44 (lxJ7_copyOf_9075b 1 4 rfl)
set_option maxRecDepth 20000 in
theorem dJ7_copyOf_9075b_21 : decode cJ7_copyOf_9075b 21 = .ok (.iconst 0, 1) := dc_3 (lxJ7_copyOf_9075b 1 5 rfl)
set_option maxRecDepth 20000 in
theorem dJ7_copyOf_9075b_22 : decode cJ7_copyOf_9075b 22 = .ok (.aload_n 0, 1) := dc_42 (lxJ7_copyOf_9075b 1 6 rfl)
set_option maxRecDepth 20000 in
theorem dJ7_copyOf_9075b_23 : decode cJ7_copyOf_9075b 23 = .ok (.arraylength, 1) := dc_190 (lxJ7_copyOf_9075b 1 7 rfl)
set_option maxRecDepth 20000 in
theorem dJ7_copyOf_9075b_24 : decode cJ7_copyOf_9075b 24 = .ok (.iload_n 1, 1) := dc_27 (lxJ7_copyOf_9075b 1 8 rfl)
set_option maxRecDepth 20000 in
theorem dJ7_copyOf_9075b_25 : decode cJ7_copyOf_9075b 25 = .ok (.invokestatic 304, 3) := dc_184 1 48 (lxJ7_copyOf_9075b 1 9 rfl) (lxJ7_copyOf_9075b 1 10 rfl) (lxJ7_copyOf_9075b 1 11 rfl)
set_option maxRecDepth 20000 in
theorem dJ7_copyOf_9075b_28 : decode cJ7_copyOf_9075b 28 = .ok (.invokestatic 150, 3) := dc_184 0 150 (lxJ7_copyOf_9075b 1 12 rfl) (lxJ7_copyOf_9075b 1 13 rfl) (lxJ7_copyOf_9075b 1 14 rfl)
set_option maxRecDepth 20000 in
theorem dJ7_copyOf_9075b_31 : decode cJ7_copyOf_9075b 31 = .ok (.aload_n 2, 1) := dc_44 (lxJ7_copyOf_9075b 1 15 rfl)
set_option maxRecDepth 20000 in
theorem dJ7_copyOf_9075b_32 : decode cJ7_copyOf_9075b 32 = .ok (.areturn, 1) := dc_176 (lxJ7_copyOf_9075b 2 0 rfl)
def lb_sgJ7_checkLength_df160 : List (List UInt8) := [[27, 26, 162, 0, 35, 187, 0, 43, 89, 187, 0, 45, 89, 183, 0, 47], [26, 182, 0, 54, 19, 1, 81, 182, 0, 50, 27, 182, 0, 54, 182, 0], [61, 183, 0, 65, 191, 177]]
set_option maxRecDepth 100000 in
theorem lb_seJ7_checkLength_df160 : cJ7_checkLength_df160.data.toList = lb_sgJ7_checkLength_df160.flatten := by decide +kernel
theorem lb_lnJ7_checkLength_df160 : ∀ s ∈ lb_sgJ7_checkLength_df160.dropLast, s.length = 16 := by decide +kernel
theorem lxJ7_checkLength_df160 (k j : Nat) {b : UInt8} (h : (lb_sgJ7_checkLength_df160[k]?).bind (fun s => s[j]?) = some b) : lb_at cJ7_checkLength_df160 (16 * k + j) b := by
  unfold lb_at
  rw [lb_seJ7_checkLength_df160]
  exact lb_flat 16 lb_sgJ7_checkLength_df160 k j b lb_lnJ7_checkLength_df160 h
set_option maxRecDepth 20000 in
theorem dJ7_checkLength_df160_0 : decode cJ7_checkLength_df160 0 = .ok (.iload_n 1, 1) := dc_27 (lxJ7_checkLength_df160 0 0 rfl)
set_option maxRecDepth 20000 in
theorem dJ7_checkLength_df160_1 : decode cJ7_checkLength_df160 1 = .ok (.iload_n 0, 1) := dc_26 (lxJ7_checkLength_df160 0 1 rfl)
set_option maxRecDepth 20000 in
theorem dJ7_checkLength_df160_2 : decode cJ7_checkLength_df160 2 = .ok (.if_icmp .ge 35, 3) := dc_162 0 35 (lxJ7_checkLength_df160 0 2 rfl) (lxJ7_checkLength_df160 0 3 rfl) (lxJ7_checkLength_df160 0 4 rfl)
set_option maxRecDepth 20000 in
theorem dJ7_checkLength_df160_5 : decode cJ7_checkLength_df160 5 = .ok (.new 43, 3) := dc_187 0 43 (lxJ7_checkLength_df160 0 5 rfl) (lxJ7_checkLength_df160 0 6 rfl) (lxJ7_checkLength_df160 0 7 rfl)
set_option maxRecDepth 20000 in
theorem dJ7_checkLength_df160_8 : decode cJ7_checkLength_df160 8 = .ok (.dup, 1) := dc_89 (lxJ7_checkLength_df160 0 8 rfl)
set_option maxRecDepth 20000 in
theorem dJ7_checkLength_df160_9 : decode cJ7_checkLength_df160 9 = .ok (.new 45, 3) := dc_187 0 45 (lxJ7_checkLength_df160 0 9 rfl) (lxJ7_checkLength_df160 0 10 rfl) (lxJ7_checkLength_df160 0 11 rfl)
set_option maxRecDepth 20000 in
theorem dJ7_checkLength_df160_12 : decode cJ7_checkLength_df160 12 = .ok (.dup, 1) := dc_89 (lxJ7_checkLength_df160 0 12 rfl)
set_option maxRecDepth 20000 in
theorem dJ7_checkLength_df160_13 : decode cJ7_checkLength_df160 13 = .ok (.invokespecial 47, 3) := dc_183 0 47 (lxJ7_checkLength_df160 0 13 rfl) (lxJ7_checkLength_df160 0 14 rfl) (lxJ7_checkLength_df160 0 15 rfl)
set_option maxRecDepth 20000 in
theorem dJ7_checkLength_df160_16 : decode cJ7_checkLength_df160 16 = .ok (.iload_n 0, 1) := dc_26 (lxJ7_checkLength_df160 1 0 rfl)
set_option maxRecDepth 20000 in
theorem dJ7_checkLength_df160_17 : decode cJ7_checkLength_df160 17 = .ok (.invokevirtual 54, 3) := dc_182 0 54 (lxJ7_checkLength_df160 1 1 rfl) (lxJ7_checkLength_df160 1 2 rfl) (lxJ7_checkLength_df160 1 3 rfl)
set_option maxRecDepth 20000 in
theorem dJ7_checkLength_df160_20 : decode cJ7_checkLength_df160 20 = .ok (.ldc_w 337, 3) := dc_19 1 81 (lxJ7_checkLength_df160 1 4 rfl) (lxJ7_checkLength_df160 1 5 rfl) (lxJ7_checkLength_df160 1 6 rfl)
set_option maxRecDepth 20000 in
theorem dJ7_checkLength_df160_23 : decode cJ7_checkLength_df160 23 = .ok (.invokevirtual 50, 3) := dc_182 0 50 (lxJ7_checkLength_df160 1 7 rfl) (lxJ7_checkLength_df160 1 8 rfl) (lxJ7_checkLength_df160 1 9 rfl)
set_option maxRecDepth 20000 in
theorem dJ7_checkLength_df160_26 : decode cJ7_checkLength_df160 26 = .ok (.iload_n 1, 1) := dc_27 (lxJ7_checkLength_df160 1 10 rfl)
set_option maxRecDepth 20000 in
theorem dJ7_checkLength_df160_27 : decode cJ7_checkLength_df160 27 = .ok (.invokevirtual 54, 3) := dc_182 0 54 (lxJ7_checkLength_df160 1 11 rfl) (lxJ7_checkLength_df160 1 12 rfl) (lxJ7_checkLength_df160 1 13 rfl)
set_option maxRecDepth 20000 in
theorem dJ7_checkLength_df160_30 : decode cJ7_checkLength_df160 30 = .ok (.invokevirtual 61, 3) := dc_182 0 61 (lxJ7_checkLength_df160 1 14 rfl) (lxJ7_checkLength_df160 1 15 rfl) (lxJ7_checkLength_df160 2 0 rfl)
set_option maxRecDepth 20000 in
theorem dJ7_checkLength_df160_33 : decode cJ7_checkLength_df160 33 = .ok (.invokespecial 65, 3) := dc_183 0 65 (lxJ7_checkLength_df160 2 1 rfl) (lxJ7_checkLength_df160 2 2 rfl) (lxJ7_checkLength_df160 2 3 rfl)
set_option maxRecDepth 20000 in
theorem dJ7_checkLength_df160_36 : decode cJ7_checkLength_df160 36 = .ok (.athrow, 1) := dc_191 (lxJ7_checkLength_df160 2 4 rfl)
set_option maxRecDepth 20000 in
theorem dJ7_checkLength_df160_37 : decode cJ7_checkLength_df160 37 = .ok (.return_, 1) := dc_177 (lxJ7_checkLength_df160 2 5 rfl)
noncomputable def sgJ7_copyOfRange_39247 : List (List Cond) := [[.code yJ7_copyOfRange_39247 cJ7_copyOfRange_39247 3 (some (.array .byte))], wsJ7_copyOfRange_39247_r1, wsJ7_copyOfRange_39247_r2, wsJ40]
theorem seJ7_copyOfRange_39247 : sgJ7_copyOfRange_39247.flatten = wsJ7_copyOfRange_39247 := by simp only [sgJ7_copyOfRange_39247, wsJ7_copyOfRange_39247, List.flatten_cons, List.flatten_nil, List.append_assoc, List.append_nil, List.cons_append, List.nil_append]
set_option maxRecDepth 20000 in
theorem ggJ7_copyOfRange_39247_J7_copyOfRangeByte_39247 : GoodIn wsJ7_copyOfRange_39247 wsJ7_copyOfRangeByte_39247 := goodIn_s seJ7_copyOfRange_39247 _ [pq_1_9, pq_1_10, pq_1_11, pq_1_12, pq_1_13, pq_1_14, pq_1_15, pq_1_16, pq_1_17, pq_1_18, pq_1_19, pq_1_20, pq_1_8, pq_1_21, pq_1_22, pq_1_23, pq_2_0, pq_3_0, pq_3_1, pq_3_2, pq_3_3] (by rfl) gw_wsJ7_copyOfRangeByte_39247
set_option maxRecDepth 20000 in
theorem gJ7_copyOfRange_39247_J7_copyOfRangeByte_39247 : GoodIn wsJ7_copyOfRange_39247 (va_wsS RJ7 339 yJ7_copyOfRangeByte_39247 wsJ7_copyOfRangeByte_39247) := goodIn_app (goodIn_s seJ7_copyOfRange_39247 _ [pq_1_6, pq_1_7, pq_1_8] (by rfl) (by decide +kernel)) ggJ7_copyOfRange_39247_J7_copyOfRangeByte_39247
def lb_sgJ7_copyOfRange_39247 : List (List UInt8) := [[27, 154, 0, 9, 28, 42, 190, 159, 0, 10, 42, 27, 28, 184, 1, 83], [176, 42, 182, 1, 54, 192, 1, 55, 176]]
set_option maxRecDepth 100000 in
theorem lb_seJ7_copyOfRange_39247 : cJ7_copyOfRange_39247.data.toList = lb_sgJ7_copyOfRange_39247.flatten := by decide +kernel
theorem lb_lnJ7_copyOfRange_39247 : ∀ s ∈ lb_sgJ7_copyOfRange_39247.dropLast, s.length = 16 := by decide +kernel
theorem lxJ7_copyOfRange_39247 (k j : Nat) {b : UInt8} (h : (lb_sgJ7_copyOfRange_39247[k]?).bind (fun s => s[j]?) = some b) : lb_at cJ7_copyOfRange_39247 (16 * k + j) b := by
  unfold lb_at
  rw [lb_seJ7_copyOfRange_39247]
  exact lb_flat 16 lb_sgJ7_copyOfRange_39247 k j b lb_lnJ7_copyOfRange_39247 h
set_option maxRecDepth 20000 in
theorem dJ7_copyOfRange_39247_0 : decode cJ7_copyOfRange_39247 0 = .ok (.iload_n 1, 1) := dc_27 (lxJ7_copyOfRange_39247 0 0 rfl)
set_option maxRecDepth 20000 in
theorem dJ7_copyOfRange_39247_1 : decode cJ7_copyOfRange_39247 1 = .ok (.ifCond .ne 9, 3) := dc_154 0 9 (lxJ7_copyOfRange_39247 0 1 rfl) (lxJ7_copyOfRange_39247 0 2 rfl) (lxJ7_copyOfRange_39247 0 3 rfl)
set_option maxRecDepth 20000 in
theorem dJ7_copyOfRange_39247_4 : decode cJ7_copyOfRange_39247 4 = .ok (.iload_n 2, 1) := dc_28 (lxJ7_copyOfRange_39247 0 4 rfl)
set_option maxRecDepth 20000 in
theorem dJ7_copyOfRange_39247_5 : decode cJ7_copyOfRange_39247 5 = .ok (.aload_n 0, 1) := dc_42 (lxJ7_copyOfRange_39247 0 5 rfl)
set_option maxRecDepth 20000 in
theorem dJ7_copyOfRange_39247_6 : decode cJ7_copyOfRange_39247 6 = .ok (.arraylength, 1) := dc_190 (lxJ7_copyOfRange_39247 0 6 rfl)
set_option maxRecDepth 20000 in
theorem dJ7_copyOfRange_39247_7 : decode cJ7_copyOfRange_39247 7 = .ok (.if_icmp .eq 10, 3) := dc_159 0 10 (lxJ7_copyOfRange_39247 0 7 rfl) (lxJ7_copyOfRange_39247 0 8 rfl) (lxJ7_copyOfRange_39247 0 9 rfl)
set_option maxRecDepth 20000 in
theorem dJ7_copyOfRange_39247_10 : decode cJ7_copyOfRange_39247 10 = .ok (.aload_n 0, 1) := dc_42 (lxJ7_copyOfRange_39247 0 10 rfl)
set_option maxRecDepth 20000 in
theorem dJ7_copyOfRange_39247_11 : decode cJ7_copyOfRange_39247 11 = .ok (.iload_n 1, 1) := dc_27 (lxJ7_copyOfRange_39247 0 11 rfl)
set_option maxRecDepth 20000 in
theorem dJ7_copyOfRange_39247_12 : decode cJ7_copyOfRange_39247 12 = .ok (.iload_n 2, 1) := dc_28 (lxJ7_copyOfRange_39247 0 12 rfl)
set_option maxRecDepth 20000 in
theorem dJ7_copyOfRange_39247_13 : decode cJ7_copyOfRange_39247 13 = .ok (.invokestatic 339, 3) := dc_184 1 83 (lxJ7_copyOfRange_39247 0 13 rfl) (lxJ7_copyOfRange_39247 0 14 rfl) (lxJ7_copyOfRange_39247 0 15 rfl)
set_option maxRecDepth 20000 in
theorem dJ7_copyOfRange_39247_16 : decode cJ7_copyOfRange_39247 16 = .ok (.areturn, 1) := dc_176 (lxJ7_copyOfRange_39247 1 0 rfl)
set_option maxRecDepth 20000 in
theorem dJ7_copyOfRange_39247_17 : decode cJ7_copyOfRange_39247 17 = .ok (.aload_n 0, 1) := dc_42 (lxJ7_copyOfRange_39247 1 1 rfl)
set_option maxRecDepth 20000 in
theorem dJ7_copyOfRange_39247_18 : decode cJ7_copyOfRange_39247 18 = .ok (.invokevirtual 310, 3) := dc_182 1 54 (lxJ7_copyOfRange_39247 1 2 rfl) (lxJ7_copyOfRange_39247 1 3 rfl) (lxJ7_copyOfRange_39247 1 4 rfl)
set_option maxRecDepth 20000 in
theorem dJ7_copyOfRange_39247_21 : decode cJ7_copyOfRange_39247 21 = .ok (.checkcast 311, 3) := dc_192 1 55 (lxJ7_copyOfRange_39247 1 5 rfl) (lxJ7_copyOfRange_39247 1 6 rfl) (lxJ7_copyOfRange_39247 1 7 rfl)
set_option maxRecDepth 20000 in
theorem dJ7_copyOfRange_39247_24 : decode cJ7_copyOfRange_39247 24 = .ok (.areturn, 1) := dc_176 (lxJ7_copyOfRange_39247 1 8 rfl)
noncomputable def sgJ7_copyOfRangeByte_39247 : List (List Cond) := [[.code yJ7_copyOfRangeByte_39247 cJ7_copyOfRangeByte_39247 5 (some (.array .byte))], [.arrayClass .byte, .methodLink RJ7 304 Lib.Math.min.name, .static Lib.Math.min.name, .initialized "java/lang/Math", .code Lib.Math.min.name Lib.Math.min.code 2 (some .int), .methodLink RJ7 150 arraycopyName, .native arraycopyName, .static arraycopyName, .initialized "java/lang/System", .methodLink RJ7 343 yJ7_checkLength_df160, .static yJ7_checkLength_df160, .initialized RJ7, .code yJ7_checkLength_df160 cJ7_checkLength_df160 2 none, .classLink RJ7 45 RJ4, .instantiable RJ4 4, .initialized RJ4], wsJ40]
theorem seJ7_copyOfRangeByte_39247 : sgJ7_copyOfRangeByte_39247.flatten = wsJ7_copyOfRangeByte_39247 := by simp only [sgJ7_copyOfRangeByte_39247, wsJ7_copyOfRangeByte_39247, List.flatten_cons, List.flatten_nil, List.append_assoc, List.append_nil, List.cons_append, List.nil_append]
set_option maxRecDepth 20000 in
theorem ggJ7_copyOfRangeByte_39247_J7_checkLength_df160 : GoodIn wsJ7_copyOfRangeByte_39247 wsJ7_checkLength_df160 := goodIn_s seJ7_copyOfRangeByte_39247 _ [pq_1_12, pq_1_13, pq_1_14, pq_1_15, pq_2_0, pq_2_1, pq_2_2, pq_2_3] (by rfl) gw_wsJ7_checkLength_df160
set_option maxRecDepth 20000 in
theorem gJ7_copyOfRangeByte_39247_J7_checkLength_df160 : GoodIn wsJ7_copyOfRangeByte_39247 (va_wsS RJ7 343 yJ7_checkLength_df160 wsJ7_checkLength_df160) := goodIn_app (goodIn_s seJ7_copyOfRangeByte_39247 _ [pq_1_9, pq_1_10, pq_1_11] (by rfl) (by decide +kernel)) ggJ7_copyOfRangeByte_39247_J7_checkLength_df160
def lb_sgJ7_copyOfRangeByte_39247 : List (List UInt8) := [[27, 28, 184, 1, 87, 28, 27, 100, 62, 29, 188, 8, 58, 4, 42, 27], [25, 4, 3, 42, 190, 27, 100, 29, 184, 1, 48, 184, 0, 150, 25, 4], [176]]
set_option maxRecDepth 100000 in
theorem lb_seJ7_copyOfRangeByte_39247 : cJ7_copyOfRangeByte_39247.data.toList = lb_sgJ7_copyOfRangeByte_39247.flatten := by decide +kernel
theorem lb_lnJ7_copyOfRangeByte_39247 : ∀ s ∈ lb_sgJ7_copyOfRangeByte_39247.dropLast, s.length = 16 := by decide +kernel
theorem lxJ7_copyOfRangeByte_39247 (k j : Nat) {b : UInt8} (h : (lb_sgJ7_copyOfRangeByte_39247[k]?).bind (fun s => s[j]?) = some b) : lb_at cJ7_copyOfRangeByte_39247 (16 * k + j) b := by
  unfold lb_at
  rw [lb_seJ7_copyOfRangeByte_39247]
  exact lb_flat 16 lb_sgJ7_copyOfRangeByte_39247 k j b lb_lnJ7_copyOfRangeByte_39247 h
set_option maxRecDepth 20000 in
theorem dJ7_copyOfRangeByte_39247_0 : decode cJ7_copyOfRangeByte_39247 0 = .ok (.iload_n 1, 1) := dc_27 (lxJ7_copyOfRangeByte_39247 0 0 rfl)
set_option maxRecDepth 20000 in
theorem dJ7_copyOfRangeByte_39247_1 : decode cJ7_copyOfRangeByte_39247 1 = .ok (.iload_n 2, 1) := dc_28 (lxJ7_copyOfRangeByte_39247 0 1 rfl)
set_option maxRecDepth 20000 in
theorem dJ7_copyOfRangeByte_39247_2 : decode cJ7_copyOfRangeByte_39247 2 = .ok (.invokestatic 343, 3) := dc_184 1 87 (lxJ7_copyOfRangeByte_39247 0 2 rfl) (lxJ7_copyOfRangeByte_39247 0 3 rfl) (lxJ7_copyOfRangeByte_39247 0 4 rfl)
set_option maxRecDepth 20000 in
theorem dJ7_copyOfRangeByte_39247_5 : decode cJ7_copyOfRangeByte_39247 5 = .ok (.iload_n 2, 1) := dc_28 (lxJ7_copyOfRangeByte_39247 0 5 rfl)
set_option maxRecDepth 20000 in
theorem dJ7_copyOfRangeByte_39247_6 : decode cJ7_copyOfRangeByte_39247 6 = .ok (.iload_n 1, 1) := dc_27 (lxJ7_copyOfRangeByte_39247 0 6 rfl)
set_option maxRecDepth 20000 in
theorem dJ7_copyOfRangeByte_39247_7 : decode cJ7_copyOfRangeByte_39247 7 = .ok (.isub, 1) := dc_100 (lxJ7_copyOfRangeByte_39247 0 7 rfl)
set_option maxRecDepth 20000 in
theorem dJ7_copyOfRangeByte_39247_8 : decode cJ7_copyOfRangeByte_39247 8 = .ok (.istore_n 3, 1) := dc_62 (lxJ7_copyOfRangeByte_39247 0 8 rfl)
set_option maxRecDepth 20000 in
theorem dJ7_copyOfRangeByte_39247_9 : decode cJ7_copyOfRangeByte_39247 9 = .ok (.iload_n 3, 1) := dc_29 (lxJ7_copyOfRangeByte_39247 0 9 rfl)
theorem dJ7_copyOfRangeByte_39247_10 : decode cJ7_copyOfRangeByte_39247 10 = .ok (.newarray .byte, 2) := by decide +kernel
set_option maxRecDepth 20000 in
theorem dJ7_copyOfRangeByte_39247_12 : decode cJ7_copyOfRangeByte_39247 12 = .ok (.astore 4, 2) := dc_58 4 (lxJ7_copyOfRangeByte_39247 0 12 rfl) (lxJ7_copyOfRangeByte_39247 0 13 rfl)
set_option maxRecDepth 20000 in
theorem dJ7_copyOfRangeByte_39247_14 : decode cJ7_copyOfRangeByte_39247 14 = .ok (.aload_n 0, 1) := dc_42 (lxJ7_copyOfRangeByte_39247 0 14 rfl)
set_option maxRecDepth 20000 in
theorem dJ7_copyOfRangeByte_39247_15 : decode cJ7_copyOfRangeByte_39247 15 = .ok (.iload_n 1, 1) := dc_27 (lxJ7_copyOfRangeByte_39247 0 15 rfl)
set_option maxRecDepth 20000 in
theorem dJ7_copyOfRangeByte_39247_16 : decode cJ7_copyOfRangeByte_39247 16 = .ok (.aload 4, 2) := dc_25 4 (lxJ7_copyOfRangeByte_39247 1 0 rfl) (lxJ7_copyOfRangeByte_39247 1 1 rfl)
set_option maxRecDepth 20000 in
theorem dJ7_copyOfRangeByte_39247_18 : decode cJ7_copyOfRangeByte_39247 18 = .ok (.iconst 0, 1) := dc_3 (lxJ7_copyOfRangeByte_39247 1 2 rfl)
set_option maxRecDepth 20000 in
theorem dJ7_copyOfRangeByte_39247_19 : decode cJ7_copyOfRangeByte_39247 19 = .ok (.aload_n 0, 1) := dc_42 (lxJ7_copyOfRangeByte_39247 1 3 rfl)
set_option maxRecDepth 20000 in
theorem dJ7_copyOfRangeByte_39247_20 : decode cJ7_copyOfRangeByte_39247 20 = .ok (.arraylength, 1) := dc_190 (lxJ7_copyOfRangeByte_39247 1 4 rfl)
set_option maxRecDepth 20000 in
theorem dJ7_copyOfRangeByte_39247_21 : decode cJ7_copyOfRangeByte_39247 21 = .ok (.iload_n 1, 1) := dc_27 (lxJ7_copyOfRangeByte_39247 1 5 rfl)
set_option maxRecDepth 20000 in
theorem dJ7_copyOfRangeByte_39247_22 : decode cJ7_copyOfRangeByte_39247 22 = .ok (.isub, 1) := dc_100 (lxJ7_copyOfRangeByte_39247 1 6 rfl)
set_option maxRecDepth 20000 in
theorem dJ7_copyOfRangeByte_39247_23 : decode cJ7_copyOfRangeByte_39247 23 = .ok (.iload_n 3, 1) := dc_29 (lxJ7_copyOfRangeByte_39247 1 7 rfl)
set_option maxRecDepth 20000 in
theorem dJ7_copyOfRangeByte_39247_24 : decode cJ7_copyOfRangeByte_39247 24 = .ok (.invokestatic 304, 3) := dc_184 1 48 (lxJ7_copyOfRangeByte_39247 1 8 rfl) (lxJ7_copyOfRangeByte_39247 1 9 rfl) (lxJ7_copyOfRangeByte_39247 1 10 rfl)
set_option maxRecDepth 20000 in
theorem dJ7_copyOfRangeByte_39247_27 : decode cJ7_copyOfRangeByte_39247 27 = .ok (.invokestatic 150, 3) := dc_184 0 150 (lxJ7_copyOfRangeByte_39247 1 11 rfl) (lxJ7_copyOfRangeByte_39247 1 12 rfl) (lxJ7_copyOfRangeByte_39247 1 13 rfl)
set_option maxRecDepth 20000 in
theorem dJ7_copyOfRangeByte_39247_30 : decode cJ7_copyOfRangeByte_39247 30 = .ok (.aload 4, 2) := dc_25 4 (lxJ7_copyOfRangeByte_39247 1 14 rfl) (lxJ7_copyOfRangeByte_39247 1 15 rfl)
set_option maxRecDepth 20000 in
theorem dJ7_copyOfRangeByte_39247_32 : decode cJ7_copyOfRangeByte_39247 32 = .ok (.areturn, 1) := dc_176 (lxJ7_copyOfRangeByte_39247 2 0 rfl)
noncomputable def sgJ8_newLength_cabcc : List (List Cond) := [[.code yJ8_newLength_cabcc cJ8_newLength_cabcc 4 (some .int)], [.methodLink RJ8 194 Lib.Math.max.name, .static Lib.Math.max.name, .initialized "java/lang/Math", .code Lib.Math.max.name Lib.Math.max.code 2 (some .int), .constant RJ8 200 (2147483639), .methodLink RJ8 201 yJ8_hugeLength_7cf53, .static yJ8_hugeLength_7cf53, .initialized RJ8, .code yJ8_hugeLength_7cf53 cJ8_hugeLength_7cf53 3 (some .int)]]
theorem seJ8_newLength_cabcc : sgJ8_newLength_cabcc.flatten = wsJ8_newLength_cabcc := by simp only [sgJ8_newLength_cabcc, wsJ8_newLength_cabcc, List.flatten_cons, List.flatten_nil, List.append_assoc, List.append_nil, List.cons_append, List.nil_append]
set_option maxRecDepth 20000 in
theorem ggJ8_newLength_cabcc_J8_hugeLength_7cf53 : GoodIn wsJ8_newLength_cabcc wsJ8_hugeLength_7cf53 := goodIn_s seJ8_newLength_cabcc _ [pq_1_8, pq_1_4] (by rfl) gw_wsJ8_hugeLength_7cf53
set_option maxRecDepth 20000 in
theorem gJ8_newLength_cabcc_J8_hugeLength_7cf53 : GoodIn wsJ8_newLength_cabcc (va_wsS RJ8 201 yJ8_hugeLength_7cf53 wsJ8_hugeLength_7cf53) := goodIn_app (goodIn_s seJ8_newLength_cabcc _ [pq_1_5, pq_1_6, pq_1_7] (by rfl) (by decide +kernel)) ggJ8_newLength_cabcc_J8_hugeLength_7cf53
def lb_sgJ8_newLength_cabcc : List (List UInt8) := [[26, 27, 28, 184, 0, 194, 96, 62, 3, 29, 162, 0, 11, 29, 18, 200], [163, 0, 5, 29, 172, 26, 27, 184, 0, 201, 172]]
set_option maxRecDepth 100000 in
theorem lb_seJ8_newLength_cabcc : cJ8_newLength_cabcc.data.toList = lb_sgJ8_newLength_cabcc.flatten := by decide +kernel
theorem lb_lnJ8_newLength_cabcc : ∀ s ∈ lb_sgJ8_newLength_cabcc.dropLast, s.length = 16 := by decide +kernel
theorem lxJ8_newLength_cabcc (k j : Nat) {b : UInt8} (h : (lb_sgJ8_newLength_cabcc[k]?).bind (fun s => s[j]?) = some b) : lb_at cJ8_newLength_cabcc (16 * k + j) b := by
  unfold lb_at
  rw [lb_seJ8_newLength_cabcc]
  exact lb_flat 16 lb_sgJ8_newLength_cabcc k j b lb_lnJ8_newLength_cabcc h
set_option maxRecDepth 20000 in
theorem dJ8_newLength_cabcc_0 : decode cJ8_newLength_cabcc 0 = .ok (.iload_n 0, 1) := dc_26 (lxJ8_newLength_cabcc 0 0 rfl)
set_option maxRecDepth 20000 in
theorem dJ8_newLength_cabcc_1 : decode cJ8_newLength_cabcc 1 = .ok (.iload_n 1, 1) := dc_27 (lxJ8_newLength_cabcc 0 1 rfl)
set_option maxRecDepth 20000 in
theorem dJ8_newLength_cabcc_2 : decode cJ8_newLength_cabcc 2 = .ok (.iload_n 2, 1) := dc_28 (lxJ8_newLength_cabcc 0 2 rfl)
set_option maxRecDepth 20000 in
theorem dJ8_newLength_cabcc_3 : decode cJ8_newLength_cabcc 3 = .ok (.invokestatic 194, 3) := dc_184 0 194 (lxJ8_newLength_cabcc 0 3 rfl) (lxJ8_newLength_cabcc 0 4 rfl) (lxJ8_newLength_cabcc 0 5 rfl)
set_option maxRecDepth 20000 in
theorem dJ8_newLength_cabcc_6 : decode cJ8_newLength_cabcc 6 = .ok (.iadd, 1) := dc_96 (lxJ8_newLength_cabcc 0 6 rfl)
set_option maxRecDepth 20000 in
theorem dJ8_newLength_cabcc_7 : decode cJ8_newLength_cabcc 7 = .ok (.istore_n 3, 1) := dc_62 (lxJ8_newLength_cabcc 0 7 rfl)
set_option maxRecDepth 20000 in
theorem dJ8_newLength_cabcc_8 : decode cJ8_newLength_cabcc 8 = .ok (.iconst 0, 1) := dc_3 (lxJ8_newLength_cabcc 0 8 rfl)
set_option maxRecDepth 20000 in
theorem dJ8_newLength_cabcc_9 : decode cJ8_newLength_cabcc 9 = .ok (.iload_n 3, 1) := dc_29 (lxJ8_newLength_cabcc 0 9 rfl)
set_option maxRecDepth 20000 in
theorem dJ8_newLength_cabcc_10 : decode cJ8_newLength_cabcc 10 = .ok (.if_icmp .ge 11, 3) := dc_162 0 11 (lxJ8_newLength_cabcc 0 10 rfl) (lxJ8_newLength_cabcc 0 11 rfl) (lxJ8_newLength_cabcc 0 12 rfl)
set_option maxRecDepth 20000 in
theorem dJ8_newLength_cabcc_13 : decode cJ8_newLength_cabcc 13 = .ok (.iload_n 3, 1) := dc_29 (lxJ8_newLength_cabcc 0 13 rfl)
set_option maxRecDepth 20000 in
theorem dJ8_newLength_cabcc_14 : decode cJ8_newLength_cabcc 14 = .ok (.ldc 200, 2) := dc_18 200 (lxJ8_newLength_cabcc 0 14 rfl) (lxJ8_newLength_cabcc 0 15 rfl)
set_option maxRecDepth 20000 in
theorem dJ8_newLength_cabcc_16 : decode cJ8_newLength_cabcc 16 = .ok (.if_icmp .gt 5, 3) := dc_163 0 5 (lxJ8_newLength_cabcc 1 0 rfl) (lxJ8_newLength_cabcc 1 1 rfl) (lxJ8_newLength_cabcc 1 2 rfl)
set_option maxRecDepth 20000 in
theorem dJ8_newLength_cabcc_19 : decode cJ8_newLength_cabcc 19 = .ok (.iload_n 3, 1) := dc_29 (lxJ8_newLength_cabcc 1 3 rfl)
set_option maxRecDepth 20000 in
theorem dJ8_newLength_cabcc_20 : decode cJ8_newLength_cabcc 20 = .ok (.ireturn, 1) := dc_172 (lxJ8_newLength_cabcc 1 4 rfl)
set_option maxRecDepth 20000 in
theorem dJ8_newLength_cabcc_21 : decode cJ8_newLength_cabcc 21 = .ok (.iload_n 0, 1) := dc_26 (lxJ8_newLength_cabcc 1 5 rfl)
set_option maxRecDepth 20000 in
theorem dJ8_newLength_cabcc_22 : decode cJ8_newLength_cabcc 22 = .ok (.iload_n 1, 1) := dc_27 (lxJ8_newLength_cabcc 1 6 rfl)
set_option maxRecDepth 20000 in
theorem dJ8_newLength_cabcc_23 : decode cJ8_newLength_cabcc 23 = .ok (.invokestatic 201, 3) := dc_184 0 201 (lxJ8_newLength_cabcc 1 7 rfl) (lxJ8_newLength_cabcc 1 8 rfl) (lxJ8_newLength_cabcc 1 9 rfl)
set_option maxRecDepth 20000 in
theorem dJ8_newLength_cabcc_26 : decode cJ8_newLength_cabcc 26 = .ok (.ireturn, 1) := dc_172 (lxJ8_newLength_cabcc 1 10 rfl)
