noncomputable def sgL_allocate : List (List Cond) := [[.codeWith yL_allocate cL_allocate 5 (some .int) [(0, 11, 14, 19), (0, 11, 18, 21)]], wsL_allocate_r1, wsL_allocate_r2, wsX70, wsX60, wsX50, (vx_atS RX6 306 "java/lang/IndexOutOfBoundsException" ["java/lang/RuntimeException", "java/lang/Exception"]).filter goodWord, (vx_atS RX6 317 "java/lang/IllegalArgumentException" ["java/lang/RuntimeException", "java/lang/Exception"]).filter goodWord]
theorem seL_allocate : sgL_allocate.flatten = wsL_allocate := by simp only [sgL_allocate, wsL_allocate, List.flatten_cons, List.flatten_nil, List.append_assoc, List.append_nil, List.cons_append, List.nil_append]
set_option maxRecDepth 20000 in
theorem ggL_allocate_X6_allocate : GoodIn wsL_allocate wsX6_allocate := goodIn_ca (goodIn_ca (goodIn_s seL_allocate _ [pq_1_6, pq_1_7, pq_1_8, pq_1_9, pq_1_5, pq_1_10, pq_1_11, pq_1_12, pq_1_13, pq_1_14, pq_1_15, pq_1_16, pq_1_17, pq_1_18, pq_1_19, pq_1_20, pq_1_21, pq_1_22, pq_1_23, pq_2_0, pq_2_1, pq_2_2, pq_2_3, pq_2_4, pq_2_5, pq_2_6, pq_2_7, pq_2_8, pq_2_9, pq_2_10, pq_2_11, pq_2_12, pq_2_13, pq_2_14, pq_2_15, pq_2_16, pq_2_17, pq_2_18, pq_2_19, pq_2_20, pq_2_21, pq_2_22, pq_2_23, pq_4_0, pq_4_1, pq_4_2, pq_4_3, pq_4_4, pq_4_5, pq_4_6, pq_4_7, pq_4_8, pq_4_9, pq_4_10, pq_4_11, pq_4_12, pq_4_13, pq_5_0, pq_5_1, pq_5_2, pq_5_3, pq_5_4, pq_5_5] (by rfl) (by decide +kernel)) (goodIn_sub (fun _ h => List.mem_cons_of_mem _ (List.mem_append_left _ (List.mem_append_right _ h))) (by decide +kernel))) (goodIn_sub (fun _ h => List.mem_cons_of_mem _ (List.mem_append_right _ h)) (by decide +kernel))
set_option maxRecDepth 20000 in
theorem gL_allocate_X6_allocate : GoodIn wsL_allocate (wsV RL 7 RX6 yX6_allocate wsX6_allocate) := goodIn_app (goodIn_s seL_allocate _ [pq_1_2, pq_1_3, pq_1_4, pq_1_5] (by rfl) (by decide +kernel)) ggL_allocate_X6_allocate
def lb_sgL_allocate : List (List UInt8) := [[45, 42, 27, 28, 182, 0, 7, 133, 181, 0, 13, 167, 0, 11, 58, 4], [4, 172, 58, 4, 5, 172, 3, 172]]
set_option maxRecDepth 100000 in
theorem lb_seL_allocate : cL_allocate.data.toList = lb_sgL_allocate.flatten := by decide +kernel
theorem lb_lnL_allocate : ∀ s ∈ lb_sgL_allocate.dropLast, s.length = 16 := by decide +kernel
theorem lxL_allocate (k j : Nat) {b : UInt8} (h : (lb_sgL_allocate[k]?).bind (fun s => s[j]?) = some b) : lb_at cL_allocate (16 * k + j) b := by
  unfold lb_at
  rw [lb_seL_allocate]
  exact lb_flat 16 lb_sgL_allocate k j b lb_lnL_allocate h
set_option maxRecDepth 20000 in
theorem dL_allocate_0 : decode cL_allocate 0 = .ok (.aload_n 3, 1) := dc_45 (lxL_allocate 0 0 rfl)
set_option maxRecDepth 20000 in
theorem dL_allocate_1 : decode cL_allocate 1 = .ok (.aload_n 0, 1) := dc_42 (lxL_allocate 0 1 rfl)
set_option maxRecDepth 20000 in
theorem dL_allocate_2 : decode cL_allocate 2 = .ok (.iload_n 1, 1) := dc_27 (lxL_allocate 0 2 rfl)
set_option maxRecDepth 20000 in
theorem dL_allocate_3 : decode cL_allocate 3 = .ok (.iload_n 2, 1) := dc_28 (lxL_allocate 0 3 rfl)
set_option maxRecDepth 20000 in
theorem dL_allocate_4 : decode cL_allocate 4 = .ok (.invokevirtual 7, 3) := dc_182 0 7 (lxL_allocate 0 4 rfl) (lxL_allocate 0 5 rfl) (lxL_allocate 0 6 rfl)
set_option maxRecDepth 20000 in
theorem dL_allocate_7 : decode cL_allocate 7 = .ok (.i2l, 1) := dc_133 (lxL_allocate 0 7 rfl)
set_option maxRecDepth 20000 in
theorem dL_allocate_8 : decode cL_allocate 8 = .ok (.putfield 13, 3) := dc_181 0 13 (lxL_allocate 0 8 rfl) (lxL_allocate 0 9 rfl) (lxL_allocate 0 10 rfl)
set_option maxRecDepth 20000 in
theorem dL_allocate_11 : decode cL_allocate 11 = .ok (.goto 11, 3) := dc_167 0 11 (lxL_allocate 0 11 rfl) (lxL_allocate 0 12 rfl) (lxL_allocate 0 13 rfl)
set_option maxRecDepth 20000 in
theorem dL_allocate_14 : decode cL_allocate 14 = .ok (.astore 4, 2) := dc_58 4 (lxL_allocate 0 14 rfl) (lxL_allocate 0 15 rfl)
set_option maxRecDepth 20000 in
theorem dL_allocate_16 : decode cL_allocate 16 = .ok (.iconst 1, 1) := dc_4 (lxL_allocate 1 0 rfl)
set_option maxRecDepth 20000 in
theorem dL_allocate_17 : decode cL_allocate 17 = .ok (.ireturn, 1) := dc_172 (lxL_allocate 1 1 rfl)
set_option maxRecDepth 20000 in
theorem dL_allocate_18 : decode cL_allocate 18 = .ok (.astore 4, 2) := dc_58 4 (lxL_allocate 1 2 rfl) (lxL_allocate 1 3 rfl)
set_option maxRecDepth 20000 in
theorem dL_allocate_20 : decode cL_allocate 20 = .ok (.iconst 2, 1) := dc_5 (lxL_allocate 1 4 rfl)
set_option maxRecDepth 20000 in
theorem dL_allocate_21 : decode cL_allocate 21 = .ok (.ireturn, 1) := dc_172 (lxL_allocate 1 5 rfl)
set_option maxRecDepth 20000 in
theorem dL_allocate_22 : decode cL_allocate 22 = .ok (.iconst 0, 1) := dc_3 (lxL_allocate 1 6 rfl)
set_option maxRecDepth 20000 in
theorem dL_allocate_23 : decode cL_allocate 23 = .ok (.ireturn, 1) := dc_172 (lxL_allocate 1 7 rfl)
noncomputable def sgL_slice : List (List Cond) := [[.codeWith yL_slice cL_slice 5 (some .int) [(0, 11, 14, 19)]], wsL_slice_r1, wsL_slice_r2, wsX70, wsX60, wsX50, (vx_atS RX6 306 "java/lang/IndexOutOfBoundsException" ["java/lang/RuntimeException", "java/lang/Exception"]).filter goodWord]
theorem seL_slice : sgL_slice.flatten = wsL_slice := by simp only [sgL_slice, wsL_slice, List.flatten_cons, List.flatten_nil, List.append_assoc, List.append_nil, List.cons_append, List.nil_append]
set_option maxRecDepth 20000 in
theorem ggL_slice_X6_slice : GoodIn wsL_slice wsX6_slice := goodIn_ca (goodIn_s seL_slice _ [pq_1_5, pq_1_6, pq_1_7, pq_1_8, pq_1_4, pq_1_9, pq_1_10, pq_1_11, pq_1_12, pq_1_13, pq_1_14, pq_1_15, pq_1_16, pq_1_17, pq_1_18, pq_1_19, pq_1_20, pq_1_21, pq_1_22, pq_1_23, pq_2_0, pq_2_1, pq_2_2, pq_2_3, pq_2_4, pq_2_5, pq_2_6, pq_2_7, pq_2_8, pq_2_9, pq_2_10, pq_2_11, pq_2_12, pq_2_13, pq_4_0, pq_4_1, pq_4_2, pq_4_3, pq_4_4, pq_4_5, pq_4_6, pq_4_7, pq_4_8, pq_4_9, pq_4_10, pq_4_11, pq_4_12, pq_4_13, pq_5_0, pq_5_1, pq_5_2, pq_5_3, pq_5_4, pq_5_5] (by rfl) (by decide +kernel)) (goodIn_sub (fun _ h => List.mem_cons_of_mem _ (List.mem_append_right _ h)) (by decide +kernel))
set_option maxRecDepth 20000 in
theorem gL_slice_X6_slice : GoodIn wsL_slice (wsV RL 23 RX6 yX6_slice wsX6_slice) := goodIn_app (goodIn_s seL_slice _ [pq_1_1, pq_1_2, pq_1_3, pq_1_4] (by rfl) (by decide +kernel)) ggL_slice_X6_slice
def lb_sgL_slice : List (List UInt8) := [[45, 42, 27, 28, 182, 0, 23, 133, 181, 0, 13, 167, 0, 7, 58, 4], [4, 172, 3, 172]]
set_option maxRecDepth 100000 in
theorem lb_seL_slice : cL_slice.data.toList = lb_sgL_slice.flatten := by decide +kernel
theorem lb_lnL_slice : ∀ s ∈ lb_sgL_slice.dropLast, s.length = 16 := by decide +kernel
theorem lxL_slice (k j : Nat) {b : UInt8} (h : (lb_sgL_slice[k]?).bind (fun s => s[j]?) = some b) : lb_at cL_slice (16 * k + j) b := by
  unfold lb_at
  rw [lb_seL_slice]
  exact lb_flat 16 lb_sgL_slice k j b lb_lnL_slice h
set_option maxRecDepth 20000 in
theorem dL_slice_0 : decode cL_slice 0 = .ok (.aload_n 3, 1) := dc_45 (lxL_slice 0 0 rfl)
set_option maxRecDepth 20000 in
theorem dL_slice_1 : decode cL_slice 1 = .ok (.aload_n 0, 1) := dc_42 (lxL_slice 0 1 rfl)
set_option maxRecDepth 20000 in
theorem dL_slice_2 : decode cL_slice 2 = .ok (.iload_n 1, 1) := dc_27 (lxL_slice 0 2 rfl)
set_option maxRecDepth 20000 in
theorem dL_slice_3 : decode cL_slice 3 = .ok (.iload_n 2, 1) := dc_28 (lxL_slice 0 3 rfl)
set_option maxRecDepth 20000 in
theorem dL_slice_4 : decode cL_slice 4 = .ok (.invokevirtual 23, 3) := dc_182 0 23 (lxL_slice 0 4 rfl) (lxL_slice 0 5 rfl) (lxL_slice 0 6 rfl)
set_option maxRecDepth 20000 in
theorem dL_slice_7 : decode cL_slice 7 = .ok (.i2l, 1) := dc_133 (lxL_slice 0 7 rfl)
set_option maxRecDepth 20000 in
theorem dL_slice_8 : decode cL_slice 8 = .ok (.putfield 13, 3) := dc_181 0 13 (lxL_slice 0 8 rfl) (lxL_slice 0 9 rfl) (lxL_slice 0 10 rfl)
set_option maxRecDepth 20000 in
theorem dL_slice_11 : decode cL_slice 11 = .ok (.goto 7, 3) := dc_167 0 7 (lxL_slice 0 11 rfl) (lxL_slice 0 12 rfl) (lxL_slice 0 13 rfl)
set_option maxRecDepth 20000 in
theorem dL_slice_14 : decode cL_slice 14 = .ok (.astore 4, 2) := dc_58 4 (lxL_slice 0 14 rfl) (lxL_slice 0 15 rfl)
set_option maxRecDepth 20000 in
theorem dL_slice_16 : decode cL_slice 16 = .ok (.iconst 1, 1) := dc_4 (lxL_slice 1 0 rfl)
set_option maxRecDepth 20000 in
theorem dL_slice_17 : decode cL_slice 17 = .ok (.ireturn, 1) := dc_172 (lxL_slice 1 1 rfl)
set_option maxRecDepth 20000 in
theorem dL_slice_18 : decode cL_slice 18 = .ok (.iconst 0, 1) := dc_3 (lxL_slice 1 2 rfl)
set_option maxRecDepth 20000 in
theorem dL_slice_19 : decode cL_slice 19 = .ok (.ireturn, 1) := dc_172 (lxL_slice 1 3 rfl)
noncomputable def sgL_duplicate : List (List Cond) := [[.codeWith yL_duplicate cL_duplicate 5 (some .int) [(0, 11, 14, 19)]], wsL_duplicate_r1, wsL_duplicate_r2, wsX70, wsX60, wsX50, (vx_atS RX6 306 "java/lang/IndexOutOfBoundsException" ["java/lang/RuntimeException", "java/lang/Exception"]).filter goodWord]
theorem seL_duplicate : sgL_duplicate.flatten = wsL_duplicate := by simp only [sgL_duplicate, wsL_duplicate, List.flatten_cons, List.flatten_nil, List.append_assoc, List.append_nil, List.cons_append, List.nil_append]
set_option maxRecDepth 20000 in
theorem ggL_duplicate_X6_duplicate : GoodIn wsL_duplicate wsX6_duplicate := goodIn_ca (goodIn_s seL_duplicate _ [pq_1_5, pq_1_6, pq_1_7, pq_1_8, pq_1_4, pq_1_9, pq_1_10, pq_1_11, pq_1_12, pq_1_13, pq_1_14, pq_1_15, pq_1_16, pq_1_17, pq_1_18, pq_1_19, pq_1_20, pq_1_21, pq_1_22, pq_1_23, pq_2_0, pq_2_1, pq_2_2, pq_2_3, pq_2_4, pq_2_5, pq_2_6, pq_2_7, pq_2_8, pq_4_0, pq_4_1, pq_4_2, pq_4_3, pq_4_4, pq_4_5, pq_4_6, pq_4_7, pq_4_8, pq_4_9, pq_4_10, pq_4_11, pq_4_12, pq_4_13, pq_5_0, pq_5_1, pq_5_2, pq_5_3, pq_5_4, pq_5_5] (by rfl) (by decide +kernel)) (goodIn_sub (fun _ h => List.mem_cons_of_mem _ (List.mem_append_right _ h)) (by decide +kernel))
set_option maxRecDepth 20000 in
theorem gL_duplicate_X6_duplicate : GoodIn wsL_duplicate (wsV RL 26 RX6 yX6_duplicate wsX6_duplicate) := goodIn_app (goodIn_s seL_duplicate _ [pq_1_1, pq_1_2, pq_1_3, pq_1_4] (by rfl) (by decide +kernel)) ggL_duplicate_X6_duplicate
def lb_sgL_duplicate : List (List UInt8) := [[45, 42, 27, 28, 182, 0, 26, 133, 181, 0, 13, 167, 0, 7, 58, 4], [4, 172, 3, 172]]
set_option maxRecDepth 100000 in
theorem lb_seL_duplicate : cL_duplicate.data.toList = lb_sgL_duplicate.flatten := by decide +kernel
theorem lb_lnL_duplicate : ∀ s ∈ lb_sgL_duplicate.dropLast, s.length = 16 := by decide +kernel
theorem lxL_duplicate (k j : Nat) {b : UInt8} (h : (lb_sgL_duplicate[k]?).bind (fun s => s[j]?) = some b) : lb_at cL_duplicate (16 * k + j) b := by
  unfold lb_at
  rw [lb_seL_duplicate]
  exact lb_flat 16 lb_sgL_duplicate k j b lb_lnL_duplicate h
set_option maxRecDepth 20000 in
theorem dL_duplicate_0 : decode cL_duplicate 0 = .ok (.aload_n 3, 1) := dc_45 (lxL_duplicate 0 0 rfl)
set_option maxRecDepth 20000 in
theorem dL_duplicate_1 : decode cL_duplicate 1 = .ok (.aload_n 0, 1) := dc_42 (lxL_duplicate 0 1 rfl)
set_option maxRecDepth 20000 in
theorem dL_duplicate_2 : decode cL_duplicate 2 = .ok (.iload_n 1, 1) := dc_27 (lxL_duplicate 0 2 rfl)
set_option maxRecDepth 20000 in
theorem dL_duplicate_3 : decode cL_duplicate 3 = .ok (.iload_n 2, 1) := dc_28 (lxL_duplicate 0 3 rfl)
set_option maxRecDepth 20000 in
theorem dL_duplicate_4 : decode cL_duplicate 4 = .ok (.invokevirtual 26, 3) := dc_182 0 26 (lxL_duplicate 0 4 rfl) (lxL_duplicate 0 5 rfl) (lxL_duplicate 0 6 rfl)
set_option maxRecDepth 20000 in
theorem dL_duplicate_7 : decode cL_duplicate 7 = .ok (.i2l, 1) := dc_133 (lxL_duplicate 0 7 rfl)
set_option maxRecDepth 20000 in
theorem dL_duplicate_8 : decode cL_duplicate 8 = .ok (.putfield 13, 3) := dc_181 0 13 (lxL_duplicate 0 8 rfl) (lxL_duplicate 0 9 rfl) (lxL_duplicate 0 10 rfl)
set_option maxRecDepth 20000 in
theorem dL_duplicate_11 : decode cL_duplicate 11 = .ok (.goto 7, 3) := dc_167 0 7 (lxL_duplicate 0 11 rfl) (lxL_duplicate 0 12 rfl) (lxL_duplicate 0 13 rfl)
set_option maxRecDepth 20000 in
theorem dL_duplicate_14 : decode cL_duplicate 14 = .ok (.astore 4, 2) := dc_58 4 (lxL_duplicate 0 14 rfl) (lxL_duplicate 0 15 rfl)
set_option maxRecDepth 20000 in
theorem dL_duplicate_16 : decode cL_duplicate 16 = .ok (.iconst 1, 1) := dc_4 (lxL_duplicate 1 0 rfl)
set_option maxRecDepth 20000 in
theorem dL_duplicate_17 : decode cL_duplicate 17 = .ok (.ireturn, 1) := dc_172 (lxL_duplicate 1 1 rfl)
set_option maxRecDepth 20000 in
theorem dL_duplicate_18 : decode cL_duplicate 18 = .ok (.iconst 0, 1) := dc_3 (lxL_duplicate 1 2 rfl)
set_option maxRecDepth 20000 in
theorem dL_duplicate_19 : decode cL_duplicate 19 = .ok (.ireturn, 1) := dc_172 (lxL_duplicate 1 3 rfl)
noncomputable def sgL_part : List (List Cond) := [[.codeWith yL_part cL_part 7 (some .int) [(0, 15, 18, 19)]], wsL_part_r1, wsL_part_r2, wsX70, wsX60, wsX50, (vx_atS RX6 306 "java/lang/IndexOutOfBoundsException" ["java/lang/RuntimeException", "java/lang/Exception"]).filter goodWord]
theorem seL_part : sgL_part.flatten = wsL_part := by simp only [sgL_part, wsL_part, List.flatten_cons, List.flatten_nil, List.append_assoc, List.append_nil, List.cons_append, List.nil_append]
set_option maxRecDepth 20000 in
theorem ggL_part_X6_part : GoodIn wsL_part wsX6_part := goodIn_ca (goodIn_s seL_part _ [pq_1_5, pq_1_6, pq_1_7, pq_1_8, pq_1_4, pq_1_9, pq_1_10, pq_1_11, pq_1_12, pq_1_13, pq_1_14, pq_1_15, pq_1_16, pq_1_17, pq_1_18, pq_1_19, pq_1_20, pq_1_21, pq_1_22, pq_1_23, pq_2_0, pq_2_1, pq_2_2, pq_2_3, pq_2_4, pq_2_5, pq_2_6, pq_2_7, pq_2_8, pq_2_9, pq_2_10, pq_2_11, pq_2_12, pq_2_13, pq_2_14, pq_2_15, pq_2_16, pq_4_0, pq_4_1, pq_4_2, pq_4_3, pq_4_4, pq_4_5, pq_4_6, pq_4_7, pq_4_8, pq_4_9, pq_4_10, pq_4_11, pq_4_12, pq_4_13, pq_5_0, pq_5_1, pq_5_2, pq_5_3, pq_5_4, pq_5_5] (by rfl) (by decide +kernel)) (goodIn_sub (fun _ h => List.mem_cons_of_mem _ (List.mem_append_right _ h)) (by decide +kernel))
set_option maxRecDepth 20000 in
theorem gL_part_X6_part : GoodIn wsL_part (wsV RL 29 RX6 yX6_part wsX6_part) := goodIn_app (goodIn_s seL_part _ [pq_1_1, pq_1_2, pq_1_3, pq_1_4] (by rfl) (by decide +kernel)) ggL_part_X6_part
def lb_sgL_part : List (List UInt8) := [[25, 5, 42, 27, 28, 29, 21, 4, 182, 0, 29, 133, 181, 0, 13, 167], [0, 7, 58, 6, 4, 172, 3, 172]]
set_option maxRecDepth 100000 in
theorem lb_seL_part : cL_part.data.toList = lb_sgL_part.flatten := by decide +kernel
theorem lb_lnL_part : ∀ s ∈ lb_sgL_part.dropLast, s.length = 16 := by decide +kernel
theorem lxL_part (k j : Nat) {b : UInt8} (h : (lb_sgL_part[k]?).bind (fun s => s[j]?) = some b) : lb_at cL_part (16 * k + j) b := by
  unfold lb_at
  rw [lb_seL_part]
  exact lb_flat 16 lb_sgL_part k j b lb_lnL_part h
set_option maxRecDepth 20000 in
theorem dL_part_0 : decode cL_part 0 = .ok (.aload 5, 2) := dc_25 5 (lxL_part 0 0 rfl) (lxL_part 0 1 rfl)
set_option maxRecDepth 20000 in
theorem dL_part_2 : decode cL_part 2 = .ok (.aload_n 0, 1) := dc_42 (lxL_part 0 2 rfl)
set_option maxRecDepth 20000 in
theorem dL_part_3 : decode cL_part 3 = .ok (.iload_n 1, 1) := dc_27 (lxL_part 0 3 rfl)
set_option maxRecDepth 20000 in
theorem dL_part_4 : decode cL_part 4 = .ok (.iload_n 2, 1) := dc_28 (lxL_part 0 4 rfl)
set_option maxRecDepth 20000 in
theorem dL_part_5 : decode cL_part 5 = .ok (.iload_n 3, 1) := dc_29 (lxL_part 0 5 rfl)
set_option maxRecDepth 20000 in
theorem dL_part_6 : decode cL_part 6 = .ok (.iload 4, 2) := dc_21 4 (lxL_part 0 6 rfl) (lxL_part 0 7 rfl)
set_option maxRecDepth 20000 in
theorem dL_part_8 : decode cL_part 8 = .ok (.invokevirtual 29, 3) := dc_182 0 29 (lxL_part 0 8 rfl) (lxL_part 0 9 rfl) (lxL_part 0 10 rfl)
set_option maxRecDepth 20000 in
theorem dL_part_11 : decode cL_part 11 = .ok (.i2l, 1) := dc_133 (lxL_part 0 11 rfl)
set_option maxRecDepth 20000 in
theorem dL_part_12 : decode cL_part 12 = .ok (.putfield 13, 3) := dc_181 0 13 (lxL_part 0 12 rfl) (lxL_part 0 13 rfl) (lxL_part 0 14 rfl)
set_option maxRecDepth 20000 in
theorem dL_part_15 : decode cL_part 15 = .ok (.goto 7, 3) := dc_167 0 7 (lxL_part 0 15 rfl) (lxL_part 1 0 rfl) (lxL_part 1 1 rfl)
set_option maxRecDepth 20000 in
theorem dL_part_18 : decode cL_part 18 = .ok (.astore 6, 2) := dc_58 6 (lxL_part 1 2 rfl) (lxL_part 1 3 rfl)
set_option maxRecDepth 20000 in
theorem dL_part_20 : decode cL_part 20 = .ok (.iconst 1, 1) := dc_4 (lxL_part 1 4 rfl)
set_option maxRecDepth 20000 in
theorem dL_part_21 : decode cL_part 21 = .ok (.ireturn, 1) := dc_172 (lxL_part 1 5 rfl)
set_option maxRecDepth 20000 in
theorem dL_part_22 : decode cL_part 22 = .ok (.iconst 0, 1) := dc_3 (lxL_part 1 6 rfl)
set_option maxRecDepth 20000 in
theorem dL_part_23 : decode cL_part 23 = .ok (.ireturn, 1) := dc_172 (lxL_part 1 7 rfl)
noncomputable def sgL_put : List (List Cond) := [[.codeWith yL_put cL_put 5 (some .int) [(0, 11, 14, 19), (0, 11, 18, 21)]], wsL_put_r1, wsL_put_r2, wsX70, wsX60, wsX50, (vx_atS RX6 306 "java/lang/IndexOutOfBoundsException" ["java/lang/RuntimeException", "java/lang/Exception"]).filter goodWord, (vx_atS RX6 317 "java/lang/IllegalArgumentException" ["java/lang/RuntimeException", "java/lang/Exception"]).filter goodWord]
theorem seL_put : sgL_put.flatten = wsL_put := by simp only [sgL_put, wsL_put, List.flatten_cons, List.flatten_nil, List.append_assoc, List.append_nil, List.cons_append, List.nil_append]
set_option maxRecDepth 20000 in
theorem ggL_put_X6_put : GoodIn wsL_put wsX6_put := goodIn_ca (goodIn_ca (goodIn_s seL_put _ [pq_1_6, pq_1_7, pq_1_8, pq_1_9, pq_1_5, pq_1_10, pq_1_11, pq_1_12, pq_1_13, pq_1_14, pq_1_15, pq_1_16, pq_1_17, pq_1_18, pq_1_19, pq_1_20, pq_1_21, pq_1_22, pq_1_23, pq_2_0, pq_2_1, pq_2_2, pq_2_3, pq_2_4, pq_2_5, pq_2_6, pq_2_7, pq_2_8, pq_2_9, pq_2_10, pq_2_11, pq_2_12, pq_2_13, pq_2_14, pq_2_15, pq_2_16, pq_2_17, pq_2_18, pq_2_19, pq_2_20, pq_2_21, pq_2_22, pq_4_0, pq_4_1, pq_4_2, pq_4_3, pq_4_4, pq_4_5, pq_4_6, pq_4_7, pq_4_8, pq_4_9, pq_4_10, pq_4_11, pq_4_12, pq_4_13, pq_5_0, pq_5_1, pq_5_2, pq_5_3, pq_5_4, pq_5_5] (by rfl) (by decide +kernel)) (goodIn_sub (fun _ h => List.mem_cons_of_mem _ (List.mem_append_left _ (List.mem_append_right _ h))) (by decide +kernel))) (goodIn_sub (fun _ h => List.mem_cons_of_mem _ (List.mem_append_right _ h)) (by decide +kernel))
set_option maxRecDepth 20000 in
theorem gL_put_X6_put : GoodIn wsL_put (wsV RL 33 RX6 yX6_put wsX6_put) := goodIn_app (goodIn_s seL_put _ [pq_1_2, pq_1_3, pq_1_4, pq_1_5] (by rfl) (by decide +kernel)) ggL_put_X6_put
def lb_sgL_put : List (List UInt8) := [[45, 42, 27, 28, 182, 0, 33, 133, 181, 0, 13, 167, 0, 11, 58, 4], [4, 172, 58, 4, 5, 172, 3, 172]]
set_option maxRecDepth 100000 in
theorem lb_seL_put : cL_put.data.toList = lb_sgL_put.flatten := by decide +kernel
theorem lb_lnL_put : ∀ s ∈ lb_sgL_put.dropLast, s.length = 16 := by decide +kernel
theorem lxL_put (k j : Nat) {b : UInt8} (h : (lb_sgL_put[k]?).bind (fun s => s[j]?) = some b) : lb_at cL_put (16 * k + j) b := by
  unfold lb_at
  rw [lb_seL_put]
  exact lb_flat 16 lb_sgL_put k j b lb_lnL_put h
set_option maxRecDepth 20000 in
theorem dL_put_0 : decode cL_put 0 = .ok (.aload_n 3, 1) := dc_45 (lxL_put 0 0 rfl)
set_option maxRecDepth 20000 in
theorem dL_put_1 : decode cL_put 1 = .ok (.aload_n 0, 1) := dc_42 (lxL_put 0 1 rfl)
set_option maxRecDepth 20000 in
theorem dL_put_2 : decode cL_put 2 = .ok (.iload_n 1, 1) := dc_27 (lxL_put 0 2 rfl)
set_option maxRecDepth 20000 in
theorem dL_put_3 : decode cL_put 3 = .ok (.iload_n 2, 1) := dc_28 (lxL_put 0 3 rfl)
set_option maxRecDepth 20000 in
theorem dL_put_4 : decode cL_put 4 = .ok (.invokevirtual 33, 3) := dc_182 0 33 (lxL_put 0 4 rfl) (lxL_put 0 5 rfl) (lxL_put 0 6 rfl)
set_option maxRecDepth 20000 in
theorem dL_put_7 : decode cL_put 7 = .ok (.i2l, 1) := dc_133 (lxL_put 0 7 rfl)
set_option maxRecDepth 20000 in
theorem dL_put_8 : decode cL_put 8 = .ok (.putfield 13, 3) := dc_181 0 13 (lxL_put 0 8 rfl) (lxL_put 0 9 rfl) (lxL_put 0 10 rfl)
set_option maxRecDepth 20000 in
theorem dL_put_11 : decode cL_put 11 = .ok (.goto 11, 3) := dc_167 0 11 (lxL_put 0 11 rfl) (lxL_put 0 12 rfl) (lxL_put 0 13 rfl)
set_option maxRecDepth 20000 in
theorem dL_put_14 : decode cL_put 14 = .ok (.astore 4, 2) := dc_58 4 (lxL_put 0 14 rfl) (lxL_put 0 15 rfl)
set_option maxRecDepth 20000 in
theorem dL_put_16 : decode cL_put 16 = .ok (.iconst 1, 1) := dc_4 (lxL_put 1 0 rfl)
set_option maxRecDepth 20000 in
theorem dL_put_17 : decode cL_put 17 = .ok (.ireturn, 1) := dc_172 (lxL_put 1 1 rfl)
set_option maxRecDepth 20000 in
theorem dL_put_18 : decode cL_put 18 = .ok (.astore 4, 2) := dc_58 4 (lxL_put 1 2 rfl) (lxL_put 1 3 rfl)
set_option maxRecDepth 20000 in
theorem dL_put_20 : decode cL_put 20 = .ok (.iconst 2, 1) := dc_5 (lxL_put 1 4 rfl)
set_option maxRecDepth 20000 in
theorem dL_put_21 : decode cL_put 21 = .ok (.ireturn, 1) := dc_172 (lxL_put 1 5 rfl)
set_option maxRecDepth 20000 in
theorem dL_put_22 : decode cL_put 22 = .ok (.iconst 0, 1) := dc_3 (lxL_put 1 6 rfl)
set_option maxRecDepth 20000 in
theorem dL_put_23 : decode cL_put 23 = .ok (.ireturn, 1) := dc_172 (lxL_put 1 7 rfl)
noncomputable def sgL_run : List (List Cond) := [[.codeWith yL_run cL_run 7 (some .int) [(0, 15, 18, 19), (0, 15, 22, 21)]], wsL_run_r1, wsL_run_r2, wsX70, wsX60, wsX50, (vx_atS RX6 306 "java/lang/IndexOutOfBoundsException" ["java/lang/RuntimeException", "java/lang/Exception"]).filter goodWord, (vx_atS RX6 317 "java/lang/IllegalArgumentException" ["java/lang/RuntimeException", "java/lang/Exception"]).filter goodWord]
theorem seL_run : sgL_run.flatten = wsL_run := by simp only [sgL_run, wsL_run, List.flatten_cons, List.flatten_nil, List.append_assoc, List.append_nil, List.cons_append, List.nil_append]
set_option maxRecDepth 20000 in
theorem ggL_run_X6_run : GoodIn wsL_run wsX6_run := goodIn_ca (goodIn_ca (goodIn_s seL_run _ [pq_1_6, pq_1_7, pq_1_8, pq_1_9, pq_1_5, pq_1_10, pq_1_11, pq_1_12, pq_1_13, pq_1_14, pq_1_15, pq_1_16, pq_1_17, pq_1_18, pq_1_19, pq_1_20, pq_1_21, pq_1_22, pq_1_23, pq_2_0, pq_2_1, pq_2_2, pq_2_3, pq_2_4, pq_2_5, pq_2_6, pq_2_7, pq_2_8, pq_2_9, pq_2_10, pq_2_11, pq_2_12, pq_2_13, pq_2_14, pq_2_15, pq_2_16, pq_4_0, pq_4_1, pq_4_2, pq_4_3, pq_4_4, pq_4_5, pq_4_6, pq_4_7, pq_4_8, pq_4_9, pq_4_10, pq_4_11, pq_4_12, pq_4_13, pq_5_0, pq_5_1, pq_5_2, pq_5_3, pq_5_4, pq_5_5] (by rfl) (by decide +kernel)) (goodIn_sub (fun _ h => List.mem_cons_of_mem _ (List.mem_append_left _ (List.mem_append_right _ h))) (by decide +kernel))) (goodIn_sub (fun _ h => List.mem_cons_of_mem _ (List.mem_append_right _ h)) (by decide +kernel))
set_option maxRecDepth 20000 in
theorem gL_run_X6_run : GoodIn wsL_run (wsV RL 36 RX6 yX6_run wsX6_run) := goodIn_app (goodIn_s seL_run _ [pq_1_2, pq_1_3, pq_1_4, pq_1_5] (by rfl) (by decide +kernel)) ggL_run_X6_run
def lb_sgL_run : List (List UInt8) := [[25, 5, 42, 27, 28, 29, 21, 4, 182, 0, 36, 133, 181, 0, 13, 167], [0, 11, 58, 6, 4, 172, 58, 6, 5, 172, 3, 172]]
set_option maxRecDepth 100000 in
theorem lb_seL_run : cL_run.data.toList = lb_sgL_run.flatten := by decide +kernel
theorem lb_lnL_run : ∀ s ∈ lb_sgL_run.dropLast, s.length = 16 := by decide +kernel
theorem lxL_run (k j : Nat) {b : UInt8} (h : (lb_sgL_run[k]?).bind (fun s => s[j]?) = some b) : lb_at cL_run (16 * k + j) b := by
  unfold lb_at
  rw [lb_seL_run]
  exact lb_flat 16 lb_sgL_run k j b lb_lnL_run h
set_option maxRecDepth 20000 in
theorem dL_run_0 : decode cL_run 0 = .ok (.aload 5, 2) := dc_25 5 (lxL_run 0 0 rfl) (lxL_run 0 1 rfl)
set_option maxRecDepth 20000 in
theorem dL_run_2 : decode cL_run 2 = .ok (.aload_n 0, 1) := dc_42 (lxL_run 0 2 rfl)
set_option maxRecDepth 20000 in
theorem dL_run_3 : decode cL_run 3 = .ok (.iload_n 1, 1) := dc_27 (lxL_run 0 3 rfl)
set_option maxRecDepth 20000 in
theorem dL_run_4 : decode cL_run 4 = .ok (.iload_n 2, 1) := dc_28 (lxL_run 0 4 rfl)
set_option maxRecDepth 20000 in
theorem dL_run_5 : decode cL_run 5 = .ok (.iload_n 3, 1) := dc_29 (lxL_run 0 5 rfl)
set_option maxRecDepth 20000 in
theorem dL_run_6 : decode cL_run 6 = .ok (.iload 4, 2) := dc_21 4 (lxL_run 0 6 rfl) (lxL_run 0 7 rfl)
set_option maxRecDepth 20000 in
theorem dL_run_8 : decode cL_run 8 = .ok (.invokevirtual 36, 3) := dc_182 0 36 (lxL_run 0 8 rfl) (lxL_run 0 9 rfl) (lxL_run 0 10 rfl)
set_option maxRecDepth 20000 in
theorem dL_run_11 : decode cL_run 11 = .ok (.i2l, 1) := dc_133 (lxL_run 0 11 rfl)
set_option maxRecDepth 20000 in
theorem dL_run_12 : decode cL_run 12 = .ok (.putfield 13, 3) := dc_181 0 13 (lxL_run 0 12 rfl) (lxL_run 0 13 rfl) (lxL_run 0 14 rfl)
set_option maxRecDepth 20000 in
theorem dL_run_15 : decode cL_run 15 = .ok (.goto 11, 3) := dc_167 0 11 (lxL_run 0 15 rfl) (lxL_run 1 0 rfl) (lxL_run 1 1 rfl)
set_option maxRecDepth 20000 in
theorem dL_run_18 : decode cL_run 18 = .ok (.astore 6, 2) := dc_58 6 (lxL_run 1 2 rfl) (lxL_run 1 3 rfl)
set_option maxRecDepth 20000 in
theorem dL_run_20 : decode cL_run 20 = .ok (.iconst 1, 1) := dc_4 (lxL_run 1 4 rfl)
set_option maxRecDepth 20000 in
theorem dL_run_21 : decode cL_run 21 = .ok (.ireturn, 1) := dc_172 (lxL_run 1 5 rfl)
set_option maxRecDepth 20000 in
theorem dL_run_22 : decode cL_run 22 = .ok (.astore 6, 2) := dc_58 6 (lxL_run 1 6 rfl) (lxL_run 1 7 rfl)
set_option maxRecDepth 20000 in
theorem dL_run_24 : decode cL_run 24 = .ok (.iconst 2, 1) := dc_5 (lxL_run 1 8 rfl)
set_option maxRecDepth 20000 in
theorem dL_run_25 : decode cL_run 25 = .ok (.ireturn, 1) := dc_172 (lxL_run 1 9 rfl)
set_option maxRecDepth 20000 in
theorem dL_run_26 : decode cL_run 26 = .ok (.iconst 0, 1) := dc_3 (lxL_run 1 10 rfl)
set_option maxRecDepth 20000 in
theorem dL_run_27 : decode cL_run 27 = .ok (.ireturn, 1) := dc_172 (lxL_run 1 11 rfl)
noncomputable def sgL_write : List (List Cond) := [[.codeWith yL_write cL_write 6 (some .int) [(0, 13, 16, 19), (0, 13, 20, 21)]], wsL_write_r1, wsL_write_r2, wsX70, wsX60, wsX50, (vx_atS RX6 306 "java/lang/IndexOutOfBoundsException" ["java/lang/RuntimeException", "java/lang/Exception"]).filter goodWord, (vx_atS RX6 317 "java/lang/IllegalArgumentException" ["java/lang/RuntimeException", "java/lang/Exception"]).filter goodWord]
theorem seL_write : sgL_write.flatten = wsL_write := by simp only [sgL_write, wsL_write, List.flatten_cons, List.flatten_nil, List.append_assoc, List.append_nil, List.cons_append, List.nil_append]
set_option maxRecDepth 20000 in
theorem ggL_write_X6_write : GoodIn wsL_write wsX6_write := goodIn_ca (goodIn_ca (goodIn_s seL_write _ [pq_1_6, pq_1_7, pq_1_8, pq_1_9, pq_1_5, pq_1_10, pq_1_11, pq_1_12, pq_1_13, pq_1_14, pq_1_15, pq_1_16, pq_1_17, pq_1_18, pq_1_19, pq_1_20, pq_1_21, pq_1_22, pq_1_23, pq_2_0, pq_2_1, pq_2_2, pq_2_3, pq_2_4, pq_2_5, pq_2_6, pq_2_7, pq_2_8, pq_2_9, pq_2_10, pq_2_11, pq_2_12, pq_2_13, pq_2_14, pq_2_15, pq_2_16, pq_2_17, pq_2_18, pq_2_19, pq_2_20, pq_2_21, pq_2_22, pq_2_23, pq_4_0, pq_4_1, pq_4_2, pq_4_3, pq_4_4, pq_4_5, pq_4_6, pq_4_7, pq_4_8, pq_4_9, pq_4_10, pq_4_11, pq_4_12, pq_4_13, pq_5_0, pq_5_1, pq_5_2, pq_5_3, pq_5_4, pq_5_5] (by rfl) (by decide +kernel)) (goodIn_sub (fun _ h => List.mem_cons_of_mem _ (List.mem_append_left _ (List.mem_append_right _ h))) (by decide +kernel))) (goodIn_sub (fun _ h => List.mem_cons_of_mem _ (List.mem_append_right _ h)) (by decide +kernel))
set_option maxRecDepth 20000 in
theorem gL_write_X6_write : GoodIn wsL_write (wsV RL 39 RX6 yX6_write wsX6_write) := goodIn_app (goodIn_s seL_write _ [pq_1_2, pq_1_3, pq_1_4, pq_1_5] (by rfl) (by decide +kernel)) ggL_write_X6_write
def lb_sgL_write : List (List UInt8) := [[25, 4, 42, 27, 28, 29, 182, 0, 39, 133, 181, 0, 13, 167, 0, 11], [58, 5, 4, 172, 58, 5, 5, 172, 3, 172]]
set_option maxRecDepth 100000 in
theorem lb_seL_write : cL_write.data.toList = lb_sgL_write.flatten := by decide +kernel
theorem lb_lnL_write : ∀ s ∈ lb_sgL_write.dropLast, s.length = 16 := by decide +kernel
theorem lxL_write (k j : Nat) {b : UInt8} (h : (lb_sgL_write[k]?).bind (fun s => s[j]?) = some b) : lb_at cL_write (16 * k + j) b := by
  unfold lb_at
  rw [lb_seL_write]
  exact lb_flat 16 lb_sgL_write k j b lb_lnL_write h
set_option maxRecDepth 20000 in
theorem dL_write_0 : decode cL_write 0 = .ok (.aload 4, 2) := dc_25 4 (lxL_write 0 0 rfl) (lxL_write 0 1 rfl)
set_option maxRecDepth 20000 in
theorem dL_write_2 : decode cL_write 2 = .ok (.aload_n 0, 1) := dc_42 (lxL_write 0 2 rfl)
set_option maxRecDepth 20000 in
theorem dL_write_3 : decode cL_write 3 = .ok (.iload_n 1, 1) := dc_27 (lxL_write 0 3 rfl)
set_option maxRecDepth 20000 in
theorem dL_write_4 : decode cL_write 4 = .ok (.iload_n 2, 1) := dc_28 (lxL_write 0 4 rfl)
set_option maxRecDepth 20000 in
theorem dL_write_5 : decode cL_write 5 = .ok (.iload_n 3, 1) := dc_29 (lxL_write 0 5 rfl)
set_option maxRecDepth 20000 in
theorem dL_write_6 : decode cL_write 6 = .ok (.invokevirtual 39, 3) := dc_182 0 39 (lxL_write 0 6 rfl) (lxL_write 0 7 rfl) (lxL_write 0 8 rfl)
set_option maxRecDepth 20000 in
theorem dL_write_9 : decode cL_write 9 = .ok (.i2l, 1) := dc_133 (lxL_write 0 9 rfl)
set_option maxRecDepth 20000 in
theorem dL_write_10 : decode cL_write 10 = .ok (.putfield 13, 3) := dc_181 0 13 (lxL_write 0 10 rfl) (lxL_write 0 11 rfl) (lxL_write 0 12 rfl)
set_option maxRecDepth 20000 in
theorem dL_write_13 : decode cL_write 13 = .ok (.goto 11, 3) := dc_167 0 11 (lxL_write 0 13 rfl) (lxL_write 0 14 rfl) (lxL_write 0 15 rfl)
set_option maxRecDepth 20000 in
theorem dL_write_16 : decode cL_write 16 = .ok (.astore 5, 2) := dc_58 5 (lxL_write 1 0 rfl) (lxL_write 1 1 rfl)
set_option maxRecDepth 20000 in
theorem dL_write_18 : decode cL_write 18 = .ok (.iconst 1, 1) := dc_4 (lxL_write 1 2 rfl)
set_option maxRecDepth 20000 in
theorem dL_write_19 : decode cL_write 19 = .ok (.ireturn, 1) := dc_172 (lxL_write 1 3 rfl)
set_option maxRecDepth 20000 in
theorem dL_write_20 : decode cL_write 20 = .ok (.astore 5, 2) := dc_58 5 (lxL_write 1 4 rfl) (lxL_write 1 5 rfl)
set_option maxRecDepth 20000 in
theorem dL_write_22 : decode cL_write 22 = .ok (.iconst 2, 1) := dc_5 (lxL_write 1 6 rfl)
set_option maxRecDepth 20000 in
theorem dL_write_23 : decode cL_write 23 = .ok (.ireturn, 1) := dc_172 (lxL_write 1 7 rfl)
set_option maxRecDepth 20000 in
theorem dL_write_24 : decode cL_write 24 = .ok (.iconst 0, 1) := dc_3 (lxL_write 1 8 rfl)
set_option maxRecDepth 20000 in
theorem dL_write_25 : decode cL_write 25 = .ok (.ireturn, 1) := dc_172 (lxL_write 1 9 rfl)
noncomputable def sgL_get : List (List Cond) := [[.codeWith yL_get cL_get 4 (some .int) [(0, 10, 13, 19)]], wsL_get_r1, wsL_get_r2, wsX70, wsX60, wsX50, (vx_atS RX6 306 "java/lang/IndexOutOfBoundsException" ["java/lang/RuntimeException", "java/lang/Exception"]).filter goodWord]
theorem seL_get : sgL_get.flatten = wsL_get := by simp only [sgL_get, wsL_get, List.flatten_cons, List.flatten_nil, List.append_assoc, List.append_nil, List.cons_append, List.nil_append]
set_option maxRecDepth 20000 in
theorem ggL_get_X6_get : GoodIn wsL_get wsX6_get := goodIn_ca (goodIn_s seL_get _ [pq_1_5, pq_1_6, pq_1_7, pq_1_8, pq_1_4, pq_1_9, pq_1_10, pq_1_11, pq_1_12, pq_1_13, pq_1_14, pq_1_15, pq_1_16, pq_1_17, pq_1_18, pq_1_19, pq_1_20, pq_1_21, pq_1_22, pq_1_23, pq_2_0, pq_2_1, pq_2_2, pq_2_3, pq_2_4, pq_2_5, pq_2_6, pq_2_7, pq_2_8, pq_2_9, pq_2_10, pq_2_11, pq_2_12, pq_2_13, pq_2_14, pq_2_15, pq_2_16, pq_2_17, pq_2_18, pq_2_19, pq_2_20, pq_4_0, pq_4_1, pq_4_2, pq_4_3, pq_4_4, pq_4_5, pq_4_6, pq_4_7, pq_4_8, pq_4_9, pq_4_10, pq_4_11, pq_4_12, pq_4_13, pq_5_0, pq_5_1, pq_5_2, pq_5_3, pq_5_4, pq_5_5] (by rfl) (by decide +kernel)) (goodIn_sub (fun _ h => List.mem_cons_of_mem _ (List.mem_append_right _ h)) (by decide +kernel))
set_option maxRecDepth 20000 in
theorem gL_get_X6_get : GoodIn wsL_get (wsV RL 43 RX6 yX6_get wsX6_get) := goodIn_app (goodIn_s seL_get _ [pq_1_1, pq_1_2, pq_1_3, pq_1_4] (by rfl) (by decide +kernel)) ggL_get_X6_get
def lb_sgL_get : List (List UInt8) := [[44, 42, 27, 182, 0, 43, 133, 181, 0, 13, 167, 0, 6, 78, 4, 172], [3, 172]]
set_option maxRecDepth 100000 in
theorem lb_seL_get : cL_get.data.toList = lb_sgL_get.flatten := by decide +kernel
theorem lb_lnL_get : ∀ s ∈ lb_sgL_get.dropLast, s.length = 16 := by decide +kernel
theorem lxL_get (k j : Nat) {b : UInt8} (h : (lb_sgL_get[k]?).bind (fun s => s[j]?) = some b) : lb_at cL_get (16 * k + j) b := by
  unfold lb_at
  rw [lb_seL_get]
  exact lb_flat 16 lb_sgL_get k j b lb_lnL_get h
set_option maxRecDepth 20000 in
theorem dL_get_0 : decode cL_get 0 = .ok (.aload_n 2, 1) := dc_44 (lxL_get 0 0 rfl)
set_option maxRecDepth 20000 in
theorem dL_get_1 : decode cL_get 1 = .ok (.aload_n 0, 1) := dc_42 (lxL_get 0 1 rfl)
set_option maxRecDepth 20000 in
theorem dL_get_2 : decode cL_get 2 = .ok (.iload_n 1, 1) := dc_27 (lxL_get 0 2 rfl)
set_option maxRecDepth 20000 in
theorem dL_get_3 : decode cL_get 3 = .ok (.invokevirtual 43, 3) := dc_182 0 43 (lxL_get 0 3 rfl) (lxL_get 0 4 rfl) (lxL_get 0 5 rfl)
set_option maxRecDepth 20000 in
theorem dL_get_6 : decode cL_get 6 = .ok (.i2l, 1) := dc_133 (lxL_get 0 6 rfl)
set_option maxRecDepth 20000 in
theorem dL_get_7 : decode cL_get 7 = .ok (.putfield 13, 3) := dc_181 0 13 (lxL_get 0 7 rfl) (lxL_get 0 8 rfl) (lxL_get 0 9 rfl)
set_option maxRecDepth 20000 in
theorem dL_get_10 : decode cL_get 10 = .ok (.goto 6, 3) := dc_167 0 6 (lxL_get 0 10 rfl) (lxL_get 0 11 rfl) (lxL_get 0 12 rfl)
set_option maxRecDepth 20000 in
theorem dL_get_13 : decode cL_get 13 = .ok (.astore_n 3, 1) := dc_78 (lxL_get 0 13 rfl)
set_option maxRecDepth 20000 in
theorem dL_get_14 : decode cL_get 14 = .ok (.iconst 1, 1) := dc_4 (lxL_get 0 14 rfl)
set_option maxRecDepth 20000 in
theorem dL_get_15 : decode cL_get 15 = .ok (.ireturn, 1) := dc_172 (lxL_get 0 15 rfl)
set_option maxRecDepth 20000 in
theorem dL_get_16 : decode cL_get 16 = .ok (.iconst 0, 1) := dc_3 (lxL_get 1 0 rfl)
set_option maxRecDepth 20000 in
theorem dL_get_17 : decode cL_get 17 = .ok (.ireturn, 1) := dc_172 (lxL_get 1 1 rfl)
noncomputable def sgL_read : List (List Cond) := [[.codeWith yL_read cL_read 5 (some .int) [(0, 10, 13, 19), (0, 10, 17, 21)]], wsL_read_r1, wsL_read_r2, wsL_read_r3, wsL_read_r4, wsL_read_r5, wsL_read_r6, wsL_read_r7, wsL_read_r8, wsL_read_r9, wsL_read_r10, wsX70, wsJ40, wsX60, wsX50, wsJ00, (vx_atS RX6 306 "java/lang/IndexOutOfBoundsException" ["java/lang/RuntimeException", "java/lang/Exception"]).filter goodWord, (vx_atS RX6 317 "java/lang/IllegalArgumentException" ["java/lang/RuntimeException", "java/lang/Exception"]).filter goodWord]
theorem seL_read : sgL_read.flatten = wsL_read := by simp only [sgL_read, wsL_read, List.flatten_cons, List.flatten_nil, List.append_assoc, List.append_nil, List.cons_append, List.nil_append]
set_option maxRecDepth 20000 in
theorem ggL_read_X6_read : GoodIn wsL_read wsX6_read := goodIn_ca (goodIn_ca (goodIn_s seL_read _ [pq_1_6, pq_1_7, pq_1_8, pq_1_9, pq_1_10, pq_1_11, pq_1_12, pq_1_5, pq_1_13, pq_1_14, pq_1_15, pq_1_16, pq_1_17, pq_1_18, pq_1_19, pq_1_20, pq_1_21, pq_1_22, pq_1_23, pq_2_0, pq_2_1, pq_2_2, pq_2_3, pq_2_4, pq_2_5, pq_2_6, pq_2_7, pq_2_8, pq_2_9, pq_2_10, pq_2_11, pq_2_12, pq_2_13, pq_2_14, pq_2_15, pq_2_16, pq_2_17, pq_2_18, pq_2_19, pq_2_20, pq_2_21, pq_2_22, pq_2_23, pq_3_0, pq_3_1, pq_3_2, pq_3_3, pq_3_4, pq_3_5, pq_3_6, pq_3_7, pq_3_8, pq_3_9, pq_3_10, pq_3_11, pq_3_12, pq_3_13, pq_3_14, pq_3_15, pq_3_16, pq_3_17, pq_3_18, pq_3_19, pq_3_20, pq_3_21, pq_3_22, pq_3_23, pq_4_0, pq_4_1, pq_4_2, pq_4_3, pq_4_4, pq_4_5, pq_4_6, pq_4_7, pq_4_8, pq_4_9, pq_4_10, pq_4_11, pq_4_12, pq_4_13, pq_4_14, pq_4_15, pq_4_16, pq_4_17, pq_4_18, pq_4_19, pq_4_20, pq_4_21, pq_4_22, pq_4_23, pq_5_0, pq_5_1, pq_5_2, pq_5_3, pq_5_4, pq_5_5, pq_5_6, pq_5_7, pq_5_8, pq_5_9, pq_5_10, pq_5_11, pq_5_12, pq_5_13, pq_5_14, pq_5_15, pq_5_16, pq_5_17, pq_5_18, pq_5_19, pq_5_20, pq_5_21, pq_5_22, pq_5_23, pq_6_0, pq_6_1, pq_6_2, pq_6_3, pq_6_4, pq_6_5, pq_6_6, pq_6_7, pq_6_8, pq_6_9, pq_6_10, pq_6_11, pq_6_12, pq_6_13, pq_6_14, pq_6_15, pq_6_16, pq_6_17, pq_6_18, pq_6_19, pq_6_20, pq_6_21, pq_6_22, pq_6_23, pq_7_0, pq_7_1, pq_7_2, pq_7_3, pq_7_4, pq_7_5, pq_7_6, pq_7_7, pq_7_8, pq_7_9, pq_7_10, pq_7_11, pq_7_12, pq_7_13, pq_7_14, pq_7_15, pq_7_16, pq_7_17, pq_7_18, pq_7_19, pq_7_20, pq_7_21, pq_7_22, pq_7_23, pq_8_0, pq_8_1, pq_8_2, pq_8_3, pq_8_4, pq_8_5, pq_8_6, pq_8_7, pq_8_8, pq_8_9, pq_8_10, pq_8_11, pq_8_12, pq_8_13, pq_8_14, pq_8_15, pq_8_16, pq_8_17, pq_8_18, pq_8_19, pq_8_20, pq_8_21, pq_8_22, pq_8_23, pq_9_0, pq_9_1, pq_9_2, pq_9_3, pq_9_4, pq_9_5, pq_9_6, pq_9_7, pq_9_8, pq_9_9, pq_9_10, pq_9_11, pq_9_12, pq_9_13, pq_9_14, pq_9_15, pq_9_16, pq_9_17, pq_9_18, pq_9_19, pq_9_20, pq_9_21, pq_9_22, pq_9_23, pq_10_0, pq_10_1, pq_10_2, pq_10_3, pq_10_4, pq_10_5, pq_10_6, pq_10_7, pq_10_8, pq_10_9, pq_10_10, pq_10_11, pq_10_12, pq_12_0, pq_12_1, pq_12_2, pq_12_3, pq_13_0, pq_13_1, pq_13_2, pq_13_3, pq_13_4, pq_13_5, pq_13_6, pq_13_7, pq_13_8, pq_13_9, pq_13_10, pq_13_11, pq_13_12, pq_13_13, pq_14_0, pq_14_1, pq_14_2, pq_14_3, pq_14_4, pq_14_5, pq_15_0, pq_15_1, pq_15_2, pq_15_3] (by rfl) (by decide +kernel)) (goodIn_sub (fun _ h => List.mem_cons_of_mem _ (List.mem_append_left _ (List.mem_append_right _ h))) (by decide +kernel))) (goodIn_sub (fun _ h => List.mem_cons_of_mem _ (List.mem_append_right _ h)) (by decide +kernel))
set_option maxRecDepth 20000 in
theorem gL_read_X6_read : GoodIn wsL_read (wsV RL 47 RX6 yX6_read wsX6_read) := goodIn_app (goodIn_s seL_read _ [pq_1_2, pq_1_3, pq_1_4, pq_1_5] (by rfl) (by decide +kernel)) ggL_read_X6_read
def lb_sgL_read : List (List UInt8) := [[45, 42, 27, 28, 182, 0, 47, 181, 0, 51, 167, 0, 11, 58, 4, 4], [172, 58, 4, 5, 172, 3, 172]]
set_option maxRecDepth 100000 in
theorem lb_seL_read : cL_read.data.toList = lb_sgL_read.flatten := by decide +kernel
theorem lb_lnL_read : ∀ s ∈ lb_sgL_read.dropLast, s.length = 16 := by decide +kernel
theorem lxL_read (k j : Nat) {b : UInt8} (h : (lb_sgL_read[k]?).bind (fun s => s[j]?) = some b) : lb_at cL_read (16 * k + j) b := by
  unfold lb_at
  rw [lb_seL_read]
  exact lb_flat 16 lb_sgL_read k j b lb_lnL_read h
set_option maxRecDepth 20000 in
theorem dL_read_0 : decode cL_read 0 = .ok (.aload_n 3, 1) := dc_45 (lxL_read 0 0 rfl)
set_option maxRecDepth 20000 in
theorem dL_read_1 : decode cL_read 1 = .ok (.aload_n 0, 1) := dc_42 (lxL_read 0 1 rfl)
set_option maxRecDepth 20000 in
theorem dL_read_2 : decode cL_read 2 = .ok (.iload_n 1, 1) := dc_27 (lxL_read 0 2 rfl)
set_option maxRecDepth 20000 in
theorem dL_read_3 : decode cL_read 3 = .ok (.iload_n 2, 1) := dc_28 (lxL_read 0 3 rfl)
set_option maxRecDepth 20000 in
theorem dL_read_4 : decode cL_read 4 = .ok (.invokevirtual 47, 3) := dc_182 0 47 (lxL_read 0 4 rfl) (lxL_read 0 5 rfl) (lxL_read 0 6 rfl)
set_option maxRecDepth 20000 in
theorem dL_read_7 : decode cL_read 7 = .ok (.putfield 51, 3) := dc_181 0 51 (lxL_read 0 7 rfl) (lxL_read 0 8 rfl) (lxL_read 0 9 rfl)
set_option maxRecDepth 20000 in
theorem dL_read_10 : decode cL_read 10 = .ok (.goto 11, 3) := dc_167 0 11 (lxL_read 0 10 rfl) (lxL_read 0 11 rfl) (lxL_read 0 12 rfl)
set_option maxRecDepth 20000 in
theorem dL_read_13 : decode cL_read 13 = .ok (.astore 4, 2) := dc_58 4 (lxL_read 0 13 rfl) (lxL_read 0 14 rfl)
set_option maxRecDepth 20000 in
theorem dL_read_15 : decode cL_read 15 = .ok (.iconst 1, 1) := dc_4 (lxL_read 0 15 rfl)
set_option maxRecDepth 20000 in
theorem dL_read_16 : decode cL_read 16 = .ok (.ireturn, 1) := dc_172 (lxL_read 1 0 rfl)
set_option maxRecDepth 20000 in
theorem dL_read_17 : decode cL_read 17 = .ok (.astore 4, 2) := dc_58 4 (lxL_read 1 1 rfl) (lxL_read 1 2 rfl)
set_option maxRecDepth 20000 in
theorem dL_read_19 : decode cL_read 19 = .ok (.iconst 2, 1) := dc_5 (lxL_read 1 3 rfl)
set_option maxRecDepth 20000 in
theorem dL_read_20 : decode cL_read 20 = .ok (.ireturn, 1) := dc_172 (lxL_read 1 4 rfl)
set_option maxRecDepth 20000 in
theorem dL_read_21 : decode cL_read 21 = .ok (.iconst 0, 1) := dc_3 (lxL_read 1 5 rfl)
set_option maxRecDepth 20000 in
theorem dL_read_22 : decode cL_read 22 = .ok (.ireturn, 1) := dc_172 (lxL_read 1 6 rfl)
noncomputable def sgL_pour : List (List Cond) := [[.codeWith yL_pour cL_pour 6 (some .int) [(0, 13, 16, 19), (0, 13, 20, 21)]], wsL_pour_r1, wsL_pour_r2, wsL_pour_r3, wsX70, wsX60, wsX50, (vx_atS RX6 306 "java/lang/IndexOutOfBoundsException" ["java/lang/RuntimeException", "java/lang/Exception"]).filter goodWord, (vx_atS RX6 317 "java/lang/IllegalArgumentException" ["java/lang/RuntimeException", "java/lang/Exception"]).filter goodWord]
theorem seL_pour : sgL_pour.flatten = wsL_pour := by simp only [sgL_pour, wsL_pour, List.flatten_cons, List.flatten_nil, List.append_assoc, List.append_nil, List.cons_append, List.nil_append]
set_option maxRecDepth 20000 in
theorem ggL_pour_X6_pour : GoodIn wsL_pour wsX6_pour := goodIn_ca (goodIn_ca (goodIn_s seL_pour _ [pq_1_6, pq_1_7, pq_1_8, pq_1_9, pq_1_5, pq_1_10, pq_1_11, pq_1_12, pq_1_13, pq_1_14, pq_1_15, pq_1_16, pq_1_17, pq_1_18, pq_1_19, pq_1_20, pq_1_21, pq_1_22, pq_1_23, pq_2_0, pq_2_1, pq_2_2, pq_2_3, pq_2_4, pq_2_5, pq_2_6, pq_2_7, pq_2_8, pq_2_9, pq_2_10, pq_2_11, pq_2_12, pq_2_13, pq_2_14, pq_2_15, pq_2_16, pq_2_17, pq_2_18, pq_2_19, pq_2_20, pq_2_21, pq_2_22, pq_2_23, pq_3_0, pq_3_1, pq_3_2, pq_3_3, pq_3_4, pq_3_5, pq_3_6, pq_3_7, pq_3_8, pq_5_0, pq_5_1, pq_5_2, pq_5_3, pq_5_4, pq_5_5, pq_5_6, pq_5_7, pq_5_8, pq_5_9, pq_5_10, pq_5_11, pq_5_12, pq_5_13, pq_6_0, pq_6_1, pq_6_2, pq_6_3, pq_6_4, pq_6_5] (by rfl) (by decide +kernel)) (goodIn_sub (fun _ h => List.mem_cons_of_mem _ (List.mem_append_left _ (List.mem_append_right _ h))) (by decide +kernel))) (goodIn_sub (fun _ h => List.mem_cons_of_mem _ (List.mem_append_right _ h)) (by decide +kernel))
set_option maxRecDepth 20000 in
theorem gL_pour_X6_pour : GoodIn wsL_pour (wsV RL 55 RX6 yX6_pour wsX6_pour) := goodIn_app (goodIn_s seL_pour _ [pq_1_2, pq_1_3, pq_1_4, pq_1_5] (by rfl) (by decide +kernel)) ggL_pour_X6_pour
def lb_sgL_pour : List (List UInt8) := [[25, 4, 42, 27, 28, 29, 182, 0, 55, 133, 181, 0, 13, 167, 0, 11], [58, 5, 4, 172, 58, 5, 5, 172, 3, 172]]
set_option maxRecDepth 100000 in
theorem lb_seL_pour : cL_pour.data.toList = lb_sgL_pour.flatten := by decide +kernel
theorem lb_lnL_pour : ∀ s ∈ lb_sgL_pour.dropLast, s.length = 16 := by decide +kernel
theorem lxL_pour (k j : Nat) {b : UInt8} (h : (lb_sgL_pour[k]?).bind (fun s => s[j]?) = some b) : lb_at cL_pour (16 * k + j) b := by
  unfold lb_at
  rw [lb_seL_pour]
  exact lb_flat 16 lb_sgL_pour k j b lb_lnL_pour h
set_option maxRecDepth 20000 in
theorem dL_pour_0 : decode cL_pour 0 = .ok (.aload 4, 2) := dc_25 4 (lxL_pour 0 0 rfl) (lxL_pour 0 1 rfl)
set_option maxRecDepth 20000 in
theorem dL_pour_2 : decode cL_pour 2 = .ok (.aload_n 0, 1) := dc_42 (lxL_pour 0 2 rfl)
set_option maxRecDepth 20000 in
theorem dL_pour_3 : decode cL_pour 3 = .ok (.iload_n 1, 1) := dc_27 (lxL_pour 0 3 rfl)
set_option maxRecDepth 20000 in
theorem dL_pour_4 : decode cL_pour 4 = .ok (.iload_n 2, 1) := dc_28 (lxL_pour 0 4 rfl)
set_option maxRecDepth 20000 in
theorem dL_pour_5 : decode cL_pour 5 = .ok (.iload_n 3, 1) := dc_29 (lxL_pour 0 5 rfl)
set_option maxRecDepth 20000 in
theorem dL_pour_6 : decode cL_pour 6 = .ok (.invokevirtual 55, 3) := dc_182 0 55 (lxL_pour 0 6 rfl) (lxL_pour 0 7 rfl) (lxL_pour 0 8 rfl)
set_option maxRecDepth 20000 in
theorem dL_pour_9 : decode cL_pour 9 = .ok (.i2l, 1) := dc_133 (lxL_pour 0 9 rfl)
set_option maxRecDepth 20000 in
theorem dL_pour_10 : decode cL_pour 10 = .ok (.putfield 13, 3) := dc_181 0 13 (lxL_pour 0 10 rfl) (lxL_pour 0 11 rfl) (lxL_pour 0 12 rfl)
set_option maxRecDepth 20000 in
theorem dL_pour_13 : decode cL_pour 13 = .ok (.goto 11, 3) := dc_167 0 11 (lxL_pour 0 13 rfl) (lxL_pour 0 14 rfl) (lxL_pour 0 15 rfl)
set_option maxRecDepth 20000 in
theorem dL_pour_16 : decode cL_pour 16 = .ok (.astore 5, 2) := dc_58 5 (lxL_pour 1 0 rfl) (lxL_pour 1 1 rfl)
set_option maxRecDepth 20000 in
theorem dL_pour_18 : decode cL_pour 18 = .ok (.iconst 1, 1) := dc_4 (lxL_pour 1 2 rfl)
set_option maxRecDepth 20000 in
theorem dL_pour_19 : decode cL_pour 19 = .ok (.ireturn, 1) := dc_172 (lxL_pour 1 3 rfl)
set_option maxRecDepth 20000 in
theorem dL_pour_20 : decode cL_pour 20 = .ok (.astore 5, 2) := dc_58 5 (lxL_pour 1 4 rfl) (lxL_pour 1 5 rfl)
set_option maxRecDepth 20000 in
theorem dL_pour_22 : decode cL_pour 22 = .ok (.iconst 2, 1) := dc_5 (lxL_pour 1 6 rfl)
set_option maxRecDepth 20000 in
theorem dL_pour_23 : decode cL_pour 23 = .ok (.ireturn, 1) := dc_172 (lxL_pour 1 7 rfl)
set_option maxRecDepth 20000 in
theorem dL_pour_24 : decode cL_pour 24 = .ok (.iconst 0, 1) := dc_3 (lxL_pour 1 8 rfl)
set_option maxRecDepth 20000 in
theorem dL_pour_25 : decode cL_pour 25 = .ok (.ireturn, 1) := dc_172 (lxL_pour 1 9 rfl)
noncomputable def sgL_mark : List (List Cond) := [[.codeWith yL_mark cL_mark 4 (some .int) [(0, 10, 13, 19)]], wsL_mark_r1, wsL_mark_r2, wsX70, wsX50, wsX60, (vx_atS RX6 306 "java/lang/IndexOutOfBoundsException" ["java/lang/RuntimeException", "java/lang/Exception"]).filter goodWord]
theorem seL_mark : sgL_mark.flatten = wsL_mark := by simp only [sgL_mark, wsL_mark, List.flatten_cons, List.flatten_nil, List.append_assoc, List.append_nil, List.cons_append, List.nil_append]
set_option maxRecDepth 20000 in
theorem ggL_mark_X6_mark : GoodIn wsL_mark wsX6_mark := goodIn_ca (goodIn_s seL_mark _ [pq_1_5, pq_1_6, pq_1_7, pq_1_8, pq_1_4, pq_1_9, pq_1_10, pq_1_11, pq_1_12, pq_1_13, pq_1_14, pq_1_15, pq_1_16, pq_1_17, pq_1_18, pq_1_19, pq_1_20, pq_1_21, pq_1_22, pq_1_23, pq_2_0, pq_4_0, pq_4_1, pq_4_2, pq_4_3, pq_4_4, pq_4_5, pq_5_0, pq_5_1, pq_5_2, pq_5_3, pq_5_4, pq_5_5, pq_5_6, pq_5_7, pq_5_8, pq_5_9, pq_5_10, pq_5_11, pq_5_12, pq_5_13] (by rfl) (by decide +kernel)) (goodIn_sub (fun _ h => List.mem_cons_of_mem _ (List.mem_append_right _ h)) (by decide +kernel))
set_option maxRecDepth 20000 in
theorem gL_mark_X6_mark : GoodIn wsL_mark (wsV RL 58 RX6 yX6_mark wsX6_mark) := goodIn_app (goodIn_s seL_mark _ [pq_1_1, pq_1_2, pq_1_3, pq_1_4] (by rfl) (by decide +kernel)) ggL_mark_X6_mark
def lb_sgL_mark : List (List UInt8) := [[44, 42, 27, 182, 0, 58, 133, 181, 0, 13, 167, 0, 6, 78, 4, 172], [3, 172]]
set_option maxRecDepth 100000 in
theorem lb_seL_mark : cL_mark.data.toList = lb_sgL_mark.flatten := by decide +kernel
theorem lb_lnL_mark : ∀ s ∈ lb_sgL_mark.dropLast, s.length = 16 := by decide +kernel
theorem lxL_mark (k j : Nat) {b : UInt8} (h : (lb_sgL_mark[k]?).bind (fun s => s[j]?) = some b) : lb_at cL_mark (16 * k + j) b := by
  unfold lb_at
  rw [lb_seL_mark]
  exact lb_flat 16 lb_sgL_mark k j b lb_lnL_mark h
set_option maxRecDepth 20000 in
theorem dL_mark_0 : decode cL_mark 0 = .ok (.aload_n 2, 1) := dc_44 (lxL_mark 0 0 rfl)
set_option maxRecDepth 20000 in
theorem dL_mark_1 : decode cL_mark 1 = .ok (.aload_n 0, 1) := dc_42 (lxL_mark 0 1 rfl)
set_option maxRecDepth 20000 in
theorem dL_mark_2 : decode cL_mark 2 = .ok (.iload_n 1, 1) := dc_27 (lxL_mark 0 2 rfl)
set_option maxRecDepth 20000 in
theorem dL_mark_3 : decode cL_mark 3 = .ok (.invokevirtual 58, 3) := dc_182 0 58 (lxL_mark 0 3 rfl) (lxL_mark 0 4 rfl) (lxL_mark 0 5 rfl)
set_option maxRecDepth 20000 in
theorem dL_mark_6 : decode cL_mark 6 = .ok (.i2l, 1) := dc_133 (lxL_mark 0 6 rfl)
set_option maxRecDepth 20000 in
theorem dL_mark_7 : decode cL_mark 7 = .ok (.putfield 13, 3) := dc_181 0 13 (lxL_mark 0 7 rfl) (lxL_mark 0 8 rfl) (lxL_mark 0 9 rfl)
set_option maxRecDepth 20000 in
theorem dL_mark_10 : decode cL_mark 10 = .ok (.goto 6, 3) := dc_167 0 6 (lxL_mark 0 10 rfl) (lxL_mark 0 11 rfl) (lxL_mark 0 12 rfl)
set_option maxRecDepth 20000 in
theorem dL_mark_13 : decode cL_mark 13 = .ok (.astore_n 3, 1) := dc_78 (lxL_mark 0 13 rfl)
set_option maxRecDepth 20000 in
theorem dL_mark_14 : decode cL_mark 14 = .ok (.iconst 1, 1) := dc_4 (lxL_mark 0 14 rfl)
set_option maxRecDepth 20000 in
theorem dL_mark_15 : decode cL_mark 15 = .ok (.ireturn, 1) := dc_172 (lxL_mark 0 15 rfl)
set_option maxRecDepth 20000 in
theorem dL_mark_16 : decode cL_mark 16 = .ok (.iconst 0, 1) := dc_3 (lxL_mark 1 0 rfl)
set_option maxRecDepth 20000 in
theorem dL_mark_17 : decode cL_mark 17 = .ok (.ireturn, 1) := dc_172 (lxL_mark 1 1 rfl)
noncomputable def sgL_reset : List (List Cond) := [[.codeWith yL_reset cL_reset 4 (some .int) [(0, 10, 13, 19)]], wsL_reset_r1, wsL_reset_r2, wsX70, wsX50, wsX60, (vx_atS RX6 306 "java/lang/IndexOutOfBoundsException" ["java/lang/RuntimeException", "java/lang/Exception"]).filter goodWord]
theorem seL_reset : sgL_reset.flatten = wsL_reset := by simp only [sgL_reset, wsL_reset, List.flatten_cons, List.flatten_nil, List.append_assoc, List.append_nil, List.cons_append, List.nil_append]
set_option maxRecDepth 20000 in
theorem ggL_reset_X6_reset : GoodIn wsL_reset wsX6_reset := goodIn_ca (goodIn_s seL_reset _ [pq_1_5, pq_1_6, pq_1_7, pq_1_8, pq_1_4, pq_1_9, pq_1_10, pq_1_11, pq_1_12, pq_1_13, pq_1_14, pq_1_15, pq_1_16, pq_1_17, pq_1_18, pq_1_19, pq_1_20, pq_1_21, pq_1_22, pq_1_23, pq_2_0, pq_2_1, pq_2_2, pq_2_3, pq_2_4, pq_2_5, pq_4_0, pq_4_1, pq_4_2, pq_4_3, pq_4_4, pq_4_5, pq_5_0, pq_5_1, pq_5_2, pq_5_3, pq_5_4, pq_5_5, pq_5_6, pq_5_7, pq_5_8, pq_5_9, pq_5_10, pq_5_11, pq_5_12, pq_5_13] (by rfl) (by decide +kernel)) (goodIn_sub (fun _ h => List.mem_cons_of_mem _ (List.mem_append_right _ h)) (by decide +kernel))
set_option maxRecDepth 20000 in
theorem gL_reset_X6_reset : GoodIn wsL_reset (wsV RL 61 RX6 yX6_reset wsX6_reset) := goodIn_app (goodIn_s seL_reset _ [pq_1_1, pq_1_2, pq_1_3, pq_1_4] (by rfl) (by decide +kernel)) ggL_reset_X6_reset
def lb_sgL_reset : List (List UInt8) := [[44, 42, 27, 182, 0, 61, 133, 181, 0, 13, 167, 0, 6, 78, 4, 172], [3, 172]]
set_option maxRecDepth 100000 in
theorem lb_seL_reset : cL_reset.data.toList = lb_sgL_reset.flatten := by decide +kernel
theorem lb_lnL_reset : ∀ s ∈ lb_sgL_reset.dropLast, s.length = 16 := by decide +kernel
theorem lxL_reset (k j : Nat) {b : UInt8} (h : (lb_sgL_reset[k]?).bind (fun s => s[j]?) = some b) : lb_at cL_reset (16 * k + j) b := by
  unfold lb_at
  rw [lb_seL_reset]
  exact lb_flat 16 lb_sgL_reset k j b lb_lnL_reset h
set_option maxRecDepth 20000 in
theorem dL_reset_0 : decode cL_reset 0 = .ok (.aload_n 2, 1) := dc_44 (lxL_reset 0 0 rfl)
set_option maxRecDepth 20000 in
theorem dL_reset_1 : decode cL_reset 1 = .ok (.aload_n 0, 1) := dc_42 (lxL_reset 0 1 rfl)
set_option maxRecDepth 20000 in
theorem dL_reset_2 : decode cL_reset 2 = .ok (.iload_n 1, 1) := dc_27 (lxL_reset 0 2 rfl)
set_option maxRecDepth 20000 in
theorem dL_reset_3 : decode cL_reset 3 = .ok (.invokevirtual 61, 3) := dc_182 0 61 (lxL_reset 0 3 rfl) (lxL_reset 0 4 rfl) (lxL_reset 0 5 rfl)
set_option maxRecDepth 20000 in
theorem dL_reset_6 : decode cL_reset 6 = .ok (.i2l, 1) := dc_133 (lxL_reset 0 6 rfl)
set_option maxRecDepth 20000 in
theorem dL_reset_7 : decode cL_reset 7 = .ok (.putfield 13, 3) := dc_181 0 13 (lxL_reset 0 7 rfl) (lxL_reset 0 8 rfl) (lxL_reset 0 9 rfl)
set_option maxRecDepth 20000 in
theorem dL_reset_10 : decode cL_reset 10 = .ok (.goto 6, 3) := dc_167 0 6 (lxL_reset 0 10 rfl) (lxL_reset 0 11 rfl) (lxL_reset 0 12 rfl)
set_option maxRecDepth 20000 in
theorem dL_reset_13 : decode cL_reset 13 = .ok (.astore_n 3, 1) := dc_78 (lxL_reset 0 13 rfl)
set_option maxRecDepth 20000 in
theorem dL_reset_14 : decode cL_reset 14 = .ok (.iconst 1, 1) := dc_4 (lxL_reset 0 14 rfl)
set_option maxRecDepth 20000 in
theorem dL_reset_15 : decode cL_reset 15 = .ok (.ireturn, 1) := dc_172 (lxL_reset 0 15 rfl)
set_option maxRecDepth 20000 in
theorem dL_reset_16 : decode cL_reset 16 = .ok (.iconst 0, 1) := dc_3 (lxL_reset 1 0 rfl)
set_option maxRecDepth 20000 in
theorem dL_reset_17 : decode cL_reset 17 = .ok (.ireturn, 1) := dc_172 (lxL_reset 1 1 rfl)
noncomputable def sgL_rewind : List (List Cond) := [[.codeWith yL_rewind cL_rewind 4 (some .int) [(0, 10, 13, 19)]], wsL_rewind_r1, wsL_rewind_r2, wsX70, wsX50, wsX60, (vx_atS RX6 306 "java/lang/IndexOutOfBoundsException" ["java/lang/RuntimeException", "java/lang/Exception"]).filter goodWord]
theorem seL_rewind : sgL_rewind.flatten = wsL_rewind := by simp only [sgL_rewind, wsL_rewind, List.flatten_cons, List.flatten_nil, List.append_assoc, List.append_nil, List.cons_append, List.nil_append]
set_option maxRecDepth 20000 in
theorem ggL_rewind_X6_rewind : GoodIn wsL_rewind wsX6_rewind := goodIn_ca (goodIn_s seL_rewind _ [pq_1_5, pq_1_6, pq_1_7, pq_1_8, pq_1_4, pq_1_9, pq_1_10, pq_1_11, pq_1_12, pq_1_13, pq_1_14, pq_1_15, pq_1_16, pq_1_17, pq_1_18, pq_1_19, pq_1_20, pq_1_21, pq_1_22, pq_1_23, pq_2_0, pq_2_1, pq_2_2, pq_2_3, pq_2_4, pq_2_5, pq_4_0, pq_4_1, pq_4_2, pq_4_3, pq_4_4, pq_4_5, pq_5_0, pq_5_1, pq_5_2, pq_5_3, pq_5_4, pq_5_5, pq_5_6, pq_5_7, pq_5_8, pq_5_9, pq_5_10, pq_5_11, pq_5_12, pq_5_13] (by rfl) (by decide +kernel)) (goodIn_sub (fun _ h => List.mem_cons_of_mem _ (List.mem_append_right _ h)) (by decide +kernel))
set_option maxRecDepth 20000 in
theorem gL_rewind_X6_rewind : GoodIn wsL_rewind (wsV RL 64 RX6 yX6_rewind wsX6_rewind) := goodIn_app (goodIn_s seL_rewind _ [pq_1_1, pq_1_2, pq_1_3, pq_1_4] (by rfl) (by decide +kernel)) ggL_rewind_X6_rewind
def lb_sgL_rewind : List (List UInt8) := [[44, 42, 27, 182, 0, 64, 133, 181, 0, 13, 167, 0, 6, 78, 4, 172], [3, 172]]
set_option maxRecDepth 100000 in
theorem lb_seL_rewind : cL_rewind.data.toList = lb_sgL_rewind.flatten := by decide +kernel
theorem lb_lnL_rewind : ∀ s ∈ lb_sgL_rewind.dropLast, s.length = 16 := by decide +kernel
theorem lxL_rewind (k j : Nat) {b : UInt8} (h : (lb_sgL_rewind[k]?).bind (fun s => s[j]?) = some b) : lb_at cL_rewind (16 * k + j) b := by
  unfold lb_at
  rw [lb_seL_rewind]
  exact lb_flat 16 lb_sgL_rewind k j b lb_lnL_rewind h
set_option maxRecDepth 20000 in
theorem dL_rewind_0 : decode cL_rewind 0 = .ok (.aload_n 2, 1) := dc_44 (lxL_rewind 0 0 rfl)
set_option maxRecDepth 20000 in
theorem dL_rewind_1 : decode cL_rewind 1 = .ok (.aload_n 0, 1) := dc_42 (lxL_rewind 0 1 rfl)
set_option maxRecDepth 20000 in
theorem dL_rewind_2 : decode cL_rewind 2 = .ok (.iload_n 1, 1) := dc_27 (lxL_rewind 0 2 rfl)
set_option maxRecDepth 20000 in
theorem dL_rewind_3 : decode cL_rewind 3 = .ok (.invokevirtual 64, 3) := dc_182 0 64 (lxL_rewind 0 3 rfl) (lxL_rewind 0 4 rfl) (lxL_rewind 0 5 rfl)
set_option maxRecDepth 20000 in
theorem dL_rewind_6 : decode cL_rewind 6 = .ok (.i2l, 1) := dc_133 (lxL_rewind 0 6 rfl)
set_option maxRecDepth 20000 in
theorem dL_rewind_7 : decode cL_rewind 7 = .ok (.putfield 13, 3) := dc_181 0 13 (lxL_rewind 0 7 rfl) (lxL_rewind 0 8 rfl) (lxL_rewind 0 9 rfl)
set_option maxRecDepth 20000 in
theorem dL_rewind_10 : decode cL_rewind 10 = .ok (.goto 6, 3) := dc_167 0 6 (lxL_rewind 0 10 rfl) (lxL_rewind 0 11 rfl) (lxL_rewind 0 12 rfl)
set_option maxRecDepth 20000 in
theorem dL_rewind_13 : decode cL_rewind 13 = .ok (.astore_n 3, 1) := dc_78 (lxL_rewind 0 13 rfl)
set_option maxRecDepth 20000 in
theorem dL_rewind_14 : decode cL_rewind 14 = .ok (.iconst 1, 1) := dc_4 (lxL_rewind 0 14 rfl)
set_option maxRecDepth 20000 in
theorem dL_rewind_15 : decode cL_rewind 15 = .ok (.ireturn, 1) := dc_172 (lxL_rewind 0 15 rfl)
set_option maxRecDepth 20000 in
theorem dL_rewind_16 : decode cL_rewind 16 = .ok (.iconst 0, 1) := dc_3 (lxL_rewind 1 0 rfl)
set_option maxRecDepth 20000 in
theorem dL_rewind_17 : decode cL_rewind 17 = .ok (.ireturn, 1) := dc_172 (lxL_rewind 1 1 rfl)
noncomputable def sgL_flip : List (List Cond) := [[.codeWith yL_flip cL_flip 4 (some .int) [(0, 10, 13, 19)]], wsL_flip_r1, wsL_flip_r2, wsX70, wsX50, wsX60, (vx_atS RX6 306 "java/lang/IndexOutOfBoundsException" ["java/lang/RuntimeException", "java/lang/Exception"]).filter goodWord]
theorem seL_flip : sgL_flip.flatten = wsL_flip := by simp only [sgL_flip, wsL_flip, List.flatten_cons, List.flatten_nil, List.append_assoc, List.append_nil, List.cons_append, List.nil_append]
set_option maxRecDepth 20000 in
theorem ggL_flip_X6_flip : GoodIn wsL_flip wsX6_flip := goodIn_ca (goodIn_s seL_flip _ [pq_1_5, pq_1_6, pq_1_7, pq_1_8, pq_1_4, pq_1_9, pq_1_10, pq_1_11, pq_1_12, pq_1_13, pq_1_14, pq_1_15, pq_1_16, pq_1_17, pq_1_18, pq_1_19, pq_1_20, pq_1_21, pq_1_22, pq_1_23, pq_2_0, pq_2_1, pq_2_2, pq_2_3, pq_2_4, pq_2_5, pq_4_0, pq_4_1, pq_4_2, pq_4_3, pq_4_4, pq_4_5, pq_5_0, pq_5_1, pq_5_2, pq_5_3, pq_5_4, pq_5_5, pq_5_6, pq_5_7, pq_5_8, pq_5_9, pq_5_10, pq_5_11, pq_5_12, pq_5_13] (by rfl) (by decide +kernel)) (goodIn_sub (fun _ h => List.mem_cons_of_mem _ (List.mem_append_right _ h)) (by decide +kernel))
set_option maxRecDepth 20000 in
theorem gL_flip_X6_flip : GoodIn wsL_flip (wsV RL 67 RX6 yX6_flip wsX6_flip) := goodIn_app (goodIn_s seL_flip _ [pq_1_1, pq_1_2, pq_1_3, pq_1_4] (by rfl) (by decide +kernel)) ggL_flip_X6_flip
def lb_sgL_flip : List (List UInt8) := [[44, 42, 27, 182, 0, 67, 133, 181, 0, 13, 167, 0, 6, 78, 4, 172], [3, 172]]
set_option maxRecDepth 100000 in
theorem lb_seL_flip : cL_flip.data.toList = lb_sgL_flip.flatten := by decide +kernel
theorem lb_lnL_flip : ∀ s ∈ lb_sgL_flip.dropLast, s.length = 16 := by decide +kernel
theorem lxL_flip (k j : Nat) {b : UInt8} (h : (lb_sgL_flip[k]?).bind (fun s => s[j]?) = some b) : lb_at cL_flip (16 * k + j) b := by
  unfold lb_at
  rw [lb_seL_flip]
  exact lb_flat 16 lb_sgL_flip k j b lb_lnL_flip h
set_option maxRecDepth 20000 in
theorem dL_flip_0 : decode cL_flip 0 = .ok (.aload_n 2, 1) := dc_44 (lxL_flip 0 0 rfl)
set_option maxRecDepth 20000 in
theorem dL_flip_1 : decode cL_flip 1 = .ok (.aload_n 0, 1) := dc_42 (lxL_flip 0 1 rfl)
set_option maxRecDepth 20000 in
theorem dL_flip_2 : decode cL_flip 2 = .ok (.iload_n 1, 1) := dc_27 (lxL_flip 0 2 rfl)
set_option maxRecDepth 20000 in
theorem dL_flip_3 : decode cL_flip 3 = .ok (.invokevirtual 67, 3) := dc_182 0 67 (lxL_flip 0 3 rfl) (lxL_flip 0 4 rfl) (lxL_flip 0 5 rfl)
set_option maxRecDepth 20000 in
theorem dL_flip_6 : decode cL_flip 6 = .ok (.i2l, 1) := dc_133 (lxL_flip 0 6 rfl)
set_option maxRecDepth 20000 in
theorem dL_flip_7 : decode cL_flip 7 = .ok (.putfield 13, 3) := dc_181 0 13 (lxL_flip 0 7 rfl) (lxL_flip 0 8 rfl) (lxL_flip 0 9 rfl)
set_option maxRecDepth 20000 in
theorem dL_flip_10 : decode cL_flip 10 = .ok (.goto 6, 3) := dc_167 0 6 (lxL_flip 0 10 rfl) (lxL_flip 0 11 rfl) (lxL_flip 0 12 rfl)
set_option maxRecDepth 20000 in
theorem dL_flip_13 : decode cL_flip 13 = .ok (.astore_n 3, 1) := dc_78 (lxL_flip 0 13 rfl)
set_option maxRecDepth 20000 in
theorem dL_flip_14 : decode cL_flip 14 = .ok (.iconst 1, 1) := dc_4 (lxL_flip 0 14 rfl)
set_option maxRecDepth 20000 in
theorem dL_flip_15 : decode cL_flip 15 = .ok (.ireturn, 1) := dc_172 (lxL_flip 0 15 rfl)
set_option maxRecDepth 20000 in
theorem dL_flip_16 : decode cL_flip 16 = .ok (.iconst 0, 1) := dc_3 (lxL_flip 1 0 rfl)
set_option maxRecDepth 20000 in
theorem dL_flip_17 : decode cL_flip 17 = .ok (.ireturn, 1) := dc_172 (lxL_flip 1 1 rfl)
noncomputable def sgL_compact : List (List Cond) := [[.codeWith yL_compact cL_compact 4 (some .int) [(0, 10, 13, 19)]], wsL_compact_r1, wsL_compact_r2, wsL_compact_r3, wsX70, wsX50, wsX60, (vx_atS RX6 306 "java/lang/IndexOutOfBoundsException" ["java/lang/RuntimeException", "java/lang/Exception"]).filter goodWord]
theorem seL_compact : sgL_compact.flatten = wsL_compact := by simp only [sgL_compact, wsL_compact, List.flatten_cons, List.flatten_nil, List.append_assoc, List.append_nil, List.cons_append, List.nil_append]
set_option maxRecDepth 20000 in
theorem ggL_compact_X6_compact : GoodIn wsL_compact wsX6_compact := goodIn_ca (goodIn_s seL_compact _ [pq_1_5, pq_1_6, pq_1_7, pq_1_8, pq_1_4, pq_1_9, pq_1_10, pq_1_11, pq_1_12, pq_1_13, pq_1_14, pq_1_15, pq_1_16, pq_1_17, pq_1_18, pq_1_19, pq_1_20, pq_1_21, pq_1_22, pq_1_23, pq_2_0, pq_2_1, pq_2_2, pq_2_3, pq_2_4, pq_2_5, pq_2_6, pq_2_7, pq_2_8, pq_2_9, pq_2_10, pq_2_11, pq_2_12, pq_2_13, pq_2_14, pq_2_15, pq_2_16, pq_2_17, pq_2_18, pq_2_19, pq_2_20, pq_2_21, pq_2_22, pq_2_23, pq_3_0, pq_5_0, pq_5_1, pq_5_2, pq_5_3, pq_5_4, pq_5_5, pq_6_0, pq_6_1, pq_6_2, pq_6_3, pq_6_4, pq_6_5, pq_6_6, pq_6_7, pq_6_8, pq_6_9, pq_6_10, pq_6_11, pq_6_12, pq_6_13] (by rfl) (by decide +kernel)) (goodIn_sub (fun _ h => List.mem_cons_of_mem _ (List.mem_append_right _ h)) (by decide +kernel))
set_option maxRecDepth 20000 in
theorem gL_compact_X6_compact : GoodIn wsL_compact (wsV RL 70 RX6 yX6_compact wsX6_compact) := goodIn_app (goodIn_s seL_compact _ [pq_1_1, pq_1_2, pq_1_3, pq_1_4] (by rfl) (by decide +kernel)) ggL_compact_X6_compact
def lb_sgL_compact : List (List UInt8) := [[44, 42, 27, 182, 0, 70, 133, 181, 0, 13, 167, 0, 6, 78, 4, 172], [3, 172]]
set_option maxRecDepth 100000 in
theorem lb_seL_compact : cL_compact.data.toList = lb_sgL_compact.flatten := by decide +kernel
theorem lb_lnL_compact : ∀ s ∈ lb_sgL_compact.dropLast, s.length = 16 := by decide +kernel
theorem lxL_compact (k j : Nat) {b : UInt8} (h : (lb_sgL_compact[k]?).bind (fun s => s[j]?) = some b) : lb_at cL_compact (16 * k + j) b := by
  unfold lb_at
  rw [lb_seL_compact]
  exact lb_flat 16 lb_sgL_compact k j b lb_lnL_compact h
set_option maxRecDepth 20000 in
theorem dL_compact_0 : decode cL_compact 0 = .ok (.aload_n 2, 1) := dc_44 (lxL_compact 0 0 rfl)
set_option maxRecDepth 20000 in
theorem dL_compact_1 : decode cL_compact 1 = .ok (.aload_n 0, 1) := dc_42 (lxL_compact 0 1 rfl)
set_option maxRecDepth 20000 in
theorem dL_compact_2 : decode cL_compact 2 = .ok (.iload_n 1, 1) := dc_27 (lxL_compact 0 2 rfl)
set_option maxRecDepth 20000 in
theorem dL_compact_3 : decode cL_compact 3 = .ok (.invokevirtual 70, 3) := dc_182 0 70 (lxL_compact 0 3 rfl) (lxL_compact 0 4 rfl) (lxL_compact 0 5 rfl)
set_option maxRecDepth 20000 in
theorem dL_compact_6 : decode cL_compact 6 = .ok (.i2l, 1) := dc_133 (lxL_compact 0 6 rfl)
set_option maxRecDepth 20000 in
theorem dL_compact_7 : decode cL_compact 7 = .ok (.putfield 13, 3) := dc_181 0 13 (lxL_compact 0 7 rfl) (lxL_compact 0 8 rfl) (lxL_compact 0 9 rfl)
set_option maxRecDepth 20000 in
theorem dL_compact_10 : decode cL_compact 10 = .ok (.goto 6, 3) := dc_167 0 6 (lxL_compact 0 10 rfl) (lxL_compact 0 11 rfl) (lxL_compact 0 12 rfl)
set_option maxRecDepth 20000 in
theorem dL_compact_13 : decode cL_compact 13 = .ok (.astore_n 3, 1) := dc_78 (lxL_compact 0 13 rfl)
set_option maxRecDepth 20000 in
theorem dL_compact_14 : decode cL_compact 14 = .ok (.iconst 1, 1) := dc_4 (lxL_compact 0 14 rfl)
set_option maxRecDepth 20000 in
theorem dL_compact_15 : decode cL_compact 15 = .ok (.ireturn, 1) := dc_172 (lxL_compact 0 15 rfl)
set_option maxRecDepth 20000 in
theorem dL_compact_16 : decode cL_compact 16 = .ok (.iconst 0, 1) := dc_3 (lxL_compact 1 0 rfl)
set_option maxRecDepth 20000 in
theorem dL_compact_17 : decode cL_compact 17 = .ok (.ireturn, 1) := dc_172 (lxL_compact 1 1 rfl)
noncomputable def sgL_open : List (List Cond) := [[.codeWith yL_open cL_open 4 (some .int) [(0, 10, 13, 19)]], wsL_open_r1, wsL_open_r2, wsX70, wsX50, wsX60, (vx_atS RX6 306 "java/lang/IndexOutOfBoundsException" ["java/lang/RuntimeException", "java/lang/Exception"]).filter goodWord]
theorem seL_open : sgL_open.flatten = wsL_open := by simp only [sgL_open, wsL_open, List.flatten_cons, List.flatten_nil, List.append_assoc, List.append_nil, List.cons_append, List.nil_append]
set_option maxRecDepth 20000 in
theorem ggL_open_X6_open : GoodIn wsL_open wsX6_open := goodIn_ca (goodIn_s seL_open _ [pq_1_5, pq_1_6, pq_1_7, pq_1_8, pq_1_4, pq_1_9, pq_1_10, pq_1_11, pq_1_12, pq_1_13, pq_1_14, pq_1_15, pq_1_16, pq_1_17, pq_1_18, pq_1_19, pq_1_20, pq_1_21, pq_1_22, pq_1_23, pq_2_0, pq_2_1, pq_2_2, pq_2_3, pq_2_4, pq_2_5, pq_4_0, pq_4_1, pq_4_2, pq_4_3, pq_4_4, pq_4_5, pq_5_0, pq_5_1, pq_5_2, pq_5_3, pq_5_4, pq_5_5, pq_5_6, pq_5_7, pq_5_8, pq_5_9, pq_5_10, pq_5_11, pq_5_12, pq_5_13] (by rfl) (by decide +kernel)) (goodIn_sub (fun _ h => List.mem_cons_of_mem _ (List.mem_append_right _ h)) (by decide +kernel))
set_option maxRecDepth 20000 in
theorem gL_open_X6_open : GoodIn wsL_open (wsV RL 73 RX6 yX6_open wsX6_open) := goodIn_app (goodIn_s seL_open _ [pq_1_1, pq_1_2, pq_1_3, pq_1_4] (by rfl) (by decide +kernel)) ggL_open_X6_open
def lb_sgL_open : List (List UInt8) := [[44, 42, 27, 182, 0, 73, 133, 181, 0, 13, 167, 0, 6, 78, 4, 172], [3, 172]]
set_option maxRecDepth 100000 in
theorem lb_seL_open : cL_open.data.toList = lb_sgL_open.flatten := by decide +kernel
theorem lb_lnL_open : ∀ s ∈ lb_sgL_open.dropLast, s.length = 16 := by decide +kernel
theorem lxL_open (k j : Nat) {b : UInt8} (h : (lb_sgL_open[k]?).bind (fun s => s[j]?) = some b) : lb_at cL_open (16 * k + j) b := by
  unfold lb_at
  rw [lb_seL_open]
  exact lb_flat 16 lb_sgL_open k j b lb_lnL_open h
set_option maxRecDepth 20000 in
theorem dL_open_0 : decode cL_open 0 = .ok (.aload_n 2, 1) := dc_44 (lxL_open 0 0 rfl)
set_option maxRecDepth 20000 in
theorem dL_open_1 : decode cL_open 1 = .ok (.aload_n 0, 1) := dc_42 (lxL_open 0 1 rfl)
set_option maxRecDepth 20000 in
theorem dL_open_2 : decode cL_open 2 = .ok (.iload_n 1, 1) := dc_27 (lxL_open 0 2 rfl)
set_option maxRecDepth 20000 in
theorem dL_open_3 : decode cL_open 3 = .ok (.invokevirtual 73, 3) := dc_182 0 73 (lxL_open 0 3 rfl) (lxL_open 0 4 rfl) (lxL_open 0 5 rfl)
set_option maxRecDepth 20000 in
theorem dL_open_6 : decode cL_open 6 = .ok (.i2l, 1) := dc_133 (lxL_open 0 6 rfl)
set_option maxRecDepth 20000 in
theorem dL_open_7 : decode cL_open 7 = .ok (.putfield 13, 3) := dc_181 0 13 (lxL_open 0 7 rfl) (lxL_open 0 8 rfl) (lxL_open 0 9 rfl)
set_option maxRecDepth 20000 in
theorem dL_open_10 : decode cL_open 10 = .ok (.goto 6, 3) := dc_167 0 6 (lxL_open 0 10 rfl) (lxL_open 0 11 rfl) (lxL_open 0 12 rfl)
set_option maxRecDepth 20000 in
theorem dL_open_13 : decode cL_open 13 = .ok (.astore_n 3, 1) := dc_78 (lxL_open 0 13 rfl)
set_option maxRecDepth 20000 in
theorem dL_open_14 : decode cL_open 14 = .ok (.iconst 1, 1) := dc_4 (lxL_open 0 14 rfl)
set_option maxRecDepth 20000 in
theorem dL_open_15 : decode cL_open 15 = .ok (.ireturn, 1) := dc_172 (lxL_open 0 15 rfl)
set_option maxRecDepth 20000 in
theorem dL_open_16 : decode cL_open 16 = .ok (.iconst 0, 1) := dc_3 (lxL_open 1 0 rfl)
set_option maxRecDepth 20000 in
theorem dL_open_17 : decode cL_open 17 = .ok (.ireturn, 1) := dc_172 (lxL_open 1 1 rfl)
noncomputable def sgL_keep : List (List Cond) := [[.codeWith yL_keep cL_keep 4 (some .int) [(0, 10, 13, 19)]], wsL_keep_r1, wsL_keep_r2, wsL_keep_r3, wsX70, wsX60, wsX20, wsX50, (vx_atS RX6 306 "java/lang/IndexOutOfBoundsException" ["java/lang/RuntimeException", "java/lang/Exception"]).filter goodWord]
theorem seL_keep : sgL_keep.flatten = wsL_keep := by simp only [sgL_keep, wsL_keep, List.flatten_cons, List.flatten_nil, List.append_assoc, List.append_nil, List.cons_append, List.nil_append]
set_option maxRecDepth 20000 in
theorem ggL_keep_X6_keep : GoodIn wsL_keep wsX6_keep := goodIn_ca (goodIn_s seL_keep _ [pq_1_5, pq_1_6, pq_1_7, pq_1_8, pq_1_9, pq_1_4, pq_1_10, pq_1_11, pq_1_12, pq_1_13, pq_1_14, pq_1_15, pq_1_16, pq_1_17, pq_1_18, pq_1_19, pq_1_20, pq_1_21, pq_1_22, pq_1_23, pq_2_0, pq_2_1, pq_2_2, pq_2_3, pq_2_4, pq_2_5, pq_2_6, pq_2_7, pq_2_8, pq_2_9, pq_2_10, pq_2_11, pq_2_12, pq_2_13, pq_2_14, pq_2_15, pq_2_16, pq_2_17, pq_2_18, pq_2_19, pq_2_20, pq_2_21, pq_2_22, pq_2_23, pq_3_0, pq_3_1, pq_3_2, pq_3_3, pq_3_4, pq_3_5, pq_3_6, pq_3_7, pq_3_8, pq_3_9, pq_3_10, pq_3_11, pq_3_12, pq_3_13, pq_3_14, pq_3_15, pq_3_16, pq_3_17, pq_5_0, pq_5_1, pq_5_2, pq_5_3, pq_5_4, pq_5_5, pq_5_6, pq_5_7, pq_5_8, pq_5_9, pq_5_10, pq_5_11, pq_5_12, pq_5_13, pq_6_0, pq_6_1, pq_7_0, pq_7_1, pq_7_2, pq_7_3, pq_7_4, pq_7_5] (by rfl) (by decide +kernel)) (goodIn_sub (fun _ h => List.mem_cons_of_mem _ (List.mem_append_right _ h)) (by decide +kernel))
set_option maxRecDepth 20000 in
theorem gL_keep_X6_keep : GoodIn wsL_keep (wsV RL 76 RX6 yX6_keep wsX6_keep) := goodIn_app (goodIn_s seL_keep _ [pq_1_1, pq_1_2, pq_1_3, pq_1_4] (by rfl) (by decide +kernel)) ggL_keep_X6_keep
def lb_sgL_keep : List (List UInt8) := [[44, 42, 27, 182, 0, 76, 133, 181, 0, 13, 167, 0, 6, 78, 4, 172], [3, 172]]
set_option maxRecDepth 100000 in
theorem lb_seL_keep : cL_keep.data.toList = lb_sgL_keep.flatten := by decide +kernel
theorem lb_lnL_keep : ∀ s ∈ lb_sgL_keep.dropLast, s.length = 16 := by decide +kernel
theorem lxL_keep (k j : Nat) {b : UInt8} (h : (lb_sgL_keep[k]?).bind (fun s => s[j]?) = some b) : lb_at cL_keep (16 * k + j) b := by
  unfold lb_at
  rw [lb_seL_keep]
  exact lb_flat 16 lb_sgL_keep k j b lb_lnL_keep h
set_option maxRecDepth 20000 in
theorem dL_keep_0 : decode cL_keep 0 = .ok (.aload_n 2, 1) := dc_44 (lxL_keep 0 0 rfl)
set_option maxRecDepth 20000 in
theorem dL_keep_1 : decode cL_keep 1 = .ok (.aload_n 0, 1) := dc_42 (lxL_keep 0 1 rfl)
set_option maxRecDepth 20000 in
theorem dL_keep_2 : decode cL_keep 2 = .ok (.iload_n 1, 1) := dc_27 (lxL_keep 0 2 rfl)
set_option maxRecDepth 20000 in
theorem dL_keep_3 : decode cL_keep 3 = .ok (.invokevirtual 76, 3) := dc_182 0 76 (lxL_keep 0 3 rfl) (lxL_keep 0 4 rfl) (lxL_keep 0 5 rfl)
set_option maxRecDepth 20000 in
theorem dL_keep_6 : decode cL_keep 6 = .ok (.i2l, 1) := dc_133 (lxL_keep 0 6 rfl)
set_option maxRecDepth 20000 in
theorem dL_keep_7 : decode cL_keep 7 = .ok (.putfield 13, 3) := dc_181 0 13 (lxL_keep 0 7 rfl) (lxL_keep 0 8 rfl) (lxL_keep 0 9 rfl)
set_option maxRecDepth 20000 in
theorem dL_keep_10 : decode cL_keep 10 = .ok (.goto 6, 3) := dc_167 0 6 (lxL_keep 0 10 rfl) (lxL_keep 0 11 rfl) (lxL_keep 0 12 rfl)
set_option maxRecDepth 20000 in
theorem dL_keep_13 : decode cL_keep 13 = .ok (.astore_n 3, 1) := dc_78 (lxL_keep 0 13 rfl)
set_option maxRecDepth 20000 in
theorem dL_keep_14 : decode cL_keep 14 = .ok (.iconst 1, 1) := dc_4 (lxL_keep 0 14 rfl)
set_option maxRecDepth 20000 in
theorem dL_keep_15 : decode cL_keep 15 = .ok (.ireturn, 1) := dc_172 (lxL_keep 0 15 rfl)
set_option maxRecDepth 20000 in
theorem dL_keep_16 : decode cL_keep 16 = .ok (.iconst 0, 1) := dc_3 (lxL_keep 1 0 rfl)
set_option maxRecDepth 20000 in
theorem dL_keep_17 : decode cL_keep 17 = .ok (.ireturn, 1) := dc_172 (lxL_keep 1 1 rfl)
noncomputable def sgL_load : List (List Cond) := [[.codeWith yL_load cL_load 4 (some .int) [(0, 10, 13, 19)]], wsL_load_r1, wsL_load_r2, wsL_load_r3, wsX70, wsX60, wsX20, wsX50, (vx_atS RX6 306 "java/lang/IndexOutOfBoundsException" ["java/lang/RuntimeException", "java/lang/Exception"]).filter goodWord]
theorem seL_load : sgL_load.flatten = wsL_load := by simp only [sgL_load, wsL_load, List.flatten_cons, List.flatten_nil, List.append_assoc, List.append_nil, List.cons_append, List.nil_append]
set_option maxRecDepth 20000 in
theorem ggL_load_X6_load : GoodIn wsL_load wsX6_load := goodIn_ca (goodIn_s seL_load _ [pq_1_5, pq_1_6, pq_1_7, pq_1_8, pq_1_9, pq_1_4, pq_1_10, pq_1_11, pq_1_12, pq_1_13, pq_1_14, pq_1_15, pq_1_16, pq_1_17, pq_1_18, pq_1_19, pq_1_20, pq_1_21, pq_1_22, pq_1_23, pq_2_0, pq_2_1, pq_2_2, pq_2_3, pq_2_4, pq_2_5, pq_2_6, pq_2_7, pq_2_8, pq_2_9, pq_2_10, pq_2_11, pq_2_12, pq_2_13, pq_2_14, pq_2_15, pq_2_16, pq_2_17, pq_2_18, pq_2_19, pq_2_20, pq_2_21, pq_2_22, pq_2_23, pq_3_0, pq_3_1, pq_3_2, pq_3_3, pq_3_4, pq_3_5, pq_3_6, pq_3_7, pq_3_8, pq_3_9, pq_3_10, pq_3_11, pq_3_12, pq_3_13, pq_3_14, pq_3_15, pq_3_16, pq_3_17, pq_5_0, pq_5_1, pq_5_2, pq_5_3, pq_5_4, pq_5_5, pq_5_6, pq_5_7, pq_5_8, pq_5_9, pq_5_10, pq_5_11, pq_5_12, pq_5_13, pq_6_0, pq_6_1, pq_7_0, pq_7_1, pq_7_2, pq_7_3, pq_7_4, pq_7_5] (by rfl) (by decide +kernel)) (goodIn_sub (fun _ h => List.mem_cons_of_mem _ (List.mem_append_right _ h)) (by decide +kernel))
set_option maxRecDepth 20000 in
theorem gL_load_X6_load : GoodIn wsL_load (wsV RL 79 RX6 yX6_load wsX6_load) := goodIn_app (goodIn_s seL_load _ [pq_1_1, pq_1_2, pq_1_3, pq_1_4] (by rfl) (by decide +kernel)) ggL_load_X6_load
def lb_sgL_load : List (List UInt8) := [[44, 42, 27, 182, 0, 79, 133, 181, 0, 13, 167, 0, 6, 78, 4, 172], [3, 172]]
set_option maxRecDepth 100000 in
theorem lb_seL_load : cL_load.data.toList = lb_sgL_load.flatten := by decide +kernel
theorem lb_lnL_load : ∀ s ∈ lb_sgL_load.dropLast, s.length = 16 := by decide +kernel
theorem lxL_load (k j : Nat) {b : UInt8} (h : (lb_sgL_load[k]?).bind (fun s => s[j]?) = some b) : lb_at cL_load (16 * k + j) b := by
  unfold lb_at
  rw [lb_seL_load]
  exact lb_flat 16 lb_sgL_load k j b lb_lnL_load h
set_option maxRecDepth 20000 in
theorem dL_load_0 : decode cL_load 0 = .ok (.aload_n 2, 1) := dc_44 (lxL_load 0 0 rfl)
set_option maxRecDepth 20000 in
theorem dL_load_1 : decode cL_load 1 = .ok (.aload_n 0, 1) := dc_42 (lxL_load 0 1 rfl)
set_option maxRecDepth 20000 in
theorem dL_load_2 : decode cL_load 2 = .ok (.iload_n 1, 1) := dc_27 (lxL_load 0 2 rfl)
set_option maxRecDepth 20000 in
theorem dL_load_3 : decode cL_load 3 = .ok (.invokevirtual 79, 3) := dc_182 0 79 (lxL_load 0 3 rfl) (lxL_load 0 4 rfl) (lxL_load 0 5 rfl)
set_option maxRecDepth 20000 in
theorem dL_load_6 : decode cL_load 6 = .ok (.i2l, 1) := dc_133 (lxL_load 0 6 rfl)
set_option maxRecDepth 20000 in
theorem dL_load_7 : decode cL_load 7 = .ok (.putfield 13, 3) := dc_181 0 13 (lxL_load 0 7 rfl) (lxL_load 0 8 rfl) (lxL_load 0 9 rfl)
set_option maxRecDepth 20000 in
theorem dL_load_10 : decode cL_load 10 = .ok (.goto 6, 3) := dc_167 0 6 (lxL_load 0 10 rfl) (lxL_load 0 11 rfl) (lxL_load 0 12 rfl)
set_option maxRecDepth 20000 in
theorem dL_load_13 : decode cL_load 13 = .ok (.astore_n 3, 1) := dc_78 (lxL_load 0 13 rfl)
set_option maxRecDepth 20000 in
theorem dL_load_14 : decode cL_load 14 = .ok (.iconst 1, 1) := dc_4 (lxL_load 0 14 rfl)
set_option maxRecDepth 20000 in
theorem dL_load_15 : decode cL_load 15 = .ok (.ireturn, 1) := dc_172 (lxL_load 0 15 rfl)
set_option maxRecDepth 20000 in
theorem dL_load_16 : decode cL_load 16 = .ok (.iconst 0, 1) := dc_3 (lxL_load 1 0 rfl)
set_option maxRecDepth 20000 in
theorem dL_load_17 : decode cL_load 17 = .ok (.ireturn, 1) := dc_172 (lxL_load 1 1 rfl)
noncomputable def sgL_build : List (List Cond) := [[.codeWith yL_build cL_build 4 (some .int) [(0, 10, 13, 19), (0, 10, 16, 85)]], wsL_build_r1, wsL_build_r2, wsL_build_r3, wsX70, wsX60, wsX20, wsX50, (vx_atS RX6 306 "java/lang/IndexOutOfBoundsException" ["java/lang/RuntimeException", "java/lang/Exception"]).filter goodWord, (vx_atS RX6 327 "java/lang/IllegalStateException" ["java/lang/RuntimeException", "java/lang/Exception"]).filter goodWord]
theorem seL_build : sgL_build.flatten = wsL_build := by simp only [sgL_build, wsL_build, List.flatten_cons, List.flatten_nil, List.append_assoc, List.append_nil, List.cons_append, List.nil_append]
set_option maxRecDepth 20000 in
theorem ggL_build_X6_build : GoodIn wsL_build wsX6_build := goodIn_ca (goodIn_ca (goodIn_s seL_build _ [pq_1_6, pq_1_7, pq_1_8, pq_1_9, pq_1_10, pq_1_5, pq_1_11, pq_1_12, pq_1_13, pq_1_14, pq_1_15, pq_1_16, pq_1_17, pq_1_18, pq_1_19, pq_1_20, pq_1_21, pq_1_22, pq_1_23, pq_2_0, pq_2_1, pq_2_2, pq_2_3, pq_2_4, pq_2_5, pq_2_6, pq_2_7, pq_2_8, pq_2_9, pq_2_10, pq_2_11, pq_2_12, pq_2_13, pq_2_14, pq_2_15, pq_2_16, pq_2_17, pq_2_18, pq_2_19, pq_2_20, pq_2_21, pq_2_22, pq_2_23, pq_3_0, pq_3_1, pq_3_2, pq_3_3, pq_3_4, pq_3_5, pq_3_6, pq_3_7, pq_3_8, pq_3_9, pq_3_10, pq_3_11, pq_3_12, pq_3_13, pq_3_14, pq_3_15, pq_3_16, pq_5_0, pq_5_1, pq_5_2, pq_5_3, pq_5_4, pq_5_5, pq_5_6, pq_5_7, pq_5_8, pq_5_9, pq_5_10, pq_5_11, pq_5_12, pq_5_13, pq_6_0, pq_6_1, pq_7_0, pq_7_1, pq_7_2, pq_7_3, pq_7_4, pq_7_5] (by rfl) (by decide +kernel)) (goodIn_sub (fun _ h => List.mem_cons_of_mem _ (List.mem_append_left _ (List.mem_append_right _ h))) (by decide +kernel))) (goodIn_sub (fun _ h => List.mem_cons_of_mem _ (List.mem_append_right _ h)) (by decide +kernel))
set_option maxRecDepth 20000 in
theorem gL_build_X6_build : GoodIn wsL_build (wsV RL 82 RX6 yX6_build wsX6_build) := goodIn_app (goodIn_s seL_build _ [pq_1_2, pq_1_3, pq_1_4, pq_1_5] (by rfl) (by decide +kernel)) ggL_build_X6_build
def lb_sgL_build : List (List UInt8) := [[44, 42, 27, 182, 0, 82, 133, 181, 0, 13, 167, 0, 9, 78, 4, 172], [78, 5, 172, 3, 172]]
set_option maxRecDepth 100000 in
theorem lb_seL_build : cL_build.data.toList = lb_sgL_build.flatten := by decide +kernel
theorem lb_lnL_build : ∀ s ∈ lb_sgL_build.dropLast, s.length = 16 := by decide +kernel
theorem lxL_build (k j : Nat) {b : UInt8} (h : (lb_sgL_build[k]?).bind (fun s => s[j]?) = some b) : lb_at cL_build (16 * k + j) b := by
  unfold lb_at
  rw [lb_seL_build]
  exact lb_flat 16 lb_sgL_build k j b lb_lnL_build h
set_option maxRecDepth 20000 in
theorem dL_build_0 : decode cL_build 0 = .ok (.aload_n 2, 1) := dc_44 (lxL_build 0 0 rfl)
set_option maxRecDepth 20000 in
theorem dL_build_1 : decode cL_build 1 = .ok (.aload_n 0, 1) := dc_42 (lxL_build 0 1 rfl)
set_option maxRecDepth 20000 in
theorem dL_build_2 : decode cL_build 2 = .ok (.iload_n 1, 1) := dc_27 (lxL_build 0 2 rfl)
set_option maxRecDepth 20000 in
theorem dL_build_3 : decode cL_build 3 = .ok (.invokevirtual 82, 3) := dc_182 0 82 (lxL_build 0 3 rfl) (lxL_build 0 4 rfl) (lxL_build 0 5 rfl)
set_option maxRecDepth 20000 in
theorem dL_build_6 : decode cL_build 6 = .ok (.i2l, 1) := dc_133 (lxL_build 0 6 rfl)
set_option maxRecDepth 20000 in
theorem dL_build_7 : decode cL_build 7 = .ok (.putfield 13, 3) := dc_181 0 13 (lxL_build 0 7 rfl) (lxL_build 0 8 rfl) (lxL_build 0 9 rfl)
set_option maxRecDepth 20000 in
theorem dL_build_10 : decode cL_build 10 = .ok (.goto 9, 3) := dc_167 0 9 (lxL_build 0 10 rfl) (lxL_build 0 11 rfl) (lxL_build 0 12 rfl)
set_option maxRecDepth 20000 in
theorem dL_build_13 : decode cL_build 13 = .ok (.astore_n 3, 1) := dc_78 (lxL_build 0 13 rfl)
set_option maxRecDepth 20000 in
theorem dL_build_14 : decode cL_build 14 = .ok (.iconst 1, 1) := dc_4 (lxL_build 0 14 rfl)
set_option maxRecDepth 20000 in
theorem dL_build_15 : decode cL_build 15 = .ok (.ireturn, 1) := dc_172 (lxL_build 0 15 rfl)
set_option maxRecDepth 20000 in
theorem dL_build_16 : decode cL_build 16 = .ok (.astore_n 3, 1) := dc_78 (lxL_build 1 0 rfl)
set_option maxRecDepth 20000 in
theorem dL_build_17 : decode cL_build 17 = .ok (.iconst 2, 1) := dc_5 (lxL_build 1 1 rfl)
set_option maxRecDepth 20000 in
theorem dL_build_18 : decode cL_build 18 = .ok (.ireturn, 1) := dc_172 (lxL_build 1 2 rfl)
set_option maxRecDepth 20000 in
theorem dL_build_19 : decode cL_build 19 = .ok (.iconst 0, 1) := dc_3 (lxL_build 1 3 rfl)
set_option maxRecDepth 20000 in
theorem dL_build_20 : decode cL_build 20 = .ok (.ireturn, 1) := dc_172 (lxL_build 1 4 rfl)
noncomputable def sgL_change : List (List Cond) := [[.codeWith yL_change cL_change 5 (some .int) [(0, 11, 14, 19), (0, 11, 18, 21)]], wsL_change_r1, wsL_change_r2, wsX70, wsX60, wsX20, (vx_atS RX6 306 "java/lang/IndexOutOfBoundsException" ["java/lang/RuntimeException", "java/lang/Exception"]).filter goodWord, (vx_atS RX6 317 "java/lang/IllegalArgumentException" ["java/lang/RuntimeException", "java/lang/Exception"]).filter goodWord]
theorem seL_change : sgL_change.flatten = wsL_change := by simp only [sgL_change, wsL_change, List.flatten_cons, List.flatten_nil, List.append_assoc, List.append_nil, List.cons_append, List.nil_append]
set_option maxRecDepth 20000 in
theorem ggL_change_X6_change : GoodIn wsL_change wsX6_change := goodIn_ca (goodIn_ca (goodIn_s seL_change _ [pq_1_6, pq_1_7, pq_1_8, pq_1_9, pq_1_10, pq_1_11, pq_1_12, pq_1_13, pq_1_14, pq_1_15, pq_1_5, pq_1_16, pq_1_17, pq_1_18, pq_1_19, pq_1_20, pq_1_21, pq_1_22, pq_1_23, pq_2_0, pq_2_1, pq_2_2, pq_2_3, pq_2_4, pq_2_5, pq_2_6, pq_2_7, pq_2_8, pq_2_9, pq_2_10, pq_2_11, pq_2_12, pq_2_13, pq_4_0, pq_4_1, pq_4_2, pq_4_3, pq_4_4, pq_4_5, pq_4_6, pq_4_7, pq_4_8, pq_4_9, pq_4_10, pq_4_11, pq_4_12, pq_4_13, pq_5_0, pq_5_1] (by rfl) (by decide +kernel)) (goodIn_sub (fun _ h => List.mem_cons_of_mem _ (List.mem_append_left _ (List.mem_append_right _ h))) (by decide +kernel))) (goodIn_sub (fun _ h => List.mem_cons_of_mem _ (List.mem_append_right _ h)) (by decide +kernel))
set_option maxRecDepth 20000 in
theorem gL_change_X6_change : GoodIn wsL_change (wsV RL 87 RX6 yX6_change wsX6_change) := goodIn_app (goodIn_s seL_change _ [pq_1_2, pq_1_3, pq_1_4, pq_1_5] (by rfl) (by decide +kernel)) ggL_change_X6_change
def lb_sgL_change : List (List UInt8) := [[45, 42, 27, 28, 182, 0, 87, 133, 181, 0, 13, 167, 0, 11, 58, 4], [4, 172, 58, 4, 5, 172, 3, 172]]
set_option maxRecDepth 100000 in
theorem lb_seL_change : cL_change.data.toList = lb_sgL_change.flatten := by decide +kernel
theorem lb_lnL_change : ∀ s ∈ lb_sgL_change.dropLast, s.length = 16 := by decide +kernel
theorem lxL_change (k j : Nat) {b : UInt8} (h : (lb_sgL_change[k]?).bind (fun s => s[j]?) = some b) : lb_at cL_change (16 * k + j) b := by
  unfold lb_at
  rw [lb_seL_change]
  exact lb_flat 16 lb_sgL_change k j b lb_lnL_change h
set_option maxRecDepth 20000 in
theorem dL_change_0 : decode cL_change 0 = .ok (.aload_n 3, 1) := dc_45 (lxL_change 0 0 rfl)
set_option maxRecDepth 20000 in
theorem dL_change_1 : decode cL_change 1 = .ok (.aload_n 0, 1) := dc_42 (lxL_change 0 1 rfl)
set_option maxRecDepth 20000 in
theorem dL_change_2 : decode cL_change 2 = .ok (.iload_n 1, 1) := dc_27 (lxL_change 0 2 rfl)
set_option maxRecDepth 20000 in
theorem dL_change_3 : decode cL_change 3 = .ok (.iload_n 2, 1) := dc_28 (lxL_change 0 3 rfl)
set_option maxRecDepth 20000 in
theorem dL_change_4 : decode cL_change 4 = .ok (.invokevirtual 87, 3) := dc_182 0 87 (lxL_change 0 4 rfl) (lxL_change 0 5 rfl) (lxL_change 0 6 rfl)
set_option maxRecDepth 20000 in
theorem dL_change_7 : decode cL_change 7 = .ok (.i2l, 1) := dc_133 (lxL_change 0 7 rfl)
set_option maxRecDepth 20000 in
theorem dL_change_8 : decode cL_change 8 = .ok (.putfield 13, 3) := dc_181 0 13 (lxL_change 0 8 rfl) (lxL_change 0 9 rfl) (lxL_change 0 10 rfl)
set_option maxRecDepth 20000 in
theorem dL_change_11 : decode cL_change 11 = .ok (.goto 11, 3) := dc_167 0 11 (lxL_change 0 11 rfl) (lxL_change 0 12 rfl) (lxL_change 0 13 rfl)
set_option maxRecDepth 20000 in
theorem dL_change_14 : decode cL_change 14 = .ok (.astore 4, 2) := dc_58 4 (lxL_change 0 14 rfl) (lxL_change 0 15 rfl)
set_option maxRecDepth 20000 in
theorem dL_change_16 : decode cL_change 16 = .ok (.iconst 1, 1) := dc_4 (lxL_change 1 0 rfl)
set_option maxRecDepth 20000 in
theorem dL_change_17 : decode cL_change 17 = .ok (.ireturn, 1) := dc_172 (lxL_change 1 1 rfl)
set_option maxRecDepth 20000 in
theorem dL_change_18 : decode cL_change 18 = .ok (.astore 4, 2) := dc_58 4 (lxL_change 1 2 rfl) (lxL_change 1 3 rfl)
set_option maxRecDepth 20000 in
theorem dL_change_20 : decode cL_change 20 = .ok (.iconst 2, 1) := dc_5 (lxL_change 1 4 rfl)
set_option maxRecDepth 20000 in
theorem dL_change_21 : decode cL_change 21 = .ok (.ireturn, 1) := dc_172 (lxL_change 1 5 rfl)
set_option maxRecDepth 20000 in
theorem dL_change_22 : decode cL_change 22 = .ok (.iconst 0, 1) := dc_3 (lxL_change 1 6 rfl)
set_option maxRecDepth 20000 in
theorem dL_change_23 : decode cL_change 23 = .ok (.ireturn, 1) := dc_172 (lxL_change 1 7 rfl)
noncomputable def sgL_pipe : List (List Cond) := [[.codeWith yL_pipe cL_pipe 4 (some .int) [(0, 10, 13, 21)]], wsL_pipe_r1, wsL_pipe_r2, wsX70, wsX60, wsX10, wsX20, (vx_atS RX6 317 "java/lang/IllegalArgumentException" ["java/lang/RuntimeException", "java/lang/Exception"]).filter goodWord]
theorem seL_pipe : sgL_pipe.flatten = wsL_pipe := by simp only [sgL_pipe, wsL_pipe, List.flatten_cons, List.flatten_nil, List.append_assoc, List.append_nil, List.cons_append, List.nil_append]
set_option maxRecDepth 20000 in
theorem ggL_pipe_X6_pipe : GoodIn wsL_pipe wsX6_pipe := goodIn_ca (goodIn_s seL_pipe _ [pq_1_5, pq_1_6, pq_1_7, pq_1_8, pq_1_4, pq_1_9, pq_1_10, pq_1_11, pq_1_12, pq_1_13, pq_1_14, pq_1_15, pq_1_16, pq_1_17, pq_1_18, pq_1_19, pq_1_20, pq_1_21, pq_1_22, pq_1_23, pq_2_0, pq_2_1, pq_2_2, pq_2_3, pq_2_4, pq_2_5, pq_2_6, pq_2_7, pq_2_8, pq_2_9, pq_2_10, pq_2_11, pq_4_0, pq_4_1, pq_4_2, pq_4_3, pq_4_4, pq_4_5, pq_4_6, pq_4_7, pq_4_8, pq_4_9, pq_4_10, pq_4_11, pq_4_12, pq_4_13, pq_5_0, pq_5_1, pq_5_2, pq_5_3, pq_6_0, pq_6_1] (by rfl) (by decide +kernel)) (goodIn_sub (fun _ h => List.mem_cons_of_mem _ (List.mem_append_right _ h)) (by decide +kernel))
set_option maxRecDepth 20000 in
theorem gL_pipe_X6_pipe : GoodIn wsL_pipe (wsV RL 90 RX6 yX6_pipe wsX6_pipe) := goodIn_app (goodIn_s seL_pipe _ [pq_1_1, pq_1_2, pq_1_3, pq_1_4] (by rfl) (by decide +kernel)) ggL_pipe_X6_pipe
def lb_sgL_pipe : List (List UInt8) := [[44, 42, 27, 182, 0, 90, 133, 181, 0, 13, 167, 0, 6, 78, 4, 172], [3, 172]]
set_option maxRecDepth 100000 in
theorem lb_seL_pipe : cL_pipe.data.toList = lb_sgL_pipe.flatten := by decide +kernel
theorem lb_lnL_pipe : ∀ s ∈ lb_sgL_pipe.dropLast, s.length = 16 := by decide +kernel
theorem lxL_pipe (k j : Nat) {b : UInt8} (h : (lb_sgL_pipe[k]?).bind (fun s => s[j]?) = some b) : lb_at cL_pipe (16 * k + j) b := by
  unfold lb_at
  rw [lb_seL_pipe]
  exact lb_flat 16 lb_sgL_pipe k j b lb_lnL_pipe h
set_option maxRecDepth 20000 in
theorem dL_pipe_0 : decode cL_pipe 0 = .ok (.aload_n 2, 1) := dc_44 (lxL_pipe 0 0 rfl)
set_option maxRecDepth 20000 in
theorem dL_pipe_1 : decode cL_pipe 1 = .ok (.aload_n 0, 1) := dc_42 (lxL_pipe 0 1 rfl)
set_option maxRecDepth 20000 in
theorem dL_pipe_2 : decode cL_pipe 2 = .ok (.iload_n 1, 1) := dc_27 (lxL_pipe 0 2 rfl)
set_option maxRecDepth 20000 in
theorem dL_pipe_3 : decode cL_pipe 3 = .ok (.invokevirtual 90, 3) := dc_182 0 90 (lxL_pipe 0 3 rfl) (lxL_pipe 0 4 rfl) (lxL_pipe 0 5 rfl)
set_option maxRecDepth 20000 in
theorem dL_pipe_6 : decode cL_pipe 6 = .ok (.i2l, 1) := dc_133 (lxL_pipe 0 6 rfl)
set_option maxRecDepth 20000 in
theorem dL_pipe_7 : decode cL_pipe 7 = .ok (.putfield 13, 3) := dc_181 0 13 (lxL_pipe 0 7 rfl) (lxL_pipe 0 8 rfl) (lxL_pipe 0 9 rfl)
set_option maxRecDepth 20000 in
theorem dL_pipe_10 : decode cL_pipe 10 = .ok (.goto 6, 3) := dc_167 0 6 (lxL_pipe 0 10 rfl) (lxL_pipe 0 11 rfl) (lxL_pipe 0 12 rfl)
set_option maxRecDepth 20000 in
theorem dL_pipe_13 : decode cL_pipe 13 = .ok (.astore_n 3, 1) := dc_78 (lxL_pipe 0 13 rfl)
set_option maxRecDepth 20000 in
theorem dL_pipe_14 : decode cL_pipe 14 = .ok (.iconst 1, 1) := dc_4 (lxL_pipe 0 14 rfl)
set_option maxRecDepth 20000 in
theorem dL_pipe_15 : decode cL_pipe 15 = .ok (.ireturn, 1) := dc_172 (lxL_pipe 0 15 rfl)
set_option maxRecDepth 20000 in
theorem dL_pipe_16 : decode cL_pipe 16 = .ok (.iconst 0, 1) := dc_3 (lxL_pipe 1 0 rfl)
set_option maxRecDepth 20000 in
theorem dL_pipe_17 : decode cL_pipe 17 = .ok (.ireturn, 1) := dc_172 (lxL_pipe 1 1 rfl)
noncomputable def sgL_feed : List (List Cond) := [[.codeWith yL_feed cL_feed 5 (some .int) [(0, 11, 14, 21)]], wsL_feed_r1, wsL_feed_r2, wsX70, wsX60, wsX10, wsX20, (vx_atS RX6 317 "java/lang/IllegalArgumentException" ["java/lang/RuntimeException", "java/lang/Exception"]).filter goodWord]
theorem seL_feed : sgL_feed.flatten = wsL_feed := by simp only [sgL_feed, wsL_feed, List.flatten_cons, List.flatten_nil, List.append_assoc, List.append_nil, List.cons_append, List.nil_append]
set_option maxRecDepth 20000 in
theorem ggL_feed_X6_feed : GoodIn wsL_feed wsX6_feed := goodIn_ca (goodIn_s seL_feed _ [pq_1_5, pq_1_6, pq_1_7, pq_1_8, pq_1_4, pq_1_9, pq_1_10, pq_1_11, pq_1_12, pq_1_13, pq_1_14, pq_1_15, pq_1_16, pq_1_17, pq_1_18, pq_1_19, pq_1_20, pq_1_21, pq_1_22, pq_1_23, pq_2_0, pq_2_1, pq_2_2, pq_2_3, pq_2_4, pq_2_5, pq_2_6, pq_2_7, pq_2_8, pq_2_9, pq_2_10, pq_2_11, pq_2_12, pq_2_13, pq_2_14, pq_2_15, pq_2_16, pq_2_17, pq_2_18, pq_2_19, pq_2_20, pq_2_21, pq_2_22, pq_4_0, pq_4_1, pq_4_2, pq_4_3, pq_4_4, pq_4_5, pq_4_6, pq_4_7, pq_4_8, pq_4_9, pq_4_10, pq_4_11, pq_4_12, pq_4_13, pq_5_0, pq_5_1, pq_5_2, pq_5_3, pq_6_0, pq_6_1] (by rfl) (by decide +kernel)) (goodIn_sub (fun _ h => List.mem_cons_of_mem _ (List.mem_append_right _ h)) (by decide +kernel))
set_option maxRecDepth 20000 in
theorem gL_feed_X6_feed : GoodIn wsL_feed (wsV RL 93 RX6 yX6_feed wsX6_feed) := goodIn_app (goodIn_s seL_feed _ [pq_1_1, pq_1_2, pq_1_3, pq_1_4] (by rfl) (by decide +kernel)) ggL_feed_X6_feed
def lb_sgL_feed : List (List UInt8) := [[45, 42, 27, 28, 182, 0, 93, 133, 181, 0, 13, 167, 0, 7, 58, 4], [4, 172, 3, 172]]
set_option maxRecDepth 100000 in
theorem lb_seL_feed : cL_feed.data.toList = lb_sgL_feed.flatten := by decide +kernel
theorem lb_lnL_feed : ∀ s ∈ lb_sgL_feed.dropLast, s.length = 16 := by decide +kernel
theorem lxL_feed (k j : Nat) {b : UInt8} (h : (lb_sgL_feed[k]?).bind (fun s => s[j]?) = some b) : lb_at cL_feed (16 * k + j) b := by
  unfold lb_at
  rw [lb_seL_feed]
  exact lb_flat 16 lb_sgL_feed k j b lb_lnL_feed h
set_option maxRecDepth 20000 in
theorem dL_feed_0 : decode cL_feed 0 = .ok (.aload_n 3, 1) := dc_45 (lxL_feed 0 0 rfl)
set_option maxRecDepth 20000 in
theorem dL_feed_1 : decode cL_feed 1 = .ok (.aload_n 0, 1) := dc_42 (lxL_feed 0 1 rfl)
set_option maxRecDepth 20000 in
theorem dL_feed_2 : decode cL_feed 2 = .ok (.iload_n 1, 1) := dc_27 (lxL_feed 0 2 rfl)
set_option maxRecDepth 20000 in
theorem dL_feed_3 : decode cL_feed 3 = .ok (.iload_n 2, 1) := dc_28 (lxL_feed 0 3 rfl)
set_option maxRecDepth 20000 in
theorem dL_feed_4 : decode cL_feed 4 = .ok (.invokevirtual 93, 3) := dc_182 0 93 (lxL_feed 0 4 rfl) (lxL_feed 0 5 rfl) (lxL_feed 0 6 rfl)
set_option maxRecDepth 20000 in
theorem dL_feed_7 : decode cL_feed 7 = .ok (.i2l, 1) := dc_133 (lxL_feed 0 7 rfl)
set_option maxRecDepth 20000 in
theorem dL_feed_8 : decode cL_feed 8 = .ok (.putfield 13, 3) := dc_181 0 13 (lxL_feed 0 8 rfl) (lxL_feed 0 9 rfl) (lxL_feed 0 10 rfl)
set_option maxRecDepth 20000 in
theorem dL_feed_11 : decode cL_feed 11 = .ok (.goto 7, 3) := dc_167 0 7 (lxL_feed 0 11 rfl) (lxL_feed 0 12 rfl) (lxL_feed 0 13 rfl)
set_option maxRecDepth 20000 in
theorem dL_feed_14 : decode cL_feed 14 = .ok (.astore 4, 2) := dc_58 4 (lxL_feed 0 14 rfl) (lxL_feed 0 15 rfl)
set_option maxRecDepth 20000 in
theorem dL_feed_16 : decode cL_feed 16 = .ok (.iconst 1, 1) := dc_4 (lxL_feed 1 0 rfl)
set_option maxRecDepth 20000 in
theorem dL_feed_17 : decode cL_feed 17 = .ok (.ireturn, 1) := dc_172 (lxL_feed 1 1 rfl)
set_option maxRecDepth 20000 in
theorem dL_feed_18 : decode cL_feed 18 = .ok (.iconst 0, 1) := dc_3 (lxL_feed 1 2 rfl)
set_option maxRecDepth 20000 in
theorem dL_feed_19 : decode cL_feed 19 = .ok (.ireturn, 1) := dc_172 (lxL_feed 1 3 rfl)
noncomputable def sgL_drain : List (List Cond) := [[.codeWith yL_drain cL_drain 4 (some .int) [(0, 9, 12, 21)]], wsL_drain_r1, wsL_drain_r2, wsL_drain_r3, wsL_drain_r4, wsL_drain_r5, wsL_drain_r6, wsL_drain_r7, wsL_drain_r8, wsL_drain_r9, wsL_drain_r10, wsX70, wsJ40, wsX60, wsX10, wsX20, wsJ00, (vx_atS RX6 317 "java/lang/IllegalArgumentException" ["java/lang/RuntimeException", "java/lang/Exception"]).filter goodWord]
theorem seL_drain : sgL_drain.flatten = wsL_drain := by simp only [sgL_drain, wsL_drain, List.flatten_cons, List.flatten_nil, List.append_assoc, List.append_nil, List.cons_append, List.nil_append]
set_option maxRecDepth 20000 in
theorem ggL_drain_X6_drain : GoodIn wsL_drain wsX6_drain := goodIn_ca (goodIn_s seL_drain _ [pq_1_5, pq_1_6, pq_1_7, pq_1_8, pq_1_9, pq_1_10, pq_1_4, pq_1_11, pq_1_12, pq_1_13, pq_1_14, pq_1_15, pq_1_16, pq_1_17, pq_1_18, pq_1_19, pq_1_20, pq_1_21, pq_1_22, pq_1_23, pq_2_0, pq_2_1, pq_2_2, pq_2_3, pq_2_4, pq_2_5, pq_2_6, pq_2_7, pq_2_8, pq_2_9, pq_2_10, pq_2_11, pq_2_12, pq_2_13, pq_2_14, pq_2_15, pq_2_16, pq_2_17, pq_2_18, pq_2_19, pq_2_20, pq_2_21, pq_2_22, pq_2_23, pq_3_0, pq_3_1, pq_3_2, pq_3_3, pq_3_4, pq_3_5, pq_3_6, pq_3_7, pq_3_8, pq_3_9, pq_3_10, pq_3_11, pq_3_12, pq_3_13, pq_3_14, pq_3_15, pq_3_16, pq_3_17, pq_3_18, pq_3_19, pq_3_20, pq_3_21, pq_3_22, pq_3_23, pq_4_0, pq_4_1, pq_4_2, pq_4_3, pq_4_4, pq_4_5, pq_4_6, pq_4_7, pq_4_8, pq_4_9, pq_4_10, pq_4_11, pq_4_12, pq_4_13, pq_4_14, pq_4_15, pq_4_16, pq_4_17, pq_4_18, pq_4_19, pq_4_20, pq_4_21, pq_4_22, pq_4_23, pq_5_0, pq_5_1, pq_5_2, pq_5_3, pq_5_4, pq_5_5, pq_5_6, pq_5_7, pq_5_8, pq_5_9, pq_5_10, pq_5_11, pq_5_12, pq_5_13, pq_5_14, pq_5_15, pq_5_16, pq_5_17, pq_5_18, pq_5_19, pq_5_20, pq_5_21, pq_5_22, pq_5_23, pq_6_0, pq_6_1, pq_6_2, pq_6_3, pq_6_4, pq_6_5, pq_6_6, pq_6_7, pq_6_8, pq_6_9, pq_6_10, pq_6_11, pq_6_12, pq_6_13, pq_6_14, pq_6_15, pq_6_16, pq_6_17, pq_6_18, pq_6_19, pq_6_20, pq_6_21, pq_6_22, pq_6_23, pq_7_0, pq_7_1, pq_7_2, pq_7_3, pq_7_4, pq_7_5, pq_7_6, pq_7_7, pq_7_8, pq_7_9, pq_7_10, pq_7_11, pq_7_12, pq_7_13, pq_7_14, pq_7_15, pq_7_16, pq_7_17, pq_7_18, pq_7_19, pq_7_20, pq_7_21, pq_7_22, pq_7_23, pq_8_0, pq_8_1, pq_8_2, pq_8_3, pq_8_4, pq_8_5, pq_8_6, pq_8_7, pq_8_8, pq_8_9, pq_8_10, pq_8_11, pq_8_12, pq_8_13, pq_8_14, pq_8_15, pq_8_16, pq_8_17, pq_8_18, pq_8_19, pq_8_20, pq_8_21, pq_8_22, pq_8_23, pq_9_0, pq_9_1, pq_9_2, pq_9_3, pq_9_4, pq_9_5, pq_9_6, pq_9_7, pq_9_8, pq_9_9, pq_9_10, pq_9_11, pq_9_12, pq_9_13, pq_9_14, pq_9_15, pq_9_16, pq_9_17, pq_9_18, pq_9_19, pq_9_20, pq_9_21, pq_9_22, pq_9_23, pq_10_0, pq_10_1, pq_10_2, pq_10_3, pq_10_4, pq_10_5, pq_10_6, pq_10_7, pq_10_8, pq_10_9, pq_10_10, pq_10_11, pq_10_12, pq_10_13, pq_10_14, pq_10_15, pq_10_16, pq_10_17, pq_10_18, pq_12_0, pq_12_1, pq_12_2, pq_12_3, pq_13_0, pq_13_1, pq_13_2, pq_13_3, pq_13_4, pq_13_5, pq_13_6, pq_13_7, pq_13_8, pq_13_9, pq_13_10, pq_13_11, pq_13_12, pq_13_13, pq_14_0, pq_14_1, pq_14_2, pq_14_3, pq_15_0, pq_15_1, pq_16_0, pq_16_1, pq_16_2, pq_16_3] (by rfl) (by decide +kernel)) (goodIn_sub (fun _ h => List.mem_cons_of_mem _ (List.mem_append_right _ h)) (by decide +kernel))
set_option maxRecDepth 20000 in
theorem gL_drain_X6_drain : GoodIn wsL_drain (wsV RL 96 RX6 yX6_drain wsX6_drain) := goodIn_app (goodIn_s seL_drain _ [pq_1_1, pq_1_2, pq_1_3, pq_1_4] (by rfl) (by decide +kernel)) ggL_drain_X6_drain
def lb_sgL_drain : List (List UInt8) := [[44, 42, 27, 182, 0, 96, 181, 0, 51, 167, 0, 6, 78, 4, 172, 3], [172]]
set_option maxRecDepth 100000 in
theorem lb_seL_drain : cL_drain.data.toList = lb_sgL_drain.flatten := by decide +kernel
theorem lb_lnL_drain : ∀ s ∈ lb_sgL_drain.dropLast, s.length = 16 := by decide +kernel
theorem lxL_drain (k j : Nat) {b : UInt8} (h : (lb_sgL_drain[k]?).bind (fun s => s[j]?) = some b) : lb_at cL_drain (16 * k + j) b := by
  unfold lb_at
  rw [lb_seL_drain]
  exact lb_flat 16 lb_sgL_drain k j b lb_lnL_drain h
set_option maxRecDepth 20000 in
theorem dL_drain_0 : decode cL_drain 0 = .ok (.aload_n 2, 1) := dc_44 (lxL_drain 0 0 rfl)
set_option maxRecDepth 20000 in
theorem dL_drain_1 : decode cL_drain 1 = .ok (.aload_n 0, 1) := dc_42 (lxL_drain 0 1 rfl)
set_option maxRecDepth 20000 in
theorem dL_drain_2 : decode cL_drain 2 = .ok (.iload_n 1, 1) := dc_27 (lxL_drain 0 2 rfl)
set_option maxRecDepth 20000 in
theorem dL_drain_3 : decode cL_drain 3 = .ok (.invokevirtual 96, 3) := dc_182 0 96 (lxL_drain 0 3 rfl) (lxL_drain 0 4 rfl) (lxL_drain 0 5 rfl)
set_option maxRecDepth 20000 in
theorem dL_drain_6 : decode cL_drain 6 = .ok (.putfield 51, 3) := dc_181 0 51 (lxL_drain 0 6 rfl) (lxL_drain 0 7 rfl) (lxL_drain 0 8 rfl)
set_option maxRecDepth 20000 in
theorem dL_drain_9 : decode cL_drain 9 = .ok (.goto 6, 3) := dc_167 0 6 (lxL_drain 0 9 rfl) (lxL_drain 0 10 rfl) (lxL_drain 0 11 rfl)
set_option maxRecDepth 20000 in
theorem dL_drain_12 : decode cL_drain 12 = .ok (.astore_n 3, 1) := dc_78 (lxL_drain 0 12 rfl)
set_option maxRecDepth 20000 in
theorem dL_drain_13 : decode cL_drain 13 = .ok (.iconst 1, 1) := dc_4 (lxL_drain 0 13 rfl)
set_option maxRecDepth 20000 in
theorem dL_drain_14 : decode cL_drain 14 = .ok (.ireturn, 1) := dc_172 (lxL_drain 0 14 rfl)
set_option maxRecDepth 20000 in
theorem dL_drain_15 : decode cL_drain 15 = .ok (.iconst 0, 1) := dc_3 (lxL_drain 0 15 rfl)
set_option maxRecDepth 20000 in
theorem dL_drain_16 : decode cL_drain 16 = .ok (.ireturn, 1) := dc_172 (lxL_drain 1 0 rfl)
noncomputable def sgL_pump : List (List Cond) := [[.codeWith yL_pump cL_pump 6 (some .int) [(0, 12, 15, 19), (0, 12, 19, 21), (0, 12, 23, 85)]], wsL_pump_r1, wsL_pump_r2, wsL_pump_r3, wsL_pump_r4, wsL_pump_r5, wsL_pump_r6, wsL_pump_r7, wsL_pump_r8, wsL_pump_r9, wsL_pump_r10, wsL_pump_r11, wsL_pump_r12, wsX70, wsX60, wsX10, wsJ40, wsX20, wsX50, wsJ00, (vx_atS RX6 306 "java/lang/IndexOutOfBoundsException" ["java/lang/RuntimeException", "java/lang/Exception"]).filter goodWord, (vx_atS RX6 317 "java/lang/IllegalArgumentException" ["java/lang/RuntimeException", "java/lang/Exception"]).filter goodWord, (vx_atS RX6 327 "java/lang/IllegalStateException" ["java/lang/RuntimeException", "java/lang/Exception"]).filter goodWord]
theorem seL_pump : sgL_pump.flatten = wsL_pump := by simp only [sgL_pump, wsL_pump, List.flatten_cons, List.flatten_nil, List.append_assoc, List.append_nil, List.cons_append, List.nil_append]
set_option maxRecDepth 20000 in
theorem ggL_pump_X6_pump : GoodIn wsL_pump wsX6_pump := goodIn_ca (goodIn_ca (goodIn_ca (goodIn_s seL_pump _ [pq_1_7, pq_1_8, pq_1_9, pq_1_10, pq_1_11, pq_1_12, pq_1_13, pq_1_14, pq_1_15, pq_1_6, pq_1_16, pq_1_17, pq_1_18, pq_1_19, pq_1_20, pq_1_21, pq_1_22, pq_1_23, pq_2_0, pq_2_1, pq_2_2, pq_2_3, pq_2_4, pq_2_5, pq_2_6, pq_2_7, pq_2_8, pq_2_9, pq_2_10, pq_2_11, pq_2_12, pq_2_13, pq_2_14, pq_2_15, pq_2_16, pq_2_17, pq_2_18, pq_2_19, pq_2_20, pq_2_21, pq_2_22, pq_2_23, pq_3_0, pq_3_1, pq_3_2, pq_3_3, pq_3_4, pq_3_5, pq_3_6, pq_3_7, pq_3_8, pq_3_9, pq_3_10, pq_3_11, pq_3_12, pq_3_13, pq_3_14, pq_3_15, pq_3_16, pq_3_17, pq_3_18, pq_3_19, pq_3_20, pq_3_21, pq_3_22, pq_3_23, pq_4_0, pq_4_1, pq_4_2, pq_4_3, pq_4_4, pq_4_5, pq_4_6, pq_4_7, pq_4_8, pq_4_9, pq_4_10, pq_4_11, pq_4_12, pq_4_13, pq_4_14, pq_4_15, pq_4_16, pq_4_17, pq_4_18, pq_4_19, pq_4_20, pq_4_21, pq_4_22, pq_4_23, pq_5_0, pq_5_1, pq_5_2, pq_5_3, pq_5_4, pq_5_5, pq_5_6, pq_5_7, pq_5_8, pq_5_9, pq_5_10, pq_5_11, pq_5_12, pq_5_13, pq_5_14, pq_5_15, pq_5_16, pq_5_17, pq_5_18, pq_5_19, pq_5_20, pq_5_21, pq_5_22, pq_5_23, pq_6_0, pq_6_1, pq_6_2, pq_6_3, pq_6_4, pq_6_5, pq_6_6, pq_6_7, pq_6_8, pq_6_9, pq_6_10, pq_6_11, pq_6_12, pq_6_13, pq_6_14, pq_6_15, pq_6_16, pq_6_17, pq_6_18, pq_6_19, pq_6_20, pq_6_21, pq_6_22, pq_6_23, pq_7_0, pq_7_1, pq_7_2, pq_7_3, pq_7_4, pq_7_5, pq_7_6, pq_7_7, pq_7_8, pq_7_9, pq_7_10, pq_7_11, pq_7_12, pq_7_13, pq_7_14, pq_7_15, pq_7_16, pq_7_17, pq_7_18, pq_7_19, pq_7_20, pq_7_21, pq_7_22, pq_7_23, pq_8_0, pq_8_1, pq_8_2, pq_8_3, pq_8_4, pq_8_5, pq_8_6, pq_8_7, pq_8_8, pq_8_9, pq_8_10, pq_8_11, pq_8_12, pq_8_13, pq_8_14, pq_8_15, pq_8_16, pq_8_17, pq_8_18, pq_8_19, pq_8_20, pq_8_21, pq_8_22, pq_8_23, pq_9_0, pq_9_1, pq_9_2, pq_9_3, pq_9_4, pq_9_5, pq_9_6, pq_9_7, pq_9_8, pq_9_9, pq_9_10, pq_9_11, pq_9_12, pq_9_13, pq_9_14, pq_9_15, pq_9_16, pq_9_17, pq_9_18, pq_9_19, pq_9_20, pq_9_21, pq_9_22, pq_9_23, pq_10_0, pq_10_1, pq_10_2, pq_10_3, pq_10_4, pq_10_5, pq_10_6, pq_10_7, pq_10_8, pq_10_9, pq_10_10, pq_10_11, pq_10_12, pq_10_13, pq_10_14, pq_10_15, pq_10_16, pq_10_17, pq_10_18, pq_10_19, pq_10_20, pq_10_21, pq_10_22, pq_10_23, pq_11_0, pq_11_1, pq_11_2, pq_11_3, pq_11_4, pq_11_5, pq_11_6, pq_11_7, pq_11_8, pq_11_9, pq_11_10, pq_11_11, pq_11_12, pq_11_13, pq_11_14, pq_11_15, pq_11_16, pq_11_17, pq_11_18, pq_11_19, pq_11_20, pq_11_21, pq_11_22, pq_11_23, pq_12_0, pq_12_1, pq_12_2, pq_12_3, pq_12_4, pq_12_5, pq_12_6, pq_12_7, pq_12_8, pq_12_9, pq_12_10, pq_12_11, pq_12_12, pq_12_13, pq_12_14, pq_12_15, pq_12_16, pq_12_17, pq_12_18, pq_12_19, pq_12_20, pq_12_21, pq_12_22, pq_12_23, pq_14_0, pq_14_1, pq_14_2, pq_14_3, pq_14_4, pq_14_5, pq_14_6, pq_14_7, pq_14_8, pq_14_9, pq_14_10, pq_14_11, pq_14_12, pq_14_13, pq_15_0, pq_15_1, pq_15_2, pq_15_3, pq_16_0, pq_16_1, pq_16_2, pq_16_3, pq_17_0, pq_17_1, pq_18_0, pq_18_1, pq_18_2, pq_18_3, pq_18_4, pq_18_5, pq_19_0, pq_19_1, pq_19_2, pq_19_3] (by rfl) (by decide +kernel)) (goodIn_sub (fun _ h => List.mem_cons_of_mem _ (List.mem_append_left _ (List.mem_append_left _ (List.mem_append_right _ h)))) (by decide +kernel))) (goodIn_sub (fun _ h => List.mem_cons_of_mem _ (List.mem_append_left _ (List.mem_append_right _ h))) (by decide +kernel))) (goodIn_sub (fun _ h => List.mem_cons_of_mem _ (List.mem_append_right _ h)) (by decide +kernel))
set_option maxRecDepth 20000 in
theorem gL_pump_X6_pump : GoodIn wsL_pump (wsV RL 100 RX6 yX6_pump wsX6_pump) := goodIn_app (goodIn_s seL_pump _ [pq_1_3, pq_1_4, pq_1_5, pq_1_6] (by rfl) (by decide +kernel)) ggL_pump_X6_pump
def lb_sgL_pump : List (List UInt8) := [[25, 4, 42, 27, 28, 29, 182, 0, 100, 181, 0, 51, 167, 0, 15, 58], [5, 4, 172, 58, 5, 5, 172, 58, 5, 6, 172, 3, 172]]
set_option maxRecDepth 100000 in
theorem lb_seL_pump : cL_pump.data.toList = lb_sgL_pump.flatten := by decide +kernel
theorem lb_lnL_pump : ∀ s ∈ lb_sgL_pump.dropLast, s.length = 16 := by decide +kernel
theorem lxL_pump (k j : Nat) {b : UInt8} (h : (lb_sgL_pump[k]?).bind (fun s => s[j]?) = some b) : lb_at cL_pump (16 * k + j) b := by
  unfold lb_at
  rw [lb_seL_pump]
  exact lb_flat 16 lb_sgL_pump k j b lb_lnL_pump h
set_option maxRecDepth 20000 in
theorem dL_pump_0 : decode cL_pump 0 = .ok (.aload 4, 2) := dc_25 4 (lxL_pump 0 0 rfl) (lxL_pump 0 1 rfl)
set_option maxRecDepth 20000 in
theorem dL_pump_2 : decode cL_pump 2 = .ok (.aload_n 0, 1) := dc_42 (lxL_pump 0 2 rfl)
set_option maxRecDepth 20000 in
theorem dL_pump_3 : decode cL_pump 3 = .ok (.iload_n 1, 1) := dc_27 (lxL_pump 0 3 rfl)
set_option maxRecDepth 20000 in
theorem dL_pump_4 : decode cL_pump 4 = .ok (.iload_n 2, 1) := dc_28 (lxL_pump 0 4 rfl)
set_option maxRecDepth 20000 in
theorem dL_pump_5 : decode cL_pump 5 = .ok (.iload_n 3, 1) := dc_29 (lxL_pump 0 5 rfl)
set_option maxRecDepth 20000 in
theorem dL_pump_6 : decode cL_pump 6 = .ok (.invokevirtual 100, 3) := dc_182 0 100 (lxL_pump 0 6 rfl) (lxL_pump 0 7 rfl) (lxL_pump 0 8 rfl)
set_option maxRecDepth 20000 in
theorem dL_pump_9 : decode cL_pump 9 = .ok (.putfield 51, 3) := dc_181 0 51 (lxL_pump 0 9 rfl) (lxL_pump 0 10 rfl) (lxL_pump 0 11 rfl)
set_option maxRecDepth 20000 in
theorem dL_pump_12 : decode cL_pump 12 = .ok (.goto 15, 3) := dc_167 0 15 (lxL_pump 0 12 rfl) (lxL_pump 0 13 rfl) (lxL_pump 0 14 rfl)
set_option maxRecDepth 20000 in
theorem dL_pump_15 : decode cL_pump 15 = .ok (.astore 5, 2) := dc_58 5 (lxL_pump 0 15 rfl) (lxL_pump 1 0 rfl)
set_option maxRecDepth 20000 in
theorem dL_pump_17 : decode cL_pump 17 = .ok (.iconst 1, 1) := dc_4 (lxL_pump 1 1 rfl)
set_option maxRecDepth 20000 in
theorem dL_pump_18 : decode cL_pump 18 = .ok (.ireturn, 1) := dc_172 (lxL_pump 1 2 rfl)
set_option maxRecDepth 20000 in
theorem dL_pump_19 : decode cL_pump 19 = .ok (.astore 5, 2) := dc_58 5 (lxL_pump 1 3 rfl) (lxL_pump 1 4 rfl)
set_option maxRecDepth 20000 in
theorem dL_pump_21 : decode cL_pump 21 = .ok (.iconst 2, 1) := dc_5 (lxL_pump 1 5 rfl)
set_option maxRecDepth 20000 in
theorem dL_pump_22 : decode cL_pump 22 = .ok (.ireturn, 1) := dc_172 (lxL_pump 1 6 rfl)
set_option maxRecDepth 20000 in
theorem dL_pump_23 : decode cL_pump 23 = .ok (.astore 5, 2) := dc_58 5 (lxL_pump 1 7 rfl) (lxL_pump 1 8 rfl)
set_option maxRecDepth 20000 in
theorem dL_pump_25 : decode cL_pump 25 = .ok (.iconst 3, 1) := dc_6 (lxL_pump 1 9 rfl)
set_option maxRecDepth 20000 in
theorem dL_pump_26 : decode cL_pump 26 = .ok (.ireturn, 1) := dc_172 (lxL_pump 1 10 rfl)
set_option maxRecDepth 20000 in
theorem dL_pump_27 : decode cL_pump 27 = .ok (.iconst 0, 1) := dc_3 (lxL_pump 1 11 rfl)
set_option maxRecDepth 20000 in
theorem dL_pump_28 : decode cL_pump 28 = .ok (.ireturn, 1) := dc_172 (lxL_pump 1 12 rfl)
noncomputable def sgL_left : List (List Cond) := [[.codeWith yL_left cL_left 5 (some .int) [(0, 11, 14, 19), (0, 11, 18, 21)]], wsL_left_r1, wsL_left_r2, wsX70, wsX60, wsX50, (vx_atS RX6 306 "java/lang/IndexOutOfBoundsException" ["java/lang/RuntimeException", "java/lang/Exception"]).filter goodWord, (vx_atS RX6 317 "java/lang/IllegalArgumentException" ["java/lang/RuntimeException", "java/lang/Exception"]).filter goodWord]
theorem seL_left : sgL_left.flatten = wsL_left := by simp only [sgL_left, wsL_left, List.flatten_cons, List.flatten_nil, List.append_assoc, List.append_nil, List.cons_append, List.nil_append]
set_option maxRecDepth 20000 in
theorem ggL_left_X6_left : GoodIn wsL_left wsX6_left := goodIn_ca (goodIn_ca (goodIn_s seL_left _ [pq_1_6, pq_1_7, pq_1_8, pq_1_9, pq_1_5, pq_1_10, pq_1_11, pq_1_12, pq_1_13, pq_1_14, pq_1_15, pq_1_16, pq_1_17, pq_1_18, pq_1_19, pq_1_20, pq_1_21, pq_1_22, pq_1_23, pq_2_0, pq_2_1, pq_4_0, pq_4_1, pq_4_2, pq_4_3, pq_4_4, pq_4_5, pq_4_6, pq_4_7, pq_4_8, pq_4_9, pq_4_10, pq_4_11, pq_4_12, pq_4_13, pq_5_0, pq_5_1, pq_5_2, pq_5_3, pq_5_4, pq_5_5] (by rfl) (by decide +kernel)) (goodIn_sub (fun _ h => List.mem_cons_of_mem _ (List.mem_append_left _ (List.mem_append_right _ h))) (by decide +kernel))) (goodIn_sub (fun _ h => List.mem_cons_of_mem _ (List.mem_append_right _ h)) (by decide +kernel))
set_option maxRecDepth 20000 in
theorem gL_left_X6_left : GoodIn wsL_left (wsV RL 104 RX6 yX6_left wsX6_left) := goodIn_app (goodIn_s seL_left _ [pq_1_2, pq_1_3, pq_1_4, pq_1_5] (by rfl) (by decide +kernel)) ggL_left_X6_left
def lb_sgL_left : List (List UInt8) := [[45, 42, 27, 28, 182, 0, 104, 133, 181, 0, 13, 167, 0, 11, 58, 4], [4, 172, 58, 4, 5, 172, 3, 172]]
set_option maxRecDepth 100000 in
theorem lb_seL_left : cL_left.data.toList = lb_sgL_left.flatten := by decide +kernel
theorem lb_lnL_left : ∀ s ∈ lb_sgL_left.dropLast, s.length = 16 := by decide +kernel
theorem lxL_left (k j : Nat) {b : UInt8} (h : (lb_sgL_left[k]?).bind (fun s => s[j]?) = some b) : lb_at cL_left (16 * k + j) b := by
  unfold lb_at
  rw [lb_seL_left]
  exact lb_flat 16 lb_sgL_left k j b lb_lnL_left h
set_option maxRecDepth 20000 in
theorem dL_left_0 : decode cL_left 0 = .ok (.aload_n 3, 1) := dc_45 (lxL_left 0 0 rfl)
set_option maxRecDepth 20000 in
theorem dL_left_1 : decode cL_left 1 = .ok (.aload_n 0, 1) := dc_42 (lxL_left 0 1 rfl)
set_option maxRecDepth 20000 in
theorem dL_left_2 : decode cL_left 2 = .ok (.iload_n 1, 1) := dc_27 (lxL_left 0 2 rfl)
set_option maxRecDepth 20000 in
theorem dL_left_3 : decode cL_left 3 = .ok (.iload_n 2, 1) := dc_28 (lxL_left 0 3 rfl)
set_option maxRecDepth 20000 in
theorem dL_left_4 : decode cL_left 4 = .ok (.invokevirtual 104, 3) := dc_182 0 104 (lxL_left 0 4 rfl) (lxL_left 0 5 rfl) (lxL_left 0 6 rfl)
set_option maxRecDepth 20000 in
theorem dL_left_7 : decode cL_left 7 = .ok (.i2l, 1) := dc_133 (lxL_left 0 7 rfl)
set_option maxRecDepth 20000 in
theorem dL_left_8 : decode cL_left 8 = .ok (.putfield 13, 3) := dc_181 0 13 (lxL_left 0 8 rfl) (lxL_left 0 9 rfl) (lxL_left 0 10 rfl)
set_option maxRecDepth 20000 in
theorem dL_left_11 : decode cL_left 11 = .ok (.goto 11, 3) := dc_167 0 11 (lxL_left 0 11 rfl) (lxL_left 0 12 rfl) (lxL_left 0 13 rfl)
set_option maxRecDepth 20000 in
theorem dL_left_14 : decode cL_left 14 = .ok (.astore 4, 2) := dc_58 4 (lxL_left 0 14 rfl) (lxL_left 0 15 rfl)
set_option maxRecDepth 20000 in
theorem dL_left_16 : decode cL_left 16 = .ok (.iconst 1, 1) := dc_4 (lxL_left 1 0 rfl)
set_option maxRecDepth 20000 in
theorem dL_left_17 : decode cL_left 17 = .ok (.ireturn, 1) := dc_172 (lxL_left 1 1 rfl)
set_option maxRecDepth 20000 in
theorem dL_left_18 : decode cL_left 18 = .ok (.astore 4, 2) := dc_58 4 (lxL_left 1 2 rfl) (lxL_left 1 3 rfl)
set_option maxRecDepth 20000 in
theorem dL_left_20 : decode cL_left 20 = .ok (.iconst 2, 1) := dc_5 (lxL_left 1 4 rfl)
set_option maxRecDepth 20000 in
theorem dL_left_21 : decode cL_left 21 = .ok (.ireturn, 1) := dc_172 (lxL_left 1 5 rfl)
set_option maxRecDepth 20000 in
theorem dL_left_22 : decode cL_left 22 = .ok (.iconst 0, 1) := dc_3 (lxL_left 1 6 rfl)
set_option maxRecDepth 20000 in
theorem dL_left_23 : decode cL_left 23 = .ok (.ireturn, 1) := dc_172 (lxL_left 1 7 rfl)
noncomputable def sgL_position : List (List Cond) := [[.codeWith yL_position cL_position 4 (some .int) [(0, 10, 13, 19)]], [.classLink RL 19 "java/lang/IndexOutOfBoundsException", .methodLink RL 107 yX6_position, .instanceMethod yX6_position, .selects RX6 yX6_position yX6_position, .initialized RX6, .code yX6_position cX6_position 2 (some .int), .methodLink RX6 62 yX6_windowOf, .instanceMethod yX6_windowOf, .selects RX6 yX6_windowOf yX6_windowOf, .code yX6_windowOf cX6_windowOf 2 (some (.object "Sashwords$Window")), .classLink RX6 302 "java/lang/IndexOutOfBoundsException", .initialized "java/lang/IndexOutOfBoundsException", .fieldLink RX6 11 "Sashwords" "windows" "[LSashwords$Window;"], wsX70, wsX50, wsX60, (vx_atS RX6 306 "java/lang/IndexOutOfBoundsException" ["java/lang/RuntimeException", "java/lang/Exception"]).filter goodWord]
theorem seL_position : sgL_position.flatten = wsL_position := by simp only [sgL_position, wsL_position, List.flatten_cons, List.flatten_nil, List.append_assoc, List.append_nil, List.cons_append, List.nil_append]
set_option maxRecDepth 20000 in
theorem ggL_position_X6_position : GoodIn wsL_position wsX6_position := goodIn_ca (goodIn_s seL_position _ [pq_1_5, pq_1_6, pq_1_7, pq_1_8, pq_1_4, pq_1_9, pq_1_10, pq_1_11, pq_1_12, pq_3_0, pq_3_1, pq_3_2, pq_3_3, pq_3_4, pq_3_5, pq_4_0, pq_4_1, pq_4_2, pq_4_3, pq_4_4, pq_4_5, pq_4_6, pq_4_7, pq_4_8, pq_4_9, pq_4_10, pq_4_11, pq_4_12, pq_4_13] (by rfl) (by decide +kernel)) (goodIn_sub (fun _ h => List.mem_cons_of_mem _ (List.mem_append_right _ h)) (by decide +kernel))
set_option maxRecDepth 20000 in
theorem gL_position_X6_position : GoodIn wsL_position (wsV RL 107 RX6 yX6_position wsX6_position) := goodIn_app (goodIn_s seL_position _ [pq_1_1, pq_1_2, pq_1_3, pq_1_4] (by rfl) (by decide +kernel)) ggL_position_X6_position
def lb_sgL_position : List (List UInt8) := [[44, 42, 27, 182, 0, 107, 133, 181, 0, 13, 167, 0, 6, 78, 4, 172], [3, 172]]
set_option maxRecDepth 100000 in
theorem lb_seL_position : cL_position.data.toList = lb_sgL_position.flatten := by decide +kernel
theorem lb_lnL_position : ∀ s ∈ lb_sgL_position.dropLast, s.length = 16 := by decide +kernel
theorem lxL_position (k j : Nat) {b : UInt8} (h : (lb_sgL_position[k]?).bind (fun s => s[j]?) = some b) : lb_at cL_position (16 * k + j) b := by
  unfold lb_at
  rw [lb_seL_position]
  exact lb_flat 16 lb_sgL_position k j b lb_lnL_position h
set_option maxRecDepth 20000 in
theorem dL_position_0 : decode cL_position 0 = .ok (.aload_n 2, 1) := dc_44 (lxL_position 0 0 rfl)
set_option maxRecDepth 20000 in
theorem dL_position_1 : decode cL_position 1 = .ok (.aload_n 0, 1) := dc_42 (lxL_position 0 1 rfl)
set_option maxRecDepth 20000 in
theorem dL_position_2 : decode cL_position 2 = .ok (.iload_n 1, 1) := dc_27 (lxL_position 0 2 rfl)
set_option maxRecDepth 20000 in
theorem dL_position_3 : decode cL_position 3 = .ok (.invokevirtual 107, 3) := dc_182 0 107 (lxL_position 0 3 rfl) (lxL_position 0 4 rfl) (lxL_position 0 5 rfl)
set_option maxRecDepth 20000 in
theorem dL_position_6 : decode cL_position 6 = .ok (.i2l, 1) := dc_133 (lxL_position 0 6 rfl)
set_option maxRecDepth 20000 in
theorem dL_position_7 : decode cL_position 7 = .ok (.putfield 13, 3) := dc_181 0 13 (lxL_position 0 7 rfl) (lxL_position 0 8 rfl) (lxL_position 0 9 rfl)
set_option maxRecDepth 20000 in
theorem dL_position_10 : decode cL_position 10 = .ok (.goto 6, 3) := dc_167 0 6 (lxL_position 0 10 rfl) (lxL_position 0 11 rfl) (lxL_position 0 12 rfl)
set_option maxRecDepth 20000 in
theorem dL_position_13 : decode cL_position 13 = .ok (.astore_n 3, 1) := dc_78 (lxL_position 0 13 rfl)
set_option maxRecDepth 20000 in
theorem dL_position_14 : decode cL_position 14 = .ok (.iconst 1, 1) := dc_4 (lxL_position 0 14 rfl)
set_option maxRecDepth 20000 in
theorem dL_position_15 : decode cL_position 15 = .ok (.ireturn, 1) := dc_172 (lxL_position 0 15 rfl)
set_option maxRecDepth 20000 in
theorem dL_position_16 : decode cL_position 16 = .ok (.iconst 0, 1) := dc_3 (lxL_position 1 0 rfl)
set_option maxRecDepth 20000 in
theorem dL_position_17 : decode cL_position 17 = .ok (.ireturn, 1) := dc_172 (lxL_position 1 1 rfl)
noncomputable def sgL_limit : List (List Cond) := [[.codeWith yL_limit cL_limit 4 (some .int) [(0, 10, 13, 19)]], [.classLink RL 19 "java/lang/IndexOutOfBoundsException", .methodLink RL 110 yX6_limit, .instanceMethod yX6_limit, .selects RX6 yX6_limit yX6_limit, .initialized RX6, .code yX6_limit cX6_limit 2 (some .int), .methodLink RX6 62 yX6_windowOf, .instanceMethod yX6_windowOf, .selects RX6 yX6_windowOf yX6_windowOf, .code yX6_windowOf cX6_windowOf 2 (some (.object "Sashwords$Window")), .classLink RX6 302 "java/lang/IndexOutOfBoundsException", .initialized "java/lang/IndexOutOfBoundsException", .fieldLink RX6 11 "Sashwords" "windows" "[LSashwords$Window;"], wsX70, wsX50, wsX60, (vx_atS RX6 306 "java/lang/IndexOutOfBoundsException" ["java/lang/RuntimeException", "java/lang/Exception"]).filter goodWord]
theorem seL_limit : sgL_limit.flatten = wsL_limit := by simp only [sgL_limit, wsL_limit, List.flatten_cons, List.flatten_nil, List.append_assoc, List.append_nil, List.cons_append, List.nil_append]
set_option maxRecDepth 20000 in
theorem ggL_limit_X6_limit : GoodIn wsL_limit wsX6_limit := goodIn_ca (goodIn_s seL_limit _ [pq_1_5, pq_1_6, pq_1_7, pq_1_8, pq_1_4, pq_1_9, pq_1_10, pq_1_11, pq_1_12, pq_3_0, pq_3_1, pq_3_2, pq_3_3, pq_3_4, pq_3_5, pq_4_0, pq_4_1, pq_4_2, pq_4_3, pq_4_4, pq_4_5, pq_4_6, pq_4_7, pq_4_8, pq_4_9, pq_4_10, pq_4_11, pq_4_12, pq_4_13] (by rfl) (by decide +kernel)) (goodIn_sub (fun _ h => List.mem_cons_of_mem _ (List.mem_append_right _ h)) (by decide +kernel))
set_option maxRecDepth 20000 in
theorem gL_limit_X6_limit : GoodIn wsL_limit (wsV RL 110 RX6 yX6_limit wsX6_limit) := goodIn_app (goodIn_s seL_limit _ [pq_1_1, pq_1_2, pq_1_3, pq_1_4] (by rfl) (by decide +kernel)) ggL_limit_X6_limit
def lb_sgL_limit : List (List UInt8) := [[44, 42, 27, 182, 0, 110, 133, 181, 0, 13, 167, 0, 6, 78, 4, 172], [3, 172]]
set_option maxRecDepth 100000 in
theorem lb_seL_limit : cL_limit.data.toList = lb_sgL_limit.flatten := by decide +kernel
theorem lb_lnL_limit : ∀ s ∈ lb_sgL_limit.dropLast, s.length = 16 := by decide +kernel
theorem lxL_limit (k j : Nat) {b : UInt8} (h : (lb_sgL_limit[k]?).bind (fun s => s[j]?) = some b) : lb_at cL_limit (16 * k + j) b := by
  unfold lb_at
  rw [lb_seL_limit]
  exact lb_flat 16 lb_sgL_limit k j b lb_lnL_limit h
set_option maxRecDepth 20000 in
theorem dL_limit_0 : decode cL_limit 0 = .ok (.aload_n 2, 1) := dc_44 (lxL_limit 0 0 rfl)
set_option maxRecDepth 20000 in
theorem dL_limit_1 : decode cL_limit 1 = .ok (.aload_n 0, 1) := dc_42 (lxL_limit 0 1 rfl)
set_option maxRecDepth 20000 in
theorem dL_limit_2 : decode cL_limit 2 = .ok (.iload_n 1, 1) := dc_27 (lxL_limit 0 2 rfl)
set_option maxRecDepth 20000 in
theorem dL_limit_3 : decode cL_limit 3 = .ok (.invokevirtual 110, 3) := dc_182 0 110 (lxL_limit 0 3 rfl) (lxL_limit 0 4 rfl) (lxL_limit 0 5 rfl)
set_option maxRecDepth 20000 in
theorem dL_limit_6 : decode cL_limit 6 = .ok (.i2l, 1) := dc_133 (lxL_limit 0 6 rfl)
set_option maxRecDepth 20000 in
theorem dL_limit_7 : decode cL_limit 7 = .ok (.putfield 13, 3) := dc_181 0 13 (lxL_limit 0 7 rfl) (lxL_limit 0 8 rfl) (lxL_limit 0 9 rfl)
set_option maxRecDepth 20000 in
theorem dL_limit_10 : decode cL_limit 10 = .ok (.goto 6, 3) := dc_167 0 6 (lxL_limit 0 10 rfl) (lxL_limit 0 11 rfl) (lxL_limit 0 12 rfl)
set_option maxRecDepth 20000 in
theorem dL_limit_13 : decode cL_limit 13 = .ok (.astore_n 3, 1) := dc_78 (lxL_limit 0 13 rfl)
set_option maxRecDepth 20000 in
theorem dL_limit_14 : decode cL_limit 14 = .ok (.iconst 1, 1) := dc_4 (lxL_limit 0 14 rfl)
set_option maxRecDepth 20000 in
theorem dL_limit_15 : decode cL_limit 15 = .ok (.ireturn, 1) := dc_172 (lxL_limit 0 15 rfl)
set_option maxRecDepth 20000 in
theorem dL_limit_16 : decode cL_limit 16 = .ok (.iconst 0, 1) := dc_3 (lxL_limit 1 0 rfl)
set_option maxRecDepth 20000 in
theorem dL_limit_17 : decode cL_limit 17 = .ok (.ireturn, 1) := dc_172 (lxL_limit 1 1 rfl)
noncomputable def sgL_capacity : List (List Cond) := [[.codeWith yL_capacity cL_capacity 4 (some .int) [(0, 10, 13, 19)]], [.classLink RL 19 "java/lang/IndexOutOfBoundsException", .methodLink RL 113 yX6_capacity, .instanceMethod yX6_capacity, .selects RX6 yX6_capacity yX6_capacity, .initialized RX6, .code yX6_capacity cX6_capacity 2 (some .int), .methodLink RX6 62 yX6_windowOf, .instanceMethod yX6_windowOf, .selects RX6 yX6_windowOf yX6_windowOf, .code yX6_windowOf cX6_windowOf 2 (some (.object "Sashwords$Window")), .classLink RX6 302 "java/lang/IndexOutOfBoundsException", .initialized "java/lang/IndexOutOfBoundsException", .fieldLink RX6 11 "Sashwords" "windows" "[LSashwords$Window;"], wsX70, wsX50, wsX60, (vx_atS RX6 306 "java/lang/IndexOutOfBoundsException" ["java/lang/RuntimeException", "java/lang/Exception"]).filter goodWord]
theorem seL_capacity : sgL_capacity.flatten = wsL_capacity := by simp only [sgL_capacity, wsL_capacity, List.flatten_cons, List.flatten_nil, List.append_assoc, List.append_nil, List.cons_append, List.nil_append]
set_option maxRecDepth 20000 in
theorem ggL_capacity_X6_capacity : GoodIn wsL_capacity wsX6_capacity := goodIn_ca (goodIn_s seL_capacity _ [pq_1_5, pq_1_6, pq_1_7, pq_1_8, pq_1_4, pq_1_9, pq_1_10, pq_1_11, pq_1_12, pq_3_0, pq_3_1, pq_3_2, pq_3_3, pq_3_4, pq_3_5, pq_4_0, pq_4_1, pq_4_2, pq_4_3, pq_4_4, pq_4_5, pq_4_6, pq_4_7, pq_4_8, pq_4_9, pq_4_10, pq_4_11, pq_4_12, pq_4_13] (by rfl) (by decide +kernel)) (goodIn_sub (fun _ h => List.mem_cons_of_mem _ (List.mem_append_right _ h)) (by decide +kernel))
set_option maxRecDepth 20000 in
theorem gL_capacity_X6_capacity : GoodIn wsL_capacity (wsV RL 113 RX6 yX6_capacity wsX6_capacity) := goodIn_app (goodIn_s seL_capacity _ [pq_1_1, pq_1_2, pq_1_3, pq_1_4] (by rfl) (by decide +kernel)) ggL_capacity_X6_capacity
def lb_sgL_capacity : List (List UInt8) := [[44, 42, 27, 182, 0, 113, 133, 181, 0, 13, 167, 0, 6, 78, 4, 172], [3, 172]]
set_option maxRecDepth 100000 in
theorem lb_seL_capacity : cL_capacity.data.toList = lb_sgL_capacity.flatten := by decide +kernel
theorem lb_lnL_capacity : ∀ s ∈ lb_sgL_capacity.dropLast, s.length = 16 := by decide +kernel
theorem lxL_capacity (k j : Nat) {b : UInt8} (h : (lb_sgL_capacity[k]?).bind (fun s => s[j]?) = some b) : lb_at cL_capacity (16 * k + j) b := by
  unfold lb_at
  rw [lb_seL_capacity]
  exact lb_flat 16 lb_sgL_capacity k j b lb_lnL_capacity h
set_option maxRecDepth 20000 in
theorem dL_capacity_0 : decode cL_capacity 0 = .ok (.aload_n 2, 1) := dc_44 (lxL_capacity 0 0 rfl)
set_option maxRecDepth 20000 in
theorem dL_capacity_1 : decode cL_capacity 1 = .ok (.aload_n 0, 1) := dc_42 (lxL_capacity 0 1 rfl)
set_option maxRecDepth 20000 in
theorem dL_capacity_2 : decode cL_capacity 2 = .ok (.iload_n 1, 1) := dc_27 (lxL_capacity 0 2 rfl)
set_option maxRecDepth 20000 in
theorem dL_capacity_3 : decode cL_capacity 3 = .ok (.invokevirtual 113, 3) := dc_182 0 113 (lxL_capacity 0 3 rfl) (lxL_capacity 0 4 rfl) (lxL_capacity 0 5 rfl)
set_option maxRecDepth 20000 in
theorem dL_capacity_6 : decode cL_capacity 6 = .ok (.i2l, 1) := dc_133 (lxL_capacity 0 6 rfl)
set_option maxRecDepth 20000 in
theorem dL_capacity_7 : decode cL_capacity 7 = .ok (.putfield 13, 3) := dc_181 0 13 (lxL_capacity 0 7 rfl) (lxL_capacity 0 8 rfl) (lxL_capacity 0 9 rfl)
set_option maxRecDepth 20000 in
theorem dL_capacity_10 : decode cL_capacity 10 = .ok (.goto 6, 3) := dc_167 0 6 (lxL_capacity 0 10 rfl) (lxL_capacity 0 11 rfl) (lxL_capacity 0 12 rfl)
set_option maxRecDepth 20000 in
theorem dL_capacity_13 : decode cL_capacity 13 = .ok (.astore_n 3, 1) := dc_78 (lxL_capacity 0 13 rfl)
set_option maxRecDepth 20000 in
theorem dL_capacity_14 : decode cL_capacity 14 = .ok (.iconst 1, 1) := dc_4 (lxL_capacity 0 14 rfl)
set_option maxRecDepth 20000 in
theorem dL_capacity_15 : decode cL_capacity 15 = .ok (.ireturn, 1) := dc_172 (lxL_capacity 0 15 rfl)
set_option maxRecDepth 20000 in
theorem dL_capacity_16 : decode cL_capacity 16 = .ok (.iconst 0, 1) := dc_3 (lxL_capacity 1 0 rfl)
set_option maxRecDepth 20000 in
theorem dL_capacity_17 : decode cL_capacity 17 = .ok (.ireturn, 1) := dc_172 (lxL_capacity 1 1 rfl)
noncomputable def sgL_marked : List (List Cond) := [[.codeWith yL_marked cL_marked 4 (some .int) [(0, 10, 13, 19)]], [.classLink RL 19 "java/lang/IndexOutOfBoundsException", .methodLink RL 116 yX6_marked, .instanceMethod yX6_marked, .selects RX6 yX6_marked yX6_marked, .initialized RX6, .code yX6_marked cX6_marked 2 (some .int), .methodLink RX6 62 yX6_windowOf, .instanceMethod yX6_windowOf, .selects RX6 yX6_windowOf yX6_windowOf, .code yX6_windowOf cX6_windowOf 2 (some (.object "Sashwords$Window")), .classLink RX6 302 "java/lang/IndexOutOfBoundsException", .initialized "java/lang/IndexOutOfBoundsException", .fieldLink RX6 11 "Sashwords" "windows" "[LSashwords$Window;"], wsX70, wsX50, wsX60, (vx_atS RX6 306 "java/lang/IndexOutOfBoundsException" ["java/lang/RuntimeException", "java/lang/Exception"]).filter goodWord]
theorem seL_marked : sgL_marked.flatten = wsL_marked := by simp only [sgL_marked, wsL_marked, List.flatten_cons, List.flatten_nil, List.append_assoc, List.append_nil, List.cons_append, List.nil_append]
set_option maxRecDepth 20000 in
theorem ggL_marked_X6_marked : GoodIn wsL_marked wsX6_marked := goodIn_ca (goodIn_s seL_marked _ [pq_1_5, pq_1_6, pq_1_7, pq_1_8, pq_1_4, pq_1_9, pq_1_10, pq_1_11, pq_1_12, pq_3_0, pq_3_1, pq_3_2, pq_3_3, pq_3_4, pq_3_5, pq_4_0, pq_4_1, pq_4_2, pq_4_3, pq_4_4, pq_4_5, pq_4_6, pq_4_7, pq_4_8, pq_4_9, pq_4_10, pq_4_11, pq_4_12, pq_4_13] (by rfl) (by decide +kernel)) (goodIn_sub (fun _ h => List.mem_cons_of_mem _ (List.mem_append_right _ h)) (by decide +kernel))
set_option maxRecDepth 20000 in
theorem gL_marked_X6_marked : GoodIn wsL_marked (wsV RL 116 RX6 yX6_marked wsX6_marked) := goodIn_app (goodIn_s seL_marked _ [pq_1_1, pq_1_2, pq_1_3, pq_1_4] (by rfl) (by decide +kernel)) ggL_marked_X6_marked
def lb_sgL_marked : List (List UInt8) := [[44, 42, 27, 182, 0, 116, 133, 181, 0, 13, 167, 0, 6, 78, 4, 172], [3, 172]]
set_option maxRecDepth 100000 in
theorem lb_seL_marked : cL_marked.data.toList = lb_sgL_marked.flatten := by decide +kernel
theorem lb_lnL_marked : ∀ s ∈ lb_sgL_marked.dropLast, s.length = 16 := by decide +kernel
theorem lxL_marked (k j : Nat) {b : UInt8} (h : (lb_sgL_marked[k]?).bind (fun s => s[j]?) = some b) : lb_at cL_marked (16 * k + j) b := by
  unfold lb_at
  rw [lb_seL_marked]
  exact lb_flat 16 lb_sgL_marked k j b lb_lnL_marked h
set_option maxRecDepth 20000 in
theorem dL_marked_0 : decode cL_marked 0 = .ok (.aload_n 2, 1) := dc_44 (lxL_marked 0 0 rfl)
set_option maxRecDepth 20000 in
theorem dL_marked_1 : decode cL_marked 1 = .ok (.aload_n 0, 1) := dc_42 (lxL_marked 0 1 rfl)
set_option maxRecDepth 20000 in
theorem dL_marked_2 : decode cL_marked 2 = .ok (.iload_n 1, 1) := dc_27 (lxL_marked 0 2 rfl)
set_option maxRecDepth 20000 in
theorem dL_marked_3 : decode cL_marked 3 = .ok (.invokevirtual 116, 3) := dc_182 0 116 (lxL_marked 0 3 rfl) (lxL_marked 0 4 rfl) (lxL_marked 0 5 rfl)
set_option maxRecDepth 20000 in
theorem dL_marked_6 : decode cL_marked 6 = .ok (.i2l, 1) := dc_133 (lxL_marked 0 6 rfl)
set_option maxRecDepth 20000 in
theorem dL_marked_7 : decode cL_marked 7 = .ok (.putfield 13, 3) := dc_181 0 13 (lxL_marked 0 7 rfl) (lxL_marked 0 8 rfl) (lxL_marked 0 9 rfl)
set_option maxRecDepth 20000 in
theorem dL_marked_10 : decode cL_marked 10 = .ok (.goto 6, 3) := dc_167 0 6 (lxL_marked 0 10 rfl) (lxL_marked 0 11 rfl) (lxL_marked 0 12 rfl)
set_option maxRecDepth 20000 in
theorem dL_marked_13 : decode cL_marked 13 = .ok (.astore_n 3, 1) := dc_78 (lxL_marked 0 13 rfl)
set_option maxRecDepth 20000 in
theorem dL_marked_14 : decode cL_marked 14 = .ok (.iconst 1, 1) := dc_4 (lxL_marked 0 14 rfl)
set_option maxRecDepth 20000 in
theorem dL_marked_15 : decode cL_marked 15 = .ok (.ireturn, 1) := dc_172 (lxL_marked 0 15 rfl)
set_option maxRecDepth 20000 in
theorem dL_marked_16 : decode cL_marked 16 = .ok (.iconst 0, 1) := dc_3 (lxL_marked 1 0 rfl)
set_option maxRecDepth 20000 in
theorem dL_marked_17 : decode cL_marked 17 = .ok (.ireturn, 1) := dc_172 (lxL_marked 1 1 rfl)
noncomputable def sgL_sign : List (List Cond) := [[.codeWith yL_sign cL_sign 5 (some .int) [(0, 11, 14, 19)]], wsL_sign_r1, wsL_sign_r2, wsX70, wsX60, wsX50, (vx_atS RX6 306 "java/lang/IndexOutOfBoundsException" ["java/lang/RuntimeException", "java/lang/Exception"]).filter goodWord]
theorem seL_sign : sgL_sign.flatten = wsL_sign := by simp only [sgL_sign, wsL_sign, List.flatten_cons, List.flatten_nil, List.append_assoc, List.append_nil, List.cons_append, List.nil_append]
set_option maxRecDepth 20000 in
theorem ggL_sign_X6_sign : GoodIn wsL_sign wsX6_sign := goodIn_ca (goodIn_s seL_sign _ [pq_1_5, pq_1_6, pq_1_7, pq_1_8, pq_1_4, pq_1_9, pq_1_10, pq_1_11, pq_1_12, pq_1_13, pq_1_14, pq_1_15, pq_1_16, pq_1_17, pq_1_18, pq_1_19, pq_1_20, pq_1_21, pq_1_22, pq_1_23, pq_2_0, pq_2_1, pq_4_0, pq_4_1, pq_4_2, pq_4_3, pq_4_4, pq_4_5, pq_4_6, pq_4_7, pq_4_8, pq_4_9, pq_4_10, pq_4_11, pq_4_12, pq_4_13, pq_5_0, pq_5_1, pq_5_2, pq_5_3, pq_5_4, pq_5_5] (by rfl) (by decide +kernel)) (goodIn_sub (fun _ h => List.mem_cons_of_mem _ (List.mem_append_right _ h)) (by decide +kernel))
set_option maxRecDepth 20000 in
theorem gL_sign_X6_sign : GoodIn wsL_sign (wsV RL 119 RX6 yX6_sign wsX6_sign) := goodIn_app (goodIn_s seL_sign _ [pq_1_1, pq_1_2, pq_1_3, pq_1_4] (by rfl) (by decide +kernel)) ggL_sign_X6_sign
def lb_sgL_sign : List (List UInt8) := [[45, 42, 27, 28, 182, 0, 119, 133, 181, 0, 13, 167, 0, 7, 58, 4], [4, 172, 3, 172]]
set_option maxRecDepth 100000 in
theorem lb_seL_sign : cL_sign.data.toList = lb_sgL_sign.flatten := by decide +kernel
theorem lb_lnL_sign : ∀ s ∈ lb_sgL_sign.dropLast, s.length = 16 := by decide +kernel
theorem lxL_sign (k j : Nat) {b : UInt8} (h : (lb_sgL_sign[k]?).bind (fun s => s[j]?) = some b) : lb_at cL_sign (16 * k + j) b := by
  unfold lb_at
  rw [lb_seL_sign]
  exact lb_flat 16 lb_sgL_sign k j b lb_lnL_sign h
set_option maxRecDepth 20000 in
theorem dL_sign_0 : decode cL_sign 0 = .ok (.aload_n 3, 1) := dc_45 (lxL_sign 0 0 rfl)
set_option maxRecDepth 20000 in
theorem dL_sign_1 : decode cL_sign 1 = .ok (.aload_n 0, 1) := dc_42 (lxL_sign 0 1 rfl)
set_option maxRecDepth 20000 in
theorem dL_sign_2 : decode cL_sign 2 = .ok (.iload_n 1, 1) := dc_27 (lxL_sign 0 2 rfl)
set_option maxRecDepth 20000 in
theorem dL_sign_3 : decode cL_sign 3 = .ok (.iload_n 2, 1) := dc_28 (lxL_sign 0 3 rfl)
set_option maxRecDepth 20000 in
theorem dL_sign_4 : decode cL_sign 4 = .ok (.invokevirtual 119, 3) := dc_182 0 119 (lxL_sign 0 4 rfl) (lxL_sign 0 5 rfl) (lxL_sign 0 6 rfl)
set_option maxRecDepth 20000 in
theorem dL_sign_7 : decode cL_sign 7 = .ok (.i2l, 1) := dc_133 (lxL_sign 0 7 rfl)
set_option maxRecDepth 20000 in
theorem dL_sign_8 : decode cL_sign 8 = .ok (.putfield 13, 3) := dc_181 0 13 (lxL_sign 0 8 rfl) (lxL_sign 0 9 rfl) (lxL_sign 0 10 rfl)
set_option maxRecDepth 20000 in
theorem dL_sign_11 : decode cL_sign 11 = .ok (.goto 7, 3) := dc_167 0 7 (lxL_sign 0 11 rfl) (lxL_sign 0 12 rfl) (lxL_sign 0 13 rfl)
set_option maxRecDepth 20000 in
theorem dL_sign_14 : decode cL_sign 14 = .ok (.astore 4, 2) := dc_58 4 (lxL_sign 0 14 rfl) (lxL_sign 0 15 rfl)
set_option maxRecDepth 20000 in
theorem dL_sign_16 : decode cL_sign 16 = .ok (.iconst 1, 1) := dc_4 (lxL_sign 1 0 rfl)
set_option maxRecDepth 20000 in
theorem dL_sign_17 : decode cL_sign 17 = .ok (.ireturn, 1) := dc_172 (lxL_sign 1 1 rfl)
set_option maxRecDepth 20000 in
theorem dL_sign_18 : decode cL_sign 18 = .ok (.iconst 0, 1) := dc_3 (lxL_sign 1 2 rfl)
set_option maxRecDepth 20000 in
theorem dL_sign_19 : decode cL_sign 19 = .ok (.ireturn, 1) := dc_172 (lxL_sign 1 3 rfl)
noncomputable def sgL_look : List (List Cond) := [[.codeWith yL_look cL_look 5 (some .int) [(0, 11, 14, 19)]], [.classLink RL 19 "java/lang/IndexOutOfBoundsException", .methodLink RL 122 yX6_look, .instanceMethod yX6_look, .selects RX6 yX6_look yX6_look, .initialized RX6, .code yX6_look cX6_look 3 (some .int), .methodLink RX6 62 yX6_windowOf, .instanceMethod yX6_windowOf, .selects RX6 yX6_windowOf yX6_windowOf, .code yX6_windowOf cX6_windowOf 2 (some (.object "Sashwords$Window")), .classLink RX6 302 "java/lang/IndexOutOfBoundsException", .initialized "java/lang/IndexOutOfBoundsException", .fieldLink RX6 11 "Sashwords" "windows" "[LSashwords$Window;", .methodLink RX6 209 yX5_atPlace, .instanceMethod yX5_atPlace, .selects RX5 yX5_atPlace yX5_atPlace, .initialized RX5, .code yX5_atPlace cX5_atPlace 3 (some .int), .fieldLink RX5 25 "Sashwords$Window" "limit" "I", .fieldLink RX5 38 "Sashwords$Window" "start" "I", .fieldLink RX5 15 "Sashwords$Window" "row" "[C"], wsX70, wsX60, wsX50, (vx_atS RX6 306 "java/lang/IndexOutOfBoundsException" ["java/lang/RuntimeException", "java/lang/Exception"]).filter goodWord]
theorem seL_look : sgL_look.flatten = wsL_look := by simp only [sgL_look, wsL_look, List.flatten_cons, List.flatten_nil, List.append_assoc, List.append_nil, List.cons_append, List.nil_append]
set_option maxRecDepth 20000 in
theorem ggL_look_X6_look : GoodIn wsL_look wsX6_look := goodIn_ca (goodIn_s seL_look _ [pq_1_5, pq_1_6, pq_1_7, pq_1_8, pq_1_4, pq_1_9, pq_1_10, pq_1_11, pq_1_12, pq_1_13, pq_1_14, pq_1_15, pq_1_16, pq_1_17, pq_1_18, pq_1_19, pq_1_20, pq_3_0, pq_3_1, pq_3_2, pq_3_3, pq_3_4, pq_3_5, pq_3_6, pq_3_7, pq_3_8, pq_3_9, pq_3_10, pq_3_11, pq_3_12, pq_3_13, pq_4_0, pq_4_1, pq_4_2, pq_4_3, pq_4_4, pq_4_5] (by rfl) (by decide +kernel)) (goodIn_sub (fun _ h => List.mem_cons_of_mem _ (List.mem_append_right _ h)) (by decide +kernel))
set_option maxRecDepth 20000 in
theorem gL_look_X6_look : GoodIn wsL_look (wsV RL 122 RX6 yX6_look wsX6_look) := goodIn_app (goodIn_s seL_look _ [pq_1_1, pq_1_2, pq_1_3, pq_1_4] (by rfl) (by decide +kernel)) ggL_look_X6_look
def lb_sgL_look : List (List UInt8) := [[45, 42, 27, 28, 182, 0, 122, 133, 181, 0, 13, 167, 0, 7, 58, 4], [4, 172, 3, 172]]
set_option maxRecDepth 100000 in
theorem lb_seL_look : cL_look.data.toList = lb_sgL_look.flatten := by decide +kernel
theorem lb_lnL_look : ∀ s ∈ lb_sgL_look.dropLast, s.length = 16 := by decide +kernel
theorem lxL_look (k j : Nat) {b : UInt8} (h : (lb_sgL_look[k]?).bind (fun s => s[j]?) = some b) : lb_at cL_look (16 * k + j) b := by
  unfold lb_at
  rw [lb_seL_look]
  exact lb_flat 16 lb_sgL_look k j b lb_lnL_look h
set_option maxRecDepth 20000 in
theorem dL_look_0 : decode cL_look 0 = .ok (.aload_n 3, 1) := dc_45 (lxL_look 0 0 rfl)
set_option maxRecDepth 20000 in
theorem dL_look_1 : decode cL_look 1 = .ok (.aload_n 0, 1) := dc_42 (lxL_look 0 1 rfl)
set_option maxRecDepth 20000 in
theorem dL_look_2 : decode cL_look 2 = .ok (.iload_n 1, 1) := dc_27 (lxL_look 0 2 rfl)
set_option maxRecDepth 20000 in
theorem dL_look_3 : decode cL_look 3 = .ok (.iload_n 2, 1) := dc_28 (lxL_look 0 3 rfl)
set_option maxRecDepth 20000 in
theorem dL_look_4 : decode cL_look 4 = .ok (.invokevirtual 122, 3) := dc_182 0 122 (lxL_look 0 4 rfl) (lxL_look 0 5 rfl) (lxL_look 0 6 rfl)
set_option maxRecDepth 20000 in
theorem dL_look_7 : decode cL_look 7 = .ok (.i2l, 1) := dc_133 (lxL_look 0 7 rfl)
set_option maxRecDepth 20000 in
theorem dL_look_8 : decode cL_look 8 = .ok (.putfield 13, 3) := dc_181 0 13 (lxL_look 0 8 rfl) (lxL_look 0 9 rfl) (lxL_look 0 10 rfl)
set_option maxRecDepth 20000 in
theorem dL_look_11 : decode cL_look 11 = .ok (.goto 7, 3) := dc_167 0 7 (lxL_look 0 11 rfl) (lxL_look 0 12 rfl) (lxL_look 0 13 rfl)
set_option maxRecDepth 20000 in
theorem dL_look_14 : decode cL_look 14 = .ok (.astore 4, 2) := dc_58 4 (lxL_look 0 14 rfl) (lxL_look 0 15 rfl)
set_option maxRecDepth 20000 in
theorem dL_look_16 : decode cL_look 16 = .ok (.iconst 1, 1) := dc_4 (lxL_look 1 0 rfl)
set_option maxRecDepth 20000 in
theorem dL_look_17 : decode cL_look 17 = .ok (.ireturn, 1) := dc_172 (lxL_look 1 1 rfl)
set_option maxRecDepth 20000 in
theorem dL_look_18 : decode cL_look 18 = .ok (.iconst 0, 1) := dc_3 (lxL_look 1 2 rfl)
set_option maxRecDepth 20000 in
theorem dL_look_19 : decode cL_look 19 = .ok (.ireturn, 1) := dc_172 (lxL_look 1 3 rfl)
noncomputable def sgL_text : List (List Cond) := [[.codeWith yL_text cL_text 5 (some .int) [(0, 10, 13, 19), (0, 10, 17, 21)]], wsL_text_r1, wsL_text_r2, wsL_text_r3, wsL_text_r4, wsL_text_r5, wsL_text_r6, wsL_text_r7, wsL_text_r8, wsL_text_r9, wsL_text_r10, wsL_text_r11, wsL_text_r12, wsX70, wsX60, wsX50, wsX20, wsJ40, wsJ00, (vx_atS RX6 306 "java/lang/IndexOutOfBoundsException" ["java/lang/RuntimeException", "java/lang/Exception"]).filter goodWord, (vx_atS RX6 317 "java/lang/IllegalArgumentException" ["java/lang/RuntimeException", "java/lang/Exception"]).filter goodWord]
theorem seL_text : sgL_text.flatten = wsL_text := by simp only [sgL_text, wsL_text, List.flatten_cons, List.flatten_nil, List.append_assoc, List.append_nil, List.cons_append, List.nil_append]
set_option maxRecDepth 20000 in
theorem ggL_text_X6_text : GoodIn wsL_text wsX6_text := goodIn_ca (goodIn_ca (goodIn_s seL_text _ [pq_1_6, pq_1_7, pq_1_8, pq_1_9, pq_1_10, pq_1_5, pq_1_11, pq_1_12, pq_1_13, pq_1_14, pq_1_15, pq_1_16, pq_1_17, pq_1_18, pq_1_19, pq_1_20, pq_1_21, pq_1_22, pq_1_23, pq_2_0, pq_2_1, pq_2_2, pq_2_3, pq_2_4, pq_2_5, pq_2_6, pq_2_7, pq_2_8, pq_2_9, pq_2_10, pq_2_11, pq_2_12, pq_2_13, pq_2_14, pq_2_15, pq_2_16, pq_2_17, pq_2_18, pq_2_19, pq_2_20, pq_2_21, pq_2_22, pq_2_23, pq_3_0, pq_3_1, pq_3_2, pq_3_3, pq_3_4, pq_3_5, pq_3_6, pq_3_7, pq_3_8, pq_3_9, pq_3_10, pq_3_11, pq_3_12, pq_3_13, pq_3_14, pq_3_15, pq_3_16, pq_3_17, pq_3_18, pq_3_19, pq_3_20, pq_3_21, pq_3_22, pq_3_23, pq_4_0, pq_4_1, pq_4_2, pq_4_3, pq_4_4, pq_4_5, pq_4_6, pq_4_7, pq_4_8, pq_4_9, pq_4_10, pq_4_11, pq_4_12, pq_4_13, pq_4_14, pq_4_15, pq_4_16, pq_4_17, pq_4_18, pq_4_19, pq_4_20, pq_4_21, pq_4_22, pq_4_23, pq_5_0, pq_5_1, pq_5_2, pq_5_3, pq_5_4, pq_5_5, pq_5_6, pq_5_7, pq_5_8, pq_5_9, pq_5_10, pq_5_11, pq_5_12, pq_5_13, pq_5_14, pq_5_15, pq_5_16, pq_5_17, pq_5_18, pq_5_19, pq_5_20, pq_5_21, pq_5_22, pq_5_23, pq_6_0, pq_6_1, pq_6_2, pq_6_3, pq_6_4, pq_6_5, pq_6_6, pq_6_7, pq_6_8, pq_6_9, pq_6_10, pq_6_11, pq_6_12, pq_6_13, pq_6_14, pq_6_15, pq_6_16, pq_6_17, pq_6_18, pq_6_19, pq_6_20, pq_6_21, pq_6_22, pq_6_23, pq_7_0, pq_7_1, pq_7_2, pq_7_3, pq_7_4, pq_7_5, pq_7_6, pq_7_7, pq_7_8, pq_7_9, pq_7_10, pq_7_11, pq_7_12, pq_7_13, pq_7_14, pq_7_15, pq_7_16, pq_7_17, pq_7_18, pq_7_19, pq_7_20, pq_7_21, pq_7_22, pq_7_23, pq_8_0, pq_8_1, pq_8_2, pq_8_3, pq_8_4, pq_8_5, pq_8_6, pq_8_7, pq_8_8, pq_8_9, pq_8_10, pq_8_11, pq_8_12, pq_8_13, pq_8_14, pq_8_15, pq_8_16, pq_8_17, pq_8_18, pq_8_19, pq_8_20, pq_8_21, pq_8_22, pq_8_23, pq_9_0, pq_9_1, pq_9_2, pq_9_3, pq_9_4, pq_9_5, pq_9_6, pq_9_7, pq_9_8, pq_9_9, pq_9_10, pq_9_11, pq_9_12, pq_9_13, pq_9_14, pq_9_15, pq_9_16, pq_9_17, pq_9_18, pq_9_19, pq_9_20, pq_9_21, pq_9_22, pq_9_23, pq_10_0, pq_10_1, pq_10_2, pq_10_3, pq_10_4, pq_10_5, pq_10_6, pq_10_7, pq_10_8, pq_10_9, pq_10_10, pq_10_11, pq_10_12, pq_10_13, pq_10_14, pq_10_15, pq_10_16, pq_10_17, pq_10_18, pq_10_19, pq_10_20, pq_10_21, pq_10_22, pq_10_23, pq_11_0, pq_11_1, pq_11_2, pq_11_3, pq_11_4, pq_11_5, pq_11_6, pq_11_7, pq_11_8, pq_11_9, pq_11_10, pq_11_11, pq_11_12, pq_11_13, pq_11_14, pq_11_15, pq_11_16, pq_11_17, pq_11_18, pq_11_19, pq_11_20, pq_11_21, pq_11_22, pq_11_23, pq_12_0, pq_12_1, pq_12_2, pq_12_3, pq_12_4, pq_12_5, pq_12_6, pq_12_7, pq_12_8, pq_12_9, pq_14_0, pq_14_1, pq_14_2, pq_14_3, pq_14_4, pq_14_5, pq_14_6, pq_14_7, pq_14_8, pq_14_9, pq_14_10, pq_14_11, pq_14_12, pq_14_13, pq_15_0, pq_15_1, pq_15_2, pq_15_3, pq_15_4, pq_15_5, pq_16_0, pq_16_1, pq_17_0, pq_17_1, pq_17_2, pq_17_3, pq_18_0, pq_18_1, pq_18_2, pq_18_3] (by rfl) (by decide +kernel)) (goodIn_sub (fun _ h => List.mem_cons_of_mem _ (List.mem_append_left _ (List.mem_append_right _ h))) (by decide +kernel))) (goodIn_sub (fun _ h => List.mem_cons_of_mem _ (List.mem_append_right _ h)) (by decide +kernel))
set_option maxRecDepth 20000 in
theorem gL_text_X6_text : GoodIn wsL_text (wsV RL 125 RX6 yX6_text wsX6_text) := goodIn_app (goodIn_s seL_text _ [pq_1_2, pq_1_3, pq_1_4, pq_1_5] (by rfl) (by decide +kernel)) ggL_text_X6_text
def lb_sgL_text : List (List UInt8) := [[45, 42, 27, 28, 182, 0, 125, 181, 0, 51, 167, 0, 11, 58, 4, 4], [172, 58, 4, 5, 172, 3, 172]]
set_option maxRecDepth 100000 in
theorem lb_seL_text : cL_text.data.toList = lb_sgL_text.flatten := by decide +kernel
theorem lb_lnL_text : ∀ s ∈ lb_sgL_text.dropLast, s.length = 16 := by decide +kernel
theorem lxL_text (k j : Nat) {b : UInt8} (h : (lb_sgL_text[k]?).bind (fun s => s[j]?) = some b) : lb_at cL_text (16 * k + j) b := by
  unfold lb_at
  rw [lb_seL_text]
  exact lb_flat 16 lb_sgL_text k j b lb_lnL_text h
set_option maxRecDepth 20000 in
theorem dL_text_0 : decode cL_text 0 = .ok (.aload_n 3, 1) := dc_45 (lxL_text 0 0 rfl)
set_option maxRecDepth 20000 in
theorem dL_text_1 : decode cL_text 1 = .ok (.aload_n 0, 1) := dc_42 (lxL_text 0 1 rfl)
set_option maxRecDepth 20000 in
theorem dL_text_2 : decode cL_text 2 = .ok (.iload_n 1, 1) := dc_27 (lxL_text 0 2 rfl)
set_option maxRecDepth 20000 in
theorem dL_text_3 : decode cL_text 3 = .ok (.iload_n 2, 1) := dc_28 (lxL_text 0 3 rfl)
set_option maxRecDepth 20000 in
theorem dL_text_4 : decode cL_text 4 = .ok (.invokevirtual 125, 3) := dc_182 0 125 (lxL_text 0 4 rfl) (lxL_text 0 5 rfl) (lxL_text 0 6 rfl)
set_option maxRecDepth 20000 in
theorem dL_text_7 : decode cL_text 7 = .ok (.putfield 51, 3) := dc_181 0 51 (lxL_text 0 7 rfl) (lxL_text 0 8 rfl) (lxL_text 0 9 rfl)
set_option maxRecDepth 20000 in
theorem dL_text_10 : decode cL_text 10 = .ok (.goto 11, 3) := dc_167 0 11 (lxL_text 0 10 rfl) (lxL_text 0 11 rfl) (lxL_text 0 12 rfl)
set_option maxRecDepth 20000 in
theorem dL_text_13 : decode cL_text 13 = .ok (.astore 4, 2) := dc_58 4 (lxL_text 0 13 rfl) (lxL_text 0 14 rfl)
set_option maxRecDepth 20000 in
theorem dL_text_15 : decode cL_text 15 = .ok (.iconst 1, 1) := dc_4 (lxL_text 0 15 rfl)
set_option maxRecDepth 20000 in
theorem dL_text_16 : decode cL_text 16 = .ok (.ireturn, 1) := dc_172 (lxL_text 1 0 rfl)
set_option maxRecDepth 20000 in
theorem dL_text_17 : decode cL_text 17 = .ok (.astore 4, 2) := dc_58 4 (lxL_text 1 1 rfl) (lxL_text 1 2 rfl)
set_option maxRecDepth 20000 in
theorem dL_text_19 : decode cL_text 19 = .ok (.iconst 2, 1) := dc_5 (lxL_text 1 3 rfl)
set_option maxRecDepth 20000 in
theorem dL_text_20 : decode cL_text 20 = .ok (.ireturn, 1) := dc_172 (lxL_text 1 4 rfl)
set_option maxRecDepth 20000 in
theorem dL_text_21 : decode cL_text 21 = .ok (.iconst 0, 1) := dc_3 (lxL_text 1 5 rfl)
set_option maxRecDepth 20000 in
theorem dL_text_22 : decode cL_text 22 = .ok (.ireturn, 1) := dc_172 (lxL_text 1 6 rfl)
noncomputable def sgL_inner : List (List Cond) := [[.codeWith yL_inner cL_inner 9 (some .int) [(0, 18, 21, 19), (0, 18, 25, 21)]], wsL_inner_r1, wsL_inner_r2, wsL_inner_r3, wsL_inner_r4, wsL_inner_r5, wsL_inner_r6, wsL_inner_r7, wsL_inner_r8, wsL_inner_r9, wsL_inner_r10, wsL_inner_r11, wsX70, wsX60, wsX50, wsJ40, wsX20, wsJ00, (vx_atS RX6 306 "java/lang/IndexOutOfBoundsException" ["java/lang/RuntimeException", "java/lang/Exception"]).filter goodWord, (vx_atS RX6 317 "java/lang/IllegalArgumentException" ["java/lang/RuntimeException", "java/lang/Exception"]).filter goodWord]
theorem seL_inner : sgL_inner.flatten = wsL_inner := by simp only [sgL_inner, wsL_inner, List.flatten_cons, List.flatten_nil, List.append_assoc, List.append_nil, List.cons_append, List.nil_append]
set_option maxRecDepth 20000 in
theorem ggL_inner_X6_inner : GoodIn wsL_inner wsX6_inner := goodIn_ca (goodIn_ca (goodIn_s seL_inner _ [pq_1_6, pq_1_7, pq_1_8, pq_1_9, pq_1_10, pq_1_5, pq_1_11, pq_1_12, pq_1_13, pq_1_14, pq_1_15, pq_1_16, pq_1_17, pq_1_18, pq_1_19, pq_1_20, pq_1_21, pq_1_22, pq_1_23, pq_2_0, pq_2_1, pq_2_2, pq_2_3, pq_2_4, pq_2_5, pq_2_6, pq_2_7, pq_2_8, pq_2_9, pq_2_10, pq_2_11, pq_2_12, pq_2_13, pq_2_14, pq_2_15, pq_2_16, pq_2_17, pq_2_18, pq_2_19, pq_2_20, pq_2_21, pq_2_22, pq_2_23, pq_3_0, pq_3_1, pq_3_2, pq_3_3, pq_3_4, pq_3_5, pq_3_6, pq_3_7, pq_3_8, pq_3_9, pq_3_10, pq_3_11, pq_3_12, pq_3_13, pq_3_14, pq_3_15, pq_3_16, pq_3_17, pq_3_18, pq_3_19, pq_3_20, pq_3_21, pq_3_22, pq_3_23, pq_4_0, pq_4_1, pq_4_2, pq_4_3, pq_4_4, pq_4_5, pq_4_6, pq_4_7, pq_4_8, pq_4_9, pq_4_10, pq_4_11, pq_4_12, pq_4_13, pq_4_14, pq_4_15, pq_4_16, pq_4_17, pq_4_18, pq_4_19, pq_4_20, pq_4_21, pq_4_22, pq_4_23, pq_5_0, pq_5_1, pq_5_2, pq_5_3, pq_5_4, pq_5_5, pq_5_6, pq_5_7, pq_5_8, pq_5_9, pq_5_10, pq_5_11, pq_5_12, pq_5_13, pq_5_14, pq_5_15, pq_5_16, pq_5_17, pq_5_18, pq_5_19, pq_5_20, pq_5_21, pq_5_22, pq_5_23, pq_6_0, pq_6_1, pq_6_2, pq_6_3, pq_6_4, pq_6_5, pq_6_6, pq_6_7, pq_6_8, pq_6_9, pq_6_10, pq_6_11, pq_6_12, pq_6_13, pq_6_14, pq_6_15, pq_6_16, pq_6_17, pq_6_18, pq_6_19, pq_6_20, pq_6_21, pq_6_22, pq_6_23, pq_7_0, pq_7_1, pq_7_2, pq_7_3, pq_7_4, pq_7_5, pq_7_6, pq_7_7, pq_7_8, pq_7_9, pq_7_10, pq_7_11, pq_7_12, pq_7_13, pq_7_14, pq_7_15, pq_7_16, pq_7_17, pq_7_18, pq_7_19, pq_7_20, pq_7_21, pq_7_22, pq_7_23, pq_8_0, pq_8_1, pq_8_2, pq_8_3, pq_8_4, pq_8_5, pq_8_6, pq_8_7, pq_8_8, pq_8_9, pq_8_10, pq_8_11, pq_8_12, pq_8_13, pq_8_14, pq_8_15, pq_8_16, pq_8_17, pq_8_18, pq_8_19, pq_8_20, pq_8_21, pq_8_22, pq_8_23, pq_9_0, pq_9_1, pq_9_2, pq_9_3, pq_9_4, pq_9_5, pq_9_6, pq_9_7, pq_9_8, pq_9_9, pq_9_10, pq_9_11, pq_9_12, pq_9_13, pq_9_14, pq_9_15, pq_9_16, pq_9_17, pq_9_18, pq_9_19, pq_9_20, pq_9_21, pq_9_22, pq_9_23, pq_10_0, pq_10_1, pq_10_2, pq_10_3, pq_10_4, pq_10_5, pq_10_6, pq_10_7, pq_10_8, pq_10_9, pq_10_10, pq_10_11, pq_10_12, pq_10_13, pq_10_14, pq_10_15, pq_10_16, pq_10_17, pq_10_18, pq_10_19, pq_10_20, pq_10_21, pq_10_22, pq_10_23, pq_11_0, pq_11_1, pq_11_2, pq_11_3, pq_11_4, pq_11_5, pq_11_6, pq_11_7, pq_11_8, pq_11_9, pq_11_10, pq_11_11, pq_11_12, pq_11_13, pq_11_14, pq_11_15, pq_11_16, pq_13_0, pq_13_1, pq_13_2, pq_13_3, pq_13_4, pq_13_5, pq_13_6, pq_13_7, pq_13_8, pq_13_9, pq_13_10, pq_13_11, pq_13_12, pq_13_13, pq_14_0, pq_14_1, pq_14_2, pq_14_3, pq_14_4, pq_14_5, pq_15_0, pq_15_1, pq_15_2, pq_15_3, pq_16_0, pq_16_1, pq_17_0, pq_17_1, pq_17_2, pq_17_3] (by rfl) (by decide +kernel)) (goodIn_sub (fun _ h => List.mem_cons_of_mem _ (List.mem_append_left _ (List.mem_append_right _ h))) (by decide +kernel))) (goodIn_sub (fun _ h => List.mem_cons_of_mem _ (List.mem_append_right _ h)) (by decide +kernel))
set_option maxRecDepth 20000 in
theorem gL_inner_X6_inner : GoodIn wsL_inner (wsV RL 128 RX6 yX6_inner wsX6_inner) := goodIn_app (goodIn_s seL_inner _ [pq_1_2, pq_1_3, pq_1_4, pq_1_5] (by rfl) (by decide +kernel)) ggL_inner_X6_inner
def lb_sgL_inner : List (List UInt8) := [[25, 7, 42, 27, 28, 29, 21, 4, 21, 5, 21, 6, 182, 0, 128, 181], [0, 51, 167, 0, 11, 58, 8, 4, 172, 58, 8, 5, 172, 3, 172]]
set_option maxRecDepth 100000 in
theorem lb_seL_inner : cL_inner.data.toList = lb_sgL_inner.flatten := by decide +kernel
theorem lb_lnL_inner : ∀ s ∈ lb_sgL_inner.dropLast, s.length = 16 := by decide +kernel
theorem lxL_inner (k j : Nat) {b : UInt8} (h : (lb_sgL_inner[k]?).bind (fun s => s[j]?) = some b) : lb_at cL_inner (16 * k + j) b := by
  unfold lb_at
  rw [lb_seL_inner]
  exact lb_flat 16 lb_sgL_inner k j b lb_lnL_inner h
set_option maxRecDepth 20000 in
theorem dL_inner_0 : decode cL_inner 0 = .ok (.aload 7, 2) := dc_25 7 (lxL_inner 0 0 rfl) (lxL_inner 0 1 rfl)
set_option maxRecDepth 20000 in
theorem dL_inner_2 : decode cL_inner 2 = .ok (.aload_n 0, 1) := dc_42 (lxL_inner 0 2 rfl)
set_option maxRecDepth 20000 in
theorem dL_inner_3 : decode cL_inner 3 = .ok (.iload_n 1, 1) := dc_27 (lxL_inner 0 3 rfl)
set_option maxRecDepth 20000 in
theorem dL_inner_4 : decode cL_inner 4 = .ok (.iload_n 2, 1) := dc_28 (lxL_inner 0 4 rfl)
set_option maxRecDepth 20000 in
theorem dL_inner_5 : decode cL_inner 5 = .ok (.iload_n 3, 1) := dc_29 (lxL_inner 0 5 rfl)
set_option maxRecDepth 20000 in
theorem dL_inner_6 : decode cL_inner 6 = .ok (.iload 4, 2) := dc_21 4 (lxL_inner 0 6 rfl) (lxL_inner 0 7 rfl)
set_option maxRecDepth 20000 in
theorem dL_inner_8 : decode cL_inner 8 = .ok (.iload 5, 2) := dc_21 5 (lxL_inner 0 8 rfl) (lxL_inner 0 9 rfl)
set_option maxRecDepth 20000 in
theorem dL_inner_10 : decode cL_inner 10 = .ok (.iload 6, 2) := dc_21 6 (lxL_inner 0 10 rfl) (lxL_inner 0 11 rfl)
set_option maxRecDepth 20000 in
theorem dL_inner_12 : decode cL_inner 12 = .ok (.invokevirtual 128, 3) := dc_182 0 128 (lxL_inner 0 12 rfl) (lxL_inner 0 13 rfl) (lxL_inner 0 14 rfl)
set_option maxRecDepth 20000 in
theorem dL_inner_15 : decode cL_inner 15 = .ok (.putfield 51, 3) := dc_181 0 51 (lxL_inner 0 15 rfl) (lxL_inner 1 0 rfl) (lxL_inner 1 1 rfl)
set_option maxRecDepth 20000 in
theorem dL_inner_18 : decode cL_inner 18 = .ok (.goto 11, 3) := dc_167 0 11 (lxL_inner 1 2 rfl) (lxL_inner 1 3 rfl) (lxL_inner 1 4 rfl)
set_option maxRecDepth 20000 in
theorem dL_inner_21 : decode cL_inner 21 = .ok (.astore 8, 2) := dc_58 8 (lxL_inner 1 5 rfl) (lxL_inner 1 6 rfl)
set_option maxRecDepth 20000 in
theorem dL_inner_23 : decode cL_inner 23 = .ok (.iconst 1, 1) := dc_4 (lxL_inner 1 7 rfl)
set_option maxRecDepth 20000 in
theorem dL_inner_24 : decode cL_inner 24 = .ok (.ireturn, 1) := dc_172 (lxL_inner 1 8 rfl)
set_option maxRecDepth 20000 in
theorem dL_inner_25 : decode cL_inner 25 = .ok (.astore 8, 2) := dc_58 8 (lxL_inner 1 9 rfl) (lxL_inner 1 10 rfl)
set_option maxRecDepth 20000 in
theorem dL_inner_27 : decode cL_inner 27 = .ok (.iconst 2, 1) := dc_5 (lxL_inner 1 11 rfl)
set_option maxRecDepth 20000 in
theorem dL_inner_28 : decode cL_inner 28 = .ok (.ireturn, 1) := dc_172 (lxL_inner 1 12 rfl)
set_option maxRecDepth 20000 in
theorem dL_inner_29 : decode cL_inner 29 = .ok (.iconst 0, 1) := dc_3 (lxL_inner 1 13 rfl)
set_option maxRecDepth 20000 in
theorem dL_inner_30 : decode cL_inner 30 = .ok (.ireturn, 1) := dc_172 (lxL_inner 1 14 rfl)
noncomputable def sgL_first : List (List Cond) := [[.codeWith yL_first cL_first 5 (some .int) [(0, 11, 14, 19)]], wsL_first_r1, wsL_first_r2, wsL_first_r3, wsL_first_r4, wsX70, wsX60, wsX30, wsX00, wsX20, wsX50, (vx_atS RX6 306 "java/lang/IndexOutOfBoundsException" ["java/lang/RuntimeException", "java/lang/Exception"]).filter goodWord]
theorem seL_first : sgL_first.flatten = wsL_first := by simp only [sgL_first, wsL_first, List.flatten_cons, List.flatten_nil, List.append_assoc, List.append_nil, List.cons_append, List.nil_append]
set_option maxRecDepth 20000 in
theorem ggL_first_X6_first : GoodIn wsL_first wsX6_first := goodIn_ca (goodIn_s seL_first _ [pq_1_5, pq_1_6, pq_1_7, pq_1_8, pq_1_9, pq_1_4, pq_1_10, pq_1_11, pq_1_12, pq_1_13, pq_1_14, pq_1_15, pq_1_16, pq_1_17, pq_1_18, pq_1_19, pq_1_20, pq_1_21, pq_1_22, pq_1_23, pq_2_0, pq_2_1, pq_2_2, pq_2_3, pq_2_4, pq_2_5, pq_2_6, pq_2_7, pq_2_8, pq_2_9, pq_2_10, pq_2_11, pq_2_12, pq_2_13, pq_2_14, pq_2_15, pq_2_16, pq_2_17, pq_2_18, pq_2_19, pq_2_20, pq_2_21, pq_2_22, pq_2_23, pq_3_0, pq_3_1, pq_3_2, pq_3_3, pq_3_4, pq_3_5, pq_3_6, pq_3_7, pq_3_8, pq_3_9, pq_3_10, pq_3_11, pq_3_12, pq_3_13, pq_3_14, pq_3_15, pq_3_16, pq_3_17, pq_3_18, pq_3_19, pq_3_20, pq_3_21, pq_3_22, pq_3_23, pq_4_0, pq_4_1, pq_4_2, pq_4_3, pq_4_4, pq_6_0, pq_6_1, pq_6_2, pq_6_3, pq_6_4, pq_6_5, pq_6_6, pq_6_7, pq_6_8, pq_6_9, pq_6_10, pq_6_11, pq_6_12, pq_6_13, pq_7_0, pq_7_1, pq_7_2, pq_8_0, pq_8_1, pq_8_2, pq_9_0, pq_9_1, pq_10_0, pq_10_1, pq_10_2, pq_10_3, pq_10_4, pq_10_5] (by rfl) (by decide +kernel)) (goodIn_sub (fun _ h => List.mem_cons_of_mem _ (List.mem_append_right _ h)) (by decide +kernel))
set_option maxRecDepth 20000 in
theorem gL_first_X6_first : GoodIn wsL_first (wsV RL 132 RX6 yX6_first wsX6_first) := goodIn_app (goodIn_s seL_first _ [pq_1_1, pq_1_2, pq_1_3, pq_1_4] (by rfl) (by decide +kernel)) ggL_first_X6_first
def lb_sgL_first : List (List UInt8) := [[45, 42, 27, 28, 182, 0, 132, 133, 181, 0, 13, 167, 0, 7, 58, 4], [4, 172, 3, 172]]
set_option maxRecDepth 100000 in
theorem lb_seL_first : cL_first.data.toList = lb_sgL_first.flatten := by decide +kernel
theorem lb_lnL_first : ∀ s ∈ lb_sgL_first.dropLast, s.length = 16 := by decide +kernel
theorem lxL_first (k j : Nat) {b : UInt8} (h : (lb_sgL_first[k]?).bind (fun s => s[j]?) = some b) : lb_at cL_first (16 * k + j) b := by
  unfold lb_at
  rw [lb_seL_first]
  exact lb_flat 16 lb_sgL_first k j b lb_lnL_first h
set_option maxRecDepth 20000 in
theorem dL_first_0 : decode cL_first 0 = .ok (.aload_n 3, 1) := dc_45 (lxL_first 0 0 rfl)
set_option maxRecDepth 20000 in
theorem dL_first_1 : decode cL_first 1 = .ok (.aload_n 0, 1) := dc_42 (lxL_first 0 1 rfl)
set_option maxRecDepth 20000 in
theorem dL_first_2 : decode cL_first 2 = .ok (.iload_n 1, 1) := dc_27 (lxL_first 0 2 rfl)
set_option maxRecDepth 20000 in
theorem dL_first_3 : decode cL_first 3 = .ok (.iload_n 2, 1) := dc_28 (lxL_first 0 3 rfl)
set_option maxRecDepth 20000 in
theorem dL_first_4 : decode cL_first 4 = .ok (.invokevirtual 132, 3) := dc_182 0 132 (lxL_first 0 4 rfl) (lxL_first 0 5 rfl) (lxL_first 0 6 rfl)
set_option maxRecDepth 20000 in
theorem dL_first_7 : decode cL_first 7 = .ok (.i2l, 1) := dc_133 (lxL_first 0 7 rfl)
set_option maxRecDepth 20000 in
theorem dL_first_8 : decode cL_first 8 = .ok (.putfield 13, 3) := dc_181 0 13 (lxL_first 0 8 rfl) (lxL_first 0 9 rfl) (lxL_first 0 10 rfl)
set_option maxRecDepth 20000 in
theorem dL_first_11 : decode cL_first 11 = .ok (.goto 7, 3) := dc_167 0 7 (lxL_first 0 11 rfl) (lxL_first 0 12 rfl) (lxL_first 0 13 rfl)
set_option maxRecDepth 20000 in
theorem dL_first_14 : decode cL_first 14 = .ok (.astore 4, 2) := dc_58 4 (lxL_first 0 14 rfl) (lxL_first 0 15 rfl)
set_option maxRecDepth 20000 in
theorem dL_first_16 : decode cL_first 16 = .ok (.iconst 1, 1) := dc_4 (lxL_first 1 0 rfl)
set_option maxRecDepth 20000 in
theorem dL_first_17 : decode cL_first 17 = .ok (.ireturn, 1) := dc_172 (lxL_first 1 1 rfl)
set_option maxRecDepth 20000 in
theorem dL_first_18 : decode cL_first 18 = .ok (.iconst 0, 1) := dc_3 (lxL_first 1 2 rfl)
set_option maxRecDepth 20000 in
theorem dL_first_19 : decode cL_first 19 = .ok (.ireturn, 1) := dc_172 (lxL_first 1 3 rfl)
noncomputable def sgL_last : List (List Cond) := [[.codeWith yL_last cL_last 5 (some .int) [(0, 11, 14, 19)]], wsL_last_r1, wsL_last_r2, wsL_last_r3, wsL_last_r4, wsX70, wsX60, wsX30, wsX00, wsX20, wsX50, (vx_atS RX6 306 "java/lang/IndexOutOfBoundsException" ["java/lang/RuntimeException", "java/lang/Exception"]).filter goodWord]
theorem seL_last : sgL_last.flatten = wsL_last := by simp only [sgL_last, wsL_last, List.flatten_cons, List.flatten_nil, List.append_assoc, List.append_nil, List.cons_append, List.nil_append]
set_option maxRecDepth 20000 in
theorem ggL_last_X6_last : GoodIn wsL_last wsX6_last := goodIn_ca (goodIn_s seL_last _ [pq_1_5, pq_1_6, pq_1_7, pq_1_8, pq_1_9, pq_1_4, pq_1_10, pq_1_11, pq_1_12, pq_1_13, pq_1_14, pq_1_15, pq_1_16, pq_1_17, pq_1_18, pq_1_19, pq_1_20, pq_1_21, pq_1_22, pq_1_23, pq_2_0, pq_2_1, pq_2_2, pq_2_3, pq_2_4, pq_2_5, pq_2_6, pq_2_7, pq_2_8, pq_2_9, pq_2_10, pq_2_11, pq_2_12, pq_2_13, pq_2_14, pq_2_15, pq_2_16, pq_2_17, pq_2_18, pq_2_19, pq_2_20, pq_2_21, pq_2_22, pq_2_23, pq_3_0, pq_3_1, pq_3_2, pq_3_3, pq_3_4, pq_3_5, pq_3_6, pq_3_7, pq_3_8, pq_3_9, pq_3_10, pq_3_11, pq_3_12, pq_3_13, pq_3_14, pq_3_15, pq_3_16, pq_3_17, pq_3_18, pq_3_19, pq_3_20, pq_3_21, pq_3_22, pq_3_23, pq_4_0, pq_4_1, pq_4_2, pq_4_3, pq_4_4, pq_6_0, pq_6_1, pq_6_2, pq_6_3, pq_6_4, pq_6_5, pq_6_6, pq_6_7, pq_6_8, pq_6_9, pq_6_10, pq_6_11, pq_6_12, pq_6_13, pq_7_0, pq_7_1, pq_7_2, pq_8_0, pq_8_1, pq_8_2, pq_9_0, pq_9_1, pq_10_0, pq_10_1, pq_10_2, pq_10_3, pq_10_4, pq_10_5] (by rfl) (by decide +kernel)) (goodIn_sub (fun _ h => List.mem_cons_of_mem _ (List.mem_append_right _ h)) (by decide +kernel))
set_option maxRecDepth 20000 in
theorem gL_last_X6_last : GoodIn wsL_last (wsV RL 135 RX6 yX6_last wsX6_last) := goodIn_app (goodIn_s seL_last _ [pq_1_1, pq_1_2, pq_1_3, pq_1_4] (by rfl) (by decide +kernel)) ggL_last_X6_last
def lb_sgL_last : List (List UInt8) := [[45, 42, 27, 28, 182, 0, 135, 133, 181, 0, 13, 167, 0, 7, 58, 4], [4, 172, 3, 172]]
set_option maxRecDepth 100000 in
theorem lb_seL_last : cL_last.data.toList = lb_sgL_last.flatten := by decide +kernel
theorem lb_lnL_last : ∀ s ∈ lb_sgL_last.dropLast, s.length = 16 := by decide +kernel
theorem lxL_last (k j : Nat) {b : UInt8} (h : (lb_sgL_last[k]?).bind (fun s => s[j]?) = some b) : lb_at cL_last (16 * k + j) b := by
  unfold lb_at
  rw [lb_seL_last]
  exact lb_flat 16 lb_sgL_last k j b lb_lnL_last h
set_option maxRecDepth 20000 in
theorem dL_last_0 : decode cL_last 0 = .ok (.aload_n 3, 1) := dc_45 (lxL_last 0 0 rfl)
set_option maxRecDepth 20000 in
theorem dL_last_1 : decode cL_last 1 = .ok (.aload_n 0, 1) := dc_42 (lxL_last 0 1 rfl)
set_option maxRecDepth 20000 in
theorem dL_last_2 : decode cL_last 2 = .ok (.iload_n 1, 1) := dc_27 (lxL_last 0 2 rfl)
set_option maxRecDepth 20000 in
theorem dL_last_3 : decode cL_last 3 = .ok (.iload_n 2, 1) := dc_28 (lxL_last 0 3 rfl)
set_option maxRecDepth 20000 in
theorem dL_last_4 : decode cL_last 4 = .ok (.invokevirtual 135, 3) := dc_182 0 135 (lxL_last 0 4 rfl) (lxL_last 0 5 rfl) (lxL_last 0 6 rfl)
set_option maxRecDepth 20000 in
theorem dL_last_7 : decode cL_last 7 = .ok (.i2l, 1) := dc_133 (lxL_last 0 7 rfl)
set_option maxRecDepth 20000 in
theorem dL_last_8 : decode cL_last 8 = .ok (.putfield 13, 3) := dc_181 0 13 (lxL_last 0 8 rfl) (lxL_last 0 9 rfl) (lxL_last 0 10 rfl)
set_option maxRecDepth 20000 in
theorem dL_last_11 : decode cL_last 11 = .ok (.goto 7, 3) := dc_167 0 7 (lxL_last 0 11 rfl) (lxL_last 0 12 rfl) (lxL_last 0 13 rfl)
set_option maxRecDepth 20000 in
theorem dL_last_14 : decode cL_last 14 = .ok (.astore 4, 2) := dc_58 4 (lxL_last 0 14 rfl) (lxL_last 0 15 rfl)
set_option maxRecDepth 20000 in
theorem dL_last_16 : decode cL_last 16 = .ok (.iconst 1, 1) := dc_4 (lxL_last 1 0 rfl)
set_option maxRecDepth 20000 in
theorem dL_last_17 : decode cL_last 17 = .ok (.ireturn, 1) := dc_172 (lxL_last 1 1 rfl)
set_option maxRecDepth 20000 in
theorem dL_last_18 : decode cL_last 18 = .ok (.iconst 0, 1) := dc_3 (lxL_last 1 2 rfl)
set_option maxRecDepth 20000 in
theorem dL_last_19 : decode cL_last 19 = .ok (.ireturn, 1) := dc_172 (lxL_last 1 3 rfl)
noncomputable def sgL_count : List (List Cond) := [[.codeWith yL_count cL_count 5 (some .int) [(0, 11, 14, 19)]], wsL_count_r1, wsL_count_r2, wsL_count_r3, wsL_count_r4, wsX70, wsX60, wsX30, wsX00, wsX20, wsX50, (vx_atS RX6 306 "java/lang/IndexOutOfBoundsException" ["java/lang/RuntimeException", "java/lang/Exception"]).filter goodWord]
theorem seL_count : sgL_count.flatten = wsL_count := by simp only [sgL_count, wsL_count, List.flatten_cons, List.flatten_nil, List.append_assoc, List.append_nil, List.cons_append, List.nil_append]
set_option maxRecDepth 20000 in
theorem ggL_count_X6_count : GoodIn wsL_count wsX6_count := goodIn_ca (goodIn_s seL_count _ [pq_1_5, pq_1_6, pq_1_7, pq_1_8, pq_1_9, pq_1_4, pq_1_10, pq_1_11, pq_1_12, pq_1_13, pq_1_14, pq_1_15, pq_1_16, pq_1_17, pq_1_18, pq_1_19, pq_1_20, pq_1_21, pq_1_22, pq_1_23, pq_2_0, pq_2_1, pq_2_2, pq_2_3, pq_2_4, pq_2_5, pq_2_6, pq_2_7, pq_2_8, pq_2_9, pq_2_10, pq_2_11, pq_2_12, pq_2_13, pq_2_14, pq_2_15, pq_2_16, pq_2_17, pq_2_18, pq_2_19, pq_2_20, pq_2_21, pq_2_22, pq_2_23, pq_3_0, pq_3_1, pq_3_2, pq_3_3, pq_3_4, pq_3_5, pq_3_6, pq_3_7, pq_3_8, pq_3_9, pq_3_10, pq_3_11, pq_3_12, pq_3_13, pq_3_14, pq_3_15, pq_3_16, pq_3_17, pq_3_18, pq_3_19, pq_3_20, pq_3_21, pq_3_22, pq_3_23, pq_4_0, pq_6_0, pq_6_1, pq_6_2, pq_6_3, pq_6_4, pq_6_5, pq_6_6, pq_6_7, pq_6_8, pq_6_9, pq_6_10, pq_6_11, pq_6_12, pq_6_13, pq_7_0, pq_7_1, pq_7_2, pq_8_0, pq_8_1, pq_8_2, pq_9_0, pq_9_1, pq_10_0, pq_10_1, pq_10_2, pq_10_3, pq_10_4, pq_10_5] (by rfl) (by decide +kernel)) (goodIn_sub (fun _ h => List.mem_cons_of_mem _ (List.mem_append_right _ h)) (by decide +kernel))
set_option maxRecDepth 20000 in
theorem gL_count_X6_count : GoodIn wsL_count (wsV RL 138 RX6 yX6_count wsX6_count) := goodIn_app (goodIn_s seL_count _ [pq_1_1, pq_1_2, pq_1_3, pq_1_4] (by rfl) (by decide +kernel)) ggL_count_X6_count
def lb_sgL_count : List (List UInt8) := [[45, 42, 27, 28, 182, 0, 138, 133, 181, 0, 13, 167, 0, 7, 58, 4], [4, 172, 3, 172]]
set_option maxRecDepth 100000 in
theorem lb_seL_count : cL_count.data.toList = lb_sgL_count.flatten := by decide +kernel
theorem lb_lnL_count : ∀ s ∈ lb_sgL_count.dropLast, s.length = 16 := by decide +kernel
theorem lxL_count (k j : Nat) {b : UInt8} (h : (lb_sgL_count[k]?).bind (fun s => s[j]?) = some b) : lb_at cL_count (16 * k + j) b := by
  unfold lb_at
  rw [lb_seL_count]
  exact lb_flat 16 lb_sgL_count k j b lb_lnL_count h
set_option maxRecDepth 20000 in
theorem dL_count_0 : decode cL_count 0 = .ok (.aload_n 3, 1) := dc_45 (lxL_count 0 0 rfl)
set_option maxRecDepth 20000 in
theorem dL_count_1 : decode cL_count 1 = .ok (.aload_n 0, 1) := dc_42 (lxL_count 0 1 rfl)
set_option maxRecDepth 20000 in
theorem dL_count_2 : decode cL_count 2 = .ok (.iload_n 1, 1) := dc_27 (lxL_count 0 2 rfl)
set_option maxRecDepth 20000 in
theorem dL_count_3 : decode cL_count 3 = .ok (.iload_n 2, 1) := dc_28 (lxL_count 0 3 rfl)
set_option maxRecDepth 20000 in
theorem dL_count_4 : decode cL_count 4 = .ok (.invokevirtual 138, 3) := dc_182 0 138 (lxL_count 0 4 rfl) (lxL_count 0 5 rfl) (lxL_count 0 6 rfl)
set_option maxRecDepth 20000 in
theorem dL_count_7 : decode cL_count 7 = .ok (.i2l, 1) := dc_133 (lxL_count 0 7 rfl)
set_option maxRecDepth 20000 in
theorem dL_count_8 : decode cL_count 8 = .ok (.putfield 13, 3) := dc_181 0 13 (lxL_count 0 8 rfl) (lxL_count 0 9 rfl) (lxL_count 0 10 rfl)
set_option maxRecDepth 20000 in
theorem dL_count_11 : decode cL_count 11 = .ok (.goto 7, 3) := dc_167 0 7 (lxL_count 0 11 rfl) (lxL_count 0 12 rfl) (lxL_count 0 13 rfl)
set_option maxRecDepth 20000 in
theorem dL_count_14 : decode cL_count 14 = .ok (.astore 4, 2) := dc_58 4 (lxL_count 0 14 rfl) (lxL_count 0 15 rfl)
set_option maxRecDepth 20000 in
theorem dL_count_16 : decode cL_count 16 = .ok (.iconst 1, 1) := dc_4 (lxL_count 1 0 rfl)
set_option maxRecDepth 20000 in
theorem dL_count_17 : decode cL_count 17 = .ok (.ireturn, 1) := dc_172 (lxL_count 1 1 rfl)
set_option maxRecDepth 20000 in
theorem dL_count_18 : decode cL_count 18 = .ok (.iconst 0, 1) := dc_3 (lxL_count 1 2 rfl)
set_option maxRecDepth 20000 in
theorem dL_count_19 : decode cL_count 19 = .ok (.ireturn, 1) := dc_172 (lxL_count 1 3 rfl)
noncomputable def sgL_place : List (List Cond) := [[.codeWith yL_place cL_place 6 (some .int) [(0, 13, 16, 19), (0, 13, 20, 21)]], wsL_place_r1, wsL_place_r2, wsL_place_r3, wsL_place_r4, wsX70, wsX60, wsX30, wsX00, wsX20, wsX50, (vx_atS RX6 306 "java/lang/IndexOutOfBoundsException" ["java/lang/RuntimeException", "java/lang/Exception"]).filter goodWord, (vx_atS RX6 317 "java/lang/IllegalArgumentException" ["java/lang/RuntimeException", "java/lang/Exception"]).filter goodWord]
theorem seL_place : sgL_place.flatten = wsL_place := by simp only [sgL_place, wsL_place, List.flatten_cons, List.flatten_nil, List.append_assoc, List.append_nil, List.cons_append, List.nil_append]
set_option maxRecDepth 20000 in
theorem ggL_place_X6_place : GoodIn wsL_place wsX6_place := goodIn_ca (goodIn_ca (goodIn_s seL_place _ [pq_1_6, pq_1_7, pq_1_8, pq_1_9, pq_1_10, pq_1_5, pq_1_11, pq_1_12, pq_1_13, pq_1_14, pq_1_15, pq_1_16, pq_1_17, pq_1_18, pq_1_19, pq_1_20, pq_1_21, pq_1_22, pq_1_23, pq_2_0, pq_2_1, pq_2_2, pq_2_3, pq_2_4, pq_2_5, pq_2_6, pq_2_7, pq_2_8, pq_2_9, pq_2_10, pq_2_11, pq_2_12, pq_2_13, pq_2_14, pq_2_15, pq_2_16, pq_2_17, pq_2_18, pq_2_19, pq_2_20, pq_2_21, pq_2_22, pq_2_23, pq_3_0, pq_3_1, pq_3_2, pq_3_3, pq_3_4, pq_3_5, pq_3_6, pq_3_7, pq_3_8, pq_3_9, pq_3_10, pq_3_11, pq_3_12, pq_3_13, pq_3_14, pq_3_15, pq_3_16, pq_3_17, pq_3_18, pq_3_19, pq_3_20, pq_3_21, pq_3_22, pq_3_23, pq_4_0, pq_4_1, pq_4_2, pq_4_3, pq_4_4, pq_4_5, pq_4_6, pq_4_7, pq_4_8, pq_4_9, pq_4_10, pq_6_0, pq_6_1, pq_6_2, pq_6_3, pq_6_4, pq_6_5, pq_6_6, pq_6_7, pq_6_8, pq_6_9, pq_6_10, pq_6_11, pq_6_12, pq_6_13, pq_7_0, pq_7_1, pq_7_2, pq_8_0, pq_8_1, pq_8_2, pq_9_0, pq_9_1, pq_10_0, pq_10_1, pq_10_2, pq_10_3, pq_10_4, pq_10_5] (by rfl) (by decide +kernel)) (goodIn_sub (fun _ h => List.mem_cons_of_mem _ (List.mem_append_left _ (List.mem_append_right _ h))) (by decide +kernel))) (goodIn_sub (fun _ h => List.mem_cons_of_mem _ (List.mem_append_right _ h)) (by decide +kernel))
set_option maxRecDepth 20000 in
theorem gL_place_X6_place : GoodIn wsL_place (wsV RL 141 RX6 yX6_place wsX6_place) := goodIn_app (goodIn_s seL_place _ [pq_1_2, pq_1_3, pq_1_4, pq_1_5] (by rfl) (by decide +kernel)) ggL_place_X6_place
def lb_sgL_place : List (List UInt8) := [[25, 4, 42, 27, 28, 29, 182, 0, 141, 133, 181, 0, 13, 167, 0, 11], [58, 5, 4, 172, 58, 5, 5, 172, 3, 172]]
set_option maxRecDepth 100000 in
theorem lb_seL_place : cL_place.data.toList = lb_sgL_place.flatten := by decide +kernel
theorem lb_lnL_place : ∀ s ∈ lb_sgL_place.dropLast, s.length = 16 := by decide +kernel
theorem lxL_place (k j : Nat) {b : UInt8} (h : (lb_sgL_place[k]?).bind (fun s => s[j]?) = some b) : lb_at cL_place (16 * k + j) b := by
  unfold lb_at
  rw [lb_seL_place]
  exact lb_flat 16 lb_sgL_place k j b lb_lnL_place h
set_option maxRecDepth 20000 in
theorem dL_place_0 : decode cL_place 0 = .ok (.aload 4, 2) := dc_25 4 (lxL_place 0 0 rfl) (lxL_place 0 1 rfl)
set_option maxRecDepth 20000 in
theorem dL_place_2 : decode cL_place 2 = .ok (.aload_n 0, 1) := dc_42 (lxL_place 0 2 rfl)
set_option maxRecDepth 20000 in
theorem dL_place_3 : decode cL_place 3 = .ok (.iload_n 1, 1) := dc_27 (lxL_place 0 3 rfl)
set_option maxRecDepth 20000 in
theorem dL_place_4 : decode cL_place 4 = .ok (.iload_n 2, 1) := dc_28 (lxL_place 0 4 rfl)
set_option maxRecDepth 20000 in
theorem dL_place_5 : decode cL_place 5 = .ok (.iload_n 3, 1) := dc_29 (lxL_place 0 5 rfl)
set_option maxRecDepth 20000 in
theorem dL_place_6 : decode cL_place 6 = .ok (.invokevirtual 141, 3) := dc_182 0 141 (lxL_place 0 6 rfl) (lxL_place 0 7 rfl) (lxL_place 0 8 rfl)
set_option maxRecDepth 20000 in
theorem dL_place_9 : decode cL_place 9 = .ok (.i2l, 1) := dc_133 (lxL_place 0 9 rfl)
set_option maxRecDepth 20000 in
theorem dL_place_10 : decode cL_place 10 = .ok (.putfield 13, 3) := dc_181 0 13 (lxL_place 0 10 rfl) (lxL_place 0 11 rfl) (lxL_place 0 12 rfl)
set_option maxRecDepth 20000 in
theorem dL_place_13 : decode cL_place 13 = .ok (.goto 11, 3) := dc_167 0 11 (lxL_place 0 13 rfl) (lxL_place 0 14 rfl) (lxL_place 0 15 rfl)
set_option maxRecDepth 20000 in
theorem dL_place_16 : decode cL_place 16 = .ok (.astore 5, 2) := dc_58 5 (lxL_place 1 0 rfl) (lxL_place 1 1 rfl)
set_option maxRecDepth 20000 in
theorem dL_place_18 : decode cL_place 18 = .ok (.iconst 1, 1) := dc_4 (lxL_place 1 2 rfl)
set_option maxRecDepth 20000 in
theorem dL_place_19 : decode cL_place 19 = .ok (.ireturn, 1) := dc_172 (lxL_place 1 3 rfl)
set_option maxRecDepth 20000 in
theorem dL_place_20 : decode cL_place 20 = .ok (.astore 5, 2) := dc_58 5 (lxL_place 1 4 rfl) (lxL_place 1 5 rfl)
set_option maxRecDepth 20000 in
theorem dL_place_22 : decode cL_place 22 = .ok (.iconst 2, 1) := dc_5 (lxL_place 1 6 rfl)
set_option maxRecDepth 20000 in
theorem dL_place_23 : decode cL_place 23 = .ok (.ireturn, 1) := dc_172 (lxL_place 1 7 rfl)
set_option maxRecDepth 20000 in
theorem dL_place_24 : decode cL_place 24 = .ok (.iconst 0, 1) := dc_3 (lxL_place 1 8 rfl)
set_option maxRecDepth 20000 in
theorem dL_place_25 : decode cL_place 25 = .ok (.ireturn, 1) := dc_172 (lxL_place 1 9 rfl)
noncomputable def sgL_border : List (List Cond) := [[.codeWith yL_border cL_border 4 (some .int) [(0, 10, 13, 19)]], wsL_border_r1, wsL_border_r2, wsL_border_r3, wsX70, wsX60, wsX00, wsX20, wsX50, (vx_atS RX6 306 "java/lang/IndexOutOfBoundsException" ["java/lang/RuntimeException", "java/lang/Exception"]).filter goodWord]
theorem seL_border : sgL_border.flatten = wsL_border := by simp only [sgL_border, wsL_border, List.flatten_cons, List.flatten_nil, List.append_assoc, List.append_nil, List.cons_append, List.nil_append]
set_option maxRecDepth 20000 in
theorem ggL_border_X6_border : GoodIn wsL_border wsX6_border := goodIn_ca (goodIn_s seL_border _ [pq_1_5, pq_1_6, pq_1_7, pq_1_8, pq_1_4, pq_1_9, pq_1_10, pq_1_11, pq_1_12, pq_1_13, pq_1_14, pq_1_15, pq_1_16, pq_1_17, pq_1_18, pq_1_19, pq_1_20, pq_1_21, pq_1_22, pq_1_23, pq_2_0, pq_2_1, pq_2_2, pq_2_3, pq_2_4, pq_2_5, pq_2_6, pq_2_7, pq_2_8, pq_2_9, pq_2_10, pq_2_11, pq_2_12, pq_2_13, pq_2_14, pq_2_15, pq_2_16, pq_2_17, pq_2_18, pq_2_19, pq_2_20, pq_2_21, pq_2_22, pq_2_23, pq_3_0, pq_3_1, pq_3_2, pq_3_3, pq_3_4, pq_3_5, pq_3_6, pq_3_7, pq_3_8, pq_3_9, pq_3_10, pq_3_11, pq_3_12, pq_3_13, pq_3_14, pq_3_15, pq_5_0, pq_5_1, pq_5_2, pq_5_3, pq_5_4, pq_5_5, pq_5_6, pq_5_7, pq_5_8, pq_5_9, pq_5_10, pq_5_11, pq_5_12, pq_5_13, pq_6_0, pq_6_1, pq_6_2, pq_7_0, pq_7_1, pq_8_0, pq_8_1, pq_8_2, pq_8_3, pq_8_4, pq_8_5] (by rfl) (by decide +kernel)) (goodIn_sub (fun _ h => List.mem_cons_of_mem _ (List.mem_append_right _ h)) (by decide +kernel))
set_option maxRecDepth 20000 in
theorem gL_border_X6_border : GoodIn wsL_border (wsV RL 144 RX6 yX6_border wsX6_border) := goodIn_app (goodIn_s seL_border _ [pq_1_1, pq_1_2, pq_1_3, pq_1_4] (by rfl) (by decide +kernel)) ggL_border_X6_border
def lb_sgL_border : List (List UInt8) := [[44, 42, 27, 182, 0, 144, 133, 181, 0, 13, 167, 0, 6, 78, 4, 172], [3, 172]]
set_option maxRecDepth 100000 in
theorem lb_seL_border : cL_border.data.toList = lb_sgL_border.flatten := by decide +kernel
theorem lb_lnL_border : ∀ s ∈ lb_sgL_border.dropLast, s.length = 16 := by decide +kernel
theorem lxL_border (k j : Nat) {b : UInt8} (h : (lb_sgL_border[k]?).bind (fun s => s[j]?) = some b) : lb_at cL_border (16 * k + j) b := by
  unfold lb_at
  rw [lb_seL_border]
  exact lb_flat 16 lb_sgL_border k j b lb_lnL_border h
set_option maxRecDepth 20000 in
theorem dL_border_0 : decode cL_border 0 = .ok (.aload_n 2, 1) := dc_44 (lxL_border 0 0 rfl)
set_option maxRecDepth 20000 in
theorem dL_border_1 : decode cL_border 1 = .ok (.aload_n 0, 1) := dc_42 (lxL_border 0 1 rfl)
set_option maxRecDepth 20000 in
theorem dL_border_2 : decode cL_border 2 = .ok (.iload_n 1, 1) := dc_27 (lxL_border 0 2 rfl)
set_option maxRecDepth 20000 in
theorem dL_border_3 : decode cL_border 3 = .ok (.invokevirtual 144, 3) := dc_182 0 144 (lxL_border 0 3 rfl) (lxL_border 0 4 rfl) (lxL_border 0 5 rfl)
set_option maxRecDepth 20000 in
theorem dL_border_6 : decode cL_border 6 = .ok (.i2l, 1) := dc_133 (lxL_border 0 6 rfl)
set_option maxRecDepth 20000 in
theorem dL_border_7 : decode cL_border 7 = .ok (.putfield 13, 3) := dc_181 0 13 (lxL_border 0 7 rfl) (lxL_border 0 8 rfl) (lxL_border 0 9 rfl)
set_option maxRecDepth 20000 in
theorem dL_border_10 : decode cL_border 10 = .ok (.goto 6, 3) := dc_167 0 6 (lxL_border 0 10 rfl) (lxL_border 0 11 rfl) (lxL_border 0 12 rfl)
set_option maxRecDepth 20000 in
theorem dL_border_13 : decode cL_border 13 = .ok (.astore_n 3, 1) := dc_78 (lxL_border 0 13 rfl)
set_option maxRecDepth 20000 in
theorem dL_border_14 : decode cL_border 14 = .ok (.iconst 1, 1) := dc_4 (lxL_border 0 14 rfl)
set_option maxRecDepth 20000 in
theorem dL_border_15 : decode cL_border 15 = .ok (.ireturn, 1) := dc_172 (lxL_border 0 15 rfl)
set_option maxRecDepth 20000 in
theorem dL_border_16 : decode cL_border 16 = .ok (.iconst 0, 1) := dc_3 (lxL_border 1 0 rfl)
set_option maxRecDepth 20000 in
theorem dL_border_17 : decode cL_border 17 = .ok (.ireturn, 1) := dc_172 (lxL_border 1 1 rfl)
noncomputable def sgL_borders : List (List Cond) := [[.codeWith yL_borders cL_borders 4 (some .int) [(0, 9, 12, 19)]], wsL_borders_r1, wsL_borders_r2, wsL_borders_r3, wsL_borders_r4, wsL_borders_r5, wsL_borders_r6, wsL_borders_r7, wsL_borders_r8, wsL_borders_r9, wsL_borders_r10, wsL_borders_r11, wsL_borders_r12, wsX70, wsX60, wsJ40, wsX00, wsX20, wsX50, wsJ00, (vx_atS RX6 306 "java/lang/IndexOutOfBoundsException" ["java/lang/RuntimeException", "java/lang/Exception"]).filter goodWord]
theorem seL_borders : sgL_borders.flatten = wsL_borders := by simp only [sgL_borders, wsL_borders, List.flatten_cons, List.flatten_nil, List.append_assoc, List.append_nil, List.cons_append, List.nil_append]
set_option maxRecDepth 20000 in
theorem ggL_borders_X6_borders : GoodIn wsL_borders wsX6_borders := goodIn_ca (goodIn_s seL_borders _ [pq_1_5, pq_1_6, pq_1_7, pq_1_8, pq_1_9, pq_1_10, pq_1_11, pq_1_12, pq_1_4, pq_1_13, pq_1_14, pq_1_15, pq_1_16, pq_1_17, pq_1_18, pq_1_19, pq_1_20, pq_1_21, pq_1_22, pq_1_23, pq_2_0, pq_2_1, pq_2_2, pq_2_3, pq_2_4, pq_2_5, pq_2_6, pq_2_7, pq_2_8, pq_2_9, pq_2_10, pq_2_11, pq_2_12, pq_2_13, pq_2_14, pq_2_15, pq_2_16, pq_2_17, pq_2_18, pq_2_19, pq_2_20, pq_2_21, pq_2_22, pq_2_23, pq_3_0, pq_3_1, pq_3_2, pq_3_3, pq_3_4, pq_3_5, pq_3_6, pq_3_7, pq_3_8, pq_3_9, pq_3_10, pq_3_11, pq_3_12, pq_3_13, pq_3_14, pq_3_15, pq_3_16, pq_3_17, pq_3_18, pq_3_19, pq_3_20, pq_3_21, pq_3_22, pq_3_23, pq_4_0, pq_4_1, pq_4_2, pq_4_3, pq_4_4, pq_4_5, pq_4_6, pq_4_7, pq_4_8, pq_4_9, pq_4_10, pq_4_11, pq_4_12, pq_4_13, pq_4_14, pq_4_15, pq_4_16, pq_4_17, pq_4_18, pq_4_19, pq_4_20, pq_4_21, pq_4_22, pq_4_23, pq_5_0, pq_5_1, pq_5_2, pq_5_3, pq_5_4, pq_5_5, pq_5_6, pq_5_7, pq_5_8, pq_5_9, pq_5_10, pq_5_11, pq_5_12, pq_5_13, pq_5_14, pq_5_15, pq_5_16, pq_5_17, pq_5_18, pq_5_19, pq_5_20, pq_5_21, pq_5_22, pq_5_23, pq_6_0, pq_6_1, pq_6_2, pq_6_3, pq_6_4, pq_6_5, pq_6_6, pq_6_7, pq_6_8, pq_6_9, pq_6_10, pq_6_11, pq_6_12, pq_6_13, pq_6_14, pq_6_15, pq_6_16, pq_6_17, pq_6_18, pq_6_19, pq_6_20, pq_6_21, pq_6_22, pq_6_23, pq_7_0, pq_7_1, pq_7_2, pq_7_3, pq_7_4, pq_7_5, pq_7_6, pq_7_7, pq_7_8, pq_7_9, pq_7_10, pq_7_11, pq_7_12, pq_7_13, pq_7_14, pq_7_15, pq_7_16, pq_7_17, pq_7_18, pq_7_19, pq_7_20, pq_7_21, pq_7_22, pq_7_23, pq_8_0, pq_8_1, pq_8_2, pq_8_3, pq_8_4, pq_8_5, pq_8_6, pq_8_7, pq_8_8, pq_8_9, pq_8_10, pq_8_11, pq_8_12, pq_8_13, pq_8_14, pq_8_15, pq_8_16, pq_8_17, pq_8_18, pq_8_19, pq_8_20, pq_8_21, pq_8_22, pq_8_23, pq_9_0, pq_9_1, pq_9_2, pq_9_3, pq_9_4, pq_9_5, pq_9_6, pq_9_7, pq_9_8, pq_9_9, pq_9_10, pq_9_11, pq_9_12, pq_9_13, pq_9_14, pq_9_15, pq_9_16, pq_9_17, pq_9_18, pq_9_19, pq_9_20, pq_9_21, pq_9_22, pq_9_23, pq_10_0, pq_10_1, pq_10_2, pq_10_3, pq_10_4, pq_10_5, pq_10_6, pq_10_7, pq_10_8, pq_10_9, pq_10_10, pq_10_11, pq_10_12, pq_10_13, pq_10_14, pq_10_15, pq_10_16, pq_10_17, pq_10_18, pq_10_19, pq_10_20, pq_10_21, pq_10_22, pq_10_23, pq_11_0, pq_11_1, pq_11_2, pq_11_3, pq_11_4, pq_11_5, pq_11_6, pq_11_7, pq_11_8, pq_11_9, pq_11_10, pq_11_11, pq_11_12, pq_11_13, pq_11_14, pq_11_15, pq_11_16, pq_11_17, pq_11_18, pq_11_19, pq_11_20, pq_11_21, pq_11_22, pq_11_23, pq_12_0, pq_12_1, pq_12_2, pq_12_3, pq_12_4, pq_12_5, pq_12_6, pq_12_7, pq_12_8, pq_12_9, pq_12_10, pq_12_11, pq_12_12, pq_14_0, pq_14_1, pq_14_2, pq_14_3, pq_14_4, pq_14_5, pq_14_6, pq_14_7, pq_14_8, pq_14_9, pq_14_10, pq_14_11, pq_14_12, pq_14_13, pq_15_0, pq_15_1, pq_15_2, pq_15_3, pq_16_0, pq_16_1, pq_16_2, pq_17_0, pq_17_1, pq_18_0, pq_18_1, pq_18_2, pq_18_3, pq_18_4, pq_18_5, pq_19_0, pq_19_1, pq_19_2, pq_19_3] (by rfl) (by decide +kernel)) (goodIn_sub (fun _ h => List.mem_cons_of_mem _ (List.mem_append_right _ h)) (by decide +kernel))
set_option maxRecDepth 20000 in
theorem gL_borders_X6_borders : GoodIn wsL_borders (wsV RL 147 RX6 yX6_borders wsX6_borders) := goodIn_app (goodIn_s seL_borders _ [pq_1_1, pq_1_2, pq_1_3, pq_1_4] (by rfl) (by decide +kernel)) ggL_borders_X6_borders
def lb_sgL_borders : List (List UInt8) := [[44, 42, 27, 182, 0, 147, 181, 0, 51, 167, 0, 6, 78, 4, 172, 3], [172]]
set_option maxRecDepth 100000 in
theorem lb_seL_borders : cL_borders.data.toList = lb_sgL_borders.flatten := by decide +kernel
theorem lb_lnL_borders : ∀ s ∈ lb_sgL_borders.dropLast, s.length = 16 := by decide +kernel
theorem lxL_borders (k j : Nat) {b : UInt8} (h : (lb_sgL_borders[k]?).bind (fun s => s[j]?) = some b) : lb_at cL_borders (16 * k + j) b := by
  unfold lb_at
  rw [lb_seL_borders]
  exact lb_flat 16 lb_sgL_borders k j b lb_lnL_borders h
set_option maxRecDepth 20000 in
theorem dL_borders_0 : decode cL_borders 0 = .ok (.aload_n 2, 1) := dc_44 (lxL_borders 0 0 rfl)
set_option maxRecDepth 20000 in
theorem dL_borders_1 : decode cL_borders 1 = .ok (.aload_n 0, 1) := dc_42 (lxL_borders 0 1 rfl)
set_option maxRecDepth 20000 in
theorem dL_borders_2 : decode cL_borders 2 = .ok (.iload_n 1, 1) := dc_27 (lxL_borders 0 2 rfl)
set_option maxRecDepth 20000 in
theorem dL_borders_3 : decode cL_borders 3 = .ok (.invokevirtual 147, 3) := dc_182 0 147 (lxL_borders 0 3 rfl) (lxL_borders 0 4 rfl) (lxL_borders 0 5 rfl)
set_option maxRecDepth 20000 in
theorem dL_borders_6 : decode cL_borders 6 = .ok (.putfield 51, 3) := dc_181 0 51 (lxL_borders 0 6 rfl) (lxL_borders 0 7 rfl) (lxL_borders 0 8 rfl)
set_option maxRecDepth 20000 in
theorem dL_borders_9 : decode cL_borders 9 = .ok (.goto 6, 3) := dc_167 0 6 (lxL_borders 0 9 rfl) (lxL_borders 0 10 rfl) (lxL_borders 0 11 rfl)
set_option maxRecDepth 20000 in
theorem dL_borders_12 : decode cL_borders 12 = .ok (.astore_n 3, 1) := dc_78 (lxL_borders 0 12 rfl)
set_option maxRecDepth 20000 in
theorem dL_borders_13 : decode cL_borders 13 = .ok (.iconst 1, 1) := dc_4 (lxL_borders 0 13 rfl)
set_option maxRecDepth 20000 in
theorem dL_borders_14 : decode cL_borders 14 = .ok (.ireturn, 1) := dc_172 (lxL_borders 0 14 rfl)
set_option maxRecDepth 20000 in
theorem dL_borders_15 : decode cL_borders 15 = .ok (.iconst 0, 1) := dc_3 (lxL_borders 0 15 rfl)
set_option maxRecDepth 20000 in
theorem dL_borders_16 : decode cL_borders 16 = .ok (.ireturn, 1) := dc_172 (lxL_borders 1 0 rfl)
noncomputable def sgL_chain : List (List Cond) := [[.codeWith yL_chain cL_chain 4 (some .int) [(0, 9, 12, 19)]], wsL_chain_r1, wsL_chain_r2, wsL_chain_r3, wsL_chain_r4, wsL_chain_r5, wsL_chain_r6, wsL_chain_r7, wsL_chain_r8, wsL_chain_r9, wsL_chain_r10, wsL_chain_r11, wsL_chain_r12, wsX70, wsX60, wsJ40, wsX00, wsX20, wsX50, wsJ00, (vx_atS RX6 306 "java/lang/IndexOutOfBoundsException" ["java/lang/RuntimeException", "java/lang/Exception"]).filter goodWord]
theorem seL_chain : sgL_chain.flatten = wsL_chain := by simp only [sgL_chain, wsL_chain, List.flatten_cons, List.flatten_nil, List.append_assoc, List.append_nil, List.cons_append, List.nil_append]
set_option maxRecDepth 20000 in
theorem ggL_chain_X6_chain : GoodIn wsL_chain wsX6_chain := goodIn_ca (goodIn_s seL_chain _ [pq_1_5, pq_1_6, pq_1_7, pq_1_8, pq_1_9, pq_1_10, pq_1_11, pq_1_12, pq_1_4, pq_1_13, pq_1_14, pq_1_15, pq_1_16, pq_1_17, pq_1_18, pq_1_19, pq_1_20, pq_1_21, pq_1_22, pq_1_23, pq_2_0, pq_2_1, pq_2_2, pq_2_3, pq_2_4, pq_2_5, pq_2_6, pq_2_7, pq_2_8, pq_2_9, pq_2_10, pq_2_11, pq_2_12, pq_2_13, pq_2_14, pq_2_15, pq_2_16, pq_2_17, pq_2_18, pq_2_19, pq_2_20, pq_2_21, pq_2_22, pq_2_23, pq_3_0, pq_3_1, pq_3_2, pq_3_3, pq_3_4, pq_3_5, pq_3_6, pq_3_7, pq_3_8, pq_3_9, pq_3_10, pq_3_11, pq_3_12, pq_3_13, pq_3_14, pq_3_15, pq_3_16, pq_3_17, pq_3_18, pq_3_19, pq_3_20, pq_3_21, pq_3_22, pq_3_23, pq_4_0, pq_4_1, pq_4_2, pq_4_3, pq_4_4, pq_4_5, pq_4_6, pq_4_7, pq_4_8, pq_4_9, pq_4_10, pq_4_11, pq_4_12, pq_4_13, pq_4_14, pq_4_15, pq_4_16, pq_4_17, pq_4_18, pq_4_19, pq_4_20, pq_4_21, pq_4_22, pq_4_23, pq_5_0, pq_5_1, pq_5_2, pq_5_3, pq_5_4, pq_5_5, pq_5_6, pq_5_7, pq_5_8, pq_5_9, pq_5_10, pq_5_11, pq_5_12, pq_5_13, pq_5_14, pq_5_15, pq_5_16, pq_5_17, pq_5_18, pq_5_19, pq_5_20, pq_5_21, pq_5_22, pq_5_23, pq_6_0, pq_6_1, pq_6_2, pq_6_3, pq_6_4, pq_6_5, pq_6_6, pq_6_7, pq_6_8, pq_6_9, pq_6_10, pq_6_11, pq_6_12, pq_6_13, pq_6_14, pq_6_15, pq_6_16, pq_6_17, pq_6_18, pq_6_19, pq_6_20, pq_6_21, pq_6_22, pq_6_23, pq_7_0, pq_7_1, pq_7_2, pq_7_3, pq_7_4, pq_7_5, pq_7_6, pq_7_7, pq_7_8, pq_7_9, pq_7_10, pq_7_11, pq_7_12, pq_7_13, pq_7_14, pq_7_15, pq_7_16, pq_7_17, pq_7_18, pq_7_19, pq_7_20, pq_7_21, pq_7_22, pq_7_23, pq_8_0, pq_8_1, pq_8_2, pq_8_3, pq_8_4, pq_8_5, pq_8_6, pq_8_7, pq_8_8, pq_8_9, pq_8_10, pq_8_11, pq_8_12, pq_8_13, pq_8_14, pq_8_15, pq_8_16, pq_8_17, pq_8_18, pq_8_19, pq_8_20, pq_8_21, pq_8_22, pq_8_23, pq_9_0, pq_9_1, pq_9_2, pq_9_3, pq_9_4, pq_9_5, pq_9_6, pq_9_7, pq_9_8, pq_9_9, pq_9_10, pq_9_11, pq_9_12, pq_9_13, pq_9_14, pq_9_15, pq_9_16, pq_9_17, pq_9_18, pq_9_19, pq_9_20, pq_9_21, pq_9_22, pq_9_23, pq_10_0, pq_10_1, pq_10_2, pq_10_3, pq_10_4, pq_10_5, pq_10_6, pq_10_7, pq_10_8, pq_10_9, pq_10_10, pq_10_11, pq_10_12, pq_10_13, pq_10_14, pq_10_15, pq_10_16, pq_10_17, pq_10_18, pq_10_19, pq_10_20, pq_10_21, pq_10_22, pq_10_23, pq_11_0, pq_11_1, pq_11_2, pq_11_3, pq_11_4, pq_11_5, pq_11_6, pq_11_7, pq_11_8, pq_11_9, pq_11_10, pq_11_11, pq_11_12, pq_11_13, pq_11_14, pq_11_15, pq_11_16, pq_11_17, pq_11_18, pq_11_19, pq_11_20, pq_11_21, pq_11_22, pq_11_23, pq_12_0, pq_12_1, pq_12_2, pq_12_3, pq_12_4, pq_12_5, pq_12_6, pq_12_7, pq_12_8, pq_12_9, pq_12_10, pq_12_11, pq_12_12, pq_12_13, pq_12_14, pq_12_15, pq_12_16, pq_12_17, pq_12_18, pq_12_19, pq_12_20, pq_14_0, pq_14_1, pq_14_2, pq_14_3, pq_14_4, pq_14_5, pq_14_6, pq_14_7, pq_14_8, pq_14_9, pq_14_10, pq_14_11, pq_14_12, pq_14_13, pq_15_0, pq_15_1, pq_15_2, pq_15_3, pq_16_0, pq_16_1, pq_16_2, pq_17_0, pq_17_1, pq_18_0, pq_18_1, pq_18_2, pq_18_3, pq_18_4, pq_18_5, pq_19_0, pq_19_1, pq_19_2, pq_19_3] (by rfl) (by decide +kernel)) (goodIn_sub (fun _ h => List.mem_cons_of_mem _ (List.mem_append_right _ h)) (by decide +kernel))
set_option maxRecDepth 20000 in
theorem gL_chain_X6_chain : GoodIn wsL_chain (wsV RL 150 RX6 yX6_chain wsX6_chain) := goodIn_app (goodIn_s seL_chain _ [pq_1_1, pq_1_2, pq_1_3, pq_1_4] (by rfl) (by decide +kernel)) ggL_chain_X6_chain
def lb_sgL_chain : List (List UInt8) := [[44, 42, 27, 182, 0, 150, 181, 0, 51, 167, 0, 6, 78, 4, 172, 3], [172]]
set_option maxRecDepth 100000 in
theorem lb_seL_chain : cL_chain.data.toList = lb_sgL_chain.flatten := by decide +kernel
theorem lb_lnL_chain : ∀ s ∈ lb_sgL_chain.dropLast, s.length = 16 := by decide +kernel
theorem lxL_chain (k j : Nat) {b : UInt8} (h : (lb_sgL_chain[k]?).bind (fun s => s[j]?) = some b) : lb_at cL_chain (16 * k + j) b := by
  unfold lb_at
  rw [lb_seL_chain]
  exact lb_flat 16 lb_sgL_chain k j b lb_lnL_chain h
set_option maxRecDepth 20000 in
theorem dL_chain_0 : decode cL_chain 0 = .ok (.aload_n 2, 1) := dc_44 (lxL_chain 0 0 rfl)
set_option maxRecDepth 20000 in
theorem dL_chain_1 : decode cL_chain 1 = .ok (.aload_n 0, 1) := dc_42 (lxL_chain 0 1 rfl)
set_option maxRecDepth 20000 in
theorem dL_chain_2 : decode cL_chain 2 = .ok (.iload_n 1, 1) := dc_27 (lxL_chain 0 2 rfl)
set_option maxRecDepth 20000 in
theorem dL_chain_3 : decode cL_chain 3 = .ok (.invokevirtual 150, 3) := dc_182 0 150 (lxL_chain 0 3 rfl) (lxL_chain 0 4 rfl) (lxL_chain 0 5 rfl)
set_option maxRecDepth 20000 in
theorem dL_chain_6 : decode cL_chain 6 = .ok (.putfield 51, 3) := dc_181 0 51 (lxL_chain 0 6 rfl) (lxL_chain 0 7 rfl) (lxL_chain 0 8 rfl)
set_option maxRecDepth 20000 in
theorem dL_chain_9 : decode cL_chain 9 = .ok (.goto 6, 3) := dc_167 0 6 (lxL_chain 0 9 rfl) (lxL_chain 0 10 rfl) (lxL_chain 0 11 rfl)
set_option maxRecDepth 20000 in
theorem dL_chain_12 : decode cL_chain 12 = .ok (.astore_n 3, 1) := dc_78 (lxL_chain 0 12 rfl)
set_option maxRecDepth 20000 in
theorem dL_chain_13 : decode cL_chain 13 = .ok (.iconst 1, 1) := dc_4 (lxL_chain 0 13 rfl)
set_option maxRecDepth 20000 in
theorem dL_chain_14 : decode cL_chain 14 = .ok (.ireturn, 1) := dc_172 (lxL_chain 0 14 rfl)
set_option maxRecDepth 20000 in
theorem dL_chain_15 : decode cL_chain 15 = .ok (.iconst 0, 1) := dc_3 (lxL_chain 0 15 rfl)
set_option maxRecDepth 20000 in
theorem dL_chain_16 : decode cL_chain 16 = .ok (.ireturn, 1) := dc_172 (lxL_chain 1 0 rfl)
noncomputable def sgL_differ : List (List Cond) := [[.codeWith yL_differ cL_differ 5 (some .int) [(0, 11, 14, 19)]], wsL_differ_r1, wsL_differ_r2, wsL_differ_r3, wsX70, wsX60, wsX20, wsX50, (vx_atS RX6 306 "java/lang/IndexOutOfBoundsException" ["java/lang/RuntimeException", "java/lang/Exception"]).filter goodWord]
theorem seL_differ : sgL_differ.flatten = wsL_differ := by simp only [sgL_differ, wsL_differ, List.flatten_cons, List.flatten_nil, List.append_assoc, List.append_nil, List.cons_append, List.nil_append]
set_option maxRecDepth 20000 in
theorem ggL_differ_X6_differ : GoodIn wsL_differ wsX6_differ := goodIn_ca (goodIn_s seL_differ _ [pq_1_5, pq_1_6, pq_1_7, pq_1_8, pq_1_4, pq_1_9, pq_1_10, pq_1_11, pq_1_12, pq_1_13, pq_1_14, pq_1_15, pq_1_16, pq_1_17, pq_1_18, pq_1_19, pq_1_20, pq_1_21, pq_1_22, pq_1_23, pq_2_0, pq_2_1, pq_2_2, pq_2_3, pq_2_4, pq_2_5, pq_2_6, pq_2_7, pq_2_8, pq_2_9, pq_2_10, pq_2_11, pq_2_12, pq_2_13, pq_2_14, pq_2_15, pq_2_16, pq_2_17, pq_2_18, pq_2_19, pq_2_20, pq_2_21, pq_2_22, pq_2_23, pq_3_0, pq_3_1, pq_5_0, pq_5_1, pq_5_2, pq_5_3, pq_5_4, pq_5_5, pq_5_6, pq_5_7, pq_5_8, pq_5_9, pq_5_10, pq_5_11, pq_5_12, pq_5_13, pq_6_0, pq_6_1, pq_7_0, pq_7_1, pq_7_2, pq_7_3, pq_7_4, pq_7_5] (by rfl) (by decide +kernel)) (goodIn_sub (fun _ h => List.mem_cons_of_mem _ (List.mem_append_right _ h)) (by decide +kernel))
set_option maxRecDepth 20000 in
theorem gL_differ_X6_differ : GoodIn wsL_differ (wsV RL 153 RX6 yX6_differ wsX6_differ) := goodIn_app (goodIn_s seL_differ _ [pq_1_1, pq_1_2, pq_1_3, pq_1_4] (by rfl) (by decide +kernel)) ggL_differ_X6_differ
def lb_sgL_differ : List (List UInt8) := [[45, 42, 27, 28, 182, 0, 153, 133, 181, 0, 13, 167, 0, 7, 58, 4], [4, 172, 3, 172]]
set_option maxRecDepth 100000 in
theorem lb_seL_differ : cL_differ.data.toList = lb_sgL_differ.flatten := by decide +kernel
theorem lb_lnL_differ : ∀ s ∈ lb_sgL_differ.dropLast, s.length = 16 := by decide +kernel
theorem lxL_differ (k j : Nat) {b : UInt8} (h : (lb_sgL_differ[k]?).bind (fun s => s[j]?) = some b) : lb_at cL_differ (16 * k + j) b := by
  unfold lb_at
  rw [lb_seL_differ]
  exact lb_flat 16 lb_sgL_differ k j b lb_lnL_differ h
set_option maxRecDepth 20000 in
theorem dL_differ_0 : decode cL_differ 0 = .ok (.aload_n 3, 1) := dc_45 (lxL_differ 0 0 rfl)
set_option maxRecDepth 20000 in
theorem dL_differ_1 : decode cL_differ 1 = .ok (.aload_n 0, 1) := dc_42 (lxL_differ 0 1 rfl)
set_option maxRecDepth 20000 in
theorem dL_differ_2 : decode cL_differ 2 = .ok (.iload_n 1, 1) := dc_27 (lxL_differ 0 2 rfl)
set_option maxRecDepth 20000 in
theorem dL_differ_3 : decode cL_differ 3 = .ok (.iload_n 2, 1) := dc_28 (lxL_differ 0 3 rfl)
set_option maxRecDepth 20000 in
theorem dL_differ_4 : decode cL_differ 4 = .ok (.invokevirtual 153, 3) := dc_182 0 153 (lxL_differ 0 4 rfl) (lxL_differ 0 5 rfl) (lxL_differ 0 6 rfl)
set_option maxRecDepth 20000 in
theorem dL_differ_7 : decode cL_differ 7 = .ok (.i2l, 1) := dc_133 (lxL_differ 0 7 rfl)
set_option maxRecDepth 20000 in
theorem dL_differ_8 : decode cL_differ 8 = .ok (.putfield 13, 3) := dc_181 0 13 (lxL_differ 0 8 rfl) (lxL_differ 0 9 rfl) (lxL_differ 0 10 rfl)
set_option maxRecDepth 20000 in
theorem dL_differ_11 : decode cL_differ 11 = .ok (.goto 7, 3) := dc_167 0 7 (lxL_differ 0 11 rfl) (lxL_differ 0 12 rfl) (lxL_differ 0 13 rfl)
set_option maxRecDepth 20000 in
theorem dL_differ_14 : decode cL_differ 14 = .ok (.astore 4, 2) := dc_58 4 (lxL_differ 0 14 rfl) (lxL_differ 0 15 rfl)
set_option maxRecDepth 20000 in
theorem dL_differ_16 : decode cL_differ 16 = .ok (.iconst 1, 1) := dc_4 (lxL_differ 1 0 rfl)
set_option maxRecDepth 20000 in
theorem dL_differ_17 : decode cL_differ 17 = .ok (.ireturn, 1) := dc_172 (lxL_differ 1 1 rfl)
set_option maxRecDepth 20000 in
theorem dL_differ_18 : decode cL_differ 18 = .ok (.iconst 0, 1) := dc_3 (lxL_differ 1 2 rfl)
set_option maxRecDepth 20000 in
theorem dL_differ_19 : decode cL_differ 19 = .ok (.ireturn, 1) := dc_172 (lxL_differ 1 3 rfl)
noncomputable def sgL_known : List (List Cond) := [[.codeWith yL_known cL_known 5 (some .int) [(0, 11, 14, 19), (0, 11, 18, 21)]], wsL_known_r1, wsL_known_r2, wsL_known_r3, wsL_known_r4, wsX70, wsX60, wsX30, wsX00, wsX20, wsX50, (vx_atS RX6 306 "java/lang/IndexOutOfBoundsException" ["java/lang/RuntimeException", "java/lang/Exception"]).filter goodWord, (vx_atS RX6 317 "java/lang/IllegalArgumentException" ["java/lang/RuntimeException", "java/lang/Exception"]).filter goodWord]
theorem seL_known : sgL_known.flatten = wsL_known := by simp only [sgL_known, wsL_known, List.flatten_cons, List.flatten_nil, List.append_assoc, List.append_nil, List.cons_append, List.nil_append]
set_option maxRecDepth 20000 in
theorem ggL_known_X6_known : GoodIn wsL_known wsX6_known := goodIn_ca (goodIn_ca (goodIn_s seL_known _ [pq_1_6, pq_1_7, pq_1_8, pq_1_9, pq_1_10, pq_1_11, pq_1_12, pq_1_5, pq_1_13, pq_1_14, pq_1_15, pq_1_16, pq_1_17, pq_1_18, pq_1_19, pq_1_20, pq_1_21, pq_1_22, pq_1_23, pq_2_0, pq_2_1, pq_2_2, pq_2_3, pq_2_4, pq_2_5, pq_2_6, pq_2_7, pq_2_8, pq_2_9, pq_2_10, pq_2_11, pq_2_12, pq_2_13, pq_2_14, pq_2_15, pq_2_16, pq_2_17, pq_2_18, pq_2_19, pq_2_20, pq_2_21, pq_2_22, pq_2_23, pq_3_0, pq_3_1, pq_3_2, pq_3_3, pq_3_4, pq_3_5, pq_3_6, pq_3_7, pq_3_8, pq_3_9, pq_3_10, pq_3_11, pq_3_12, pq_3_13, pq_3_14, pq_3_15, pq_3_16, pq_3_17, pq_3_18, pq_3_19, pq_3_20, pq_3_21, pq_3_22, pq_3_23, pq_4_0, pq_4_1, pq_4_2, pq_4_3, pq_4_4, pq_4_5, pq_4_6, pq_4_7, pq_4_8, pq_4_9, pq_4_10, pq_6_0, pq_6_1, pq_6_2, pq_6_3, pq_6_4, pq_6_5, pq_6_6, pq_6_7, pq_6_8, pq_6_9, pq_6_10, pq_6_11, pq_6_12, pq_6_13, pq_7_0, pq_7_1, pq_7_2, pq_8_0, pq_8_1, pq_8_2, pq_9_0, pq_9_1, pq_10_0, pq_10_1, pq_10_2, pq_10_3, pq_10_4, pq_10_5] (by rfl) (by decide +kernel)) (goodIn_sub (fun _ h => List.mem_cons_of_mem _ (List.mem_append_left _ (List.mem_append_right _ h))) (by decide +kernel))) (goodIn_sub (fun _ h => List.mem_cons_of_mem _ (List.mem_append_right _ h)) (by decide +kernel))
set_option maxRecDepth 20000 in
theorem gL_known_X6_known : GoodIn wsL_known (wsV RL 156 RX6 yX6_known wsX6_known) := goodIn_app (goodIn_s seL_known _ [pq_1_2, pq_1_3, pq_1_4, pq_1_5] (by rfl) (by decide +kernel)) ggL_known_X6_known
def lb_sgL_known : List (List UInt8) := [[45, 42, 27, 28, 182, 0, 156, 133, 181, 0, 13, 167, 0, 11, 58, 4], [4, 172, 58, 4, 5, 172, 3, 172]]
set_option maxRecDepth 100000 in
theorem lb_seL_known : cL_known.data.toList = lb_sgL_known.flatten := by decide +kernel
theorem lb_lnL_known : ∀ s ∈ lb_sgL_known.dropLast, s.length = 16 := by decide +kernel
theorem lxL_known (k j : Nat) {b : UInt8} (h : (lb_sgL_known[k]?).bind (fun s => s[j]?) = some b) : lb_at cL_known (16 * k + j) b := by
  unfold lb_at
  rw [lb_seL_known]
  exact lb_flat 16 lb_sgL_known k j b lb_lnL_known h
set_option maxRecDepth 20000 in
theorem dL_known_0 : decode cL_known 0 = .ok (.aload_n 3, 1) := dc_45 (lxL_known 0 0 rfl)
set_option maxRecDepth 20000 in
theorem dL_known_1 : decode cL_known 1 = .ok (.aload_n 0, 1) := dc_42 (lxL_known 0 1 rfl)
set_option maxRecDepth 20000 in
theorem dL_known_2 : decode cL_known 2 = .ok (.iload_n 1, 1) := dc_27 (lxL_known 0 2 rfl)
set_option maxRecDepth 20000 in
theorem dL_known_3 : decode cL_known 3 = .ok (.iload_n 2, 1) := dc_28 (lxL_known 0 3 rfl)
set_option maxRecDepth 20000 in
theorem dL_known_4 : decode cL_known 4 = .ok (.invokevirtual 156, 3) := dc_182 0 156 (lxL_known 0 4 rfl) (lxL_known 0 5 rfl) (lxL_known 0 6 rfl)
set_option maxRecDepth 20000 in
theorem dL_known_7 : decode cL_known 7 = .ok (.i2l, 1) := dc_133 (lxL_known 0 7 rfl)
set_option maxRecDepth 20000 in
theorem dL_known_8 : decode cL_known 8 = .ok (.putfield 13, 3) := dc_181 0 13 (lxL_known 0 8 rfl) (lxL_known 0 9 rfl) (lxL_known 0 10 rfl)
set_option maxRecDepth 20000 in
theorem dL_known_11 : decode cL_known 11 = .ok (.goto 11, 3) := dc_167 0 11 (lxL_known 0 11 rfl) (lxL_known 0 12 rfl) (lxL_known 0 13 rfl)
set_option maxRecDepth 20000 in
theorem dL_known_14 : decode cL_known 14 = .ok (.astore 4, 2) := dc_58 4 (lxL_known 0 14 rfl) (lxL_known 0 15 rfl)
set_option maxRecDepth 20000 in
theorem dL_known_16 : decode cL_known 16 = .ok (.iconst 1, 1) := dc_4 (lxL_known 1 0 rfl)
set_option maxRecDepth 20000 in
theorem dL_known_17 : decode cL_known 17 = .ok (.ireturn, 1) := dc_172 (lxL_known 1 1 rfl)
set_option maxRecDepth 20000 in
theorem dL_known_18 : decode cL_known 18 = .ok (.astore 4, 2) := dc_58 4 (lxL_known 1 2 rfl) (lxL_known 1 3 rfl)
set_option maxRecDepth 20000 in
theorem dL_known_20 : decode cL_known 20 = .ok (.iconst 2, 1) := dc_5 (lxL_known 1 4 rfl)
set_option maxRecDepth 20000 in
theorem dL_known_21 : decode cL_known 21 = .ok (.ireturn, 1) := dc_172 (lxL_known 1 5 rfl)
set_option maxRecDepth 20000 in
theorem dL_known_22 : decode cL_known 22 = .ok (.iconst 0, 1) := dc_3 (lxL_known 1 6 rfl)
set_option maxRecDepth 20000 in
theorem dL_known_23 : decode cL_known 23 = .ok (.ireturn, 1) := dc_172 (lxL_known 1 7 rfl)
noncomputable def sgL_travelled : List (List Cond) := [[.codeWith yL_travelled cL_travelled 4 (some .int) [(0, 9, 12, 21)]], wsL_travelled_r1, wsL_travelled_r2, wsL_travelled_r3, wsL_travelled_r4, wsL_travelled_r5, wsL_travelled_r6, wsL_travelled_r7, wsL_travelled_r8, wsL_travelled_r9, wsL_travelled_r10, wsX70, wsX60, wsX10, wsJ40, wsX20, wsX50, wsJ00, (vx_atS RX6 317 "java/lang/IllegalArgumentException" ["java/lang/RuntimeException", "java/lang/Exception"]).filter goodWord]
theorem seL_travelled : sgL_travelled.flatten = wsL_travelled := by simp only [sgL_travelled, wsL_travelled, List.flatten_cons, List.flatten_nil, List.append_assoc, List.append_nil, List.cons_append, List.nil_append]
set_option maxRecDepth 20000 in
theorem ggL_travelled_X6_travelled : GoodIn wsL_travelled wsX6_travelled := goodIn_ca (goodIn_s seL_travelled _ [pq_1_5, pq_1_6, pq_1_7, pq_1_8, pq_1_4, pq_1_9, pq_1_10, pq_1_11, pq_1_12, pq_1_13, pq_1_14, pq_1_15, pq_1_16, pq_1_17, pq_1_18, pq_1_19, pq_1_20, pq_1_21, pq_1_22, pq_1_23, pq_2_0, pq_2_1, pq_2_2, pq_2_3, pq_2_4, pq_2_5, pq_2_6, pq_2_7, pq_2_8, pq_2_9, pq_2_10, pq_2_11, pq_2_12, pq_2_13, pq_2_14, pq_2_15, pq_2_16, pq_2_17, pq_2_18, pq_2_19, pq_2_20, pq_2_21, pq_2_22, pq_2_23, pq_3_0, pq_3_1, pq_3_2, pq_3_3, pq_3_4, pq_3_5, pq_3_6, pq_3_7, pq_3_8, pq_3_9, pq_3_10, pq_3_11, pq_3_12, pq_3_13, pq_3_14, pq_3_15, pq_3_16, pq_3_17, pq_3_18, pq_3_19, pq_3_20, pq_3_21, pq_3_22, pq_3_23, pq_4_0, pq_4_1, pq_4_2, pq_4_3, pq_4_4, pq_4_5, pq_4_6, pq_4_7, pq_4_8, pq_4_9, pq_4_10, pq_4_11, pq_4_12, pq_4_13, pq_4_14, pq_4_15, pq_4_16, pq_4_17, pq_4_18, pq_4_19, pq_4_20, pq_4_21, pq_4_22, pq_4_23, pq_5_0, pq_5_1, pq_5_2, pq_5_3, pq_5_4, pq_5_5, pq_5_6, pq_5_7, pq_5_8, pq_5_9, pq_5_10, pq_5_11, pq_5_12, pq_5_13, pq_5_14, pq_5_15, pq_5_16, pq_5_17, pq_5_18, pq_5_19, pq_5_20, pq_5_21, pq_5_22, pq_5_23, pq_6_0, pq_6_1, pq_6_2, pq_6_3, pq_6_4, pq_6_5, pq_6_6, pq_6_7, pq_6_8, pq_6_9, pq_6_10, pq_6_11, pq_6_12, pq_6_13, pq_6_14, pq_6_15, pq_6_16, pq_6_17, pq_6_18, pq_6_19, pq_6_20, pq_6_21, pq_6_22, pq_6_23, pq_7_0, pq_7_1, pq_7_2, pq_7_3, pq_7_4, pq_7_5, pq_7_6, pq_7_7, pq_7_8, pq_7_9, pq_7_10, pq_7_11, pq_7_12, pq_7_13, pq_7_14, pq_7_15, pq_7_16, pq_7_17, pq_7_18, pq_7_19, pq_7_20, pq_7_21, pq_7_22, pq_7_23, pq_8_0, pq_8_1, pq_8_2, pq_8_3, pq_8_4, pq_8_5, pq_8_6, pq_8_7, pq_8_8, pq_8_9, pq_8_10, pq_8_11, pq_8_12, pq_8_13, pq_8_14, pq_8_15, pq_8_16, pq_8_17, pq_8_18, pq_8_19, pq_8_20, pq_8_21, pq_8_22, pq_8_23, pq_9_0, pq_9_1, pq_9_2, pq_9_3, pq_9_4, pq_9_5, pq_9_6, pq_9_7, pq_9_8, pq_9_9, pq_9_10, pq_9_11, pq_9_12, pq_9_13, pq_9_14, pq_9_15, pq_9_16, pq_9_17, pq_9_18, pq_9_19, pq_9_20, pq_9_21, pq_9_22, pq_9_23, pq_10_0, pq_10_1, pq_10_2, pq_10_3, pq_10_4, pq_10_5, pq_10_6, pq_10_7, pq_10_8, pq_10_9, pq_12_0, pq_12_1, pq_12_2, pq_12_3, pq_12_4, pq_12_5, pq_12_6, pq_12_7, pq_12_8, pq_12_9, pq_12_10, pq_12_11, pq_12_12, pq_12_13, pq_13_0, pq_13_1, pq_13_2, pq_13_3, pq_14_0, pq_14_1, pq_14_2, pq_14_3, pq_15_0, pq_15_1, pq_16_0, pq_16_1, pq_16_2, pq_16_3, pq_16_4, pq_16_5, pq_17_0, pq_17_1, pq_17_2, pq_17_3] (by rfl) (by decide +kernel)) (goodIn_sub (fun _ h => List.mem_cons_of_mem _ (List.mem_append_right _ h)) (by decide +kernel))
set_option maxRecDepth 20000 in
theorem gL_travelled_X6_travelled : GoodIn wsL_travelled (wsV RL 159 RX6 yX6_travelled wsX6_travelled) := goodIn_app (goodIn_s seL_travelled _ [pq_1_1, pq_1_2, pq_1_3, pq_1_4] (by rfl) (by decide +kernel)) ggL_travelled_X6_travelled
def lb_sgL_travelled : List (List UInt8) := [[44, 42, 27, 182, 0, 159, 181, 0, 51, 167, 0, 6, 78, 4, 172, 3], [172]]
set_option maxRecDepth 100000 in
theorem lb_seL_travelled : cL_travelled.data.toList = lb_sgL_travelled.flatten := by decide +kernel
theorem lb_lnL_travelled : ∀ s ∈ lb_sgL_travelled.dropLast, s.length = 16 := by decide +kernel
theorem lxL_travelled (k j : Nat) {b : UInt8} (h : (lb_sgL_travelled[k]?).bind (fun s => s[j]?) = some b) : lb_at cL_travelled (16 * k + j) b := by
  unfold lb_at
  rw [lb_seL_travelled]
  exact lb_flat 16 lb_sgL_travelled k j b lb_lnL_travelled h
set_option maxRecDepth 20000 in
theorem dL_travelled_0 : decode cL_travelled 0 = .ok (.aload_n 2, 1) := dc_44 (lxL_travelled 0 0 rfl)
set_option maxRecDepth 20000 in
theorem dL_travelled_1 : decode cL_travelled 1 = .ok (.aload_n 0, 1) := dc_42 (lxL_travelled 0 1 rfl)
set_option maxRecDepth 20000 in
theorem dL_travelled_2 : decode cL_travelled 2 = .ok (.iload_n 1, 1) := dc_27 (lxL_travelled 0 2 rfl)
set_option maxRecDepth 20000 in
theorem dL_travelled_3 : decode cL_travelled 3 = .ok (.invokevirtual 159, 3) := dc_182 0 159 (lxL_travelled 0 3 rfl) (lxL_travelled 0 4 rfl) (lxL_travelled 0 5 rfl)
set_option maxRecDepth 20000 in
theorem dL_travelled_6 : decode cL_travelled 6 = .ok (.putfield 51, 3) := dc_181 0 51 (lxL_travelled 0 6 rfl) (lxL_travelled 0 7 rfl) (lxL_travelled 0 8 rfl)
set_option maxRecDepth 20000 in
theorem dL_travelled_9 : decode cL_travelled 9 = .ok (.goto 6, 3) := dc_167 0 6 (lxL_travelled 0 9 rfl) (lxL_travelled 0 10 rfl) (lxL_travelled 0 11 rfl)
set_option maxRecDepth 20000 in
theorem dL_travelled_12 : decode cL_travelled 12 = .ok (.astore_n 3, 1) := dc_78 (lxL_travelled 0 12 rfl)
set_option maxRecDepth 20000 in
theorem dL_travelled_13 : decode cL_travelled 13 = .ok (.iconst 1, 1) := dc_4 (lxL_travelled 0 13 rfl)
set_option maxRecDepth 20000 in
theorem dL_travelled_14 : decode cL_travelled 14 = .ok (.ireturn, 1) := dc_172 (lxL_travelled 0 14 rfl)
set_option maxRecDepth 20000 in
theorem dL_travelled_15 : decode cL_travelled 15 = .ok (.iconst 0, 1) := dc_3 (lxL_travelled 0 15 rfl)
set_option maxRecDepth 20000 in
theorem dL_travelled_16 : decode cL_travelled 16 = .ok (.ireturn, 1) := dc_172 (lxL_travelled 1 0 rfl)
noncomputable def sgL_house : List (List Cond) := [[.codeWith yL_house cL_house 4 (some .int) [(0, 10, 13, 21)]], [.classLink RL 21 "java/lang/IllegalArgumentException", .methodLink RL 162 yX6_house, .instanceMethod yX6_house, .selects RX6 yX6_house yX6_house, .initialized RX6, .code yX6_house cX6_house 2 (some .int), .methodLink RX6 66 yX6_requireWithin, .static yX6_requireWithin, .code yX6_requireWithin cX6_requireWithin 3 none, .classLink RX6 313 "java/lang/IllegalArgumentException", .initialized "java/lang/IllegalArgumentException", .methodLink RX6 259 yX6_counted, .instanceMethod yX6_counted, .selects RX6 yX6_counted yX6_counted, .code yX6_counted cX6_counted 2 (some .int), .fieldLink RX6 328 "Sashwords" "actsDone" "I", .fieldLink RX6 331 "Sashwords" "actsRefused" "I", .fieldLink RX6 262 "Sashwords" "knocks" "I", .fieldLink RX6 203 "Sashwords" "rounds" "I"], wsX70, wsX60, (vx_atS RX6 317 "java/lang/IllegalArgumentException" ["java/lang/RuntimeException", "java/lang/Exception"]).filter goodWord]
theorem seL_house : sgL_house.flatten = wsL_house := by simp only [sgL_house, wsL_house, List.flatten_cons, List.flatten_nil, List.append_assoc, List.append_nil, List.cons_append, List.nil_append]
set_option maxRecDepth 20000 in
theorem ggL_house_X6_house : GoodIn wsL_house wsX6_house := goodIn_ca (goodIn_s seL_house _ [pq_1_5, pq_1_6, pq_1_7, pq_1_4, pq_1_8, pq_1_9, pq_1_10, pq_1_11, pq_1_12, pq_1_13, pq_1_14, pq_1_15, pq_1_16, pq_1_17, pq_1_18, pq_3_0, pq_3_1, pq_3_2, pq_3_3, pq_3_4, pq_3_5, pq_3_6, pq_3_7, pq_3_8, pq_3_9, pq_3_10, pq_3_11, pq_3_12, pq_3_13] (by rfl) (by decide +kernel)) (goodIn_sub (fun _ h => List.mem_cons_of_mem _ (List.mem_append_right _ h)) (by decide +kernel))
set_option maxRecDepth 20000 in
theorem gL_house_X6_house : GoodIn wsL_house (wsV RL 162 RX6 yX6_house wsX6_house) := goodIn_app (goodIn_s seL_house _ [pq_1_1, pq_1_2, pq_1_3, pq_1_4] (by rfl) (by decide +kernel)) ggL_house_X6_house
def lb_sgL_house : List (List UInt8) := [[44, 42, 27, 182, 0, 162, 133, 181, 0, 13, 167, 0, 6, 78, 4, 172], [3, 172]]
set_option maxRecDepth 100000 in
theorem lb_seL_house : cL_house.data.toList = lb_sgL_house.flatten := by decide +kernel
theorem lb_lnL_house : ∀ s ∈ lb_sgL_house.dropLast, s.length = 16 := by decide +kernel
theorem lxL_house (k j : Nat) {b : UInt8} (h : (lb_sgL_house[k]?).bind (fun s => s[j]?) = some b) : lb_at cL_house (16 * k + j) b := by
  unfold lb_at
  rw [lb_seL_house]
  exact lb_flat 16 lb_sgL_house k j b lb_lnL_house h
set_option maxRecDepth 20000 in
theorem dL_house_0 : decode cL_house 0 = .ok (.aload_n 2, 1) := dc_44 (lxL_house 0 0 rfl)
set_option maxRecDepth 20000 in
theorem dL_house_1 : decode cL_house 1 = .ok (.aload_n 0, 1) := dc_42 (lxL_house 0 1 rfl)
set_option maxRecDepth 20000 in
theorem dL_house_2 : decode cL_house 2 = .ok (.iload_n 1, 1) := dc_27 (lxL_house 0 2 rfl)
set_option maxRecDepth 20000 in
theorem dL_house_3 : decode cL_house 3 = .ok (.invokevirtual 162, 3) := dc_182 0 162 (lxL_house 0 3 rfl) (lxL_house 0 4 rfl) (lxL_house 0 5 rfl)
set_option maxRecDepth 20000 in
theorem dL_house_6 : decode cL_house 6 = .ok (.i2l, 1) := dc_133 (lxL_house 0 6 rfl)
set_option maxRecDepth 20000 in
theorem dL_house_7 : decode cL_house 7 = .ok (.putfield 13, 3) := dc_181 0 13 (lxL_house 0 7 rfl) (lxL_house 0 8 rfl) (lxL_house 0 9 rfl)
set_option maxRecDepth 20000 in
theorem dL_house_10 : decode cL_house 10 = .ok (.goto 6, 3) := dc_167 0 6 (lxL_house 0 10 rfl) (lxL_house 0 11 rfl) (lxL_house 0 12 rfl)
set_option maxRecDepth 20000 in
theorem dL_house_13 : decode cL_house 13 = .ok (.astore_n 3, 1) := dc_78 (lxL_house 0 13 rfl)
set_option maxRecDepth 20000 in
theorem dL_house_14 : decode cL_house 14 = .ok (.iconst 1, 1) := dc_4 (lxL_house 0 14 rfl)
set_option maxRecDepth 20000 in
theorem dL_house_15 : decode cL_house 15 = .ok (.ireturn, 1) := dc_172 (lxL_house 0 15 rfl)
set_option maxRecDepth 20000 in
theorem dL_house_16 : decode cL_house 16 = .ok (.iconst 0, 1) := dc_3 (lxL_house 1 0 rfl)
set_option maxRecDepth 20000 in
theorem dL_house_17 : decode cL_house 17 = .ok (.ireturn, 1) := dc_172 (lxL_house 1 1 rfl)
