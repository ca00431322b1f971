noncomputable def sgX6_init : List (List Cond) := [[.code yX6_init cX6_init 2 none], wsX6_init_r1, wsX6_init_r2, wsX6_init_r3, wsX60, wsX20, wsX10, wsX50, wsX30, wsX00]
theorem seX6_init : sgX6_init.flatten = wsX6_init := by simp only [sgX6_init, wsX6_init, List.flatten_cons, List.flatten_nil, List.append_assoc, List.append_nil, List.cons_append, List.nil_append]
set_option maxRecDepth 20000 in
theorem ggX6_init_X2_init : GoodIn wsX6_init wsX2_init := goodIn_s seX6_init _ [pq_2_6, pq_2_7, pq_2_8, pq_2_9, pq_2_10, pq_2_11, pq_2_12, pq_2_13, pq_2_14, pq_2_15, pq_2_16, pq_1_1, pq_1_2, pq_5_0, pq_5_1] (by rfl) gw_wsX2_init
set_option maxRecDepth 20000 in
theorem gX6_init_X2_init : GoodIn wsX6_init (wsX2_init) := ggX6_init_X2_init
set_option maxRecDepth 20000 in
theorem ggX6_init_X1_init : GoodIn wsX6_init wsX1_init := goodIn_s seX6_init _ [pq_2_18, pq_2_19, pq_1_1, pq_1_2, pq_2_20, pq_1_6, pq_1_7, pq_2_21, pq_2_22, pq_2_23, pq_3_0, pq_3_1, pq_2_5, pq_2_6, pq_2_7, pq_2_8, pq_2_9, pq_2_10, pq_2_11, pq_2_12, pq_2_13, pq_2_14, pq_2_15, pq_2_16, pq_5_0, pq_5_1, pq_6_0, pq_6_1, pq_6_2, pq_6_3] (by rfl) gw_wsX1_init
set_option maxRecDepth 20000 in
theorem gX6_init_X1_init_n29 : GoodIn wsX6_init (wsX1_init) := ggX6_init_X1_init
set_option maxRecDepth 20000 in
theorem ggX6_init_X5_init : GoodIn wsX6_init wsX5_init := goodIn_s seX6_init _ [pq_3_4, pq_3_5, pq_2_8, pq_2_9, pq_2_10, pq_2_11, pq_3_6, pq_3_7, pq_3_8, pq_3_9, pq_2_13, pq_2_14, pq_2_15, pq_2_16, pq_1_1, pq_1_2, pq_7_0, pq_7_1, pq_7_2, pq_7_3, pq_7_4, pq_7_5] (by rfl) gw_wsX5_init
set_option maxRecDepth 20000 in
theorem gX6_init_X5_init : GoodIn wsX6_init (wsX5_init) := ggX6_init_X5_init
set_option maxRecDepth 20000 in
theorem ggX6_init_X3_init : GoodIn wsX6_init wsX3_init := goodIn_s seX6_init _ [pq_3_11, pq_3_12, pq_1_1, pq_1_2, pq_3_13, pq_2_1, pq_2_2, pq_3_14, pq_3_15, pq_3_16, pq_3_17, pq_3_18, pq_3_19, pq_3_20, pq_3_21, pq_9_0, pq_9_1, pq_9_2, pq_8_0, pq_8_1, pq_8_2] (by rfl) gw_wsX3_init
set_option maxRecDepth 20000 in
theorem gX6_init_X3_init_n47 : GoodIn wsX6_init (wsX3_init) := ggX6_init_X3_init
set_option maxRecDepth 20000 in
theorem ggX6_init_X0_init : GoodIn wsX6_init wsX0_init := goodIn_s seX6_init _ [pq_3_18, pq_3_19, pq_1_1, pq_1_2, pq_3_15, pq_3_20, pq_3_21, pq_9_0, pq_9_1, pq_9_2] (by rfl) gw_wsX0_init
set_option maxRecDepth 20000 in
theorem gX6_init_X0_init_n57 : GoodIn wsX6_init (wsX0_init) := ggX6_init_X0_init
noncomputable def sgX6_allocate : List (List Cond) := [[.code yX6_allocate cX6_allocate 4 (some .int)], wsX6_allocate_r1, wsX6_allocate_r2, wsX60, wsX50, (vx_atS RX6 306 "java/lang/IndexOutOfBoundsException" ["java/lang/RuntimeException", "java/lang/Exception"]).filter goodWord, (vx_atS RX6 317 "java/lang/IllegalArgumentException" ["java/lang/RuntimeException", "java/lang/Exception"]).filter goodWord]
theorem seX6_allocate : sgX6_allocate.flatten = wsX6_allocate := by simp only [sgX6_allocate, wsX6_allocate, List.flatten_cons, List.flatten_nil, List.append_assoc, List.append_nil, List.cons_append, List.nil_append]
set_option maxRecDepth 20000 in
theorem ggX6_allocate_X6_windowOf : GoodIn wsX6_allocate wsX6_windowOf := goodIn_ca (goodIn_s seX6_allocate _ [pq_1_4, pq_1_5, pq_1_6, pq_1_7, pq_3_0, pq_3_1, pq_3_2, pq_3_3, pq_3_4, pq_3_5, pq_3_6, pq_3_7, pq_3_8, pq_3_9, pq_3_10, pq_3_11, pq_3_12, pq_3_13] (by rfl) (by decide +kernel)) (goodIn_sub (fun _ h => List.mem_cons_of_mem _ (List.mem_append_left _ (List.mem_append_right _ h))) (by decide +kernel))
set_option maxRecDepth 20000 in
theorem gX6_allocate_X6_windowOf : GoodIn wsX6_allocate (wsV RX6 62 RX6 yX6_windowOf wsX6_windowOf) := goodIn_app (goodIn_s seX6_allocate _ [pq_1_0, pq_1_1, pq_1_2, pq_1_3] (by rfl) (by decide +kernel)) ggX6_allocate_X6_windowOf
set_option maxRecDepth 20000 in
theorem ggX6_allocate_X6_requireWithin : GoodIn wsX6_allocate wsX6_requireWithin := goodIn_ca (goodIn_s seX6_allocate _ [pq_1_10, pq_1_11, pq_1_12] (by rfl) (by decide +kernel)) (goodIn_sub (fun _ h => List.mem_cons_of_mem _ (List.mem_append_right _ h)) (by decide +kernel))
set_option maxRecDepth 20000 in
theorem gX6_allocate_X6_requireWithin : GoodIn wsX6_allocate (va_wsS RX6 66 yX6_requireWithin wsX6_requireWithin) := goodIn_app (goodIn_s seX6_allocate _ [pq_1_8, pq_1_9, pq_1_3] (by rfl) (by decide +kernel)) ggX6_allocate_X6_requireWithin
set_option maxRecDepth 20000 in
theorem ggX6_allocate_X5_becomeNew : GoodIn wsX6_allocate wsX5_becomeNew := goodIn_s seX6_allocate _ [pq_1_17, pq_1_18, pq_1_19, pq_1_20, pq_1_21, pq_1_22, pq_1_23, pq_2_0, pq_2_1, pq_2_2, pq_2_3, pq_2_4, pq_1_16, pq_2_5, pq_2_6, pq_2_7, pq_2_8, pq_4_0, pq_4_1, pq_4_2, pq_4_3, pq_4_4, pq_4_5] (by rfl) gw_wsX5_becomeNew
set_option maxRecDepth 20000 in
theorem gX6_allocate_X5_becomeNew : GoodIn wsX6_allocate (wsV RX6 70 RX5 yX5_becomeNew wsX5_becomeNew) := goodIn_app (goodIn_s seX6_allocate _ [pq_1_13, pq_1_14, pq_1_15, pq_1_16] (by rfl) (by decide +kernel)) ggX6_allocate_X5_becomeNew
set_option maxRecDepth 20000 in
theorem ggX6_allocate_X5_size : GoodIn wsX6_allocate wsX5_size := goodIn_s seX6_allocate _ [pq_2_12, pq_2_7, pq_2_6, pq_4_0, pq_4_1, pq_4_2, pq_4_3, pq_4_4, pq_4_5] (by rfl) gw_wsX5_size
set_option maxRecDepth 20000 in
theorem gX6_allocate_X5_size : GoodIn wsX6_allocate (wsV RX6 73 RX5 yX5_size wsX5_size) := goodIn_app (goodIn_s seX6_allocate _ [pq_2_9, pq_2_10, pq_2_11, pq_1_16] (by rfl) (by decide +kernel)) ggX6_allocate_X5_size
set_option maxRecDepth 20000 in
theorem ggX6_allocate_X6_done : GoodIn wsX6_allocate wsX6_done := goodIn_s seX6_allocate _ [pq_2_16, pq_2_17, pq_3_0, pq_3_1, pq_3_2, pq_3_3, pq_3_4, pq_3_5, pq_3_6, pq_3_7, pq_3_8, pq_3_9, pq_3_10, pq_3_11, pq_3_12, pq_3_13] (by rfl) gw_wsX6_done
set_option maxRecDepth 20000 in
theorem gX6_allocate_X6_done : GoodIn wsX6_allocate (wsV RX6 77 RX6 yX6_done wsX6_done) := goodIn_app (goodIn_s seX6_allocate _ [pq_2_13, pq_2_14, pq_2_15, pq_1_3] (by rfl) (by decide +kernel)) ggX6_allocate_X6_done
noncomputable def sgX6_slice : List (List Cond) := [[.code yX6_slice cX6_slice 5 (some .int)], wsX6_slice_r1, wsX6_slice_r2, wsX60, wsX50, (vx_atS RX6 306 "java/lang/IndexOutOfBoundsException" ["java/lang/RuntimeException", "java/lang/Exception"]).filter goodWord]
theorem seX6_slice : sgX6_slice.flatten = wsX6_slice := by simp only [sgX6_slice, wsX6_slice, List.flatten_cons, List.flatten_nil, List.append_assoc, List.append_nil, List.cons_append, List.nil_append]
set_option maxRecDepth 20000 in
theorem ggX6_slice_X6_windowOf : GoodIn wsX6_slice wsX6_windowOf := goodIn_ca (goodIn_s seX6_slice _ [pq_1_4, pq_1_5, pq_1_6, pq_1_7, pq_3_0, pq_3_1, pq_3_2, pq_3_3, pq_3_4, pq_3_5, pq_3_6, pq_3_7, pq_3_8, pq_3_9, pq_3_10, pq_3_11, pq_3_12, pq_3_13] (by rfl) (by decide +kernel)) (goodIn_sub (fun _ h => List.mem_cons_of_mem _ (List.mem_append_right _ h)) (by decide +kernel))
set_option maxRecDepth 20000 in
theorem gX6_slice_X6_windowOf : GoodIn wsX6_slice (wsV RX6 62 RX6 yX6_windowOf wsX6_windowOf) := goodIn_app (goodIn_s seX6_slice _ [pq_1_0, pq_1_1, pq_1_2, pq_1_3] (by rfl) (by decide +kernel)) ggX6_slice_X6_windowOf
set_option maxRecDepth 20000 in
theorem ggX6_slice_X5_becomeSlice : GoodIn wsX6_slice wsX5_becomeSlice := goodIn_s seX6_slice _ [pq_1_12, pq_1_13, pq_1_14, pq_1_15, pq_1_16, pq_1_17, pq_1_18, pq_1_19, pq_1_11, pq_1_20, pq_1_21, pq_1_22, pq_1_23, pq_2_0, pq_2_1, pq_2_2, pq_4_0, pq_4_1, pq_4_2, pq_4_3, pq_4_4, pq_4_5] (by rfl) gw_wsX5_becomeSlice
set_option maxRecDepth 20000 in
theorem gX6_slice_X5_becomeSlice : GoodIn wsX6_slice (wsV RX6 81 RX5 yX5_becomeSlice wsX5_becomeSlice) := goodIn_app (goodIn_s seX6_slice _ [pq_1_8, pq_1_9, pq_1_10, pq_1_11] (by rfl) (by decide +kernel)) ggX6_slice_X5_becomeSlice
set_option maxRecDepth 20000 in
theorem ggX6_slice_X5_size : GoodIn wsX6_slice wsX5_size := goodIn_s seX6_slice _ [pq_1_20, pq_1_21, pq_1_15, pq_4_0, pq_4_1, pq_4_2, pq_4_3, pq_4_4, pq_4_5] (by rfl) gw_wsX5_size
set_option maxRecDepth 20000 in
theorem gX6_slice_X5_size : GoodIn wsX6_slice (wsV RX6 73 RX5 yX5_size wsX5_size) := goodIn_app (goodIn_s seX6_slice _ [pq_2_3, pq_1_18, pq_1_19, pq_1_11] (by rfl) (by decide +kernel)) ggX6_slice_X5_size
set_option maxRecDepth 20000 in
theorem ggX6_slice_X6_done : GoodIn wsX6_slice wsX6_done := goodIn_s seX6_slice _ [pq_2_7, pq_2_8, pq_3_0, pq_3_1, pq_3_2, pq_3_3, pq_3_4, pq_3_5, pq_3_6, pq_3_7, pq_3_8, pq_3_9, pq_3_10, pq_3_11, pq_3_12, pq_3_13] (by rfl) gw_wsX6_done
set_option maxRecDepth 20000 in
theorem gX6_slice_X6_done : GoodIn wsX6_slice (wsV RX6 77 RX6 yX6_done wsX6_done) := goodIn_app (goodIn_s seX6_slice _ [pq_2_4, pq_2_5, pq_2_6, pq_1_3] (by rfl) (by decide +kernel)) ggX6_slice_X6_done
noncomputable def sgX6_duplicate : List (List Cond) := [[.code yX6_duplicate cX6_duplicate 5 (some .int)], wsX6_duplicate_r1, wsX6_duplicate_r2, wsX60, wsX50, (vx_atS RX6 306 "java/lang/IndexOutOfBoundsException" ["java/lang/RuntimeException", "java/lang/Exception"]).filter goodWord]
theorem seX6_duplicate : sgX6_duplicate.flatten = wsX6_duplicate := by simp only [sgX6_duplicate, wsX6_duplicate, List.flatten_cons, List.flatten_nil, List.append_assoc, List.append_nil, List.cons_append, List.nil_append]
set_option maxRecDepth 20000 in
theorem ggX6_duplicate_X6_windowOf : GoodIn wsX6_duplicate wsX6_windowOf := goodIn_ca (goodIn_s seX6_duplicate _ [pq_1_4, pq_1_5, pq_1_6, pq_1_7, pq_3_0, pq_3_1, pq_3_2, pq_3_3, pq_3_4, pq_3_5, pq_3_6, pq_3_7, pq_3_8, pq_3_9, pq_3_10, pq_3_11, pq_3_12, pq_3_13] (by rfl) (by decide +kernel)) (goodIn_sub (fun _ h => List.mem_cons_of_mem _ (List.mem_append_right _ h)) (by decide +kernel))
set_option maxRecDepth 20000 in
theorem gX6_duplicate_X6_windowOf : GoodIn wsX6_duplicate (wsV RX6 62 RX6 yX6_windowOf wsX6_windowOf) := goodIn_app (goodIn_s seX6_duplicate _ [pq_1_0, pq_1_1, pq_1_2, pq_1_3] (by rfl) (by decide +kernel)) ggX6_duplicate_X6_windowOf
set_option maxRecDepth 20000 in
theorem ggX6_duplicate_X5_becomeLike : GoodIn wsX6_duplicate wsX5_becomeLike := goodIn_s seX6_duplicate _ [pq_1_12, pq_1_13, pq_1_14, pq_1_15, pq_1_16, pq_1_17, pq_1_18, pq_4_0, pq_4_1, pq_4_2, pq_4_3, pq_4_4, pq_4_5] (by rfl) gw_wsX5_becomeLike
set_option maxRecDepth 20000 in
theorem gX6_duplicate_X5_becomeLike : GoodIn wsX6_duplicate (wsV RX6 85 RX5 yX5_becomeLike wsX5_becomeLike) := goodIn_app (goodIn_s seX6_duplicate _ [pq_1_8, pq_1_9, pq_1_10, pq_1_11] (by rfl) (by decide +kernel)) ggX6_duplicate_X5_becomeLike
set_option maxRecDepth 20000 in
theorem ggX6_duplicate_X5_size : GoodIn wsX6_duplicate wsX5_size := goodIn_s seX6_duplicate _ [pq_1_22, pq_1_16, pq_1_17, pq_4_0, pq_4_1, pq_4_2, pq_4_3, pq_4_4, pq_4_5] (by rfl) gw_wsX5_size
set_option maxRecDepth 20000 in
theorem gX6_duplicate_X5_size : GoodIn wsX6_duplicate (wsV RX6 73 RX5 yX5_size wsX5_size) := goodIn_app (goodIn_s seX6_duplicate _ [pq_1_19, pq_1_20, pq_1_21, pq_1_11] (by rfl) (by decide +kernel)) ggX6_duplicate_X5_size
set_option maxRecDepth 20000 in
theorem ggX6_duplicate_X6_done : GoodIn wsX6_duplicate wsX6_done := goodIn_s seX6_duplicate _ [pq_2_2, pq_2_3, pq_3_0, pq_3_1, pq_3_2, pq_3_3, pq_3_4, pq_3_5, pq_3_6, pq_3_7, pq_3_8, pq_3_9, pq_3_10, pq_3_11, pq_3_12, pq_3_13] (by rfl) gw_wsX6_done
set_option maxRecDepth 20000 in
theorem gX6_duplicate_X6_done : GoodIn wsX6_duplicate (wsV RX6 77 RX6 yX6_done wsX6_done) := goodIn_app (goodIn_s seX6_duplicate _ [pq_1_23, pq_2_0, pq_2_1, pq_1_3] (by rfl) (by decide +kernel)) ggX6_duplicate_X6_done
noncomputable def sgX6_part : List (List Cond) := [[.code yX6_part cX6_part 7 (some .int)], wsX6_part_r1, wsX6_part_r2, wsX60, wsX50, (vx_atS RX6 306 "java/lang/IndexOutOfBoundsException" ["java/lang/RuntimeException", "java/lang/Exception"]).filter goodWord]
theorem seX6_part : sgX6_part.flatten = wsX6_part := by simp only [sgX6_part, wsX6_part, List.flatten_cons, List.flatten_nil, List.append_assoc, List.append_nil, List.cons_append, List.nil_append]
set_option maxRecDepth 20000 in
theorem ggX6_part_X6_windowOf : GoodIn wsX6_part wsX6_windowOf := goodIn_ca (goodIn_s seX6_part _ [pq_1_4, pq_1_5, pq_1_6, pq_1_7, pq_3_0, pq_3_1, pq_3_2, pq_3_3, pq_3_4, pq_3_5, pq_3_6, pq_3_7, pq_3_8, pq_3_9, pq_3_10, pq_3_11, pq_3_12, pq_3_13] (by rfl) (by decide +kernel)) (goodIn_sub (fun _ h => List.mem_cons_of_mem _ (List.mem_append_right _ h)) (by decide +kernel))
set_option maxRecDepth 20000 in
theorem gX6_part_X6_windowOf : GoodIn wsX6_part (wsV RX6 62 RX6 yX6_windowOf wsX6_windowOf) := goodIn_app (goodIn_s seX6_part _ [pq_1_0, pq_1_1, pq_1_2, pq_1_3] (by rfl) (by decide +kernel)) ggX6_part_X6_windowOf
set_option maxRecDepth 20000 in
theorem ggX6_part_X5_size : GoodIn wsX6_part wsX5_size := goodIn_s seX6_part _ [pq_1_12, pq_1_13, pq_1_14, pq_4_0, pq_4_1, pq_4_2, pq_4_3, pq_4_4, pq_4_5] (by rfl) gw_wsX5_size
set_option maxRecDepth 20000 in
theorem gX6_part_X5_size : GoodIn wsX6_part (wsV RX6 73 RX5 yX5_size wsX5_size) := goodIn_app (goodIn_s seX6_part _ [pq_1_8, pq_1_9, pq_1_10, pq_1_11] (by rfl) (by decide +kernel)) ggX6_part_X5_size
set_option maxRecDepth 20000 in
theorem ggX6_part_X6_isStretch : GoodIn wsX6_part wsX6_isStretch := goodIn_s seX6_part _ [pq_1_17] (by rfl) gw_wsX6_isStretch
set_option maxRecDepth 20000 in
theorem gX6_part_X6_isStretch : GoodIn wsX6_part (va_wsS RX6 88 yX6_isStretch wsX6_isStretch) := goodIn_app (goodIn_s seX6_part _ [pq_1_15, pq_1_16, pq_1_3] (by rfl) (by decide +kernel)) ggX6_part_X6_isStretch
set_option maxRecDepth 20000 in
theorem ggX6_part_X6_refused : GoodIn wsX6_part wsX6_refused := goodIn_s seX6_part _ [pq_1_21, pq_1_22, pq_3_0, pq_3_1, pq_3_2, pq_3_3, pq_3_4, pq_3_5, pq_3_6, pq_3_7, pq_3_8, pq_3_9, pq_3_10, pq_3_11, pq_3_12, pq_3_13] (by rfl) gw_wsX6_refused
set_option maxRecDepth 20000 in
theorem gX6_part_X6_refused : GoodIn wsX6_part (wsV RX6 92 RX6 yX6_refused wsX6_refused) := goodIn_app (goodIn_s seX6_part _ [pq_1_18, pq_1_19, pq_1_20, pq_1_3] (by rfl) (by decide +kernel)) ggX6_part_X6_refused
set_option maxRecDepth 20000 in
theorem ggX6_part_X5_becomePart : GoodIn wsX6_part wsX5_becomePart := goodIn_s seX6_part _ [pq_2_2, pq_1_14, pq_2_3, pq_2_4, pq_2_5, pq_1_13, pq_2_6, pq_4_0, pq_4_1, pq_4_2, pq_4_3, pq_4_4, pq_4_5] (by rfl) gw_wsX5_becomePart
set_option maxRecDepth 20000 in
theorem gX6_part_X5_becomePart : GoodIn wsX6_part (wsV RX6 95 RX5 yX5_becomePart wsX5_becomePart) := goodIn_app (goodIn_s seX6_part _ [pq_1_23, pq_2_0, pq_2_1, pq_1_11] (by rfl) (by decide +kernel)) ggX6_part_X5_becomePart
set_option maxRecDepth 20000 in
theorem ggX6_part_X6_done : GoodIn wsX6_part wsX6_done := goodIn_s seX6_part _ [pq_2_10, pq_2_11, pq_3_0, pq_3_1, pq_3_2, pq_3_3, pq_3_4, pq_3_5, pq_3_6, pq_3_7, pq_3_8, pq_3_9, pq_3_10, pq_3_11, pq_3_12, pq_3_13] (by rfl) gw_wsX6_done
set_option maxRecDepth 20000 in
theorem gX6_part_X6_done : GoodIn wsX6_part (wsV RX6 77 RX6 yX6_done wsX6_done) := goodIn_app (goodIn_s seX6_part _ [pq_2_7, pq_2_8, pq_2_9, pq_1_3] (by rfl) (by decide +kernel)) ggX6_part_X6_done
noncomputable def sgX6_put : List (List Cond) := [[.code yX6_put cX6_put 4 (some .int)], wsX6_put_r1, wsX6_put_r2, wsX60, wsX50, (vx_atS RX6 306 "java/lang/IndexOutOfBoundsException" ["java/lang/RuntimeException", "java/lang/Exception"]).filter goodWord, (vx_atS RX6 317 "java/lang/IllegalArgumentException" ["java/lang/RuntimeException", "java/lang/Exception"]).filter goodWord]
theorem seX6_put : sgX6_put.flatten = wsX6_put := by simp only [sgX6_put, wsX6_put, List.flatten_cons, List.flatten_nil, List.append_assoc, List.append_nil, List.cons_append, List.nil_append]
set_option maxRecDepth 20000 in
theorem ggX6_put_X6_windowOf : GoodIn wsX6_put wsX6_windowOf := goodIn_ca (goodIn_s seX6_put _ [pq_1_4, pq_1_5, pq_1_6, pq_1_7, pq_3_0, pq_3_1, pq_3_2, pq_3_3, pq_3_4, pq_3_5, pq_3_6, pq_3_7, pq_3_8, pq_3_9, pq_3_10, pq_3_11, pq_3_12, pq_3_13] (by rfl) (by decide +kernel)) (goodIn_sub (fun _ h => List.mem_cons_of_mem _ (List.mem_append_left _ (List.mem_append_right _ h))) (by decide +kernel))
set_option maxRecDepth 20000 in
theorem gX6_put_X6_windowOf : GoodIn wsX6_put (wsV RX6 62 RX6 yX6_windowOf wsX6_windowOf) := goodIn_app (goodIn_s seX6_put _ [pq_1_0, pq_1_1, pq_1_2, pq_1_3] (by rfl) (by decide +kernel)) ggX6_put_X6_windowOf
set_option maxRecDepth 20000 in
theorem ggX6_put_X6_requireWithin : GoodIn wsX6_put wsX6_requireWithin := goodIn_ca (goodIn_s seX6_put _ [pq_1_10, pq_1_11, pq_1_12] (by rfl) (by decide +kernel)) (goodIn_sub (fun _ h => List.mem_cons_of_mem _ (List.mem_append_right _ h)) (by decide +kernel))
set_option maxRecDepth 20000 in
theorem gX6_put_X6_requireWithin : GoodIn wsX6_put (va_wsS RX6 66 yX6_requireWithin wsX6_requireWithin) := goodIn_app (goodIn_s seX6_put _ [pq_1_8, pq_1_9, pq_1_3] (by rfl) (by decide +kernel)) ggX6_put_X6_requireWithin
set_option maxRecDepth 20000 in
theorem ggX6_put_X5_writeSign : GoodIn wsX6_put wsX5_writeSign := goodIn_s seX6_put _ [pq_1_17, pq_1_18, pq_1_19, pq_1_20, pq_1_21, pq_1_16, pq_1_22, pq_1_23, pq_2_0, pq_2_1, pq_2_2, pq_2_3, pq_2_4, pq_2_5, pq_4_0, pq_4_1, pq_4_2, pq_4_3, pq_4_4, pq_4_5] (by rfl) gw_wsX5_writeSign
set_option maxRecDepth 20000 in
theorem gX6_put_X5_writeSign : GoodIn wsX6_put (wsV RX6 99 RX5 yX5_writeSign wsX5_writeSign) := goodIn_app (goodIn_s seX6_put _ [pq_1_13, pq_1_14, pq_1_15, pq_1_16] (by rfl) (by decide +kernel)) ggX6_put_X5_writeSign
set_option maxRecDepth 20000 in
theorem ggX6_put_X5_size : GoodIn wsX6_put wsX5_size := goodIn_s seX6_put _ [pq_1_22, pq_1_23, pq_1_18, pq_4_0, pq_4_1, pq_4_2, pq_4_3, pq_4_4, pq_4_5] (by rfl) gw_wsX5_size
set_option maxRecDepth 20000 in
theorem gX6_put_X5_size : GoodIn wsX6_put (wsV RX6 73 RX5 yX5_size wsX5_size) := goodIn_app (goodIn_s seX6_put _ [pq_2_6, pq_1_20, pq_1_21, pq_1_16] (by rfl) (by decide +kernel)) ggX6_put_X5_size
set_option maxRecDepth 20000 in
theorem ggX6_put_X6_done : GoodIn wsX6_put wsX6_done := goodIn_s seX6_put _ [pq_2_10, pq_2_11, pq_3_0, pq_3_1, pq_3_2, pq_3_3, pq_3_4, pq_3_5, pq_3_6, pq_3_7, pq_3_8, pq_3_9, pq_3_10, pq_3_11, pq_3_12, pq_3_13] (by rfl) gw_wsX6_done
set_option maxRecDepth 20000 in
theorem gX6_put_X6_done : GoodIn wsX6_put (wsV RX6 77 RX6 yX6_done wsX6_done) := goodIn_app (goodIn_s seX6_put _ [pq_2_7, pq_2_8, pq_2_9, pq_1_3] (by rfl) (by decide +kernel)) ggX6_put_X6_done
set_option maxRecDepth 20000 in
theorem ggX6_put_X6_refused : GoodIn wsX6_put wsX6_refused := goodIn_s seX6_put _ [pq_2_15, pq_2_16, pq_3_0, pq_3_1, pq_3_2, pq_3_3, pq_3_4, pq_3_5, pq_3_6, pq_3_7, pq_3_8, pq_3_9, pq_3_10, pq_3_11, pq_3_12, pq_3_13] (by rfl) gw_wsX6_refused
set_option maxRecDepth 20000 in
theorem gX6_put_X6_refused : GoodIn wsX6_put (wsV RX6 92 RX6 yX6_refused wsX6_refused) := goodIn_app (goodIn_s seX6_put _ [pq_2_12, pq_2_13, pq_2_14, pq_1_3] (by rfl) (by decide +kernel)) ggX6_put_X6_refused
noncomputable def sgX6_run : List (List Cond) := [[.code yX6_run cX6_run 7 (some .int)], wsX6_run_r1, wsX6_run_r2, wsX60, wsX50, (vx_atS RX6 306 "java/lang/IndexOutOfBoundsException" ["java/lang/RuntimeException", "java/lang/Exception"]).filter goodWord, (vx_atS RX6 317 "java/lang/IllegalArgumentException" ["java/lang/RuntimeException", "java/lang/Exception"]).filter goodWord]
theorem seX6_run : sgX6_run.flatten = wsX6_run := by simp only [sgX6_run, wsX6_run, List.flatten_cons, List.flatten_nil, List.append_assoc, List.append_nil, List.cons_append, List.nil_append]
set_option maxRecDepth 20000 in
theorem ggX6_run_X6_windowOf : GoodIn wsX6_run wsX6_windowOf := goodIn_ca (goodIn_s seX6_run _ [pq_1_4, pq_1_5, pq_1_6, pq_1_7, pq_3_0, pq_3_1, pq_3_2, pq_3_3, pq_3_4, pq_3_5, pq_3_6, pq_3_7, pq_3_8, pq_3_9, pq_3_10, pq_3_11, pq_3_12, pq_3_13] (by rfl) (by decide +kernel)) (goodIn_sub (fun _ h => List.mem_cons_of_mem _ (List.mem_append_left _ (List.mem_append_right _ h))) (by decide +kernel))
set_option maxRecDepth 20000 in
theorem gX6_run_X6_windowOf : GoodIn wsX6_run (wsV RX6 62 RX6 yX6_windowOf wsX6_windowOf) := goodIn_app (goodIn_s seX6_run _ [pq_1_0, pq_1_1, pq_1_2, pq_1_3] (by rfl) (by decide +kernel)) ggX6_run_X6_windowOf
set_option maxRecDepth 20000 in
theorem ggX6_run_X6_requireWithin : GoodIn wsX6_run wsX6_requireWithin := goodIn_ca (goodIn_s seX6_run _ [pq_1_10, pq_1_11, pq_1_12] (by rfl) (by decide +kernel)) (goodIn_sub (fun _ h => List.mem_cons_of_mem _ (List.mem_append_right _ h)) (by decide +kernel))
set_option maxRecDepth 20000 in
theorem gX6_run_X6_requireWithin : GoodIn wsX6_run (va_wsS RX6 66 yX6_requireWithin wsX6_requireWithin) := goodIn_app (goodIn_s seX6_run _ [pq_1_8, pq_1_9, pq_1_3] (by rfl) (by decide +kernel)) ggX6_run_X6_requireWithin
set_option maxRecDepth 20000 in
theorem ggX6_run_X5_writeSign : GoodIn wsX6_run wsX5_writeSign := goodIn_s seX6_run _ [pq_1_17, pq_1_18, pq_1_19, pq_1_20, pq_1_21, pq_1_16, pq_1_22, pq_1_23, pq_2_0, pq_2_1, pq_2_2, pq_2_3, pq_2_4, pq_2_5, pq_4_0, pq_4_1, pq_4_2, pq_4_3, pq_4_4, pq_4_5] (by rfl) gw_wsX5_writeSign
set_option maxRecDepth 20000 in
theorem gX6_run_X5_writeSign : GoodIn wsX6_run (wsV RX6 99 RX5 yX5_writeSign wsX5_writeSign) := goodIn_app (goodIn_s seX6_run _ [pq_1_13, pq_1_14, pq_1_15, pq_1_16] (by rfl) (by decide +kernel)) ggX6_run_X5_writeSign
set_option maxRecDepth 20000 in
theorem ggX6_run_X6_done : GoodIn wsX6_run wsX6_done := goodIn_s seX6_run _ [pq_2_9, pq_2_10, pq_3_0, pq_3_1, pq_3_2, pq_3_3, pq_3_4, pq_3_5, pq_3_6, pq_3_7, pq_3_8, pq_3_9, pq_3_10, pq_3_11, pq_3_12, pq_3_13] (by rfl) gw_wsX6_done
set_option maxRecDepth 20000 in
theorem gX6_run_X6_done : GoodIn wsX6_run (wsV RX6 77 RX6 yX6_done wsX6_done) := goodIn_app (goodIn_s seX6_run _ [pq_2_6, pq_2_7, pq_2_8, pq_1_3] (by rfl) (by decide +kernel)) ggX6_run_X6_done
noncomputable def sgX6_write : List (List Cond) := [[.code yX6_write cX6_write 7 (some .int)], wsX6_write_r1, wsX6_write_r2, wsX60, wsX50, (vx_atS RX6 306 "java/lang/IndexOutOfBoundsException" ["java/lang/RuntimeException", "java/lang/Exception"]).filter goodWord, (vx_atS RX6 317 "java/lang/IllegalArgumentException" ["java/lang/RuntimeException", "java/lang/Exception"]).filter goodWord]
theorem seX6_write : sgX6_write.flatten = wsX6_write := by simp only [sgX6_write, wsX6_write, List.flatten_cons, List.flatten_nil, List.append_assoc, List.append_nil, List.cons_append, List.nil_append]
set_option maxRecDepth 20000 in
theorem ggX6_write_X6_windowOf : GoodIn wsX6_write wsX6_windowOf := goodIn_ca (goodIn_s seX6_write _ [pq_1_4, pq_1_5, pq_1_6, pq_1_7, pq_3_0, pq_3_1, pq_3_2, pq_3_3, pq_3_4, pq_3_5, pq_3_6, pq_3_7, pq_3_8, pq_3_9, pq_3_10, pq_3_11, pq_3_12, pq_3_13] (by rfl) (by decide +kernel)) (goodIn_sub (fun _ h => List.mem_cons_of_mem _ (List.mem_append_left _ (List.mem_append_right _ h))) (by decide +kernel))
set_option maxRecDepth 20000 in
theorem gX6_write_X6_windowOf : GoodIn wsX6_write (wsV RX6 62 RX6 yX6_windowOf wsX6_windowOf) := goodIn_app (goodIn_s seX6_write _ [pq_1_0, pq_1_1, pq_1_2, pq_1_3] (by rfl) (by decide +kernel)) ggX6_write_X6_windowOf
set_option maxRecDepth 20000 in
theorem ggX6_write_X6_requireLetters : GoodIn wsX6_write wsX6_requireLetters := goodIn_ca (goodIn_s seX6_write _ [pq_1_10, pq_1_11, pq_1_12, pq_1_13, pq_1_3, pq_1_14, pq_1_15, pq_1_16] (by rfl) (by decide +kernel)) (goodIn_sub (fun _ h => List.mem_cons_of_mem _ (List.mem_append_right _ h)) (by decide +kernel))
set_option maxRecDepth 20000 in
theorem gX6_write_X6_requireLetters : GoodIn wsX6_write (va_wsS RX6 103 yX6_requireLetters wsX6_requireLetters) := goodIn_app (goodIn_s seX6_write _ [pq_1_8, pq_1_9, pq_1_3] (by rfl) (by decide +kernel)) ggX6_write_X6_requireLetters
set_option maxRecDepth 20000 in
theorem ggX6_write_X6_lowestLetter : GoodIn wsX6_write wsX6_lowestLetter := goodIn_s seX6_write _ [pq_1_19] (by rfl) gw_wsX6_lowestLetter
set_option maxRecDepth 20000 in
theorem gX6_write_X6_lowestLetter : GoodIn wsX6_write (va_wsS RX6 107 yX6_lowestLetter wsX6_lowestLetter) := goodIn_app (goodIn_s seX6_write _ [pq_1_17, pq_1_18, pq_1_3] (by rfl) (by decide +kernel)) ggX6_write_X6_lowestLetter
set_option maxRecDepth 20000 in
theorem ggX6_write_X5_writeSign : GoodIn wsX6_write wsX5_writeSign := goodIn_s seX6_write _ [pq_2_0, pq_2_1, pq_2_2, pq_2_3, pq_2_4, pq_1_23, pq_2_5, pq_2_6, pq_2_7, pq_2_8, pq_2_9, pq_2_10, pq_2_11, pq_2_12, pq_4_0, pq_4_1, pq_4_2, pq_4_3, pq_4_4, pq_4_5] (by rfl) gw_wsX5_writeSign
set_option maxRecDepth 20000 in
theorem gX6_write_X5_writeSign : GoodIn wsX6_write (wsV RX6 99 RX5 yX5_writeSign wsX5_writeSign) := goodIn_app (goodIn_s seX6_write _ [pq_1_20, pq_1_21, pq_1_22, pq_1_23] (by rfl) (by decide +kernel)) ggX6_write_X5_writeSign
set_option maxRecDepth 20000 in
theorem ggX6_write_X6_done : GoodIn wsX6_write wsX6_done := goodIn_s seX6_write _ [pq_2_16, pq_2_17, pq_3_0, pq_3_1, pq_3_2, pq_3_3, pq_3_4, pq_3_5, pq_3_6, pq_3_7, pq_3_8, pq_3_9, pq_3_10, pq_3_11, pq_3_12, pq_3_13] (by rfl) gw_wsX6_done
set_option maxRecDepth 20000 in
theorem gX6_write_X6_done : GoodIn wsX6_write (wsV RX6 77 RX6 yX6_done wsX6_done) := goodIn_app (goodIn_s seX6_write _ [pq_2_13, pq_2_14, pq_2_15, pq_1_3] (by rfl) (by decide +kernel)) ggX6_write_X6_done
noncomputable def sgX6_get : List (List Cond) := [[.code yX6_get cX6_get 3 (some .int)], wsX6_get_r1, wsX6_get_r2, wsX60, wsX50, (vx_atS RX6 306 "java/lang/IndexOutOfBoundsException" ["java/lang/RuntimeException", "java/lang/Exception"]).filter goodWord]
theorem seX6_get : sgX6_get.flatten = wsX6_get := by simp only [sgX6_get, wsX6_get, List.flatten_cons, List.flatten_nil, List.append_assoc, List.append_nil, List.cons_append, List.nil_append]
set_option maxRecDepth 20000 in
theorem ggX6_get_X6_windowOf : GoodIn wsX6_get wsX6_windowOf := goodIn_ca (goodIn_s seX6_get _ [pq_1_4, pq_1_5, pq_1_6, pq_1_7, pq_3_0, pq_3_1, pq_3_2, pq_3_3, pq_3_4, pq_3_5, pq_3_6, pq_3_7, pq_3_8, pq_3_9, pq_3_10, pq_3_11, pq_3_12, pq_3_13] (by rfl) (by decide +kernel)) (goodIn_sub (fun _ h => List.mem_cons_of_mem _ (List.mem_append_right _ h)) (by decide +kernel))
set_option maxRecDepth 20000 in
theorem gX6_get_X6_windowOf : GoodIn wsX6_get (wsV RX6 62 RX6 yX6_windowOf wsX6_windowOf) := goodIn_app (goodIn_s seX6_get _ [pq_1_0, pq_1_1, pq_1_2, pq_1_3] (by rfl) (by decide +kernel)) ggX6_get_X6_windowOf
set_option maxRecDepth 20000 in
theorem ggX6_get_X5_size : GoodIn wsX6_get wsX5_size := goodIn_s seX6_get _ [pq_1_12, pq_1_13, pq_1_14, pq_4_0, pq_4_1, pq_4_2, pq_4_3, pq_4_4, pq_4_5] (by rfl) gw_wsX5_size
set_option maxRecDepth 20000 in
theorem gX6_get_X5_size : GoodIn wsX6_get (wsV RX6 73 RX5 yX5_size wsX5_size) := goodIn_app (goodIn_s seX6_get _ [pq_1_8, pq_1_9, pq_1_10, pq_1_11] (by rfl) (by decide +kernel)) ggX6_get_X5_size
set_option maxRecDepth 20000 in
theorem ggX6_get_X6_refused : GoodIn wsX6_get wsX6_refused := goodIn_s seX6_get _ [pq_1_18, pq_1_19, pq_3_0, pq_3_1, pq_3_2, pq_3_3, pq_3_4, pq_3_5, pq_3_6, pq_3_7, pq_3_8, pq_3_9, pq_3_10, pq_3_11, pq_3_12, pq_3_13] (by rfl) gw_wsX6_refused
set_option maxRecDepth 20000 in
theorem gX6_get_X6_refused : GoodIn wsX6_get (wsV RX6 92 RX6 yX6_refused wsX6_refused) := goodIn_app (goodIn_s seX6_get _ [pq_1_15, pq_1_16, pq_1_17, pq_1_3] (by rfl) (by decide +kernel)) ggX6_get_X6_refused
set_option maxRecDepth 20000 in
theorem ggX6_get_X5_readSign : GoodIn wsX6_get wsX5_readSign := goodIn_s seX6_get _ [pq_1_23, pq_1_14, pq_2_0, pq_2_1, pq_2_2, pq_1_11, pq_2_3, pq_1_13, pq_2_4, pq_2_5, pq_2_6, pq_2_7, pq_2_8, pq_2_9, pq_2_10, pq_1_9, pq_1_10, pq_1_12, pq_4_0, pq_4_1, pq_4_2, pq_4_3, pq_4_4, pq_4_5] (by rfl) gw_wsX5_readSign
set_option maxRecDepth 20000 in
theorem gX6_get_X5_readSign : GoodIn wsX6_get (wsV RX6 110 RX5 yX5_readSign wsX5_readSign) := goodIn_app (goodIn_s seX6_get _ [pq_1_20, pq_1_21, pq_1_22, pq_1_11] (by rfl) (by decide +kernel)) ggX6_get_X5_readSign
set_option maxRecDepth 20000 in
theorem ggX6_get_X6_done : GoodIn wsX6_get wsX6_done := goodIn_s seX6_get _ [pq_2_14, pq_2_15, pq_3_0, pq_3_1, pq_3_2, pq_3_3, pq_3_4, pq_3_5, pq_3_6, pq_3_7, pq_3_8, pq_3_9, pq_3_10, pq_3_11, pq_3_12, pq_3_13] (by rfl) gw_wsX6_done
set_option maxRecDepth 20000 in
theorem gX6_get_X6_done : GoodIn wsX6_get (wsV RX6 77 RX6 yX6_done wsX6_done) := goodIn_app (goodIn_s seX6_get _ [pq_2_11, pq_2_12, pq_2_13, pq_1_3] (by rfl) (by decide +kernel)) ggX6_get_X6_done
noncomputable def sgX6_read : List (List Cond) := [[.code yX6_read cX6_read 6 (some (.object "java/lang/String"))], wsX6_read_r1, wsX6_read_r2, wsX6_read_r3, wsX6_read_r4, wsX6_read_r5, wsX6_read_r6, wsX6_read_r7, wsX6_read_r8, wsX6_read_r9, wsX6_read_r10, wsJ40, wsX60, wsX50, wsJ00, (vx_atS RX6 306 "java/lang/IndexOutOfBoundsException" ["java/lang/RuntimeException", "java/lang/Exception"]).filter goodWord, (vx_atS RX6 317 "java/lang/IllegalArgumentException" ["java/lang/RuntimeException", "java/lang/Exception"]).filter goodWord]
theorem seX6_read : sgX6_read.flatten = wsX6_read := by simp only [sgX6_read, wsX6_read, List.flatten_cons, List.flatten_nil, List.append_assoc, List.append_nil, List.cons_append, List.nil_append]
set_option maxRecDepth 20000 in
theorem ggX6_read_X6_windowOf : GoodIn wsX6_read wsX6_windowOf := goodIn_ca (goodIn_s seX6_read _ [pq_1_7, pq_1_8, pq_1_9, pq_1_10, pq_12_0, pq_12_1, pq_12_2, pq_12_3, pq_12_4, pq_12_5, pq_12_6, pq_12_7, pq_12_8, pq_12_9, pq_12_10, pq_12_11, pq_12_12, pq_12_13] (by rfl) (by decide +kernel)) (goodIn_sub (fun _ h => List.mem_cons_of_mem _ (List.mem_append_left _ (List.mem_append_right _ h))) (by decide +kernel))
set_option maxRecDepth 20000 in
theorem gX6_read_X6_windowOf : GoodIn wsX6_read (wsV RX6 62 RX6 yX6_windowOf wsX6_windowOf) := goodIn_app (goodIn_s seX6_read _ [pq_1_3, pq_1_4, pq_1_5, pq_1_6] (by rfl) (by decide +kernel)) ggX6_read_X6_windowOf
set_option maxRecDepth 20000 in
theorem ggX6_read_X6_requireWithin : GoodIn wsX6_read wsX6_requireWithin := goodIn_ca (goodIn_s seX6_read _ [pq_1_13, pq_1_14, pq_1_15] (by rfl) (by decide +kernel)) (goodIn_sub (fun _ h => List.mem_cons_of_mem _ (List.mem_append_right _ h)) (by decide +kernel))
set_option maxRecDepth 20000 in
theorem gX6_read_X6_requireWithin : GoodIn wsX6_read (va_wsS RX6 66 yX6_requireWithin wsX6_requireWithin) := goodIn_app (goodIn_s seX6_read _ [pq_1_11, pq_1_12, pq_1_6] (by rfl) (by decide +kernel)) ggX6_read_X6_requireWithin
set_option maxRecDepth 20000 in
theorem ggX6_read_J4_init_da8c8 : GoodIn wsX6_read wsJ4_init_da8c8 := goodIn_s seX6_read _ [pq_1_18, pq_1_19, pq_1_20, pq_1_21, pq_1_22, pq_1_23, pq_2_0, pq_2_1, pq_2_2, pq_2_3, pq_2_4, pq_2_5, pq_2_6, pq_2_7, pq_2_8, pq_2_9, pq_2_10, pq_2_11, pq_2_12, pq_2_13, pq_11_0, pq_11_1, pq_11_2, pq_11_3] (by rfl) gw_wsJ4_init_da8c8
set_option maxRecDepth 20000 in
theorem gX6_read_J4_init_da8c8 : GoodIn wsX6_read (wsJ4_init_da8c8) := ggX6_read_J4_init_da8c8
set_option maxRecDepth 20000 in
theorem ggX6_read_X5_size : GoodIn wsX6_read wsX5_size := goodIn_s seX6_read _ [pq_2_18, pq_2_19, pq_2_20, pq_13_0, pq_13_1, pq_13_2, pq_13_3, pq_13_4, pq_13_5] (by rfl) gw_wsX5_size
set_option maxRecDepth 20000 in
theorem gX6_read_X5_size : GoodIn wsX6_read (wsV RX6 73 RX5 yX5_size wsX5_size) := goodIn_app (goodIn_s seX6_read _ [pq_2_14, pq_2_15, pq_2_16, pq_2_17] (by rfl) (by decide +kernel)) ggX6_read_X5_size
set_option maxRecDepth 20000 in
theorem ggX6_read_X5_readSign : GoodIn wsX6_read wsX5_readSign := goodIn_s seX6_read _ [pq_3_0, pq_2_20, pq_3_1, pq_3_2, pq_3_3, pq_2_17, pq_3_4, pq_2_19, pq_3_5, pq_3_6, pq_3_7, pq_3_8, pq_3_9, pq_3_10, pq_3_11, pq_2_15, pq_2_16, pq_2_18, pq_13_0, pq_13_1, pq_13_2, pq_13_3, pq_13_4, pq_13_5] (by rfl) gw_wsX5_readSign
set_option maxRecDepth 20000 in
theorem gX6_read_X5_readSign : GoodIn wsX6_read (wsV RX6 110 RX5 yX5_readSign wsX5_readSign) := goodIn_app (goodIn_s seX6_read _ [pq_2_21, pq_2_22, pq_2_23, pq_2_17] (by rfl) (by decide +kernel)) ggX6_read_X5_readSign
set_option maxRecDepth 20000 in
theorem ggX6_read_J4_append_cf468 : GoodIn wsX6_read wsJ4_append_cf468 := goodIn_s seX6_read _ [pq_3_15, pq_3_16, pq_3_17, pq_3_18, pq_3_19, pq_1_21, pq_3_20, pq_3_21, pq_2_4, pq_3_22, pq_3_23, pq_4_0, pq_4_1, pq_4_2, pq_2_5, pq_4_3, pq_4_4, pq_4_5, pq_4_6, pq_4_7, pq_4_8, pq_4_9, pq_4_10, pq_4_11, pq_4_12, pq_4_13, pq_4_14, pq_4_15, pq_4_16, pq_4_17, pq_4_18, pq_4_19, pq_4_20, pq_4_21, pq_4_22, pq_4_23, pq_5_0, pq_5_1, pq_5_2, pq_5_3, pq_5_4, pq_5_5, pq_5_6, pq_2_3, pq_5_7, pq_5_8, pq_5_9, pq_5_10, pq_5_11, pq_5_12, pq_5_13, pq_5_14, pq_5_15, pq_5_16, pq_5_17, pq_5_18, pq_2_2, pq_5_19, pq_5_20, pq_5_21, pq_5_22, pq_5_23, pq_6_0, pq_6_1, pq_6_2, pq_6_3, pq_2_6, pq_2_7, pq_2_8, pq_2_9, pq_2_10, pq_2_11, pq_2_12, pq_2_13, pq_6_4, pq_6_5, pq_6_6, pq_6_7, pq_6_8, pq_6_9, pq_6_10, pq_6_11, pq_6_12, pq_6_13, pq_6_14, pq_6_15, pq_6_16, pq_6_17, pq_6_18, pq_6_19, pq_6_20, pq_6_21, pq_6_22, pq_6_23, pq_7_0, pq_7_1, pq_7_2, pq_7_3, pq_7_4, pq_7_5, pq_7_6, pq_7_7, pq_7_8, pq_7_9, pq_7_10, pq_7_11, pq_7_12, pq_7_13, pq_7_14, pq_7_15, pq_7_16, pq_7_17, pq_7_18, pq_11_0, pq_11_1, pq_11_2, pq_11_3] (by rfl) gw_wsJ4_append_cf468
set_option maxRecDepth 20000 in
theorem gX6_read_J4_append_cf468 : GoodIn wsX6_read (wsV RX6 116 RJ4 yJ4_append_cf468 wsJ4_append_cf468) := goodIn_app (goodIn_s seX6_read _ [pq_3_12, pq_3_13, pq_3_14, pq_1_2] (by rfl) (by decide +kernel)) ggX6_read_J4_append_cf468
set_option maxRecDepth 20000 in
theorem ggX6_read_J4_toString_0e30d : GoodIn wsX6_read wsJ4_toString_0e30d := goodIn_s seX6_read _ [pq_7_22, pq_7_23, pq_8_0, pq_6_18, pq_8_1, pq_8_2, pq_8_3, pq_8_4, pq_8_5, pq_8_6, pq_8_7, pq_2_0, pq_2_1, pq_8_8, pq_8_9, pq_8_10, pq_8_11, pq_8_12, pq_8_13, pq_8_14, pq_8_15, pq_1_21, pq_8_16, pq_2_4, pq_8_17, pq_8_18, pq_8_19, pq_8_20, pq_8_21, pq_1_2, pq_8_22, pq_8_23, pq_3_18, pq_9_0, pq_9_1, pq_3_21, pq_9_2, pq_5_15, pq_5_16, pq_5_17, pq_5_18, pq_2_2, pq_2_5, pq_9_3, pq_9_4, pq_4_23, pq_9_5, pq_5_1, pq_5_2, pq_5_3, pq_5_4, pq_5_5, pq_5_6, pq_9_6, pq_9_7, pq_9_8, pq_2_3, pq_5_7, pq_5_8, pq_4_15, pq_5_9, pq_5_10, pq_5_11, pq_5_12, pq_5_13, pq_9_9, pq_9_10, pq_9_11, pq_9_12, pq_1_1, pq_9_13, pq_9_14, pq_2_8, pq_9_15, pq_9_16, pq_9_17, pq_9_18, pq_6_10, pq_6_11, pq_6_12, pq_6_13, pq_6_14, pq_6_15, pq_6_16, pq_6_17, pq_6_19, pq_6_20, pq_6_21, pq_6_22, pq_6_23, pq_7_0, pq_9_19, pq_9_20, pq_9_21, pq_7_4, pq_7_5, pq_7_6, pq_2_10, pq_2_11, pq_2_12, pq_2_13, pq_9_22, pq_9_23, pq_10_0, pq_10_1, pq_14_0, pq_14_1, pq_14_2, pq_14_3, pq_11_0, pq_11_1, pq_11_2, pq_11_3] (by rfl) gw_wsJ4_toString_0e30d
set_option maxRecDepth 20000 in
theorem gX6_read_J4_toString_0e30d : GoodIn wsX6_read (wsV RX6 120 RJ4 yJ4_toString_0e30d wsJ4_toString_0e30d) := goodIn_app (goodIn_s seX6_read _ [pq_7_19, pq_7_20, pq_7_21, pq_1_2] (by rfl) (by decide +kernel)) ggX6_read_J4_toString_0e30d
set_option maxRecDepth 20000 in
theorem ggX6_read_X6_done_ : GoodIn wsX6_read wsX6_done_ := goodIn_s seX6_read _ [pq_10_5, pq_10_6, pq_12_0, pq_12_1, pq_12_2, pq_12_3, pq_12_4, pq_12_5, pq_12_6, pq_12_7, pq_12_8, pq_12_9, pq_12_10, pq_12_11, pq_12_12, pq_12_13] (by rfl) gw_wsX6_done_
set_option maxRecDepth 20000 in
theorem gX6_read_X6_done_ : GoodIn wsX6_read (wsV RX6 124 RX6 yX6_done_ wsX6_done_) := goodIn_app (goodIn_s seX6_read _ [pq_10_2, pq_10_3, pq_10_4, pq_1_6] (by rfl) (by decide +kernel)) ggX6_read_X6_done_
noncomputable def sgX6_pour : List (List Cond) := [[.code yX6_pour cX6_pour 7 (some .int)], wsX6_pour_r1, wsX6_pour_r2, wsX6_pour_r3, wsX60, wsX50, (vx_atS RX6 306 "java/lang/IndexOutOfBoundsException" ["java/lang/RuntimeException", "java/lang/Exception"]).filter goodWord, (vx_atS RX6 317 "java/lang/IllegalArgumentException" ["java/lang/RuntimeException", "java/lang/Exception"]).filter goodWord]
theorem seX6_pour : sgX6_pour.flatten = wsX6_pour := by simp only [sgX6_pour, wsX6_pour, List.flatten_cons, List.flatten_nil, List.append_assoc, List.append_nil, List.cons_append, List.nil_append]
set_option maxRecDepth 20000 in
theorem ggX6_pour_X6_windowOf : GoodIn wsX6_pour wsX6_windowOf := goodIn_ca (goodIn_s seX6_pour _ [pq_1_4, pq_1_5, pq_1_6, pq_1_7, pq_4_0, pq_4_1, pq_4_2, pq_4_3, pq_4_4, pq_4_5, pq_4_6, pq_4_7, pq_4_8, pq_4_9, pq_4_10, pq_4_11, pq_4_12, pq_4_13] (by rfl) (by decide +kernel)) (goodIn_sub (fun _ h => List.mem_cons_of_mem _ (List.mem_append_left _ (List.mem_append_right _ h))) (by decide +kernel))
set_option maxRecDepth 20000 in
theorem gX6_pour_X6_windowOf : GoodIn wsX6_pour (wsV RX6 62 RX6 yX6_windowOf wsX6_windowOf) := goodIn_app (goodIn_s seX6_pour _ [pq_1_0, pq_1_1, pq_1_2, pq_1_3] (by rfl) (by decide +kernel)) ggX6_pour_X6_windowOf
set_option maxRecDepth 20000 in
theorem ggX6_pour_X6_require : GoodIn wsX6_pour wsX6_require := goodIn_ca (goodIn_s seX6_pour _ [pq_1_10, pq_1_11, pq_1_12] (by rfl) (by decide +kernel)) (goodIn_sub (fun _ h => List.mem_cons_of_mem _ (List.mem_append_right _ h)) (by decide +kernel))
set_option maxRecDepth 20000 in
theorem gX6_pour_X6_require : GoodIn wsX6_pour (va_wsS RX6 127 yX6_require wsX6_require) := goodIn_app (goodIn_s seX6_pour _ [pq_1_8, pq_1_9, pq_1_3] (by rfl) (by decide +kernel)) ggX6_pour_X6_require
set_option maxRecDepth 20000 in
theorem ggX6_pour_X6_requireWithin : GoodIn wsX6_pour wsX6_requireWithin := goodIn_ca (goodIn_s seX6_pour _ [pq_1_15, pq_1_11, pq_1_12] (by rfl) (by decide +kernel)) (goodIn_sub (fun _ h => List.mem_cons_of_mem _ (List.mem_append_right _ h)) (by decide +kernel))
set_option maxRecDepth 20000 in
theorem gX6_pour_X6_requireWithin : GoodIn wsX6_pour (va_wsS RX6 66 yX6_requireWithin wsX6_requireWithin) := goodIn_app (goodIn_s seX6_pour _ [pq_1_13, pq_1_14, pq_1_3] (by rfl) (by decide +kernel)) ggX6_pour_X6_requireWithin
set_option maxRecDepth 20000 in
theorem ggX6_pour_X5_size : GoodIn wsX6_pour wsX5_size := goodIn_s seX6_pour _ [pq_1_20, pq_1_21, pq_1_22, pq_5_0, pq_5_1, pq_5_2, pq_5_3, pq_5_4, pq_5_5] (by rfl) gw_wsX5_size
set_option maxRecDepth 20000 in
theorem gX6_pour_X5_size : GoodIn wsX6_pour (wsV RX6 73 RX5 yX5_size wsX5_size) := goodIn_app (goodIn_s seX6_pour _ [pq_1_16, pq_1_17, pq_1_18, pq_1_19] (by rfl) (by decide +kernel)) ggX6_pour_X5_size
set_option maxRecDepth 20000 in
theorem ggX6_pour_X5_readSign : GoodIn wsX6_pour wsX5_readSign := goodIn_s seX6_pour _ [pq_2_2, pq_1_22, pq_2_3, pq_2_4, pq_2_5, pq_1_19, pq_2_6, pq_1_21, pq_2_7, pq_2_8, pq_2_9, pq_2_10, pq_2_11, pq_2_12, pq_2_13, pq_1_17, pq_1_18, pq_1_20, pq_5_0, pq_5_1, pq_5_2, pq_5_3, pq_5_4, pq_5_5] (by rfl) gw_wsX5_readSign
set_option maxRecDepth 20000 in
theorem gX6_pour_X5_readSign : GoodIn wsX6_pour (wsV RX6 110 RX5 yX5_readSign wsX5_readSign) := goodIn_app (goodIn_s seX6_pour _ [pq_1_23, pq_2_0, pq_2_1, pq_1_19] (by rfl) (by decide +kernel)) ggX6_pour_X5_readSign
set_option maxRecDepth 20000 in
theorem ggX6_pour_X5_writeSign : GoodIn wsX6_pour wsX5_writeSign := goodIn_s seX6_pour _ [pq_2_17, pq_1_22, pq_2_13, pq_1_17, pq_1_18, pq_1_19, pq_1_20, pq_1_21, pq_2_18, pq_2_19, pq_2_20, pq_2_21, pq_2_11, pq_2_12, pq_5_0, pq_5_1, pq_5_2, pq_5_3, pq_5_4, pq_5_5] (by rfl) gw_wsX5_writeSign
set_option maxRecDepth 20000 in
theorem gX6_pour_X5_writeSign : GoodIn wsX6_pour (wsV RX6 99 RX5 yX5_writeSign wsX5_writeSign) := goodIn_app (goodIn_s seX6_pour _ [pq_2_14, pq_2_15, pq_2_16, pq_1_19] (by rfl) (by decide +kernel)) ggX6_pour_X5_writeSign
set_option maxRecDepth 20000 in
theorem ggX6_pour_X6_done : GoodIn wsX6_pour wsX6_done := goodIn_s seX6_pour _ [pq_3_1, pq_3_2, pq_4_0, pq_4_1, pq_4_2, pq_4_3, pq_4_4, pq_4_5, pq_4_6, pq_4_7, pq_4_8, pq_4_9, pq_4_10, pq_4_11, pq_4_12, pq_4_13] (by rfl) gw_wsX6_done
set_option maxRecDepth 20000 in
theorem gX6_pour_X6_done : GoodIn wsX6_pour (wsV RX6 77 RX6 yX6_done wsX6_done) := goodIn_app (goodIn_s seX6_pour _ [pq_2_22, pq_2_23, pq_3_0, pq_1_3] (by rfl) (by decide +kernel)) ggX6_pour_X6_done
noncomputable def sgX6_mark : List (List Cond) := [[.code yX6_mark cX6_mark 3 (some .int)], [.methodLink RX6 62 yX6_windowOf, .instanceMethod yX6_windowOf, .selects RX6 yX6_windowOf yX6_windowOf, .initialized RX6, .code yX6_windowOf cX6_windowOf 2 (some (.object "Sashwords$Window")), .classLink RX6 302 "java/lang/IndexOutOfBoundsException", .initialized "java/lang/IndexOutOfBoundsException", .fieldLink RX6 11 "Sashwords" "windows" "[LSashwords$Window;", .methodLink RX6 131 yX5_setMark, .instanceMethod yX5_setMark, .selects RX5 yX5_setMark yX5_setMark, .initialized RX5, .code yX5_setMark cX5_setMark 1 none, .fieldLink RX5 31 "Sashwords$Window" "position" "I", .fieldLink RX5 28 "Sashwords$Window" "mark" "I", .methodLink RX6 77 yX6_done, .instanceMethod yX6_done, .selects RX6 yX6_done yX6_done, .code yX6_done cX6_done 2 (some .int), .fieldLink RX6 328 "Sashwords" "actsDone" "I"], wsX50, wsX60, (vx_atS RX6 306 "java/lang/IndexOutOfBoundsException" ["java/lang/RuntimeException", "java/lang/Exception"]).filter goodWord]
theorem seX6_mark : sgX6_mark.flatten = wsX6_mark := by simp only [sgX6_mark, wsX6_mark, List.flatten_cons, List.flatten_nil, List.append_assoc, List.append_nil, List.cons_append, List.nil_append]
set_option maxRecDepth 20000 in
theorem ggX6_mark_X6_windowOf : GoodIn wsX6_mark wsX6_windowOf := goodIn_ca (goodIn_s seX6_mark _ [pq_1_4, pq_1_5, pq_1_6, pq_1_7, pq_3_0, pq_3_1, pq_3_2, pq_3_3, pq_3_4, pq_3_5, pq_3_6, pq_3_7, pq_3_8, pq_3_9, pq_3_10, pq_3_11, pq_3_12, pq_3_13] (by rfl) (by decide +kernel)) (goodIn_sub (fun _ h => List.mem_cons_of_mem _ (List.mem_append_right _ h)) (by decide +kernel))
set_option maxRecDepth 20000 in
theorem gX6_mark_X6_windowOf : GoodIn wsX6_mark (wsV RX6 62 RX6 yX6_windowOf wsX6_windowOf) := goodIn_app (goodIn_s seX6_mark _ [pq_1_0, pq_1_1, pq_1_2, pq_1_3] (by rfl) (by decide +kernel)) ggX6_mark_X6_windowOf
set_option maxRecDepth 20000 in
theorem ggX6_mark_X5_setMark : GoodIn wsX6_mark wsX5_setMark := goodIn_s seX6_mark _ [pq_1_12, pq_1_13, pq_1_14, pq_2_0, pq_2_1, pq_2_2, pq_2_3, pq_2_4, pq_2_5] (by rfl) gw_wsX5_setMark
set_option maxRecDepth 20000 in
theorem gX6_mark_X5_setMark : GoodIn wsX6_mark (wsV RX6 131 RX5 yX5_setMark wsX5_setMark) := goodIn_app (goodIn_s seX6_mark _ [pq_1_8, pq_1_9, pq_1_10, pq_1_11] (by rfl) (by decide +kernel)) ggX6_mark_X5_setMark
set_option maxRecDepth 20000 in
theorem ggX6_mark_X6_done : GoodIn wsX6_mark wsX6_done := goodIn_s seX6_mark _ [pq_1_18, pq_1_19, pq_3_0, pq_3_1, pq_3_2, pq_3_3, pq_3_4, pq_3_5, pq_3_6, pq_3_7, pq_3_8, pq_3_9, pq_3_10, pq_3_11, pq_3_12, pq_3_13] (by rfl) gw_wsX6_done
set_option maxRecDepth 20000 in
theorem gX6_mark_X6_done : GoodIn wsX6_mark (wsV RX6 77 RX6 yX6_done wsX6_done) := goodIn_app (goodIn_s seX6_mark _ [pq_1_15, pq_1_16, pq_1_17, pq_1_3] (by rfl) (by decide +kernel)) ggX6_mark_X6_done
noncomputable def sgX6_reset : List (List Cond) := [[.code yX6_reset cX6_reset 3 (some .int)], wsX6_reset_r1, wsX6_reset_r2, wsX50, wsX60, (vx_atS RX6 306 "java/lang/IndexOutOfBoundsException" ["java/lang/RuntimeException", "java/lang/Exception"]).filter goodWord]
theorem seX6_reset : sgX6_reset.flatten = wsX6_reset := by simp only [sgX6_reset, wsX6_reset, List.flatten_cons, List.flatten_nil, List.append_assoc, List.append_nil, List.cons_append, List.nil_append]
set_option maxRecDepth 20000 in
theorem ggX6_reset_X6_windowOf : GoodIn wsX6_reset wsX6_windowOf := goodIn_ca (goodIn_s seX6_reset _ [pq_1_4, pq_1_5, pq_1_6, pq_1_7, pq_4_0, pq_4_1, pq_4_2, pq_4_3, pq_4_4, pq_4_5, pq_4_6, pq_4_7, pq_4_8, pq_4_9, pq_4_10, pq_4_11, pq_4_12, pq_4_13] (by rfl) (by decide +kernel)) (goodIn_sub (fun _ h => List.mem_cons_of_mem _ (List.mem_append_right _ h)) (by decide +kernel))
set_option maxRecDepth 20000 in
theorem gX6_reset_X6_windowOf : GoodIn wsX6_reset (wsV RX6 62 RX6 yX6_windowOf wsX6_windowOf) := goodIn_app (goodIn_s seX6_reset _ [pq_1_0, pq_1_1, pq_1_2, pq_1_3] (by rfl) (by decide +kernel)) ggX6_reset_X6_windowOf
set_option maxRecDepth 20000 in
theorem ggX6_reset_X6_refused : GoodIn wsX6_reset wsX6_refused := goodIn_s seX6_reset _ [pq_1_11, pq_1_12, pq_4_0, pq_4_1, pq_4_2, pq_4_3, pq_4_4, pq_4_5, pq_4_6, pq_4_7, pq_4_8, pq_4_9, pq_4_10, pq_4_11, pq_4_12, pq_4_13] (by rfl) gw_wsX6_refused
set_option maxRecDepth 20000 in
theorem gX6_reset_X6_refused : GoodIn wsX6_reset (wsV RX6 92 RX6 yX6_refused wsX6_refused) := goodIn_app (goodIn_s seX6_reset _ [pq_1_8, pq_1_9, pq_1_10, pq_1_3] (by rfl) (by decide +kernel)) ggX6_reset_X6_refused
set_option maxRecDepth 20000 in
theorem ggX6_reset_X5_goToMark : GoodIn wsX6_reset wsX5_goToMark := goodIn_s seX6_reset _ [pq_1_17, pq_1_18, pq_1_19, pq_3_0, pq_3_1, pq_3_2, pq_3_3, pq_3_4, pq_3_5] (by rfl) gw_wsX5_goToMark
set_option maxRecDepth 20000 in
theorem gX6_reset_X5_goToMark : GoodIn wsX6_reset (wsV RX6 141 RX5 yX5_goToMark wsX5_goToMark) := goodIn_app (goodIn_s seX6_reset _ [pq_1_13, pq_1_14, pq_1_15, pq_1_16] (by rfl) (by decide +kernel)) ggX6_reset_X5_goToMark
set_option maxRecDepth 20000 in
theorem ggX6_reset_X6_done : GoodIn wsX6_reset wsX6_done := goodIn_s seX6_reset _ [pq_1_23, pq_2_0, pq_4_0, pq_4_1, pq_4_2, pq_4_3, pq_4_4, pq_4_5, pq_4_6, pq_4_7, pq_4_8, pq_4_9, pq_4_10, pq_4_11, pq_4_12, pq_4_13] (by rfl) gw_wsX6_done
set_option maxRecDepth 20000 in
theorem gX6_reset_X6_done : GoodIn wsX6_reset (wsV RX6 77 RX6 yX6_done wsX6_done) := goodIn_app (goodIn_s seX6_reset _ [pq_1_20, pq_1_21, pq_1_22, pq_1_3] (by rfl) (by decide +kernel)) ggX6_reset_X6_done
noncomputable def sgX6_rewind : List (List Cond) := [[.code yX6_rewind cX6_rewind 3 (some .int)], wsX6_rewind_r1, wsX6_rewind_r2, wsX50, wsX60, (vx_atS RX6 306 "java/lang/IndexOutOfBoundsException" ["java/lang/RuntimeException", "java/lang/Exception"]).filter goodWord]
theorem seX6_rewind : sgX6_rewind.flatten = wsX6_rewind := by simp only [sgX6_rewind, wsX6_rewind, List.flatten_cons, List.flatten_nil, List.append_assoc, List.append_nil, List.cons_append, List.nil_append]
set_option maxRecDepth 20000 in
theorem ggX6_rewind_X6_windowOf : GoodIn wsX6_rewind wsX6_windowOf := goodIn_ca (goodIn_s seX6_rewind _ [pq_1_4, pq_1_5, pq_1_6, pq_1_7, pq_4_0, pq_4_1, pq_4_2, pq_4_3, pq_4_4, pq_4_5, pq_4_6, pq_4_7, pq_4_8, pq_4_9, pq_4_10, pq_4_11, pq_4_12, pq_4_13] (by rfl) (by decide +kernel)) (goodIn_sub (fun _ h => List.mem_cons_of_mem _ (List.mem_append_right _ h)) (by decide +kernel))
set_option maxRecDepth 20000 in
theorem gX6_rewind_X6_windowOf : GoodIn wsX6_rewind (wsV RX6 62 RX6 yX6_windowOf wsX6_windowOf) := goodIn_app (goodIn_s seX6_rewind _ [pq_1_0, pq_1_1, pq_1_2, pq_1_3] (by rfl) (by decide +kernel)) ggX6_rewind_X6_windowOf
set_option maxRecDepth 20000 in
theorem ggX6_rewind_X5_goTo : GoodIn wsX6_rewind wsX5_goTo := goodIn_s seX6_rewind _ [pq_1_12, pq_1_13, pq_1_14, pq_1_15, pq_3_0, pq_3_1, pq_3_2, pq_3_3, pq_3_4, pq_3_5] (by rfl) gw_wsX5_goTo
set_option maxRecDepth 20000 in
theorem gX6_rewind_X5_goTo : GoodIn wsX6_rewind (wsV RX6 147 RX5 yX5_goTo wsX5_goTo) := goodIn_app (goodIn_s seX6_rewind _ [pq_1_8, pq_1_9, pq_1_10, pq_1_11] (by rfl) (by decide +kernel)) ggX6_rewind_X5_goTo
set_option maxRecDepth 20000 in
theorem ggX6_rewind_X5_size : GoodIn wsX6_rewind wsX5_size := goodIn_s seX6_rewind _ [pq_1_19, pq_1_14, pq_1_13, pq_3_0, pq_3_1, pq_3_2, pq_3_3, pq_3_4, pq_3_5] (by rfl) gw_wsX5_size
set_option maxRecDepth 20000 in
theorem gX6_rewind_X5_size : GoodIn wsX6_rewind (wsV RX6 73 RX5 yX5_size wsX5_size) := goodIn_app (goodIn_s seX6_rewind _ [pq_1_16, pq_1_17, pq_1_18, pq_1_11] (by rfl) (by decide +kernel)) ggX6_rewind_X5_size
set_option maxRecDepth 20000 in
theorem ggX6_rewind_X6_done : GoodIn wsX6_rewind wsX6_done := goodIn_s seX6_rewind _ [pq_1_23, pq_2_0, pq_4_0, pq_4_1, pq_4_2, pq_4_3, pq_4_4, pq_4_5, pq_4_6, pq_4_7, pq_4_8, pq_4_9, pq_4_10, pq_4_11, pq_4_12, pq_4_13] (by rfl) gw_wsX6_done
set_option maxRecDepth 20000 in
theorem gX6_rewind_X6_done : GoodIn wsX6_rewind (wsV RX6 77 RX6 yX6_done wsX6_done) := goodIn_app (goodIn_s seX6_rewind _ [pq_1_20, pq_1_21, pq_1_22, pq_1_3] (by rfl) (by decide +kernel)) ggX6_rewind_X6_done
noncomputable def sgX6_flip : List (List Cond) := [[.code yX6_flip cX6_flip 3 (some .int)], wsX6_flip_r1, wsX6_flip_r2, wsX50, wsX60, (vx_atS RX6 306 "java/lang/IndexOutOfBoundsException" ["java/lang/RuntimeException", "java/lang/Exception"]).filter goodWord]
theorem seX6_flip : sgX6_flip.flatten = wsX6_flip := by simp only [sgX6_flip, wsX6_flip, List.flatten_cons, List.flatten_nil, List.append_assoc, List.append_nil, List.cons_append, List.nil_append]
set_option maxRecDepth 20000 in
theorem ggX6_flip_X6_windowOf : GoodIn wsX6_flip wsX6_windowOf := goodIn_ca (goodIn_s seX6_flip _ [pq_1_4, pq_1_5, pq_1_6, pq_1_7, pq_4_0, pq_4_1, pq_4_2, pq_4_3, pq_4_4, pq_4_5, pq_4_6, pq_4_7, pq_4_8, pq_4_9, pq_4_10, pq_4_11, pq_4_12, pq_4_13] (by rfl) (by decide +kernel)) (goodIn_sub (fun _ h => List.mem_cons_of_mem _ (List.mem_append_right _ h)) (by decide +kernel))
set_option maxRecDepth 20000 in
theorem gX6_flip_X6_windowOf : GoodIn wsX6_flip (wsV RX6 62 RX6 yX6_windowOf wsX6_windowOf) := goodIn_app (goodIn_s seX6_flip _ [pq_1_0, pq_1_1, pq_1_2, pq_1_3] (by rfl) (by decide +kernel)) ggX6_flip_X6_windowOf
set_option maxRecDepth 20000 in
theorem ggX6_flip_X5_goTo : GoodIn wsX6_flip wsX5_goTo := goodIn_s seX6_flip _ [pq_1_12, pq_1_13, pq_1_14, pq_1_15, pq_3_0, pq_3_1, pq_3_2, pq_3_3, pq_3_4, pq_3_5] (by rfl) gw_wsX5_goTo
set_option maxRecDepth 20000 in
theorem gX6_flip_X5_goTo : GoodIn wsX6_flip (wsV RX6 147 RX5 yX5_goTo wsX5_goTo) := goodIn_app (goodIn_s seX6_flip _ [pq_1_8, pq_1_9, pq_1_10, pq_1_11] (by rfl) (by decide +kernel)) ggX6_flip_X5_goTo
set_option maxRecDepth 20000 in
theorem ggX6_flip_X5_size : GoodIn wsX6_flip wsX5_size := goodIn_s seX6_flip _ [pq_1_19, pq_1_14, pq_1_13, pq_3_0, pq_3_1, pq_3_2, pq_3_3, pq_3_4, pq_3_5] (by rfl) gw_wsX5_size
set_option maxRecDepth 20000 in
theorem gX6_flip_X5_size : GoodIn wsX6_flip (wsV RX6 73 RX5 yX5_size wsX5_size) := goodIn_app (goodIn_s seX6_flip _ [pq_1_16, pq_1_17, pq_1_18, pq_1_11] (by rfl) (by decide +kernel)) ggX6_flip_X5_size
set_option maxRecDepth 20000 in
theorem ggX6_flip_X6_done : GoodIn wsX6_flip wsX6_done := goodIn_s seX6_flip _ [pq_1_23, pq_2_0, pq_4_0, pq_4_1, pq_4_2, pq_4_3, pq_4_4, pq_4_5, pq_4_6, pq_4_7, pq_4_8, pq_4_9, pq_4_10, pq_4_11, pq_4_12, pq_4_13] (by rfl) gw_wsX6_done
set_option maxRecDepth 20000 in
theorem gX6_flip_X6_done : GoodIn wsX6_flip (wsV RX6 77 RX6 yX6_done wsX6_done) := goodIn_app (goodIn_s seX6_flip _ [pq_1_20, pq_1_21, pq_1_22, pq_1_3] (by rfl) (by decide +kernel)) ggX6_flip_X6_done
noncomputable def sgX6_compact : List (List Cond) := [[.code yX6_compact cX6_compact 3 (some .int)], wsX6_compact_r1, wsX6_compact_r2, wsX50, wsX60, (vx_atS RX6 306 "java/lang/IndexOutOfBoundsException" ["java/lang/RuntimeException", "java/lang/Exception"]).filter goodWord]
theorem seX6_compact : sgX6_compact.flatten = wsX6_compact := by simp only [sgX6_compact, wsX6_compact, List.flatten_cons, List.flatten_nil, List.append_assoc, List.append_nil, List.cons_append, List.nil_append]
set_option maxRecDepth 20000 in
theorem ggX6_compact_X6_windowOf : GoodIn wsX6_compact wsX6_windowOf := goodIn_ca (goodIn_s seX6_compact _ [pq_1_4, pq_1_5, pq_1_6, pq_1_7, pq_4_0, pq_4_1, pq_4_2, pq_4_3, pq_4_4, pq_4_5, pq_4_6, pq_4_7, pq_4_8, pq_4_9, pq_4_10, pq_4_11, pq_4_12, pq_4_13] (by rfl) (by decide +kernel)) (goodIn_sub (fun _ h => List.mem_cons_of_mem _ (List.mem_append_right _ h)) (by decide +kernel))
set_option maxRecDepth 20000 in
theorem gX6_compact_X6_windowOf : GoodIn wsX6_compact (wsV RX6 62 RX6 yX6_windowOf wsX6_windowOf) := goodIn_app (goodIn_s seX6_compact _ [pq_1_0, pq_1_1, pq_1_2, pq_1_3] (by rfl) (by decide +kernel)) ggX6_compact_X6_windowOf
set_option maxRecDepth 20000 in
theorem ggX6_compact_X5_moveTextToFront : GoodIn wsX6_compact wsX5_moveTextToFront := goodIn_s seX6_compact _ [pq_1_12, pq_1_13, pq_1_14, pq_1_15, pq_1_16, pq_1_11, pq_1_17, pq_1_18, pq_1_19, pq_1_20, pq_1_21, pq_1_22, pq_1_23, pq_2_0, pq_2_1, pq_2_2, pq_2_3, pq_2_4, pq_2_5, pq_2_6, pq_2_7, pq_2_8, pq_2_9, pq_2_10, pq_2_11, pq_2_12, pq_2_13, pq_2_14, pq_3_0, pq_3_1, pq_3_2, pq_3_3, pq_3_4, pq_3_5] (by rfl) gw_wsX5_moveTextToFront
set_option maxRecDepth 20000 in
theorem gX6_compact_X5_moveTextToFront : GoodIn wsX6_compact (wsV RX6 150 RX5 yX5_moveTextToFront wsX5_moveTextToFront) := goodIn_app (goodIn_s seX6_compact _ [pq_1_8, pq_1_9, pq_1_10, pq_1_11] (by rfl) (by decide +kernel)) ggX6_compact_X5_moveTextToFront
set_option maxRecDepth 20000 in
theorem ggX6_compact_X6_done : GoodIn wsX6_compact wsX6_done := goodIn_s seX6_compact _ [pq_2_18, pq_2_19, pq_4_0, pq_4_1, pq_4_2, pq_4_3, pq_4_4, pq_4_5, pq_4_6, pq_4_7, pq_4_8, pq_4_9, pq_4_10, pq_4_11, pq_4_12, pq_4_13] (by rfl) gw_wsX6_done
set_option maxRecDepth 20000 in
theorem gX6_compact_X6_done : GoodIn wsX6_compact (wsV RX6 77 RX6 yX6_done wsX6_done) := goodIn_app (goodIn_s seX6_compact _ [pq_2_15, pq_2_16, pq_2_17, pq_1_3] (by rfl) (by decide +kernel)) ggX6_compact_X6_done
noncomputable def sgX6_open : List (List Cond) := [[.code yX6_open cX6_open 3 (some .int)], wsX6_open_r1, wsX6_open_r2, wsX50, wsX60, (vx_atS RX6 306 "java/lang/IndexOutOfBoundsException" ["java/lang/RuntimeException", "java/lang/Exception"]).filter goodWord]
theorem seX6_open : sgX6_open.flatten = wsX6_open := by simp only [sgX6_open, wsX6_open, List.flatten_cons, List.flatten_nil, List.append_assoc, List.append_nil, List.cons_append, List.nil_append]
set_option maxRecDepth 20000 in
theorem ggX6_open_X6_windowOf : GoodIn wsX6_open wsX6_windowOf := goodIn_ca (goodIn_s seX6_open _ [pq_1_4, pq_1_5, pq_1_6, pq_1_7, pq_4_0, pq_4_1, pq_4_2, pq_4_3, pq_4_4, pq_4_5, pq_4_6, pq_4_7, pq_4_8, pq_4_9, pq_4_10, pq_4_11, pq_4_12, pq_4_13] (by rfl) (by decide +kernel)) (goodIn_sub (fun _ h => List.mem_cons_of_mem _ (List.mem_append_right _ h)) (by decide +kernel))
set_option maxRecDepth 20000 in
theorem gX6_open_X6_windowOf : GoodIn wsX6_open (wsV RX6 62 RX6 yX6_windowOf wsX6_windowOf) := goodIn_app (goodIn_s seX6_open _ [pq_1_0, pq_1_1, pq_1_2, pq_1_3] (by rfl) (by decide +kernel)) ggX6_open_X6_windowOf
set_option maxRecDepth 20000 in
theorem ggX6_open_X5_goTo : GoodIn wsX6_open wsX5_goTo := goodIn_s seX6_open _ [pq_1_12, pq_1_13, pq_1_14, pq_1_15, pq_3_0, pq_3_1, pq_3_2, pq_3_3, pq_3_4, pq_3_5] (by rfl) gw_wsX5_goTo
set_option maxRecDepth 20000 in
theorem gX6_open_X5_goTo : GoodIn wsX6_open (wsV RX6 147 RX5 yX5_goTo wsX5_goTo) := goodIn_app (goodIn_s seX6_open _ [pq_1_8, pq_1_9, pq_1_10, pq_1_11] (by rfl) (by decide +kernel)) ggX6_open_X5_goTo
set_option maxRecDepth 20000 in
theorem ggX6_open_X5_size : GoodIn wsX6_open wsX5_size := goodIn_s seX6_open _ [pq_1_19, pq_1_14, pq_1_13, pq_3_0, pq_3_1, pq_3_2, pq_3_3, pq_3_4, pq_3_5] (by rfl) gw_wsX5_size
set_option maxRecDepth 20000 in
theorem gX6_open_X5_size : GoodIn wsX6_open (wsV RX6 73 RX5 yX5_size wsX5_size) := goodIn_app (goodIn_s seX6_open _ [pq_1_16, pq_1_17, pq_1_18, pq_1_11] (by rfl) (by decide +kernel)) ggX6_open_X5_size
set_option maxRecDepth 20000 in
theorem ggX6_open_X6_done : GoodIn wsX6_open wsX6_done := goodIn_s seX6_open _ [pq_1_23, pq_2_0, pq_4_0, pq_4_1, pq_4_2, pq_4_3, pq_4_4, pq_4_5, pq_4_6, pq_4_7, pq_4_8, pq_4_9, pq_4_10, pq_4_11, pq_4_12, pq_4_13] (by rfl) gw_wsX6_done
set_option maxRecDepth 20000 in
theorem gX6_open_X6_done : GoodIn wsX6_open (wsV RX6 77 RX6 yX6_done wsX6_done) := goodIn_app (goodIn_s seX6_open _ [pq_1_20, pq_1_21, pq_1_22, pq_1_3] (by rfl) (by decide +kernel)) ggX6_open_X6_done
noncomputable def sgX6_keep : List (List Cond) := [[.code yX6_keep cX6_keep 2 (some .int)], wsX6_keep_r1, wsX6_keep_r2, wsX6_keep_r3, wsX60, wsX20, wsX50, (vx_atS RX6 306 "java/lang/IndexOutOfBoundsException" ["java/lang/RuntimeException", "java/lang/Exception"]).filter goodWord]
theorem seX6_keep : sgX6_keep.flatten = wsX6_keep := by simp only [sgX6_keep, wsX6_keep, List.flatten_cons, List.flatten_nil, List.append_assoc, List.append_nil, List.cons_append, List.nil_append]
set_option maxRecDepth 20000 in
theorem ggX6_keep_X6_sourceOf : GoodIn wsX6_keep wsX6_sourceOf := goodIn_ca (goodIn_s seX6_keep _ [pq_1_5, pq_1_6, pq_1_7, pq_1_8, pq_1_9, pq_1_0, pq_4_0, pq_4_1, pq_4_2, pq_4_3, pq_4_4, pq_4_5, pq_4_6, pq_4_7, pq_4_8, pq_4_9, pq_4_10, pq_4_11, pq_4_12, pq_4_13] (by rfl) (by decide +kernel)) (goodIn_sub (fun _ h => List.mem_cons_of_mem _ (List.mem_append_right _ h)) (by decide +kernel))
set_option maxRecDepth 20000 in
theorem gX6_keep_X6_sourceOf : GoodIn wsX6_keep (wsV RX6 156 RX6 yX6_sourceOf wsX6_sourceOf) := goodIn_app (goodIn_s seX6_keep _ [pq_1_1, pq_1_2, pq_1_3, pq_1_4] (by rfl) (by decide +kernel)) ggX6_keep_X6_sourceOf
set_option maxRecDepth 20000 in
theorem ggX6_keep_X2_becomeText : GoodIn wsX6_keep wsX2_becomeText := goodIn_s seX6_keep _ [pq_1_14, pq_1_15, pq_1_16, pq_1_17, pq_1_13, pq_1_18, pq_1_19, pq_1_20, pq_1_21, pq_1_22, pq_1_23, pq_2_0, pq_2_1, pq_2_2, pq_2_3, pq_2_4, pq_2_5, pq_2_6, pq_2_7, pq_2_8, pq_2_9, pq_2_10, pq_2_11, pq_2_12, pq_2_13, pq_2_14, pq_2_15, pq_2_16, pq_2_17, pq_2_18, pq_2_19, pq_2_20, pq_2_21, pq_2_22, pq_2_23, pq_3_0, pq_3_1, pq_3_2, pq_3_3, pq_3_4, pq_3_5, pq_5_0, pq_5_1, pq_6_0, pq_6_1, pq_6_2, pq_6_3, pq_6_4, pq_6_5] (by rfl) gw_wsX2_becomeText
set_option maxRecDepth 20000 in
theorem gX6_keep_X2_becomeText : GoodIn wsX6_keep (wsV RX6 160 RX2 yX2_becomeText wsX2_becomeText) := goodIn_app (goodIn_s seX6_keep _ [pq_1_10, pq_1_11, pq_1_12, pq_1_13] (by rfl) (by decide +kernel)) ggX6_keep_X2_becomeText
set_option maxRecDepth 20000 in
theorem ggX6_keep_X2_size : GoodIn wsX6_keep wsX2_size := goodIn_s seX6_keep _ [pq_2_4, pq_1_19, pq_5_0, pq_5_1] (by rfl) gw_wsX2_size
set_option maxRecDepth 20000 in
theorem gX6_keep_X2_size : GoodIn wsX6_keep (wsV RX6 164 RX2 yX2_size wsX2_size) := goodIn_app (goodIn_s seX6_keep _ [pq_3_6, pq_2_3, pq_3_7, pq_1_13] (by rfl) (by decide +kernel)) ggX6_keep_X2_size
set_option maxRecDepth 20000 in
theorem ggX6_keep_X6_done : GoodIn wsX6_keep wsX6_done := goodIn_s seX6_keep _ [pq_3_11, pq_3_12, pq_4_0, pq_4_1, pq_4_2, pq_4_3, pq_4_4, pq_4_5, pq_4_6, pq_4_7, pq_4_8, pq_4_9, pq_4_10, pq_4_11, pq_4_12, pq_4_13] (by rfl) gw_wsX6_done
set_option maxRecDepth 20000 in
theorem gX6_keep_X6_done : GoodIn wsX6_keep (wsV RX6 77 RX6 yX6_done wsX6_done) := goodIn_app (goodIn_s seX6_keep _ [pq_3_8, pq_3_9, pq_3_10, pq_1_4] (by rfl) (by decide +kernel)) ggX6_keep_X6_done
noncomputable def sgX6_load : List (List Cond) := [[.code yX6_load cX6_load 2 (some .int)], wsX6_load_r1, wsX6_load_r2, wsX6_load_r3, wsX60, wsX20, wsX50, (vx_atS RX6 306 "java/lang/IndexOutOfBoundsException" ["java/lang/RuntimeException", "java/lang/Exception"]).filter goodWord]
theorem seX6_load : sgX6_load.flatten = wsX6_load := by simp only [sgX6_load, wsX6_load, List.flatten_cons, List.flatten_nil, List.append_assoc, List.append_nil, List.cons_append, List.nil_append]
set_option maxRecDepth 20000 in
theorem ggX6_load_X6_sourceOf : GoodIn wsX6_load wsX6_sourceOf := goodIn_ca (goodIn_s seX6_load _ [pq_1_5, pq_1_6, pq_1_7, pq_1_8, pq_1_0, pq_1_9, pq_4_0, pq_4_1, pq_4_2, pq_4_3, pq_4_4, pq_4_5, pq_4_6, pq_4_7, pq_4_8, pq_4_9, pq_4_10, pq_4_11, pq_4_12, pq_4_13] (by rfl) (by decide +kernel)) (goodIn_sub (fun _ h => List.mem_cons_of_mem _ (List.mem_append_right _ h)) (by decide +kernel))
set_option maxRecDepth 20000 in
theorem gX6_load_X6_sourceOf : GoodIn wsX6_load (wsV RX6 156 RX6 yX6_sourceOf wsX6_sourceOf) := goodIn_app (goodIn_s seX6_load _ [pq_1_1, pq_1_2, pq_1_3, pq_1_4] (by rfl) (by decide +kernel)) ggX6_load_X6_sourceOf
set_option maxRecDepth 20000 in
theorem ggX6_load_X2_becomeText : GoodIn wsX6_load wsX2_becomeText := goodIn_s seX6_load _ [pq_1_14, pq_1_15, pq_1_16, pq_1_17, pq_1_13, pq_1_18, pq_1_19, pq_1_20, pq_1_21, pq_1_22, pq_1_23, pq_2_0, pq_2_1, pq_2_2, pq_2_3, pq_2_4, pq_2_5, pq_2_6, pq_2_7, pq_2_8, pq_2_9, pq_2_10, pq_2_11, pq_2_12, pq_2_13, pq_2_14, pq_2_15, pq_2_16, pq_2_17, pq_2_18, pq_2_19, pq_2_20, pq_2_21, pq_2_22, pq_2_23, pq_3_0, pq_3_1, pq_3_2, pq_3_3, pq_3_4, pq_3_5, pq_5_0, pq_5_1, pq_6_0, pq_6_1, pq_6_2, pq_6_3, pq_6_4, pq_6_5] (by rfl) gw_wsX2_becomeText
set_option maxRecDepth 20000 in
theorem gX6_load_X2_becomeText : GoodIn wsX6_load (wsV RX6 160 RX2 yX2_becomeText wsX2_becomeText) := goodIn_app (goodIn_s seX6_load _ [pq_1_10, pq_1_11, pq_1_12, pq_1_13] (by rfl) (by decide +kernel)) ggX6_load_X2_becomeText
set_option maxRecDepth 20000 in
theorem ggX6_load_X2_size : GoodIn wsX6_load wsX2_size := goodIn_s seX6_load _ [pq_2_4, pq_1_19, pq_5_0, pq_5_1] (by rfl) gw_wsX2_size
set_option maxRecDepth 20000 in
theorem gX6_load_X2_size : GoodIn wsX6_load (wsV RX6 164 RX2 yX2_size wsX2_size) := goodIn_app (goodIn_s seX6_load _ [pq_3_6, pq_2_3, pq_3_7, pq_1_13] (by rfl) (by decide +kernel)) ggX6_load_X2_size
set_option maxRecDepth 20000 in
theorem ggX6_load_X6_done : GoodIn wsX6_load wsX6_done := goodIn_s seX6_load _ [pq_3_11, pq_3_12, pq_4_0, pq_4_1, pq_4_2, pq_4_3, pq_4_4, pq_4_5, pq_4_6, pq_4_7, pq_4_8, pq_4_9, pq_4_10, pq_4_11, pq_4_12, pq_4_13] (by rfl) gw_wsX6_done
set_option maxRecDepth 20000 in
theorem gX6_load_X6_done : GoodIn wsX6_load (wsV RX6 77 RX6 yX6_done wsX6_done) := goodIn_app (goodIn_s seX6_load _ [pq_3_8, pq_3_9, pq_3_10, pq_1_4] (by rfl) (by decide +kernel)) ggX6_load_X6_done
noncomputable def sgX6_build : List (List Cond) := [[.code yX6_build cX6_build 3 (some .int)], wsX6_build_r1, wsX6_build_r2, wsX6_build_r3, wsX60, wsX20, wsX50, (vx_atS RX6 306 "java/lang/IndexOutOfBoundsException" ["java/lang/RuntimeException", "java/lang/Exception"]).filter goodWord, (vx_atS RX6 327 "java/lang/IllegalStateException" ["java/lang/RuntimeException", "java/lang/Exception"]).filter goodWord]
theorem seX6_build : sgX6_build.flatten = wsX6_build := by simp only [sgX6_build, wsX6_build, List.flatten_cons, List.flatten_nil, List.append_assoc, List.append_nil, List.cons_append, List.nil_append]
set_option maxRecDepth 20000 in
theorem ggX6_build_X6_sourceOf : GoodIn wsX6_build wsX6_sourceOf := goodIn_ca (goodIn_s seX6_build _ [pq_1_5, pq_1_6, pq_1_7, pq_1_8, pq_1_0, pq_1_9, pq_4_0, pq_4_1, pq_4_2, pq_4_3, pq_4_4, pq_4_5, pq_4_6, pq_4_7, pq_4_8, pq_4_9, pq_4_10, pq_4_11, pq_4_12, pq_4_13] (by rfl) (by decide +kernel)) (goodIn_sub (fun _ h => List.mem_cons_of_mem _ (List.mem_append_left _ (List.mem_append_right _ h))) (by decide +kernel))
set_option maxRecDepth 20000 in
theorem gX6_build_X6_sourceOf : GoodIn wsX6_build (wsV RX6 156 RX6 yX6_sourceOf wsX6_sourceOf) := goodIn_app (goodIn_s seX6_build _ [pq_1_1, pq_1_2, pq_1_3, pq_1_4] (by rfl) (by decide +kernel)) ggX6_build_X6_sourceOf
set_option maxRecDepth 20000 in
theorem ggX6_build_X2_size : GoodIn wsX6_build wsX2_size := goodIn_s seX6_build _ [pq_1_14, pq_1_15, pq_5_0, pq_5_1] (by rfl) gw_wsX2_size
set_option maxRecDepth 20000 in
theorem gX6_build_X2_size : GoodIn wsX6_build (wsV RX6 164 RX2 yX2_size wsX2_size) := goodIn_app (goodIn_s seX6_build _ [pq_1_10, pq_1_11, pq_1_12, pq_1_13] (by rfl) (by decide +kernel)) ggX6_build_X2_size
set_option maxRecDepth 20000 in
theorem gX6_build_X2_size_u165X2 : GoodIn wsX6_build (va_wsU RX6 165 RX2 "Sashwords$Text" ⟨"Sashwords$Text", "size", "()I"⟩ yX2_size wsX2_size) := goodIn_app (goodIn_s seX6_build _ [pq_1_16, pq_1_17, pq_1_18, pq_1_11, pq_1_13] (by rfl) (by decide +kernel)) ggX6_build_X2_size
set_option maxRecDepth 20000 in
theorem ggX6_build_X5_size : GoodIn wsX6_build wsX5_size := goodIn_s seX6_build _ [pq_1_22, pq_1_23, pq_2_0, pq_6_0, pq_6_1, pq_6_2, pq_6_3, pq_6_4, pq_6_5] (by rfl) gw_wsX5_size
set_option maxRecDepth 20000 in
theorem gX6_build_X5_size_u165X5 : GoodIn wsX6_build (va_wsU RX6 165 RX5 "Sashwords$Text" ⟨"Sashwords$Text", "size", "()I"⟩ yX5_size wsX5_size) := goodIn_app (goodIn_s seX6_build _ [pq_1_16, pq_1_17, pq_1_19, pq_1_20, pq_1_21] (by rfl) (by decide +kernel)) ggX6_build_X5_size
set_option maxRecDepth 20000 in
theorem ggX6_build_X6_requireRoom : GoodIn wsX6_build wsX6_requireRoom := goodIn_ca (goodIn_s seX6_build _ [pq_2_3, pq_2_4, pq_2_5] (by rfl) (by decide +kernel)) (goodIn_sub (fun _ h => List.mem_cons_of_mem _ (List.mem_append_right _ h)) (by decide +kernel))
set_option maxRecDepth 20000 in
theorem gX6_build_X6_requireRoom : GoodIn wsX6_build (va_wsS RX6 168 yX6_requireRoom wsX6_requireRoom) := goodIn_app (goodIn_s seX6_build _ [pq_2_1, pq_2_2, pq_1_4] (by rfl) (by decide +kernel)) ggX6_build_X6_requireRoom
set_option maxRecDepth 20000 in
theorem ggX6_build_X2_append : GoodIn wsX6_build wsX2_append := goodIn_s seX6_build _ [pq_2_9, pq_2_10, pq_1_17, pq_1_18, pq_1_11, pq_1_13, pq_1_14, pq_1_15, pq_1_19, pq_1_20, pq_1_21, pq_1_22, pq_1_23, pq_2_0, pq_2_11, pq_2_12, pq_2_13, pq_2_14, pq_2_15, pq_2_16, pq_2_17, pq_2_18, pq_2_19, pq_2_20, pq_2_21, pq_2_22, pq_2_23, pq_3_0, pq_3_1, pq_3_2, pq_3_3, pq_3_4, pq_3_5, pq_5_0, pq_5_1, pq_6_0, pq_6_1, pq_6_2, pq_6_3, pq_6_4, pq_6_5] (by rfl) gw_wsX2_append
set_option maxRecDepth 20000 in
theorem gX6_build_X2_append : GoodIn wsX6_build (wsV RX6 171 RX2 yX2_append wsX2_append) := goodIn_app (goodIn_s seX6_build _ [pq_2_6, pq_2_7, pq_2_8, pq_1_13] (by rfl) (by decide +kernel)) ggX6_build_X2_append
set_option maxRecDepth 20000 in
theorem ggX6_build_X6_done : GoodIn wsX6_build wsX6_done := goodIn_s seX6_build _ [pq_3_9, pq_3_10, pq_4_0, pq_4_1, pq_4_2, pq_4_3, pq_4_4, pq_4_5, pq_4_6, pq_4_7, pq_4_8, pq_4_9, pq_4_10, pq_4_11, pq_4_12, pq_4_13] (by rfl) gw_wsX6_done
set_option maxRecDepth 20000 in
theorem gX6_build_X6_done : GoodIn wsX6_build (wsV RX6 77 RX6 yX6_done wsX6_done) := goodIn_app (goodIn_s seX6_build _ [pq_3_6, pq_3_7, pq_3_8, pq_1_4] (by rfl) (by decide +kernel)) ggX6_build_X6_done
noncomputable def sgX6_turn : List (List Cond) := [[.code yX6_turn cX6_turn 1 (some .int)], wsX6_turn_r1, wsX6_turn_r2, wsX60, wsX20]
theorem seX6_turn : sgX6_turn.flatten = wsX6_turn := by simp only [sgX6_turn, wsX6_turn, List.flatten_cons, List.flatten_nil, List.append_assoc, List.append_nil, List.cons_append, List.nil_append]
set_option maxRecDepth 20000 in
theorem ggX6_turn_X2_turnRound : GoodIn wsX6_turn wsX2_turnRound := goodIn_s seX6_turn _ [pq_1_5, pq_1_6, pq_1_7, pq_1_8, pq_1_9, pq_1_4, pq_1_10, pq_1_11, pq_1_12, pq_1_13, pq_1_14, pq_1_15, pq_4_0, pq_4_1] (by rfl) gw_wsX2_turnRound
set_option maxRecDepth 20000 in
theorem gX6_turn_X2_turnRound : GoodIn wsX6_turn (wsV RX6 173 RX2 yX2_turnRound wsX2_turnRound) := goodIn_app (goodIn_s seX6_turn _ [pq_1_1, pq_1_2, pq_1_3, pq_1_4] (by rfl) (by decide +kernel)) ggX6_turn_X2_turnRound
set_option maxRecDepth 20000 in
theorem ggX6_turn_X2_size : GoodIn wsX6_turn wsX2_size := goodIn_s seX6_turn _ [pq_1_19, pq_1_6, pq_4_0, pq_4_1] (by rfl) gw_wsX2_size
set_option maxRecDepth 20000 in
theorem gX6_turn_X2_size : GoodIn wsX6_turn (wsV RX6 164 RX2 yX2_size wsX2_size) := goodIn_app (goodIn_s seX6_turn _ [pq_1_16, pq_1_17, pq_1_18, pq_1_4] (by rfl) (by decide +kernel)) ggX6_turn_X2_size
set_option maxRecDepth 20000 in
theorem ggX6_turn_X6_done : GoodIn wsX6_turn wsX6_done := goodIn_s seX6_turn _ [pq_2_0, pq_2_1, pq_3_0, pq_3_1, pq_3_2, pq_3_3, pq_3_4, pq_3_5, pq_3_6, pq_3_7, pq_3_8, pq_3_9, pq_3_10, pq_3_11, pq_3_12, pq_3_13] (by rfl) gw_wsX6_done
set_option maxRecDepth 20000 in
theorem gX6_turn_X6_done : GoodIn wsX6_turn (wsV RX6 77 RX6 yX6_done wsX6_done) := goodIn_app (goodIn_s seX6_turn _ [pq_1_20, pq_1_21, pq_1_22, pq_1_23] (by rfl) (by decide +kernel)) ggX6_turn_X6_done
noncomputable def sgX6_change : List (List Cond) := [[.code yX6_change cX6_change 3 (some .int)], wsX6_change_r1, wsX6_change_r2, wsX60, wsX20, (vx_atS RX6 306 "java/lang/IndexOutOfBoundsException" ["java/lang/RuntimeException", "java/lang/Exception"]).filter goodWord, (vx_atS RX6 317 "java/lang/IllegalArgumentException" ["java/lang/RuntimeException", "java/lang/Exception"]).filter goodWord]
theorem seX6_change : sgX6_change.flatten = wsX6_change := by simp only [sgX6_change, wsX6_change, List.flatten_cons, List.flatten_nil, List.append_assoc, List.append_nil, List.cons_append, List.nil_append]
set_option maxRecDepth 20000 in
theorem ggX6_change_X2_size : GoodIn wsX6_change wsX2_size := goodIn_s seX6_change _ [pq_1_5, pq_1_6, pq_4_0, pq_4_1] (by rfl) gw_wsX2_size
set_option maxRecDepth 20000 in
theorem gX6_change_X2_size : GoodIn wsX6_change (wsV RX6 164 RX2 yX2_size wsX2_size) := goodIn_app (goodIn_s seX6_change _ [pq_1_1, pq_1_2, pq_1_3, pq_1_4] (by rfl) (by decide +kernel)) ggX6_change_X2_size
set_option maxRecDepth 20000 in
theorem ggX6_change_X6_requirePlace : GoodIn wsX6_change wsX6_requirePlace := goodIn_ca (goodIn_s seX6_change _ [pq_1_10, pq_1_11, pq_1_12] (by rfl) (by decide +kernel)) (goodIn_sub (fun _ h => List.mem_cons_of_mem _ (List.mem_append_left _ (List.mem_append_right _ h))) (by decide +kernel))
set_option maxRecDepth 20000 in
theorem gX6_change_X6_requirePlace : GoodIn wsX6_change (va_wsS RX6 176 yX6_requirePlace wsX6_requirePlace) := goodIn_app (goodIn_s seX6_change _ [pq_1_7, pq_1_8, pq_1_9] (by rfl) (by decide +kernel)) ggX6_change_X6_requirePlace
set_option maxRecDepth 20000 in
theorem ggX6_change_X6_requireWithin : GoodIn wsX6_change wsX6_requireWithin := goodIn_ca (goodIn_s seX6_change _ [pq_1_15, pq_1_16, pq_1_17] (by rfl) (by decide +kernel)) (goodIn_sub (fun _ h => List.mem_cons_of_mem _ (List.mem_append_right _ h)) (by decide +kernel))
set_option maxRecDepth 20000 in
theorem gX6_change_X6_requireWithin : GoodIn wsX6_change (va_wsS RX6 66 yX6_requireWithin wsX6_requireWithin) := goodIn_app (goodIn_s seX6_change _ [pq_1_13, pq_1_14, pq_1_9] (by rfl) (by decide +kernel)) ggX6_change_X6_requireWithin
set_option maxRecDepth 20000 in
theorem ggX6_change_X2_exchange : GoodIn wsX6_change wsX2_exchange := goodIn_s seX6_change _ [pq_1_21, pq_1_22, pq_1_23, pq_2_0, pq_2_1, pq_1_4, pq_2_2, pq_1_6, pq_4_0, pq_4_1] (by rfl) gw_wsX2_exchange
set_option maxRecDepth 20000 in
theorem gX6_change_X2_exchange : GoodIn wsX6_change (wsV RX6 179 RX2 yX2_exchange wsX2_exchange) := goodIn_app (goodIn_s seX6_change _ [pq_1_18, pq_1_19, pq_1_20, pq_1_4] (by rfl) (by decide +kernel)) ggX6_change_X2_exchange
set_option maxRecDepth 20000 in
theorem ggX6_change_X6_done : GoodIn wsX6_change wsX6_done := goodIn_s seX6_change _ [pq_2_6, pq_2_7, pq_3_0, pq_3_1, pq_3_2, pq_3_3, pq_3_4, pq_3_5, pq_3_6, pq_3_7, pq_3_8, pq_3_9, pq_3_10, pq_3_11, pq_3_12, pq_3_13] (by rfl) gw_wsX6_done
set_option maxRecDepth 20000 in
theorem gX6_change_X6_done : GoodIn wsX6_change (wsV RX6 77 RX6 yX6_done wsX6_done) := goodIn_app (goodIn_s seX6_change _ [pq_2_3, pq_2_4, pq_2_5, pq_1_9] (by rfl) (by decide +kernel)) ggX6_change_X6_done
noncomputable def sgX6_pipe : List (List Cond) := [[.code yX6_pipe cX6_pipe 3 (some .int)], wsX6_pipe_r1, wsX6_pipe_r2, wsX60, wsX10, wsX20, (vx_atS RX6 317 "java/lang/IllegalArgumentException" ["java/lang/RuntimeException", "java/lang/Exception"]).filter goodWord]
theorem seX6_pipe : sgX6_pipe.flatten = wsX6_pipe := by simp only [sgX6_pipe, wsX6_pipe, List.flatten_cons, List.flatten_nil, List.append_assoc, List.append_nil, List.cons_append, List.nil_append]
set_option maxRecDepth 20000 in
theorem ggX6_pipe_X6_requireWithin : GoodIn wsX6_pipe wsX6_requireWithin := goodIn_ca (goodIn_s seX6_pipe _ [pq_1_4, pq_1_5, pq_1_6] (by rfl) (by decide +kernel)) (goodIn_sub (fun _ h => List.mem_cons_of_mem _ (List.mem_append_right _ h)) (by decide +kernel))
set_option maxRecDepth 20000 in
theorem gX6_pipe_X6_requireWithin : GoodIn wsX6_pipe (va_wsS RX6 66 yX6_requireWithin wsX6_requireWithin) := goodIn_app (goodIn_s seX6_pipe _ [pq_1_1, pq_1_2, pq_1_3] (by rfl) (by decide +kernel)) ggX6_pipe_X6_requireWithin
set_option maxRecDepth 20000 in
theorem ggX6_pipe_X2_size : GoodIn wsX6_pipe wsX2_size := goodIn_s seX6_pipe _ [pq_1_11, pq_1_12, pq_5_0, pq_5_1] (by rfl) gw_wsX2_size
set_option maxRecDepth 20000 in
theorem gX6_pipe_X2_size : GoodIn wsX6_pipe (wsV RX6 164 RX2 yX2_size wsX2_size) := goodIn_app (goodIn_s seX6_pipe _ [pq_1_7, pq_1_8, pq_1_9, pq_1_10] (by rfl) (by decide +kernel)) ggX6_pipe_X2_size
set_option maxRecDepth 20000 in
theorem ggX6_pipe_X1_makeNew : GoodIn wsX6_pipe wsX1_makeNew := goodIn_s seX6_pipe _ [pq_1_17, pq_1_18, pq_1_19, pq_1_20, pq_1_21, pq_1_22, pq_1_23, pq_2_0, pq_1_10, pq_2_1, pq_1_12, pq_4_0, pq_4_1, pq_4_2, pq_4_3, pq_5_0, pq_5_1] (by rfl) gw_wsX1_makeNew
set_option maxRecDepth 20000 in
theorem gX6_pipe_X1_makeNew : GoodIn wsX6_pipe (wsV RX6 186 RX1 yX1_makeNew wsX1_makeNew) := goodIn_app (goodIn_s seX6_pipe _ [pq_1_13, pq_1_14, pq_1_15, pq_1_16] (by rfl) (by decide +kernel)) ggX6_pipe_X1_makeNew
set_option maxRecDepth 20000 in
theorem ggX6_pipe_X6_done : GoodIn wsX6_pipe wsX6_done := goodIn_s seX6_pipe _ [pq_2_5, pq_2_6, pq_3_0, pq_3_1, pq_3_2, pq_3_3, pq_3_4, pq_3_5, pq_3_6, pq_3_7, pq_3_8, pq_3_9, pq_3_10, pq_3_11, pq_3_12, pq_3_13] (by rfl) gw_wsX6_done
set_option maxRecDepth 20000 in
theorem gX6_pipe_X6_done : GoodIn wsX6_pipe (wsV RX6 77 RX6 yX6_done wsX6_done) := goodIn_app (goodIn_s seX6_pipe _ [pq_2_2, pq_2_3, pq_2_4, pq_1_3] (by rfl) (by decide +kernel)) ggX6_pipe_X6_done
noncomputable def sgX6_feed : List (List Cond) := [[.code yX6_feed cX6_feed 5 (some .int)], wsX6_feed_r1, wsX6_feed_r2, wsX60, wsX10, wsX20, (vx_atS RX6 317 "java/lang/IllegalArgumentException" ["java/lang/RuntimeException", "java/lang/Exception"]).filter goodWord]
theorem seX6_feed : sgX6_feed.flatten = wsX6_feed := by simp only [sgX6_feed, wsX6_feed, List.flatten_cons, List.flatten_nil, List.append_assoc, List.append_nil, List.cons_append, List.nil_append]
set_option maxRecDepth 20000 in
theorem ggX6_feed_X6_requireLetters : GoodIn wsX6_feed wsX6_requireLetters := goodIn_ca (goodIn_s seX6_feed _ [pq_1_4, pq_1_5, pq_1_6, pq_1_7, pq_1_3, pq_1_8, pq_1_9, pq_1_10] (by rfl) (by decide +kernel)) (goodIn_sub (fun _ h => List.mem_cons_of_mem _ (List.mem_append_right _ h)) (by decide +kernel))
set_option maxRecDepth 20000 in
theorem gX6_feed_X6_requireLetters : GoodIn wsX6_feed (va_wsS RX6 103 yX6_requireLetters wsX6_requireLetters) := goodIn_app (goodIn_s seX6_feed _ [pq_1_1, pq_1_2, pq_1_3] (by rfl) (by decide +kernel)) ggX6_feed_X6_requireLetters
set_option maxRecDepth 20000 in
theorem ggX6_feed_X6_lowestLetter : GoodIn wsX6_feed wsX6_lowestLetter := goodIn_s seX6_feed _ [pq_1_13] (by rfl) gw_wsX6_lowestLetter
set_option maxRecDepth 20000 in
theorem gX6_feed_X6_lowestLetter : GoodIn wsX6_feed (va_wsS RX6 107 yX6_lowestLetter wsX6_lowestLetter) := goodIn_app (goodIn_s seX6_feed _ [pq_1_11, pq_1_12, pq_1_3] (by rfl) (by decide +kernel)) ggX6_feed_X6_lowestLetter
set_option maxRecDepth 20000 in
theorem ggX6_feed_X1_takeIn : GoodIn wsX6_feed wsX1_takeIn := goodIn_s seX6_feed _ [pq_1_18, pq_1_19, pq_1_20, pq_1_21, pq_1_22, pq_1_23, pq_2_0, pq_2_1, pq_2_2, pq_2_3, pq_2_4, pq_2_5, pq_2_6, pq_2_7, pq_2_8, pq_2_9, pq_2_10, pq_2_11, pq_2_12, pq_4_0, pq_4_1, pq_4_2, pq_4_3, pq_5_0, pq_5_1] (by rfl) gw_wsX1_takeIn
set_option maxRecDepth 20000 in
theorem gX6_feed_X1_takeIn : GoodIn wsX6_feed (wsV RX6 189 RX1 yX1_takeIn wsX1_takeIn) := goodIn_app (goodIn_s seX6_feed _ [pq_1_14, pq_1_15, pq_1_16, pq_1_17] (by rfl) (by decide +kernel)) ggX6_feed_X1_takeIn
set_option maxRecDepth 20000 in
theorem ggX6_feed_X6_done : GoodIn wsX6_feed wsX6_done := goodIn_s seX6_feed _ [pq_2_16, pq_2_17, pq_3_0, pq_3_1, pq_3_2, pq_3_3, pq_3_4, pq_3_5, pq_3_6, pq_3_7, pq_3_8, pq_3_9, pq_3_10, pq_3_11, pq_3_12, pq_3_13] (by rfl) gw_wsX6_done
set_option maxRecDepth 20000 in
theorem gX6_feed_X6_done : GoodIn wsX6_feed (wsV RX6 77 RX6 yX6_done wsX6_done) := goodIn_app (goodIn_s seX6_feed _ [pq_2_13, pq_2_14, pq_2_15, pq_1_3] (by rfl) (by decide +kernel)) ggX6_feed_X6_done
noncomputable def sgX6_drain : List (List Cond) := [[.code yX6_drain cX6_drain 3 (some (.object "java/lang/String"))], wsX6_drain_r1, wsX6_drain_r2, wsX6_drain_r3, wsX6_drain_r4, wsX6_drain_r5, wsX6_drain_r6, wsX6_drain_r7, wsX6_drain_r8, wsX6_drain_r9, wsX6_drain_r10, wsJ40, wsX60, wsX10, wsX20, wsJ00, (vx_atS RX6 317 "java/lang/IllegalArgumentException" ["java/lang/RuntimeException", "java/lang/Exception"]).filter goodWord]
theorem seX6_drain : sgX6_drain.flatten = wsX6_drain := by simp only [sgX6_drain, wsX6_drain, List.flatten_cons, List.flatten_nil, List.append_assoc, List.append_nil, List.cons_append, List.nil_append]
set_option maxRecDepth 20000 in
theorem ggX6_drain_X6_requireWithin : GoodIn wsX6_drain wsX6_requireWithin := goodIn_ca (goodIn_s seX6_drain _ [pq_1_6, pq_1_7, pq_1_8] (by rfl) (by decide +kernel)) (goodIn_sub (fun _ h => List.mem_cons_of_mem _ (List.mem_append_right _ h)) (by decide +kernel))
set_option maxRecDepth 20000 in
theorem gX6_drain_X6_requireWithin : GoodIn wsX6_drain (va_wsS RX6 66 yX6_requireWithin wsX6_requireWithin) := goodIn_app (goodIn_s seX6_drain _ [pq_1_3, pq_1_4, pq_1_5] (by rfl) (by decide +kernel)) ggX6_drain_X6_requireWithin
set_option maxRecDepth 20000 in
theorem ggX6_drain_J4_init_da8c8 : GoodIn wsX6_drain wsJ4_init_da8c8 := goodIn_s seX6_drain _ [pq_1_11, pq_1_12, pq_1_13, pq_1_14, pq_1_15, pq_1_16, pq_1_17, pq_1_18, pq_1_19, pq_1_20, pq_1_21, pq_1_22, pq_1_23, pq_2_0, pq_2_1, pq_2_2, pq_2_3, pq_2_4, pq_2_5, pq_2_6, pq_11_0, pq_11_1, pq_11_2, pq_11_3] (by rfl) gw_wsJ4_init_da8c8
set_option maxRecDepth 20000 in
theorem gX6_drain_J4_init_da8c8 : GoodIn wsX6_drain (wsJ4_init_da8c8) := ggX6_drain_J4_init_da8c8
set_option maxRecDepth 20000 in
theorem ggX6_drain_X6_letOut : GoodIn wsX6_drain wsX6_letOut := goodIn_s seX6_drain _ [pq_2_10, pq_2_11, pq_2_12, pq_2_13, pq_2_14, pq_2_15, pq_2_16, pq_2_17, pq_2_18, pq_2_19, pq_2_20, pq_2_21, pq_2_22, pq_2_23, pq_3_0, pq_3_1, pq_3_2, pq_3_3, pq_3_4, pq_3_5, pq_3_6, pq_3_7, pq_3_8, pq_3_9, pq_3_10, pq_3_11, pq_3_12, pq_3_13, pq_3_14, pq_3_15, pq_3_16, pq_3_17, pq_3_18, pq_3_19, pq_3_20, pq_3_21, pq_3_22, pq_3_23, pq_4_0, pq_1_2, pq_4_1, pq_4_2, pq_4_3, pq_4_4, pq_4_5, pq_1_14, pq_4_6, pq_4_7, pq_1_21, pq_4_8, pq_4_9, pq_4_10, pq_4_11, pq_4_12, pq_1_22, pq_4_13, pq_4_14, pq_4_15, pq_4_16, pq_4_17, pq_4_18, pq_4_19, pq_4_20, pq_4_21, pq_4_22, pq_4_23, pq_5_0, pq_5_1, pq_5_2, pq_5_3, pq_5_4, pq_5_5, pq_5_6, pq_5_7, pq_5_8, pq_5_9, pq_5_10, pq_5_11, pq_5_12, pq_5_13, pq_1_20, pq_5_14, pq_5_15, pq_5_16, pq_5_17, pq_5_18, pq_5_19, pq_5_20, pq_5_21, pq_5_22, pq_5_23, pq_6_0, pq_6_1, pq_1_19, pq_6_2, pq_6_3, pq_6_4, pq_6_5, pq_6_6, pq_6_7, pq_6_8, pq_6_9, pq_6_10, pq_1_23, pq_2_0, pq_2_1, pq_2_2, pq_2_3, pq_2_4, pq_2_5, pq_2_6, pq_6_11, pq_6_12, pq_6_13, pq_6_14, pq_6_15, pq_6_16, pq_6_17, pq_6_18, pq_6_19, pq_6_20, pq_6_21, pq_6_22, pq_6_23, pq_7_0, pq_7_1, pq_7_2, pq_7_3, pq_7_4, pq_7_5, pq_7_6, pq_7_7, pq_7_8, pq_7_9, pq_7_10, pq_7_11, pq_7_12, pq_7_13, pq_7_14, pq_7_15, pq_7_16, pq_7_17, pq_7_18, pq_7_19, pq_7_20, pq_7_21, pq_7_22, pq_7_23, pq_8_0, pq_8_1, pq_12_0, pq_12_1, pq_12_2, pq_12_3, pq_12_4, pq_12_5, pq_12_6, pq_12_7, pq_12_8, pq_12_9, pq_12_10, pq_12_11, pq_12_12, pq_12_13, pq_13_0, pq_13_1, pq_13_2, pq_13_3, pq_14_0, pq_14_1, pq_11_0, pq_11_1, pq_11_2, pq_11_3] (by rfl) gw_wsX6_letOut
set_option maxRecDepth 20000 in
theorem gX6_drain_X6_letOut : GoodIn wsX6_drain (wsV RX6 192 RX6 yX6_letOut wsX6_letOut) := goodIn_app (goodIn_s seX6_drain _ [pq_2_7, pq_2_8, pq_2_9, pq_1_5] (by rfl) (by decide +kernel)) ggX6_drain_X6_letOut
set_option maxRecDepth 20000 in
theorem ggX6_drain_J4_toString_0e30d : GoodIn wsX6_drain wsJ4_toString_0e30d := goodIn_s seX6_drain _ [pq_8_5, pq_8_6, pq_8_7, pq_7_1, pq_8_8, pq_8_9, pq_8_10, pq_8_11, pq_8_12, pq_8_13, pq_8_14, pq_1_17, pq_1_18, pq_8_15, pq_8_16, pq_8_17, pq_8_18, pq_8_19, pq_8_20, pq_8_21, pq_8_22, pq_1_14, pq_8_23, pq_1_21, pq_9_0, pq_9_1, pq_9_2, pq_9_3, pq_9_4, pq_1_2, pq_9_5, pq_9_6, pq_4_4, pq_9_7, pq_9_8, pq_4_7, pq_9_9, pq_5_22, pq_5_23, pq_6_0, pq_6_1, pq_1_19, pq_1_22, pq_9_10, pq_9_11, pq_5_6, pq_9_12, pq_5_8, pq_5_9, pq_5_10, pq_5_11, pq_5_12, pq_5_13, pq_9_13, pq_9_14, pq_9_15, pq_1_20, pq_5_14, pq_5_15, pq_3_7, pq_5_16, pq_5_17, pq_5_18, pq_5_19, pq_5_20, pq_9_16, pq_9_17, pq_9_18, pq_9_19, pq_1_1, pq_9_20, pq_9_21, pq_2_1, pq_9_22, pq_9_23, pq_10_0, pq_10_1, pq_6_17, pq_6_18, pq_6_19, pq_6_20, pq_6_21, pq_6_22, pq_6_23, pq_7_0, pq_7_2, pq_7_3, pq_7_4, pq_7_5, pq_7_6, pq_7_7, pq_10_2, pq_10_3, pq_10_4, pq_7_11, pq_7_12, pq_7_13, pq_2_3, pq_2_4, pq_2_5, pq_2_6, pq_10_5, pq_10_6, pq_10_7, pq_10_8, pq_15_0, pq_15_1, pq_15_2, pq_15_3, pq_11_0, pq_11_1, pq_11_2, pq_11_3] (by rfl) gw_wsJ4_toString_0e30d
set_option maxRecDepth 20000 in
theorem gX6_drain_J4_toString_0e30d : GoodIn wsX6_drain (wsV RX6 120 RJ4 yJ4_toString_0e30d wsJ4_toString_0e30d) := goodIn_app (goodIn_s seX6_drain _ [pq_8_2, pq_8_3, pq_8_4, pq_1_2] (by rfl) (by decide +kernel)) ggX6_drain_J4_toString_0e30d
set_option maxRecDepth 20000 in
theorem ggX6_drain_X6_done_ : GoodIn wsX6_drain wsX6_done_ := goodIn_s seX6_drain _ [pq_10_12, pq_10_13, pq_12_0, pq_12_1, pq_12_2, pq_12_3, pq_12_4, pq_12_5, pq_12_6, pq_12_7, pq_12_8, pq_12_9, pq_12_10, pq_12_11, pq_12_12, pq_12_13] (by rfl) gw_wsX6_done_
set_option maxRecDepth 20000 in
theorem gX6_drain_X6_done_ : GoodIn wsX6_drain (wsV RX6 124 RX6 yX6_done_ wsX6_done_) := goodIn_app (goodIn_s seX6_drain _ [pq_10_9, pq_10_10, pq_10_11, pq_1_5] (by rfl) (by decide +kernel)) ggX6_drain_X6_done_
noncomputable def sgX6_pump : List (List Cond) := [[.code yX6_pump cX6_pump 8 (some (.object "java/lang/String"))], wsX6_pump_r1, wsX6_pump_r2, wsX6_pump_r3, wsX6_pump_r4, wsX6_pump_r5, wsX6_pump_r6, wsX6_pump_r7, wsX6_pump_r8, wsX6_pump_r9, wsX6_pump_r10, wsX6_pump_r11, wsX6_pump_r12, wsX60, wsX10, wsJ40, wsX20, wsX50, wsJ00, (vx_atS RX6 306 "java/lang/IndexOutOfBoundsException" ["java/lang/RuntimeException", "java/lang/Exception"]).filter goodWord, (vx_atS RX6 317 "java/lang/IllegalArgumentException" ["java/lang/RuntimeException", "java/lang/Exception"]).filter goodWord, (vx_atS RX6 327 "java/lang/IllegalStateException" ["java/lang/RuntimeException", "java/lang/Exception"]).filter goodWord]
theorem seX6_pump : sgX6_pump.flatten = wsX6_pump := by simp only [sgX6_pump, wsX6_pump, List.flatten_cons, List.flatten_nil, List.append_assoc, List.append_nil, List.cons_append, List.nil_append]
set_option maxRecDepth 20000 in
theorem ggX6_pump_X6_sourceOf : GoodIn wsX6_pump wsX6_sourceOf := goodIn_ca (goodIn_s seX6_pump _ [pq_1_9, pq_1_10, pq_1_11, pq_1_12, pq_1_13, pq_1_14, pq_13_0, pq_13_1, pq_13_2, pq_13_3, pq_13_4, pq_13_5, pq_13_6, pq_13_7, pq_13_8, pq_13_9, pq_13_10, pq_13_11, pq_13_12, pq_13_13] (by rfl) (by decide +kernel)) (goodIn_sub (fun _ h => List.mem_cons_of_mem _ (List.mem_append_left _ (List.mem_append_left _ (List.mem_append_right _ h)))) (by decide +kernel))
set_option maxRecDepth 20000 in
theorem gX6_pump_X6_sourceOf : GoodIn wsX6_pump (wsV RX6 156 RX6 yX6_sourceOf wsX6_sourceOf) := goodIn_app (goodIn_s seX6_pump _ [pq_1_5, pq_1_6, pq_1_7, pq_1_8] (by rfl) (by decide +kernel)) ggX6_pump_X6_sourceOf
set_option maxRecDepth 20000 in
theorem ggX6_pump_X6_requireWithin : GoodIn wsX6_pump wsX6_requireWithin := goodIn_ca (goodIn_s seX6_pump _ [pq_1_17, pq_1_18, pq_1_19] (by rfl) (by decide +kernel)) (goodIn_sub (fun _ h => List.mem_cons_of_mem _ (List.mem_append_left _ (List.mem_append_right _ h))) (by decide +kernel))
set_option maxRecDepth 20000 in
theorem gX6_pump_X6_requireWithin : GoodIn wsX6_pump (va_wsS RX6 66 yX6_requireWithin wsX6_requireWithin) := goodIn_app (goodIn_s seX6_pump _ [pq_1_15, pq_1_16, pq_1_8] (by rfl) (by decide +kernel)) ggX6_pump_X6_requireWithin
set_option maxRecDepth 20000 in
theorem ggX6_pump_X2_size : GoodIn wsX6_pump wsX2_size := goodIn_s seX6_pump _ [pq_2_0, pq_2_1, pq_16_0, pq_16_1] (by rfl) gw_wsX2_size
set_option maxRecDepth 20000 in
theorem gX6_pump_X2_size : GoodIn wsX6_pump (wsV RX6 164 RX2 yX2_size wsX2_size) := goodIn_app (goodIn_s seX6_pump _ [pq_1_20, pq_1_21, pq_1_22, pq_1_23] (by rfl) (by decide +kernel)) ggX6_pump_X2_size
set_option maxRecDepth 20000 in
theorem gX6_pump_X2_size_u165X2 : GoodIn wsX6_pump (va_wsU RX6 165 RX2 "Sashwords$Text" ⟨"Sashwords$Text", "size", "()I"⟩ yX2_size wsX2_size) := goodIn_app (goodIn_s seX6_pump _ [pq_2_2, pq_2_3, pq_2_4, pq_1_21, pq_1_23] (by rfl) (by decide +kernel)) ggX6_pump_X2_size
set_option maxRecDepth 20000 in
theorem ggX6_pump_X5_size : GoodIn wsX6_pump wsX5_size := goodIn_s seX6_pump _ [pq_2_8, pq_2_9, pq_2_10, pq_17_0, pq_17_1, pq_17_2, pq_17_3, pq_17_4, pq_17_5] (by rfl) gw_wsX5_size
set_option maxRecDepth 20000 in
theorem gX6_pump_X5_size_u165X5 : GoodIn wsX6_pump (va_wsU RX6 165 RX5 "Sashwords$Text" ⟨"Sashwords$Text", "size", "()I"⟩ yX5_size wsX5_size) := goodIn_app (goodIn_s seX6_pump _ [pq_2_2, pq_2_3, pq_2_5, pq_2_6, pq_2_7] (by rfl) (by decide +kernel)) ggX6_pump_X5_size
set_option maxRecDepth 20000 in
theorem ggX6_pump_X6_requireRoom : GoodIn wsX6_pump wsX6_requireRoom := goodIn_ca (goodIn_s seX6_pump _ [pq_2_13, pq_2_14, pq_2_15] (by rfl) (by decide +kernel)) (goodIn_sub (fun _ h => List.mem_cons_of_mem _ (List.mem_append_right _ h)) (by decide +kernel))
set_option maxRecDepth 20000 in
theorem gX6_pump_X6_requireRoom : GoodIn wsX6_pump (va_wsS RX6 168 yX6_requireRoom wsX6_requireRoom) := goodIn_app (goodIn_s seX6_pump _ [pq_2_11, pq_2_12, pq_1_8] (by rfl) (by decide +kernel)) ggX6_pump_X6_requireRoom
set_option maxRecDepth 20000 in
theorem ggX6_pump_J4_init_da8c8 : GoodIn wsX6_pump wsJ4_init_da8c8 := goodIn_s seX6_pump _ [pq_2_18, pq_2_19, pq_2_20, pq_2_21, pq_2_22, pq_2_23, pq_3_0, pq_3_1, pq_3_2, pq_3_3, pq_3_4, pq_3_5, pq_3_6, pq_3_7, pq_3_8, pq_3_9, pq_3_10, pq_3_11, pq_3_12, pq_3_13, pq_15_0, pq_15_1, pq_15_2, pq_15_3] (by rfl) gw_wsJ4_init_da8c8
set_option maxRecDepth 20000 in
theorem gX6_pump_J4_init_da8c8 : GoodIn wsX6_pump (wsJ4_init_da8c8) := ggX6_pump_J4_init_da8c8
set_option maxRecDepth 20000 in
theorem ggX6_pump_X6_letIn : GoodIn wsX6_pump wsX6_letIn := goodIn_s seX6_pump _ [pq_3_17, pq_1_0, pq_2_2, pq_2_3, pq_2_4, pq_1_21, pq_1_23, pq_2_0, pq_2_1, pq_2_5, pq_2_6, pq_2_7, pq_2_8, pq_2_9, pq_2_10, pq_3_18, pq_3_19, pq_3_20, pq_3_21, pq_3_22, pq_3_23, pq_4_0, pq_4_1, pq_4_2, pq_4_3, pq_4_4, pq_4_5, pq_4_6, pq_4_7, pq_4_8, pq_4_9, pq_4_10, pq_4_11, pq_4_12, pq_4_13, pq_4_14, pq_4_15, pq_4_16, pq_4_17, pq_1_22, pq_4_18, pq_4_19, pq_4_20, pq_4_21, pq_4_22, pq_4_23, pq_5_0, pq_5_1, pq_13_0, pq_13_1, pq_13_2, pq_13_3, pq_13_4, pq_13_5, pq_13_6, pq_13_7, pq_13_8, pq_13_9, pq_13_10, pq_13_11, pq_13_12, pq_13_13, pq_16_0, pq_16_1, pq_17_0, pq_17_1, pq_17_2, pq_17_3, pq_17_4, pq_17_5, pq_14_0, pq_14_1, pq_14_2, pq_14_3] (by rfl) gw_wsX6_letIn
set_option maxRecDepth 20000 in
theorem gX6_pump_X6_letIn : GoodIn wsX6_pump (wsV RX6 199 RX6 yX6_letIn wsX6_letIn) := goodIn_app (goodIn_s seX6_pump _ [pq_3_14, pq_3_15, pq_3_16, pq_1_8] (by rfl) (by decide +kernel)) ggX6_pump_X6_letIn
set_option maxRecDepth 20000 in
theorem ggX6_pump_X6_letOut : GoodIn wsX6_pump wsX6_letOut := goodIn_s seX6_pump _ [pq_5_5, pq_1_0, pq_1_20, pq_1_21, pq_1_22, pq_1_23, pq_2_0, pq_2_1, pq_5_6, pq_5_7, pq_5_8, pq_4_12, pq_5_9, pq_4_14, pq_5_10, pq_5_11, pq_5_12, pq_5_13, pq_5_14, pq_5_15, pq_5_16, pq_5_17, pq_5_18, pq_5_19, pq_3_21, pq_5_20, pq_3_22, pq_3_23, pq_5_21, pq_5_22, pq_5_23, pq_6_0, pq_4_22, pq_4_23, pq_5_0, pq_5_1, pq_6_1, pq_6_2, pq_6_3, pq_1_3, pq_6_4, pq_6_5, pq_6_6, pq_6_7, pq_6_8, pq_2_21, pq_6_9, pq_6_10, pq_3_4, pq_6_11, pq_6_12, pq_6_13, pq_6_14, pq_6_15, pq_3_5, pq_6_16, pq_6_17, pq_6_18, pq_6_19, pq_6_20, pq_6_21, pq_6_22, pq_6_23, pq_7_0, pq_7_1, pq_7_2, pq_7_3, pq_7_4, pq_7_5, pq_7_6, pq_7_7, pq_7_8, pq_7_9, pq_7_10, pq_7_11, pq_7_12, pq_7_13, pq_7_14, pq_7_15, pq_7_16, pq_3_3, pq_7_17, pq_7_18, pq_7_19, pq_7_20, pq_7_21, pq_7_22, pq_7_23, pq_8_0, pq_8_1, pq_8_2, pq_8_3, pq_8_4, pq_3_2, pq_8_5, pq_8_6, pq_8_7, pq_8_8, pq_8_9, pq_8_10, pq_8_11, pq_8_12, pq_8_13, pq_3_6, pq_3_7, pq_3_8, pq_3_9, pq_3_10, pq_3_11, pq_3_12, pq_3_13, pq_8_14, pq_8_15, pq_8_16, pq_8_17, pq_8_18, pq_8_19, pq_8_20, pq_8_21, pq_8_22, pq_8_23, pq_9_0, pq_9_1, pq_9_2, pq_9_3, pq_9_4, pq_9_5, pq_9_6, pq_9_7, pq_9_8, pq_9_9, pq_9_10, pq_9_11, pq_9_12, pq_9_13, pq_9_14, pq_9_15, pq_9_16, pq_9_17, pq_9_18, pq_9_19, pq_9_20, pq_9_21, pq_9_22, pq_9_23, pq_10_0, pq_10_1, pq_10_2, pq_10_3, pq_10_4, pq_13_0, pq_13_1, pq_13_2, pq_13_3, pq_13_4, pq_13_5, pq_13_6, pq_13_7, pq_13_8, pq_13_9, pq_13_10, pq_13_11, pq_13_12, pq_13_13, pq_14_0, pq_14_1, pq_14_2, pq_14_3, pq_16_0, pq_16_1, pq_15_0, pq_15_1, pq_15_2, pq_15_3] (by rfl) gw_wsX6_letOut
set_option maxRecDepth 20000 in
theorem gX6_pump_X6_letOut : GoodIn wsX6_pump (wsV RX6 192 RX6 yX6_letOut wsX6_letOut) := goodIn_app (goodIn_s seX6_pump _ [pq_5_2, pq_5_3, pq_5_4, pq_1_8] (by rfl) (by decide +kernel)) ggX6_pump_X6_letOut
set_option maxRecDepth 20000 in
theorem ggX6_pump_J4_toString_0e30d : GoodIn wsX6_pump wsJ4_toString_0e30d := goodIn_s seX6_pump _ [pq_10_8, pq_10_9, pq_10_10, pq_9_4, pq_10_11, pq_10_12, pq_10_13, pq_10_14, pq_10_15, pq_10_16, pq_10_17, pq_3_0, pq_3_1, pq_10_18, pq_10_19, pq_10_20, pq_10_21, pq_10_22, pq_10_23, pq_11_0, pq_11_1, pq_2_21, pq_11_2, pq_3_4, pq_11_3, pq_11_4, pq_11_5, pq_11_6, pq_11_7, pq_1_3, pq_11_8, pq_11_9, pq_6_7, pq_11_10, pq_11_11, pq_6_10, pq_11_12, pq_8_1, pq_8_2, pq_8_3, pq_8_4, pq_3_2, pq_3_5, pq_11_13, pq_11_14, pq_7_9, pq_11_15, pq_7_11, pq_7_12, pq_7_13, pq_7_14, pq_7_15, pq_7_16, pq_11_16, pq_11_17, pq_11_18, pq_3_3, pq_7_17, pq_7_18, pq_5_17, pq_7_19, pq_7_20, pq_7_21, pq_7_22, pq_7_23, pq_11_19, pq_11_20, pq_11_21, pq_11_22, pq_1_2, pq_11_23, pq_12_0, pq_3_8, pq_12_1, pq_12_2, pq_12_3, pq_12_4, pq_8_20, pq_8_21, pq_8_22, pq_8_23, pq_9_0, pq_9_1, pq_9_2, pq_9_3, pq_9_5, pq_9_6, pq_9_7, pq_9_8, pq_9_9, pq_9_10, pq_12_5, pq_12_6, pq_12_7, pq_9_14, pq_9_15, pq_9_16, pq_3_10, pq_3_11, pq_3_12, pq_3_13, pq_12_8, pq_12_9, pq_12_10, pq_12_11, pq_18_0, pq_18_1, pq_18_2, pq_18_3, pq_15_0, pq_15_1, pq_15_2, pq_15_3] (by rfl) gw_wsJ4_toString_0e30d
set_option maxRecDepth 20000 in
theorem gX6_pump_J4_toString_0e30d : GoodIn wsX6_pump (wsV RX6 120 RJ4 yJ4_toString_0e30d wsJ4_toString_0e30d) := goodIn_app (goodIn_s seX6_pump _ [pq_10_5, pq_10_6, pq_10_7, pq_1_3] (by rfl) (by decide +kernel)) ggX6_pump_J4_toString_0e30d
set_option maxRecDepth 20000 in
theorem ggX6_pump_X6_done_ : GoodIn wsX6_pump wsX6_done_ := goodIn_s seX6_pump _ [pq_12_15, pq_12_16, pq_13_0, pq_13_1, pq_13_2, pq_13_3, pq_13_4, pq_13_5, pq_13_6, pq_13_7, pq_13_8, pq_13_9, pq_13_10, pq_13_11, pq_13_12, pq_13_13] (by rfl) gw_wsX6_done_
set_option maxRecDepth 20000 in
theorem gX6_pump_X6_done_ : GoodIn wsX6_pump (wsV RX6 124 RX6 yX6_done_ wsX6_done_) := goodIn_app (goodIn_s seX6_pump _ [pq_12_12, pq_12_13, pq_12_14, pq_1_8] (by rfl) (by decide +kernel)) ggX6_pump_X6_done_
noncomputable def sgX6_left : List (List Cond) := [[.code yX6_left cX6_left 4 (some .int)], [.methodLink RX6 62 yX6_windowOf, .instanceMethod yX6_windowOf, .selects RX6 yX6_windowOf yX6_windowOf, .initialized RX6, .code yX6_windowOf cX6_windowOf 2 (some (.object "Sashwords$Window")), .classLink RX6 302 "java/lang/IndexOutOfBoundsException", .initialized "java/lang/IndexOutOfBoundsException", .fieldLink RX6 11 "Sashwords" "windows" "[LSashwords$Window;", .methodLink RX6 66 yX6_requireWithin, .static yX6_requireWithin, .code yX6_requireWithin cX6_requireWithin 3 none, .classLink RX6 313 "java/lang/IllegalArgumentException", .initialized "java/lang/IllegalArgumentException", .methodLink RX6 73 yX5_size, .instanceMethod yX5_size, .selects RX5 yX5_size yX5_size, .initialized RX5, .code yX5_size cX5_size 1 (some .int), .fieldLink RX5 25 "Sashwords$Window" "limit" "I", .fieldLink RX5 31 "Sashwords$Window" "position" "I"], wsX60, wsX50, (vx_atS RX6 306 "java/lang/IndexOutOfBoundsException" ["java/lang/RuntimeException", "java/lang/Exception"]).filter goodWord, (vx_atS RX6 317 "java/lang/IllegalArgumentException" ["java/lang/RuntimeException", "java/lang/Exception"]).filter goodWord]
theorem seX6_left : sgX6_left.flatten = wsX6_left := by simp only [sgX6_left, wsX6_left, List.flatten_cons, List.flatten_nil, List.append_assoc, List.append_nil, List.cons_append, List.nil_append]
set_option maxRecDepth 20000 in
theorem ggX6_left_X6_windowOf : GoodIn wsX6_left wsX6_windowOf := goodIn_ca (goodIn_s seX6_left _ [pq_1_4, pq_1_5, pq_1_6, pq_1_7, pq_2_0, pq_2_1, pq_2_2, pq_2_3, pq_2_4, pq_2_5, pq_2_6, pq_2_7, pq_2_8, pq_2_9, pq_2_10, pq_2_11, pq_2_12, pq_2_13] (by rfl) (by decide +kernel)) (goodIn_sub (fun _ h => List.mem_cons_of_mem _ (List.mem_append_left _ (List.mem_append_right _ h))) (by decide +kernel))
set_option maxRecDepth 20000 in
theorem gX6_left_X6_windowOf : GoodIn wsX6_left (wsV RX6 62 RX6 yX6_windowOf wsX6_windowOf) := goodIn_app (goodIn_s seX6_left _ [pq_1_0, pq_1_1, pq_1_2, pq_1_3] (by rfl) (by decide +kernel)) ggX6_left_X6_windowOf
set_option maxRecDepth 20000 in
theorem ggX6_left_X6_requireWithin : GoodIn wsX6_left wsX6_requireWithin := goodIn_ca (goodIn_s seX6_left _ [pq_1_10, pq_1_11, pq_1_12] (by rfl) (by decide +kernel)) (goodIn_sub (fun _ h => List.mem_cons_of_mem _ (List.mem_append_right _ h)) (by decide +kernel))
set_option maxRecDepth 20000 in
theorem gX6_left_X6_requireWithin : GoodIn wsX6_left (va_wsS RX6 66 yX6_requireWithin wsX6_requireWithin) := goodIn_app (goodIn_s seX6_left _ [pq_1_8, pq_1_9, pq_1_3] (by rfl) (by decide +kernel)) ggX6_left_X6_requireWithin
set_option maxRecDepth 20000 in
theorem ggX6_left_X5_size : GoodIn wsX6_left wsX5_size := goodIn_s seX6_left _ [pq_1_17, pq_1_18, pq_1_19, pq_3_0, pq_3_1, pq_3_2, pq_3_3, pq_3_4, pq_3_5] (by rfl) gw_wsX5_size
set_option maxRecDepth 20000 in
theorem gX6_left_X5_size : GoodIn wsX6_left (wsV RX6 73 RX5 yX5_size wsX5_size) := goodIn_app (goodIn_s seX6_left _ [pq_1_13, pq_1_14, pq_1_15, pq_1_16] (by rfl) (by decide +kernel)) ggX6_left_X5_size
noncomputable def sgX6_position : List (List Cond) := [[.code yX6_position cX6_position 2 (some .int)], [.methodLink RX6 62 yX6_windowOf, .instanceMethod yX6_windowOf, .selects RX6 yX6_windowOf yX6_windowOf, .initialized RX6, .code yX6_windowOf cX6_windowOf 2 (some (.object "Sashwords$Window")), .classLink RX6 302 "java/lang/IndexOutOfBoundsException", .initialized "java/lang/IndexOutOfBoundsException", .fieldLink RX6 11 "Sashwords" "windows" "[LSashwords$Window;"], wsX50, wsX60, (vx_atS RX6 306 "java/lang/IndexOutOfBoundsException" ["java/lang/RuntimeException", "java/lang/Exception"]).filter goodWord]
theorem seX6_position : sgX6_position.flatten = wsX6_position := by simp only [sgX6_position, wsX6_position, List.flatten_cons, List.flatten_nil, List.append_assoc, List.append_nil, List.cons_append, List.nil_append]
set_option maxRecDepth 20000 in
theorem ggX6_position_X6_windowOf : GoodIn wsX6_position wsX6_windowOf := goodIn_ca (goodIn_s seX6_position _ [pq_1_4, pq_1_5, pq_1_6, pq_1_7, pq_3_0, pq_3_1, pq_3_2, pq_3_3, pq_3_4, pq_3_5, pq_3_6, pq_3_7, pq_3_8, pq_3_9, pq_3_10, pq_3_11, pq_3_12, pq_3_13] (by rfl) (by decide +kernel)) (goodIn_sub (fun _ h => List.mem_cons_of_mem _ (List.mem_append_right _ h)) (by decide +kernel))
set_option maxRecDepth 20000 in
theorem gX6_position_X6_windowOf : GoodIn wsX6_position (wsV RX6 62 RX6 yX6_windowOf wsX6_windowOf) := goodIn_app (goodIn_s seX6_position _ [pq_1_0, pq_1_1, pq_1_2, pq_1_3] (by rfl) (by decide +kernel)) ggX6_position_X6_windowOf
noncomputable def sgX6_limit : List (List Cond) := [[.code yX6_limit cX6_limit 2 (some .int)], [.methodLink RX6 62 yX6_windowOf, .instanceMethod yX6_windowOf, .selects RX6 yX6_windowOf yX6_windowOf, .initialized RX6, .code yX6_windowOf cX6_windowOf 2 (some (.object "Sashwords$Window")), .classLink RX6 302 "java/lang/IndexOutOfBoundsException", .initialized "java/lang/IndexOutOfBoundsException", .fieldLink RX6 11 "Sashwords" "windows" "[LSashwords$Window;"], wsX50, wsX60, (vx_atS RX6 306 "java/lang/IndexOutOfBoundsException" ["java/lang/RuntimeException", "java/lang/Exception"]).filter goodWord]
theorem seX6_limit : sgX6_limit.flatten = wsX6_limit := by simp only [sgX6_limit, wsX6_limit, List.flatten_cons, List.flatten_nil, List.append_assoc, List.append_nil, List.cons_append, List.nil_append]
set_option maxRecDepth 20000 in
theorem ggX6_limit_X6_windowOf : GoodIn wsX6_limit wsX6_windowOf := goodIn_ca (goodIn_s seX6_limit _ [pq_1_4, pq_1_5, pq_1_6, pq_1_7, pq_3_0, pq_3_1, pq_3_2, pq_3_3, pq_3_4, pq_3_5, pq_3_6, pq_3_7, pq_3_8, pq_3_9, pq_3_10, pq_3_11, pq_3_12, pq_3_13] (by rfl) (by decide +kernel)) (goodIn_sub (fun _ h => List.mem_cons_of_mem _ (List.mem_append_right _ h)) (by decide +kernel))
set_option maxRecDepth 20000 in
theorem gX6_limit_X6_windowOf : GoodIn wsX6_limit (wsV RX6 62 RX6 yX6_windowOf wsX6_windowOf) := goodIn_app (goodIn_s seX6_limit _ [pq_1_0, pq_1_1, pq_1_2, pq_1_3] (by rfl) (by decide +kernel)) ggX6_limit_X6_windowOf
noncomputable def sgX6_capacity : List (List Cond) := [[.code yX6_capacity cX6_capacity 2 (some .int)], [.methodLink RX6 62 yX6_windowOf, .instanceMethod yX6_windowOf, .selects RX6 yX6_windowOf yX6_windowOf, .initialized RX6, .code yX6_windowOf cX6_windowOf 2 (some (.object "Sashwords$Window")), .classLink RX6 302 "java/lang/IndexOutOfBoundsException", .initialized "java/lang/IndexOutOfBoundsException", .fieldLink RX6 11 "Sashwords" "windows" "[LSashwords$Window;"], wsX50, wsX60, (vx_atS RX6 306 "java/lang/IndexOutOfBoundsException" ["java/lang/RuntimeException", "java/lang/Exception"]).filter goodWord]
theorem seX6_capacity : sgX6_capacity.flatten = wsX6_capacity := by simp only [sgX6_capacity, wsX6_capacity, List.flatten_cons, List.flatten_nil, List.append_assoc, List.append_nil, List.cons_append, List.nil_append]
set_option maxRecDepth 20000 in
theorem ggX6_capacity_X6_windowOf : GoodIn wsX6_capacity wsX6_windowOf := goodIn_ca (goodIn_s seX6_capacity _ [pq_1_4, pq_1_5, pq_1_6, pq_1_7, pq_3_0, pq_3_1, pq_3_2, pq_3_3, pq_3_4, pq_3_5, pq_3_6, pq_3_7, pq_3_8, pq_3_9, pq_3_10, pq_3_11, pq_3_12, pq_3_13] (by rfl) (by decide +kernel)) (goodIn_sub (fun _ h => List.mem_cons_of_mem _ (List.mem_append_right _ h)) (by decide +kernel))
set_option maxRecDepth 20000 in
theorem gX6_capacity_X6_windowOf : GoodIn wsX6_capacity (wsV RX6 62 RX6 yX6_windowOf wsX6_windowOf) := goodIn_app (goodIn_s seX6_capacity _ [pq_1_0, pq_1_1, pq_1_2, pq_1_3] (by rfl) (by decide +kernel)) ggX6_capacity_X6_windowOf
noncomputable def sgX6_marked : List (List Cond) := [[.code yX6_marked cX6_marked 2 (some .int)], [.methodLink RX6 62 yX6_windowOf, .instanceMethod yX6_windowOf, .selects RX6 yX6_windowOf yX6_windowOf, .initialized RX6, .code yX6_windowOf cX6_windowOf 2 (some (.object "Sashwords$Window")), .classLink RX6 302 "java/lang/IndexOutOfBoundsException", .initialized "java/lang/IndexOutOfBoundsException", .fieldLink RX6 11 "Sashwords" "windows" "[LSashwords$Window;"], wsX50, wsX60, (vx_atS RX6 306 "java/lang/IndexOutOfBoundsException" ["java/lang/RuntimeException", "java/lang/Exception"]).filter goodWord]
theorem seX6_marked : sgX6_marked.flatten = wsX6_marked := by simp only [sgX6_marked, wsX6_marked, List.flatten_cons, List.flatten_nil, List.append_assoc, List.append_nil, List.cons_append, List.nil_append]
set_option maxRecDepth 20000 in
theorem ggX6_marked_X6_windowOf : GoodIn wsX6_marked wsX6_windowOf := goodIn_ca (goodIn_s seX6_marked _ [pq_1_4, pq_1_5, pq_1_6, pq_1_7, pq_3_0, pq_3_1, pq_3_2, pq_3_3, pq_3_4, pq_3_5, pq_3_6, pq_3_7, pq_3_8, pq_3_9, pq_3_10, pq_3_11, pq_3_12, pq_3_13] (by rfl) (by decide +kernel)) (goodIn_sub (fun _ h => List.mem_cons_of_mem _ (List.mem_append_right _ h)) (by decide +kernel))
set_option maxRecDepth 20000 in
theorem gX6_marked_X6_windowOf : GoodIn wsX6_marked (wsV RX6 62 RX6 yX6_windowOf wsX6_windowOf) := goodIn_app (goodIn_s seX6_marked _ [pq_1_0, pq_1_1, pq_1_2, pq_1_3] (by rfl) (by decide +kernel)) ggX6_marked_X6_windowOf
noncomputable def sgX6_sign : List (List Cond) := [[.code yX6_sign cX6_sign 3 (some .int)], [.methodLink RX6 62 yX6_windowOf, .instanceMethod yX6_windowOf, .selects RX6 yX6_windowOf yX6_windowOf, .initialized RX6, .code yX6_windowOf cX6_windowOf 2 (some (.object "Sashwords$Window")), .classLink RX6 302 "java/lang/IndexOutOfBoundsException", .initialized "java/lang/IndexOutOfBoundsException", .fieldLink RX6 11 "Sashwords" "windows" "[LSashwords$Window;", .methodLink RX6 206 yX5_at, .instanceMethod yX5_at, .selects RX5 yX5_at yX5_at, .initialized RX5, .code yX5_at cX5_at 2 (some .int), .fieldLink RX5 25 "Sashwords$Window" "limit" "I", .fieldLink RX5 31 "Sashwords$Window" "position" "I", .methodLink RX5 34 yX5_atPlace, .instanceMethod yX5_atPlace, .selects RX5 yX5_atPlace yX5_atPlace, .code yX5_atPlace cX5_atPlace 3 (some .int), .fieldLink RX5 38 "Sashwords$Window" "start" "I", .fieldLink RX5 15 "Sashwords$Window" "row" "[C"], wsX60, wsX50, (vx_atS RX6 306 "java/lang/IndexOutOfBoundsException" ["java/lang/RuntimeException", "java/lang/Exception"]).filter goodWord]
theorem seX6_sign : sgX6_sign.flatten = wsX6_sign := by simp only [sgX6_sign, wsX6_sign, List.flatten_cons, List.flatten_nil, List.append_assoc, List.append_nil, List.cons_append, List.nil_append]
set_option maxRecDepth 20000 in
theorem ggX6_sign_X6_windowOf : GoodIn wsX6_sign wsX6_windowOf := goodIn_ca (goodIn_s seX6_sign _ [pq_1_4, pq_1_5, pq_1_6, pq_1_7, pq_2_0, pq_2_1, pq_2_2, pq_2_3, pq_2_4, pq_2_5, pq_2_6, pq_2_7, pq_2_8, pq_2_9, pq_2_10, pq_2_11, pq_2_12, pq_2_13] (by rfl) (by decide +kernel)) (goodIn_sub (fun _ h => List.mem_cons_of_mem _ (List.mem_append_right _ h)) (by decide +kernel))
set_option maxRecDepth 20000 in
theorem gX6_sign_X6_windowOf : GoodIn wsX6_sign (wsV RX6 62 RX6 yX6_windowOf wsX6_windowOf) := goodIn_app (goodIn_s seX6_sign _ [pq_1_0, pq_1_1, pq_1_2, pq_1_3] (by rfl) (by decide +kernel)) ggX6_sign_X6_windowOf
set_option maxRecDepth 20000 in
theorem ggX6_sign_X5_at : GoodIn wsX6_sign wsX5_at := goodIn_s seX6_sign _ [pq_1_12, pq_1_13, pq_1_14, pq_1_15, pq_1_16, pq_1_17, pq_1_11, pq_1_18, pq_1_19, pq_1_20, pq_3_0, pq_3_1, pq_3_2, pq_3_3, pq_3_4, pq_3_5] (by rfl) gw_wsX5_at
set_option maxRecDepth 20000 in
theorem gX6_sign_X5_at : GoodIn wsX6_sign (wsV RX6 206 RX5 yX5_at wsX5_at) := goodIn_app (goodIn_s seX6_sign _ [pq_1_8, pq_1_9, pq_1_10, pq_1_11] (by rfl) (by decide +kernel)) ggX6_sign_X5_at
noncomputable def sgX6_look : List (List Cond) := [[.code yX6_look cX6_look 3 (some .int)], [.methodLink RX6 62 yX6_windowOf, .instanceMethod yX6_windowOf, .selects RX6 yX6_windowOf yX6_windowOf, .initialized RX6, .code yX6_windowOf cX6_windowOf 2 (some (.object "Sashwords$Window")), .classLink RX6 302 "java/lang/IndexOutOfBoundsException", .initialized "java/lang/IndexOutOfBoundsException", .fieldLink RX6 11 "Sashwords" "windows" "[LSashwords$Window;", .methodLink RX6 209 yX5_atPlace, .instanceMethod yX5_atPlace, .selects RX5 yX5_atPlace yX5_atPlace, .initialized RX5, .code yX5_atPlace cX5_atPlace 3 (some .int), .fieldLink RX5 25 "Sashwords$Window" "limit" "I", .fieldLink RX5 38 "Sashwords$Window" "start" "I", .fieldLink RX5 15 "Sashwords$Window" "row" "[C"], wsX60, wsX50, (vx_atS RX6 306 "java/lang/IndexOutOfBoundsException" ["java/lang/RuntimeException", "java/lang/Exception"]).filter goodWord]
theorem seX6_look : sgX6_look.flatten = wsX6_look := by simp only [sgX6_look, wsX6_look, List.flatten_cons, List.flatten_nil, List.append_assoc, List.append_nil, List.cons_append, List.nil_append]
set_option maxRecDepth 20000 in
theorem ggX6_look_X6_windowOf : GoodIn wsX6_look wsX6_windowOf := goodIn_ca (goodIn_s seX6_look _ [pq_1_4, pq_1_5, pq_1_6, pq_1_7, pq_2_0, pq_2_1, pq_2_2, pq_2_3, pq_2_4, pq_2_5, pq_2_6, pq_2_7, pq_2_8, pq_2_9, pq_2_10, pq_2_11, pq_2_12, pq_2_13] (by rfl) (by decide +kernel)) (goodIn_sub (fun _ h => List.mem_cons_of_mem _ (List.mem_append_right _ h)) (by decide +kernel))
set_option maxRecDepth 20000 in
theorem gX6_look_X6_windowOf : GoodIn wsX6_look (wsV RX6 62 RX6 yX6_windowOf wsX6_windowOf) := goodIn_app (goodIn_s seX6_look _ [pq_1_0, pq_1_1, pq_1_2, pq_1_3] (by rfl) (by decide +kernel)) ggX6_look_X6_windowOf
set_option maxRecDepth 20000 in
theorem ggX6_look_X5_atPlace : GoodIn wsX6_look wsX5_atPlace := goodIn_s seX6_look _ [pq_1_12, pq_1_13, pq_1_14, pq_1_15, pq_3_0, pq_3_1, pq_3_2, pq_3_3, pq_3_4, pq_3_5] (by rfl) gw_wsX5_atPlace
set_option maxRecDepth 20000 in
theorem gX6_look_X5_atPlace : GoodIn wsX6_look (wsV RX6 209 RX5 yX5_atPlace wsX5_atPlace) := goodIn_app (goodIn_s seX6_look _ [pq_1_8, pq_1_9, pq_1_10, pq_1_11] (by rfl) (by decide +kernel)) ggX6_look_X5_atPlace
noncomputable def sgX6_text : List (List Cond) := [[.code yX6_text cX6_text 4 (some (.object "java/lang/String"))], wsX6_text_r1, wsX6_text_r2, wsX6_text_r3, wsX6_text_r4, wsX6_text_r5, wsX6_text_r6, wsX6_text_r7, wsX6_text_r8, wsX6_text_r9, wsX6_text_r10, wsX6_text_r11, wsX6_text_r12, wsX60, wsX50, wsX20, wsJ40, wsJ00, (vx_atS RX6 306 "java/lang/IndexOutOfBoundsException" ["java/lang/RuntimeException", "java/lang/Exception"]).filter goodWord, (vx_atS RX6 317 "java/lang/IllegalArgumentException" ["java/lang/RuntimeException", "java/lang/Exception"]).filter goodWord]
theorem seX6_text : sgX6_text.flatten = wsX6_text := by simp only [sgX6_text, wsX6_text, List.flatten_cons, List.flatten_nil, List.append_assoc, List.append_nil, List.cons_append, List.nil_append]
set_option maxRecDepth 20000 in
theorem ggX6_text_X6_windowOf : GoodIn wsX6_text wsX6_windowOf := goodIn_ca (goodIn_s seX6_text _ [pq_1_5, pq_1_6, pq_1_7, pq_1_8, pq_13_0, pq_13_1, pq_13_2, pq_13_3, pq_13_4, pq_13_5, pq_13_6, pq_13_7, pq_13_8, pq_13_9, pq_13_10, pq_13_11, pq_13_12, pq_13_13] (by rfl) (by decide +kernel)) (goodIn_sub (fun _ h => List.mem_cons_of_mem _ (List.mem_append_left _ (List.mem_append_right _ h))) (by decide +kernel))
set_option maxRecDepth 20000 in
theorem gX6_text_X6_windowOf : GoodIn wsX6_text (wsV RX6 62 RX6 yX6_windowOf wsX6_windowOf) := goodIn_app (goodIn_s seX6_text _ [pq_1_1, pq_1_2, pq_1_3, pq_1_4] (by rfl) (by decide +kernel)) ggX6_text_X6_windowOf
set_option maxRecDepth 20000 in
theorem ggX6_text_X6_requireWithin : GoodIn wsX6_text wsX6_requireWithin := goodIn_ca (goodIn_s seX6_text _ [pq_1_11, pq_1_12, pq_1_13] (by rfl) (by decide +kernel)) (goodIn_sub (fun _ h => List.mem_cons_of_mem _ (List.mem_append_right _ h)) (by decide +kernel))
set_option maxRecDepth 20000 in
theorem gX6_text_X6_requireWithin : GoodIn wsX6_text (va_wsS RX6 66 yX6_requireWithin wsX6_requireWithin) := goodIn_app (goodIn_s seX6_text _ [pq_1_9, pq_1_10, pq_1_4] (by rfl) (by decide +kernel)) ggX6_text_X6_requireWithin
set_option maxRecDepth 20000 in
theorem ggX6_text_X6_copyText : GoodIn wsX6_text wsX6_copyText := goodIn_s seX6_text _ [pq_1_17, pq_1_18, pq_1_19, pq_1_20, pq_1_21, pq_1_22, pq_1_23, pq_2_0, pq_2_1, pq_2_2, pq_2_3, pq_2_4, pq_2_5, pq_2_6, pq_2_7, pq_2_8, pq_2_9, pq_2_10, pq_2_11, pq_2_12, pq_2_13, pq_2_14, pq_2_15, pq_2_16, pq_2_17, pq_2_18, pq_2_19, pq_2_20, pq_2_21, pq_2_22, pq_2_23, pq_3_0, pq_3_1, pq_3_2, pq_3_3, pq_3_4, pq_3_5, pq_3_6, pq_3_7, pq_3_8, pq_3_9, pq_3_10, pq_3_11, pq_3_12, pq_3_13, pq_3_14, pq_3_15, pq_3_16, pq_3_17, pq_3_18, pq_3_19, pq_3_20, pq_3_21, pq_3_22, pq_3_23, pq_4_0, pq_4_1, pq_4_2, pq_4_3, pq_4_4, pq_4_5, pq_4_6, pq_4_7, pq_14_0, pq_14_1, pq_14_2, pq_14_3, pq_14_4, pq_14_5, pq_13_0, pq_13_1, pq_13_2, pq_13_3, pq_13_4, pq_13_5, pq_13_6, pq_13_7, pq_13_8, pq_13_9, pq_13_10, pq_13_11, pq_13_12, pq_13_13, pq_15_0, pq_15_1] (by rfl) gw_wsX6_copyText
set_option maxRecDepth 20000 in
theorem gX6_text_X6_copyText : GoodIn wsX6_text (wsV RX6 212 RX6 yX6_copyText wsX6_copyText) := goodIn_app (goodIn_s seX6_text _ [pq_1_14, pq_1_15, pq_1_16, pq_1_4] (by rfl) (by decide +kernel)) ggX6_text_X6_copyText
set_option maxRecDepth 20000 in
theorem ggX6_text_X6_spelled : GoodIn wsX6_text wsX6_spelled := goodIn_s seX6_text _ [pq_4_10, pq_4_11, pq_4_12, pq_4_13, pq_4_14, pq_4_15, pq_4_16, pq_4_17, pq_4_18, pq_4_19, pq_4_20, pq_4_21, pq_4_22, pq_4_23, pq_5_0, pq_5_1, pq_5_2, pq_5_3, pq_5_4, pq_5_5, pq_5_6, pq_5_7, pq_5_8, pq_5_9, pq_5_10, pq_5_11, pq_5_12, pq_2_6, pq_2_7, pq_2_8, pq_1_22, pq_2_9, pq_2_0, pq_2_10, pq_2_11, pq_2_12, pq_2_13, pq_2_14, pq_2_15, pq_5_13, pq_2_17, pq_2_18, pq_2_19, pq_2_20, pq_2_21, pq_2_22, pq_2_23, pq_3_0, pq_3_1, pq_3_2, pq_3_3, pq_3_4, pq_3_5, pq_3_6, pq_5_14, pq_5_15, pq_5_16, pq_5_17, pq_5_18, pq_5_19, pq_5_20, pq_5_21, pq_5_22, pq_5_23, pq_6_0, pq_6_1, pq_6_2, pq_6_3, pq_6_4, pq_6_5, pq_6_6, pq_6_7, pq_6_8, pq_6_9, pq_6_10, pq_6_11, pq_6_12, pq_6_13, pq_6_14, pq_6_15, pq_6_16, pq_6_17, pq_6_18, pq_6_19, pq_6_20, pq_6_21, pq_6_22, pq_6_23, pq_7_0, pq_7_1, pq_7_2, pq_7_3, pq_7_4, pq_7_5, pq_7_6, pq_7_7, pq_7_8, pq_7_9, pq_7_10, pq_7_11, pq_7_12, pq_7_13, pq_7_14, pq_7_15, pq_7_16, pq_7_17, pq_7_18, pq_7_19, pq_7_20, pq_7_21, pq_7_22, pq_7_23, pq_8_0, pq_8_1, pq_8_2, pq_8_3, pq_8_4, pq_8_5, pq_8_6, pq_8_7, pq_8_8, pq_8_9, pq_8_10, pq_8_11, pq_8_12, pq_8_13, pq_8_14, pq_8_15, pq_8_16, pq_8_17, pq_8_18, pq_8_19, pq_8_20, pq_8_21, pq_8_22, pq_8_23, pq_9_0, pq_9_1, pq_9_2, pq_9_3, pq_9_4, pq_9_5, pq_9_6, pq_9_7, pq_9_8, pq_9_9, pq_9_10, pq_9_11, pq_9_12, pq_9_13, pq_9_14, pq_9_15, pq_9_16, pq_9_17, pq_9_18, pq_9_19, pq_9_20, pq_9_21, pq_9_22, pq_9_23, pq_10_0, pq_10_1, pq_10_2, pq_10_3, pq_10_4, pq_10_5, pq_10_6, pq_10_7, pq_10_8, pq_10_9, pq_10_10, pq_10_11, pq_10_12, pq_10_13, pq_10_14, pq_10_15, pq_10_16, pq_10_17, pq_10_18, pq_10_19, pq_10_20, pq_10_21, pq_10_22, pq_10_23, pq_11_0, pq_11_1, pq_11_2, pq_11_3, pq_11_4, pq_11_5, pq_11_6, pq_11_7, pq_11_8, pq_11_9, pq_11_10, pq_11_11, pq_11_12, pq_11_13, pq_11_14, pq_11_15, pq_11_16, pq_11_17, pq_11_18, pq_11_19, pq_11_20, pq_11_21, pq_11_22, pq_11_23, pq_12_0, pq_12_1, pq_12_2, pq_12_3, pq_16_0, pq_16_1, pq_16_2, pq_16_3, pq_15_0, pq_15_1, pq_14_0, pq_14_1, pq_14_2, pq_14_3, pq_14_4, pq_14_5, pq_17_0, pq_17_1, pq_17_2, pq_17_3] (by rfl) gw_wsX6_spelled
set_option maxRecDepth 20000 in
theorem gX6_text_X6_spelled : GoodIn wsX6_text (va_wsS RX6 216 yX6_spelled wsX6_spelled) := goodIn_app (goodIn_s seX6_text _ [pq_4_8, pq_4_9, pq_1_4] (by rfl) (by decide +kernel)) ggX6_text_X6_spelled
noncomputable def sgX6_inner : List (List Cond) := [[.code yX6_inner cX6_inner 8 (some (.object "java/lang/String"))], wsX6_inner_r1, wsX6_inner_r2, wsX6_inner_r3, wsX6_inner_r4, wsX6_inner_r5, wsX6_inner_r6, wsX6_inner_r7, wsX6_inner_r8, wsX6_inner_r9, wsX6_inner_r10, wsX6_inner_r11, wsX60, wsX50, wsJ40, wsX20, wsJ00, (vx_atS RX6 306 "java/lang/IndexOutOfBoundsException" ["java/lang/RuntimeException", "java/lang/Exception"]).filter goodWord, (vx_atS RX6 317 "java/lang/IllegalArgumentException" ["java/lang/RuntimeException", "java/lang/Exception"]).filter goodWord]
theorem seX6_inner : sgX6_inner.flatten = wsX6_inner := by simp only [sgX6_inner, wsX6_inner, List.flatten_cons, List.flatten_nil, List.append_assoc, List.append_nil, List.cons_append, List.nil_append]
set_option maxRecDepth 20000 in
theorem ggX6_inner_X6_windowOf : GoodIn wsX6_inner wsX6_windowOf := goodIn_ca (goodIn_s seX6_inner _ [pq_1_5, pq_1_6, pq_1_7, pq_1_8, pq_12_0, pq_12_1, pq_12_2, pq_12_3, pq_12_4, pq_12_5, pq_12_6, pq_12_7, pq_12_8, pq_12_9, pq_12_10, pq_12_11, pq_12_12, pq_12_13] (by rfl) (by decide +kernel)) (goodIn_sub (fun _ h => List.mem_cons_of_mem _ (List.mem_append_left _ (List.mem_append_right _ h))) (by decide +kernel))
set_option maxRecDepth 20000 in
theorem gX6_inner_X6_windowOf : GoodIn wsX6_inner (wsV RX6 62 RX6 yX6_windowOf wsX6_windowOf) := goodIn_app (goodIn_s seX6_inner _ [pq_1_1, pq_1_2, pq_1_3, pq_1_4] (by rfl) (by decide +kernel)) ggX6_inner_X6_windowOf
set_option maxRecDepth 20000 in
theorem ggX6_inner_X5_size : GoodIn wsX6_inner wsX5_size := goodIn_s seX6_inner _ [pq_1_13, pq_1_14, pq_1_15, pq_13_0, pq_13_1, pq_13_2, pq_13_3, pq_13_4, pq_13_5] (by rfl) gw_wsX5_size
set_option maxRecDepth 20000 in
theorem gX6_inner_X5_size : GoodIn wsX6_inner (wsV RX6 73 RX5 yX5_size wsX5_size) := goodIn_app (goodIn_s seX6_inner _ [pq_1_9, pq_1_10, pq_1_11, pq_1_12] (by rfl) (by decide +kernel)) ggX6_inner_X5_size
set_option maxRecDepth 20000 in
theorem ggX6_inner_X6_isStretch : GoodIn wsX6_inner wsX6_isStretch := goodIn_s seX6_inner _ [pq_1_18] (by rfl) gw_wsX6_isStretch
set_option maxRecDepth 20000 in
theorem gX6_inner_X6_isStretch : GoodIn wsX6_inner (va_wsS RX6 88 yX6_isStretch wsX6_isStretch) := goodIn_app (goodIn_s seX6_inner _ [pq_1_16, pq_1_17, pq_1_4] (by rfl) (by decide +kernel)) ggX6_inner_X6_isStretch
set_option maxRecDepth 20000 in
theorem ggX6_inner_X6_require : GoodIn wsX6_inner wsX6_require := goodIn_ca (goodIn_s seX6_inner _ [pq_1_21, pq_1_22, pq_1_23] (by rfl) (by decide +kernel)) (goodIn_sub (fun _ h => List.mem_cons_of_mem _ (List.mem_append_right _ h)) (by decide +kernel))
set_option maxRecDepth 20000 in
theorem gX6_inner_X6_require : GoodIn wsX6_inner (va_wsS RX6 127 yX6_require wsX6_require) := goodIn_app (goodIn_s seX6_inner _ [pq_1_19, pq_1_20, pq_1_4] (by rfl) (by decide +kernel)) ggX6_inner_X6_require
set_option maxRecDepth 20000 in
theorem ggX6_inner_X6_requireWithin : GoodIn wsX6_inner wsX6_requireWithin := goodIn_ca (goodIn_s seX6_inner _ [pq_2_2, pq_1_22, pq_1_23] (by rfl) (by decide +kernel)) (goodIn_sub (fun _ h => List.mem_cons_of_mem _ (List.mem_append_right _ h)) (by decide +kernel))
set_option maxRecDepth 20000 in
theorem gX6_inner_X6_requireWithin : GoodIn wsX6_inner (va_wsS RX6 66 yX6_requireWithin wsX6_requireWithin) := goodIn_app (goodIn_s seX6_inner _ [pq_2_0, pq_2_1, pq_1_4] (by rfl) (by decide +kernel)) ggX6_inner_X6_requireWithin
set_option maxRecDepth 20000 in
theorem ggX6_inner_X5_becomePart : GoodIn wsX6_inner wsX5_becomePart := goodIn_s seX6_inner _ [pq_2_6, pq_1_15, pq_2_7, pq_2_8, pq_2_9, pq_1_14, pq_2_10, pq_13_0, pq_13_1, pq_13_2, pq_13_3, pq_13_4, pq_13_5] (by rfl) gw_wsX5_becomePart
set_option maxRecDepth 20000 in
theorem gX6_inner_X5_becomePart : GoodIn wsX6_inner (wsV RX6 95 RX5 yX5_becomePart wsX5_becomePart) := goodIn_app (goodIn_s seX6_inner _ [pq_2_3, pq_2_4, pq_2_5, pq_1_12] (by rfl) (by decide +kernel)) ggX6_inner_X5_becomePart
set_option maxRecDepth 20000 in
theorem ggX6_inner_X6_spelled : GoodIn wsX6_inner wsX6_spelled := goodIn_s seX6_inner _ [pq_2_13, pq_2_14, pq_2_15, pq_2_16, pq_2_17, pq_2_18, pq_2_19, pq_2_20, pq_2_21, pq_2_22, pq_2_23, pq_3_0, pq_3_1, pq_3_2, pq_3_3, pq_3_4, pq_3_5, pq_3_6, pq_3_7, pq_3_8, pq_3_9, pq_3_10, pq_3_11, pq_3_12, pq_3_13, pq_3_14, pq_3_15, pq_3_16, pq_3_17, pq_3_18, pq_3_19, pq_3_20, pq_3_21, pq_3_22, pq_1_10, pq_1_12, pq_1_13, pq_1_14, pq_1_15, pq_3_23, pq_4_0, pq_4_1, pq_4_2, pq_4_3, pq_4_4, pq_4_5, pq_4_6, pq_4_7, pq_4_8, pq_4_9, pq_4_10, pq_4_11, pq_2_8, pq_2_7, pq_4_12, pq_4_13, pq_4_14, pq_4_15, pq_4_16, pq_4_17, pq_4_18, pq_4_19, pq_4_20, pq_4_21, pq_4_22, pq_4_23, pq_5_0, pq_5_1, pq_5_2, pq_5_3, pq_5_4, pq_5_5, pq_5_6, pq_5_7, pq_5_8, pq_5_9, pq_5_10, pq_5_11, pq_5_12, pq_5_13, pq_5_14, pq_5_15, pq_5_16, pq_5_17, pq_5_18, pq_5_19, pq_5_20, pq_5_21, pq_5_22, pq_5_23, pq_6_0, pq_6_1, pq_6_2, pq_6_3, pq_6_4, pq_6_5, pq_6_6, pq_6_7, pq_6_8, pq_6_9, pq_6_10, pq_6_11, pq_6_12, pq_6_13, pq_6_14, pq_6_15, pq_6_16, pq_6_17, pq_6_18, pq_6_19, pq_6_20, pq_6_21, pq_6_22, pq_6_23, pq_7_0, pq_7_1, pq_7_2, pq_7_3, pq_7_4, pq_7_5, pq_7_6, pq_7_7, pq_7_8, pq_7_9, pq_7_10, pq_7_11, pq_7_12, pq_7_13, pq_7_14, pq_7_15, pq_7_16, pq_7_17, pq_7_18, pq_7_19, pq_7_20, pq_7_21, pq_7_22, pq_7_23, pq_8_0, pq_8_1, pq_8_2, pq_8_3, pq_8_4, pq_8_5, pq_8_6, pq_8_7, pq_8_8, pq_8_9, pq_8_10, pq_8_11, pq_8_12, pq_8_13, pq_8_14, pq_8_15, pq_8_16, pq_8_17, pq_8_18, pq_8_19, pq_8_20, pq_8_21, pq_8_22, pq_8_23, pq_9_0, pq_9_1, pq_9_2, pq_9_3, pq_9_4, pq_9_5, pq_9_6, pq_9_7, pq_9_8, pq_9_9, pq_9_10, pq_9_11, pq_9_12, pq_9_13, pq_9_14, pq_9_15, pq_9_16, pq_9_17, pq_9_18, pq_9_19, pq_9_20, pq_9_21, pq_9_22, pq_9_23, pq_10_0, pq_10_1, pq_10_2, pq_10_3, pq_10_4, pq_10_5, pq_10_6, pq_10_7, pq_10_8, pq_10_9, pq_10_10, pq_10_11, pq_10_12, pq_10_13, pq_10_14, pq_10_15, pq_10_16, pq_10_17, pq_10_18, pq_10_19, pq_10_20, pq_10_21, pq_10_22, pq_10_23, pq_11_0, pq_11_1, pq_14_0, pq_14_1, pq_14_2, pq_14_3, pq_15_0, pq_15_1, pq_13_0, pq_13_1, pq_13_2, pq_13_3, pq_13_4, pq_13_5, pq_16_0, pq_16_1, pq_16_2, pq_16_3] (by rfl) gw_wsX6_spelled
set_option maxRecDepth 20000 in
theorem gX6_inner_X6_spelled : GoodIn wsX6_inner (va_wsS RX6 216 yX6_spelled wsX6_spelled) := goodIn_app (goodIn_s seX6_inner _ [pq_2_11, pq_2_12, pq_1_4] (by rfl) (by decide +kernel)) ggX6_inner_X6_spelled
set_option maxRecDepth 20000 in
theorem ggX6_inner_X5_becomeSlice : GoodIn wsX6_inner wsX5_becomeSlice := goodIn_s seX6_inner _ [pq_11_5, pq_2_7, pq_2_8, pq_1_15, pq_2_9, pq_11_6, pq_1_10, pq_1_11, pq_1_12, pq_1_13, pq_1_14, pq_11_7, pq_11_8, pq_11_9, pq_11_10, pq_2_10, pq_13_0, pq_13_1, pq_13_2, pq_13_3, pq_13_4, pq_13_5] (by rfl) gw_wsX5_becomeSlice
set_option maxRecDepth 20000 in
theorem gX6_inner_X5_becomeSlice : GoodIn wsX6_inner (wsV RX6 81 RX5 yX5_becomeSlice wsX5_becomeSlice) := goodIn_app (goodIn_s seX6_inner _ [pq_11_2, pq_11_3, pq_11_4, pq_1_12] (by rfl) (by decide +kernel)) ggX6_inner_X5_becomeSlice
noncomputable def sgX6_first : List (List Cond) := [[.code yX6_first cX6_first 3 (some .int)], wsX6_first_r1, wsX6_first_r2, wsX6_first_r3, wsX60, wsX30, wsX00, wsX20, wsX50, (vx_atS RX6 306 "java/lang/IndexOutOfBoundsException" ["java/lang/RuntimeException", "java/lang/Exception"]).filter goodWord]
theorem seX6_first : sgX6_first.flatten = wsX6_first := by simp only [sgX6_first, wsX6_first, List.flatten_cons, List.flatten_nil, List.append_assoc, List.append_nil, List.cons_append, List.nil_append]
set_option maxRecDepth 20000 in
theorem ggX6_first_X6_sourceOf : GoodIn wsX6_first wsX6_sourceOf := goodIn_ca (goodIn_s seX6_first _ [pq_1_5, pq_1_6, pq_1_7, pq_1_8, pq_1_9, pq_1_10, pq_4_0, pq_4_1, pq_4_2, pq_4_3, pq_4_4, pq_4_5, pq_4_6, pq_4_7, pq_4_8, pq_4_9, pq_4_10, pq_4_11, pq_4_12, pq_4_13] (by rfl) (by decide +kernel)) (goodIn_sub (fun _ h => List.mem_cons_of_mem _ (List.mem_append_right _ h)) (by decide +kernel))
set_option maxRecDepth 20000 in
theorem gX6_first_X6_sourceOf : GoodIn wsX6_first (wsV RX6 156 RX6 yX6_sourceOf wsX6_sourceOf) := goodIn_app (goodIn_s seX6_first _ [pq_1_1, pq_1_2, pq_1_3, pq_1_4] (by rfl) (by decide +kernel)) ggX6_first_X6_sourceOf
set_option maxRecDepth 20000 in
theorem ggX6_first_X3_seek : GoodIn wsX6_first wsX3_seek := goodIn_s seX6_first _ [pq_1_15, pq_1_16, pq_1_17, pq_1_18, pq_1_19, pq_1_20, pq_1_21, pq_1_22, pq_1_23, pq_2_0, pq_2_1, pq_2_2, pq_2_3, pq_2_4, pq_2_5, pq_2_6, pq_2_7, pq_2_8, pq_2_9, pq_2_10, pq_2_11, pq_2_12, pq_2_13, pq_2_14, pq_2_15, pq_2_16, pq_2_17, pq_2_18, pq_2_19, pq_2_20, pq_2_21, pq_2_22, pq_2_23, pq_3_0, pq_3_1, pq_3_2, pq_3_3, pq_3_4, pq_3_5, pq_3_6, pq_3_7, pq_3_8, pq_3_9, pq_3_10, pq_3_11, pq_3_12, pq_3_13, pq_3_14, pq_3_15, pq_1_14, pq_3_16, pq_3_17, pq_3_18, pq_3_19, pq_5_0, pq_5_1, pq_5_2, pq_6_0, pq_6_1, pq_6_2, pq_7_0, pq_7_1, pq_8_0, pq_8_1, pq_8_2, pq_8_3, pq_8_4, pq_8_5] (by rfl) gw_wsX3_seek
set_option maxRecDepth 20000 in
theorem gX6_first_X3_seek : GoodIn wsX6_first (wsV RX6 220 RX3 yX3_seek wsX3_seek) := goodIn_app (goodIn_s seX6_first _ [pq_1_11, pq_1_12, pq_1_13, pq_1_14] (by rfl) (by decide +kernel)) ggX6_first_X3_seek
set_option maxRecDepth 20000 in
theorem ggX6_first_X3_foundAt : GoodIn wsX6_first wsX3_foundAt := goodIn_s seX6_first _ [pq_3_23, pq_1_16, pq_3_17, pq_5_0, pq_5_1, pq_5_2] (by rfl) gw_wsX3_foundAt
set_option maxRecDepth 20000 in
theorem gX6_first_X3_foundAt : GoodIn wsX6_first (wsV RX6 224 RX3 yX3_foundAt wsX3_foundAt) := goodIn_app (goodIn_s seX6_first _ [pq_3_20, pq_3_21, pq_3_22, pq_1_14] (by rfl) (by decide +kernel)) ggX6_first_X3_foundAt
noncomputable def sgX6_last : List (List Cond) := [[.code yX6_last cX6_last 3 (some .int)], wsX6_last_r1, wsX6_last_r2, wsX6_last_r3, wsX60, wsX30, wsX00, wsX20, wsX50, (vx_atS RX6 306 "java/lang/IndexOutOfBoundsException" ["java/lang/RuntimeException", "java/lang/Exception"]).filter goodWord]
theorem seX6_last : sgX6_last.flatten = wsX6_last := by simp only [sgX6_last, wsX6_last, List.flatten_cons, List.flatten_nil, List.append_assoc, List.append_nil, List.cons_append, List.nil_append]
set_option maxRecDepth 20000 in
theorem ggX6_last_X6_sourceOf : GoodIn wsX6_last wsX6_sourceOf := goodIn_ca (goodIn_s seX6_last _ [pq_1_5, pq_1_6, pq_1_7, pq_1_8, pq_1_9, pq_1_10, pq_4_0, pq_4_1, pq_4_2, pq_4_3, pq_4_4, pq_4_5, pq_4_6, pq_4_7, pq_4_8, pq_4_9, pq_4_10, pq_4_11, pq_4_12, pq_4_13] (by rfl) (by decide +kernel)) (goodIn_sub (fun _ h => List.mem_cons_of_mem _ (List.mem_append_right _ h)) (by decide +kernel))
set_option maxRecDepth 20000 in
theorem gX6_last_X6_sourceOf : GoodIn wsX6_last (wsV RX6 156 RX6 yX6_sourceOf wsX6_sourceOf) := goodIn_app (goodIn_s seX6_last _ [pq_1_1, pq_1_2, pq_1_3, pq_1_4] (by rfl) (by decide +kernel)) ggX6_last_X6_sourceOf
set_option maxRecDepth 20000 in
theorem ggX6_last_X3_seek : GoodIn wsX6_last wsX3_seek := goodIn_s seX6_last _ [pq_1_15, pq_1_16, pq_1_17, pq_1_18, pq_1_19, pq_1_20, pq_1_21, pq_1_22, pq_1_23, pq_2_0, pq_2_1, pq_2_2, pq_2_3, pq_2_4, pq_2_5, pq_2_6, pq_2_7, pq_2_8, pq_2_9, pq_2_10, pq_2_11, pq_2_12, pq_2_13, pq_2_14, pq_2_15, pq_2_16, pq_2_17, pq_2_18, pq_2_19, pq_2_20, pq_2_21, pq_2_22, pq_2_23, pq_3_0, pq_3_1, pq_3_2, pq_3_3, pq_3_4, pq_3_5, pq_3_6, pq_3_7, pq_3_8, pq_3_9, pq_3_10, pq_3_11, pq_3_12, pq_3_13, pq_3_14, pq_3_15, pq_1_14, pq_3_16, pq_3_17, pq_3_18, pq_3_19, pq_5_0, pq_5_1, pq_5_2, pq_6_0, pq_6_1, pq_6_2, pq_7_0, pq_7_1, pq_8_0, pq_8_1, pq_8_2, pq_8_3, pq_8_4, pq_8_5] (by rfl) gw_wsX3_seek
set_option maxRecDepth 20000 in
theorem gX6_last_X3_seek : GoodIn wsX6_last (wsV RX6 220 RX3 yX3_seek wsX3_seek) := goodIn_app (goodIn_s seX6_last _ [pq_1_11, pq_1_12, pq_1_13, pq_1_14] (by rfl) (by decide +kernel)) ggX6_last_X3_seek
set_option maxRecDepth 20000 in
theorem ggX6_last_X3_foundAt : GoodIn wsX6_last wsX3_foundAt := goodIn_s seX6_last _ [pq_3_23, pq_1_16, pq_3_17, pq_5_0, pq_5_1, pq_5_2] (by rfl) gw_wsX3_foundAt
set_option maxRecDepth 20000 in
theorem gX6_last_X3_foundAt : GoodIn wsX6_last (wsV RX6 224 RX3 yX3_foundAt wsX3_foundAt) := goodIn_app (goodIn_s seX6_last _ [pq_3_20, pq_3_21, pq_3_22, pq_1_14] (by rfl) (by decide +kernel)) ggX6_last_X3_foundAt
noncomputable def sgX6_count : List (List Cond) := [[.code yX6_count cX6_count 3 (some .int)], wsX6_count_r1, wsX6_count_r2, wsX6_count_r3, wsX60, wsX30, wsX00, wsX20, wsX50, (vx_atS RX6 306 "java/lang/IndexOutOfBoundsException" ["java/lang/RuntimeException", "java/lang/Exception"]).filter goodWord]
theorem seX6_count : sgX6_count.flatten = wsX6_count := by simp only [sgX6_count, wsX6_count, List.flatten_cons, List.flatten_nil, List.append_assoc, List.append_nil, List.cons_append, List.nil_append]
set_option maxRecDepth 20000 in
theorem ggX6_count_X6_sourceOf : GoodIn wsX6_count wsX6_sourceOf := goodIn_ca (goodIn_s seX6_count _ [pq_1_5, pq_1_6, pq_1_7, pq_1_8, pq_1_9, pq_1_10, pq_4_0, pq_4_1, pq_4_2, pq_4_3, pq_4_4, pq_4_5, pq_4_6, pq_4_7, pq_4_8, pq_4_9, pq_4_10, pq_4_11, pq_4_12, pq_4_13] (by rfl) (by decide +kernel)) (goodIn_sub (fun _ h => List.mem_cons_of_mem _ (List.mem_append_right _ h)) (by decide +kernel))
set_option maxRecDepth 20000 in
theorem gX6_count_X6_sourceOf : GoodIn wsX6_count (wsV RX6 156 RX6 yX6_sourceOf wsX6_sourceOf) := goodIn_app (goodIn_s seX6_count _ [pq_1_1, pq_1_2, pq_1_3, pq_1_4] (by rfl) (by decide +kernel)) ggX6_count_X6_sourceOf
set_option maxRecDepth 20000 in
theorem ggX6_count_X3_seek : GoodIn wsX6_count wsX3_seek := goodIn_s seX6_count _ [pq_1_15, pq_1_16, pq_1_17, pq_1_18, pq_1_19, pq_1_20, pq_1_21, pq_1_22, pq_1_23, pq_2_0, pq_2_1, pq_2_2, pq_2_3, pq_2_4, pq_2_5, pq_2_6, pq_2_7, pq_2_8, pq_2_9, pq_2_10, pq_2_11, pq_2_12, pq_2_13, pq_2_14, pq_2_15, pq_2_16, pq_2_17, pq_2_18, pq_2_19, pq_2_20, pq_2_21, pq_2_22, pq_2_23, pq_3_0, pq_3_1, pq_3_2, pq_3_3, pq_3_4, pq_3_5, pq_3_6, pq_3_7, pq_3_8, pq_3_9, pq_3_10, pq_3_11, pq_3_12, pq_3_13, pq_3_14, pq_3_15, pq_1_14, pq_3_16, pq_3_17, pq_3_18, pq_3_19, pq_5_0, pq_5_1, pq_5_2, pq_6_0, pq_6_1, pq_6_2, pq_7_0, pq_7_1, pq_8_0, pq_8_1, pq_8_2, pq_8_3, pq_8_4, pq_8_5] (by rfl) gw_wsX3_seek
set_option maxRecDepth 20000 in
theorem gX6_count_X3_seek : GoodIn wsX6_count (wsV RX6 220 RX3 yX3_seek wsX3_seek) := goodIn_app (goodIn_s seX6_count _ [pq_1_11, pq_1_12, pq_1_13, pq_1_14] (by rfl) (by decide +kernel)) ggX6_count_X3_seek
noncomputable def sgX6_place : List (List Cond) := [[.code yX6_place cX6_place 6 (some .int)], wsX6_place_r1, wsX6_place_r2, wsX6_place_r3, wsX6_place_r4, wsX60, wsX30, wsX00, wsX20, wsX50, (vx_atS RX6 306 "java/lang/IndexOutOfBoundsException" ["java/lang/RuntimeException", "java/lang/Exception"]).filter goodWord, (vx_atS RX6 317 "java/lang/IllegalArgumentException" ["java/lang/RuntimeException", "java/lang/Exception"]).filter goodWord]
theorem seX6_place : sgX6_place.flatten = wsX6_place := by simp only [sgX6_place, wsX6_place, List.flatten_cons, List.flatten_nil, List.append_assoc, List.append_nil, List.cons_append, List.nil_append]
set_option maxRecDepth 20000 in
theorem ggX6_place_X6_sourceOf : GoodIn wsX6_place wsX6_sourceOf := goodIn_ca (goodIn_s seX6_place _ [pq_1_5, pq_1_6, pq_1_7, pq_1_8, pq_1_9, pq_1_10, pq_5_0, pq_5_1, pq_5_2, pq_5_3, pq_5_4, pq_5_5, pq_5_6, pq_5_7, pq_5_8, pq_5_9, pq_5_10, pq_5_11, pq_5_12, pq_5_13] (by rfl) (by decide +kernel)) (goodIn_sub (fun _ h => List.mem_cons_of_mem _ (List.mem_append_left _ (List.mem_append_right _ h))) (by decide +kernel))
set_option maxRecDepth 20000 in
theorem gX6_place_X6_sourceOf : GoodIn wsX6_place (wsV RX6 156 RX6 yX6_sourceOf wsX6_sourceOf) := goodIn_app (goodIn_s seX6_place _ [pq_1_1, pq_1_2, pq_1_3, pq_1_4] (by rfl) (by decide +kernel)) ggX6_place_X6_sourceOf
set_option maxRecDepth 20000 in
theorem ggX6_place_X6_requireWithin : GoodIn wsX6_place wsX6_requireWithin := goodIn_ca (goodIn_s seX6_place _ [pq_1_13, pq_1_14, pq_1_15] (by rfl) (by decide +kernel)) (goodIn_sub (fun _ h => List.mem_cons_of_mem _ (List.mem_append_right _ h)) (by decide +kernel))
set_option maxRecDepth 20000 in
theorem gX6_place_X6_requireWithin : GoodIn wsX6_place (va_wsS RX6 66 yX6_requireWithin wsX6_requireWithin) := goodIn_app (goodIn_s seX6_place _ [pq_1_11, pq_1_12, pq_1_4] (by rfl) (by decide +kernel)) ggX6_place_X6_requireWithin
set_option maxRecDepth 20000 in
theorem ggX6_place_X3_seek : GoodIn wsX6_place wsX3_seek := goodIn_s seX6_place _ [pq_1_20, pq_1_21, pq_1_22, pq_1_23, pq_2_0, pq_2_1, pq_2_2, pq_2_3, pq_2_4, pq_2_5, pq_2_6, pq_2_7, pq_2_8, pq_2_9, pq_2_10, pq_2_11, pq_2_12, pq_2_13, pq_2_14, pq_2_15, pq_2_16, pq_2_17, pq_2_18, pq_2_19, pq_2_20, pq_2_21, pq_2_22, pq_2_23, pq_3_0, pq_3_1, pq_3_2, pq_3_3, pq_3_4, pq_3_5, pq_3_6, pq_3_7, pq_3_8, pq_3_9, pq_3_10, pq_3_11, pq_3_12, pq_3_13, pq_3_14, pq_3_15, pq_3_16, pq_3_17, pq_3_18, pq_3_19, pq_3_20, pq_1_19, pq_3_21, pq_3_22, pq_3_23, pq_4_0, pq_6_0, pq_6_1, pq_6_2, pq_7_0, pq_7_1, pq_7_2, pq_8_0, pq_8_1, pq_9_0, pq_9_1, pq_9_2, pq_9_3, pq_9_4, pq_9_5] (by rfl) gw_wsX3_seek
set_option maxRecDepth 20000 in
theorem gX6_place_X3_seek : GoodIn wsX6_place (wsV RX6 220 RX3 yX3_seek wsX3_seek) := goodIn_app (goodIn_s seX6_place _ [pq_1_16, pq_1_17, pq_1_18, pq_1_19] (by rfl) (by decide +kernel)) ggX6_place_X3_seek
set_option maxRecDepth 20000 in
theorem ggX6_place_X3_foundAt : GoodIn wsX6_place wsX3_foundAt := goodIn_s seX6_place _ [pq_4_4, pq_1_21, pq_3_22, pq_6_0, pq_6_1, pq_6_2] (by rfl) gw_wsX3_foundAt
set_option maxRecDepth 20000 in
theorem gX6_place_X3_foundAt : GoodIn wsX6_place (wsV RX6 224 RX3 yX3_foundAt wsX3_foundAt) := goodIn_app (goodIn_s seX6_place _ [pq_4_1, pq_4_2, pq_4_3, pq_1_19] (by rfl) (by decide +kernel)) ggX6_place_X3_foundAt
noncomputable def sgX6_border : List (List Cond) := [[.code yX6_border cX6_border 2 (some .int)], wsX6_border_r1, wsX6_border_r2, wsX6_border_r3, wsX60, wsX00, wsX20, wsX50, (vx_atS RX6 306 "java/lang/IndexOutOfBoundsException" ["java/lang/RuntimeException", "java/lang/Exception"]).filter goodWord]
theorem seX6_border : sgX6_border.flatten = wsX6_border := by simp only [sgX6_border, wsX6_border, List.flatten_cons, List.flatten_nil, List.append_assoc, List.append_nil, List.cons_append, List.nil_append]
set_option maxRecDepth 20000 in
theorem ggX6_border_X6_sourceOf : GoodIn wsX6_border wsX6_sourceOf := goodIn_ca (goodIn_s seX6_border _ [pq_1_4, pq_1_5, pq_1_6, pq_1_7, pq_1_8, pq_1_9, pq_4_0, pq_4_1, pq_4_2, pq_4_3, pq_4_4, pq_4_5, pq_4_6, pq_4_7, pq_4_8, pq_4_9, pq_4_10, pq_4_11, pq_4_12, pq_4_13] (by rfl) (by decide +kernel)) (goodIn_sub (fun _ h => List.mem_cons_of_mem _ (List.mem_append_right _ h)) (by decide +kernel))
set_option maxRecDepth 20000 in
theorem gX6_border_X6_sourceOf : GoodIn wsX6_border (wsV RX6 156 RX6 yX6_sourceOf wsX6_sourceOf) := goodIn_app (goodIn_s seX6_border _ [pq_1_0, pq_1_1, pq_1_2, pq_1_3] (by rfl) (by decide +kernel)) ggX6_border_X6_sourceOf
set_option maxRecDepth 20000 in
theorem ggX6_border_X6_greatestBorder : GoodIn wsX6_border wsX6_greatestBorder := goodIn_s seX6_border _ [pq_1_13, pq_1_14, pq_1_15, pq_1_16, pq_1_17, pq_1_18, pq_1_19, pq_1_20, pq_1_21, pq_1_22, pq_1_23, pq_2_0, pq_2_1, pq_2_2, pq_2_3, pq_2_4, pq_2_5, pq_2_6, pq_2_7, pq_2_8, pq_2_9, pq_2_10, pq_2_11, pq_2_12, pq_2_13, pq_2_14, pq_2_15, pq_2_16, pq_2_17, pq_2_18, pq_2_19, pq_2_20, pq_2_21, pq_2_22, pq_2_23, pq_3_0, pq_3_1, pq_3_2, pq_3_3, pq_3_4, pq_3_5, pq_3_6, pq_3_7, pq_3_8, pq_3_9, pq_3_10, pq_4_0, pq_4_1, pq_4_2, pq_4_3, pq_4_4, pq_4_5, pq_4_6, pq_4_7, pq_4_8, pq_4_9, pq_4_10, pq_4_11, pq_4_12, pq_4_13, pq_5_0, pq_5_1, pq_5_2, pq_6_0, pq_6_1, pq_7_0, pq_7_1, pq_7_2, pq_7_3, pq_7_4, pq_7_5] (by rfl) gw_wsX6_greatestBorder
set_option maxRecDepth 20000 in
theorem gX6_border_X6_greatestBorder : GoodIn wsX6_border (wsV RX6 230 RX6 yX6_greatestBorder wsX6_greatestBorder) := goodIn_app (goodIn_s seX6_border _ [pq_1_10, pq_1_11, pq_1_12, pq_1_3] (by rfl) (by decide +kernel)) ggX6_border_X6_greatestBorder
noncomputable def sgX6_borders : List (List Cond) := [[.code yX6_borders cX6_borders 5 (some (.object "java/lang/String"))], wsX6_borders_r1, wsX6_borders_r2, wsX6_borders_r3, wsX6_borders_r4, wsX6_borders_r5, wsX6_borders_r6, wsX6_borders_r7, wsX6_borders_r8, wsX6_borders_r9, wsX6_borders_r10, wsX6_borders_r11, wsX6_borders_r12, wsX60, wsJ40, wsX00, wsX20, wsX50, wsJ00, (vx_atS RX6 306 "java/lang/IndexOutOfBoundsException" ["java/lang/RuntimeException", "java/lang/Exception"]).filter goodWord]
theorem seX6_borders : sgX6_borders.flatten = wsX6_borders := by simp only [sgX6_borders, wsX6_borders, List.flatten_cons, List.flatten_nil, List.append_assoc, List.append_nil, List.cons_append, List.nil_append]
set_option maxRecDepth 20000 in
theorem ggX6_borders_X6_sourceOf : GoodIn wsX6_borders wsX6_sourceOf := goodIn_ca (goodIn_s seX6_borders _ [pq_1_8, pq_1_9, pq_1_10, pq_1_11, pq_1_12, pq_1_13, pq_13_0, pq_13_1, pq_13_2, pq_13_3, pq_13_4, pq_13_5, pq_13_6, pq_13_7, pq_13_8, pq_13_9, pq_13_10, pq_13_11, pq_13_12, pq_13_13] (by rfl) (by decide +kernel)) (goodIn_sub (fun _ h => List.mem_cons_of_mem _ (List.mem_append_right _ h)) (by decide +kernel))
set_option maxRecDepth 20000 in
theorem gX6_borders_X6_sourceOf : GoodIn wsX6_borders (wsV RX6 156 RX6 yX6_sourceOf wsX6_sourceOf) := goodIn_app (goodIn_s seX6_borders _ [pq_1_4, pq_1_5, pq_1_6, pq_1_7] (by rfl) (by decide +kernel)) ggX6_borders_X6_sourceOf
set_option maxRecDepth 20000 in
theorem ggX6_borders_X0_measure : GoodIn wsX6_borders wsX0_measure := goodIn_s seX6_borders _ [pq_1_18, pq_1_19, pq_1_20, pq_1_21, pq_1_22, pq_1_23, pq_2_0, pq_2_1, pq_2_2, pq_2_3, pq_2_4, pq_2_5, pq_2_6, pq_2_7, pq_2_8, pq_2_9, pq_2_10, pq_2_11, pq_2_12, pq_2_13, pq_2_14, pq_2_15, pq_2_16, pq_2_17, pq_2_18, pq_2_19, pq_2_20, pq_2_21, pq_2_22, pq_2_23, pq_3_0, pq_3_1, pq_3_2, pq_1_17, pq_3_3, pq_3_4, pq_3_5, pq_3_6, pq_3_7, pq_15_0, pq_15_1, pq_15_2, pq_16_0, pq_16_1, pq_17_0, pq_17_1, pq_17_2, pq_17_3, pq_17_4, pq_17_5] (by rfl) gw_wsX0_measure
set_option maxRecDepth 20000 in
theorem gX6_borders_X0_measure : GoodIn wsX6_borders (wsV RX6 234 RX0 yX0_measure wsX0_measure) := goodIn_app (goodIn_s seX6_borders _ [pq_1_14, pq_1_15, pq_1_16, pq_1_17] (by rfl) (by decide +kernel)) ggX6_borders_X0_measure
set_option maxRecDepth 20000 in
theorem ggX6_borders_J4_init_da8c8 : GoodIn wsX6_borders wsJ4_init_da8c8 := goodIn_s seX6_borders _ [pq_3_10, pq_3_11, pq_3_12, pq_3_13, pq_3_14, pq_3_15, pq_3_16, pq_3_17, pq_3_18, pq_3_19, pq_3_20, pq_3_21, pq_3_22, pq_3_23, pq_4_0, pq_4_1, pq_4_2, pq_4_3, pq_4_4, pq_4_5, pq_14_0, pq_14_1, pq_14_2, pq_14_3] (by rfl) gw_wsJ4_init_da8c8
set_option maxRecDepth 20000 in
theorem gX6_borders_J4_init_da8c8 : GoodIn wsX6_borders (wsJ4_init_da8c8) := ggX6_borders_J4_init_da8c8
set_option maxRecDepth 20000 in
theorem ggX6_borders_X2_size : GoodIn wsX6_borders wsX2_size := goodIn_s seX6_borders _ [pq_2_1, pq_2_2, pq_16_0, pq_16_1] (by rfl) gw_wsX2_size
set_option maxRecDepth 20000 in
theorem gX6_borders_X2_size_u165X2 : GoodIn wsX6_borders (va_wsU RX6 165 RX2 "Sashwords$Text" ⟨"Sashwords$Text", "size", "()I"⟩ yX2_size wsX2_size) := goodIn_app (goodIn_s seX6_borders _ [pq_4_6, pq_1_21, pq_1_22, pq_1_23, pq_2_0] (by rfl) (by decide +kernel)) ggX6_borders_X2_size
set_option maxRecDepth 20000 in
theorem ggX6_borders_X5_size : GoodIn wsX6_borders wsX5_size := goodIn_s seX6_borders _ [pq_2_6, pq_2_7, pq_2_8, pq_17_0, pq_17_1, pq_17_2, pq_17_3, pq_17_4, pq_17_5] (by rfl) gw_wsX5_size
set_option maxRecDepth 20000 in
theorem gX6_borders_X5_size_u165X5 : GoodIn wsX6_borders (va_wsU RX6 165 RX5 "Sashwords$Text" ⟨"Sashwords$Text", "size", "()I"⟩ yX5_size wsX5_size) := goodIn_app (goodIn_s seX6_borders _ [pq_4_6, pq_1_21, pq_2_3, pq_2_4, pq_2_5] (by rfl) (by decide +kernel)) ggX6_borders_X5_size
set_option maxRecDepth 20000 in
theorem ggX6_borders_X0_greatestOf : GoodIn wsX6_borders wsX0_greatestOf := goodIn_s seX6_borders _ [pq_3_7, pq_1_19, pq_15_0, pq_15_1, pq_15_2] (by rfl) gw_wsX0_greatestOf
set_option maxRecDepth 20000 in
theorem gX6_borders_X0_greatestOf : GoodIn wsX6_borders (wsV RX6 237 RX0 yX0_greatestOf wsX0_greatestOf) := goodIn_app (goodIn_s seX6_borders _ [pq_4_7, pq_3_5, pq_3_6, pq_1_17] (by rfl) (by decide +kernel)) ggX6_borders_X0_greatestOf
set_option maxRecDepth 20000 in
theorem ggX6_borders_J4_append_bf812 : GoodIn wsX6_borders wsJ4_append_bf812 := goodIn_s seX6_borders _ [pq_4_11, pq_4_12, pq_4_13, pq_4_14, pq_4_15, pq_3_13, pq_4_16, pq_4_17, pq_3_20, pq_4_18, pq_4_19, pq_4_20, pq_4_21, pq_4_22, pq_4_23, pq_5_0, pq_5_1, pq_5_2, pq_3_21, pq_5_3, pq_5_4, pq_5_5, pq_5_6, pq_5_7, pq_5_8, pq_5_9, pq_5_10, pq_5_11, pq_5_12, pq_5_13, pq_5_14, pq_5_15, pq_5_16, pq_5_17, pq_5_18, pq_5_19, pq_5_20, pq_5_21, pq_5_22, pq_5_23, pq_6_0, pq_6_1, pq_6_2, pq_6_3, pq_6_4, pq_6_5, pq_6_6, pq_3_19, pq_6_7, pq_6_8, pq_6_9, pq_6_10, pq_6_11, pq_6_12, pq_6_13, pq_6_14, pq_6_15, pq_6_16, pq_6_17, pq_6_18, pq_3_18, pq_6_19, pq_6_20, pq_6_21, pq_6_22, pq_6_23, pq_7_0, pq_7_1, pq_4_0, pq_7_2, pq_7_3, pq_7_4, pq_7_5, pq_7_6, pq_7_7, pq_7_8, pq_7_9, pq_7_10, pq_7_11, pq_7_12, pq_7_13, pq_7_14, pq_7_15, pq_7_16, pq_7_17, pq_7_18, pq_7_19, pq_7_20, pq_7_21, pq_7_22, pq_7_23, pq_8_0, pq_8_1, pq_8_2, pq_8_3, pq_8_4, pq_14_0, pq_14_1, pq_14_2, pq_14_3] (by rfl) gw_wsJ4_append_bf812
set_option maxRecDepth 20000 in
theorem gX6_borders_J4_append_bf812 : GoodIn wsX6_borders (wsV RX6 240 RJ4 yJ4_append_bf812 wsJ4_append_bf812) := goodIn_app (goodIn_s seX6_borders _ [pq_4_8, pq_4_9, pq_4_10, pq_1_3] (by rfl) (by decide +kernel)) ggX6_borders_J4_append_bf812
set_option maxRecDepth 20000 in
theorem ggX6_borders_J4_append_cf468 : GoodIn wsX6_borders wsJ4_append_cf468 := goodIn_s seX6_borders _ [pq_8_8, pq_8_9, pq_8_10, pq_4_14, pq_8_11, pq_3_13, pq_8_12, pq_4_17, pq_3_20, pq_4_22, pq_4_23, pq_5_0, pq_5_1, pq_5_2, pq_3_21, pq_5_3, pq_5_4, pq_5_5, pq_5_6, pq_5_7, pq_5_8, pq_5_9, pq_5_10, pq_5_11, pq_5_12, pq_5_13, pq_5_14, pq_5_15, pq_5_16, pq_5_17, pq_5_18, pq_5_19, pq_5_20, pq_5_21, pq_5_22, pq_5_23, pq_6_0, pq_6_1, pq_6_2, pq_6_3, pq_6_4, pq_6_5, pq_6_6, pq_3_19, pq_6_7, pq_6_8, pq_6_9, pq_6_10, pq_6_11, pq_6_12, pq_6_13, pq_6_14, pq_6_15, pq_6_16, pq_6_17, pq_6_18, pq_3_18, pq_8_13, pq_8_14, pq_8_15, pq_8_16, pq_8_17, pq_8_18, pq_8_19, pq_8_20, pq_8_21, pq_3_22, pq_3_23, pq_4_0, pq_4_1, pq_4_2, pq_4_3, pq_4_4, pq_4_5, pq_8_22, pq_8_23, pq_9_0, pq_9_1, pq_9_2, pq_9_3, pq_9_4, pq_9_5, pq_9_6, pq_7_7, pq_7_8, pq_7_9, pq_9_7, pq_9_8, pq_7_12, pq_9_9, pq_7_14, pq_9_10, pq_9_11, pq_7_17, pq_9_12, pq_8_0, pq_8_1, pq_8_2, pq_7_3, pq_8_3, pq_8_4, pq_9_13, pq_9_14, pq_9_15, pq_9_16, pq_9_17, pq_9_18, pq_9_19, pq_9_20, pq_9_21, pq_9_22, pq_9_23, pq_10_0, pq_14_0, pq_14_1, pq_14_2, pq_14_3] (by rfl) gw_wsJ4_append_cf468
set_option maxRecDepth 20000 in
theorem gX6_borders_J4_append_cf468 : GoodIn wsX6_borders (wsV RX6 116 RJ4 yJ4_append_cf468 wsJ4_append_cf468) := goodIn_app (goodIn_s seX6_borders _ [pq_8_5, pq_8_6, pq_8_7, pq_1_3] (by rfl) (by decide +kernel)) ggX6_borders_J4_append_cf468
set_option maxRecDepth 20000 in
theorem ggX6_borders_J4_toString_0e30d : GoodIn wsX6_borders wsJ4_toString_0e30d := goodIn_s seX6_borders _ [pq_10_4, pq_10_5, pq_10_6, pq_7_12, pq_10_7, pq_10_8, pq_10_9, pq_10_10, pq_10_11, pq_10_12, pq_10_13, pq_3_16, pq_3_17, pq_10_14, pq_10_15, pq_10_16, pq_10_17, pq_10_18, pq_10_19, pq_10_20, pq_10_21, pq_3_13, pq_10_22, pq_3_20, pq_10_23, pq_11_0, pq_11_1, pq_11_2, pq_11_3, pq_1_3, pq_11_4, pq_11_5, pq_4_14, pq_11_6, pq_11_7, pq_4_17, pq_11_8, pq_6_15, pq_6_16, pq_6_17, pq_6_18, pq_3_18, pq_3_21, pq_11_9, pq_11_10, pq_5_23, pq_11_11, pq_6_1, pq_6_2, pq_6_3, pq_6_4, pq_6_5, pq_6_6, pq_11_12, pq_11_13, pq_11_14, pq_3_19, pq_6_7, pq_6_8, pq_5_15, pq_6_9, pq_6_10, pq_6_11, pq_6_12, pq_6_13, pq_11_15, pq_11_16, pq_11_17, pq_11_18, pq_1_2, pq_11_19, pq_11_20, pq_4_0, pq_11_21, pq_11_22, pq_11_23, pq_12_0, pq_9_4, pq_9_5, pq_9_6, pq_7_7, pq_7_8, pq_7_9, pq_9_7, pq_9_8, pq_9_9, pq_7_14, pq_9_10, pq_9_11, pq_7_17, pq_9_12, pq_12_1, pq_12_2, pq_12_3, pq_7_3, pq_8_3, pq_8_4, pq_4_2, pq_4_3, pq_4_4, pq_4_5, pq_12_4, pq_12_5, pq_12_6, pq_12_7, pq_18_0, pq_18_1, pq_18_2, pq_18_3, pq_14_0, pq_14_1, pq_14_2, pq_14_3] (by rfl) gw_wsJ4_toString_0e30d
set_option maxRecDepth 20000 in
theorem gX6_borders_J4_toString_0e30d : GoodIn wsX6_borders (wsV RX6 120 RJ4 yJ4_toString_0e30d wsJ4_toString_0e30d) := goodIn_app (goodIn_s seX6_borders _ [pq_10_1, pq_10_2, pq_10_3, pq_1_3] (by rfl) (by decide +kernel)) ggX6_borders_J4_toString_0e30d
noncomputable def sgX6_chain : List (List Cond) := [[.code yX6_chain cX6_chain 4 (some (.object "java/lang/String"))], wsX6_chain_r1, wsX6_chain_r2, wsX6_chain_r3, wsX6_chain_r4, wsX6_chain_r5, wsX6_chain_r6, wsX6_chain_r7, wsX6_chain_r8, wsX6_chain_r9, wsX6_chain_r10, wsX6_chain_r11, wsX6_chain_r12, wsX60, wsJ40, wsX00, wsX20, wsX50, wsJ00, (vx_atS RX6 306 "java/lang/IndexOutOfBoundsException" ["java/lang/RuntimeException", "java/lang/Exception"]).filter goodWord]
theorem seX6_chain : sgX6_chain.flatten = wsX6_chain := by simp only [sgX6_chain, wsX6_chain, List.flatten_cons, List.flatten_nil, List.append_assoc, List.append_nil, List.cons_append, List.nil_append]
set_option maxRecDepth 20000 in
theorem ggX6_chain_X6_sourceOf : GoodIn wsX6_chain wsX6_sourceOf := goodIn_ca (goodIn_s seX6_chain _ [pq_1_8, pq_1_9, pq_1_10, pq_1_11, pq_1_12, pq_1_13, pq_13_0, pq_13_1, pq_13_2, pq_13_3, pq_13_4, pq_13_5, pq_13_6, pq_13_7, pq_13_8, pq_13_9, pq_13_10, pq_13_11, pq_13_12, pq_13_13] (by rfl) (by decide +kernel)) (goodIn_sub (fun _ h => List.mem_cons_of_mem _ (List.mem_append_right _ h)) (by decide +kernel))
set_option maxRecDepth 20000 in
theorem gX6_chain_X6_sourceOf : GoodIn wsX6_chain (wsV RX6 156 RX6 yX6_sourceOf wsX6_sourceOf) := goodIn_app (goodIn_s seX6_chain _ [pq_1_4, pq_1_5, pq_1_6, pq_1_7] (by rfl) (by decide +kernel)) ggX6_chain_X6_sourceOf
set_option maxRecDepth 20000 in
theorem ggX6_chain_X0_measureChain : GoodIn wsX6_chain wsX0_measureChain := goodIn_s seX6_chain _ [pq_1_18, pq_1_19, pq_1_20, pq_1_21, pq_1_22, pq_1_23, pq_1_17, pq_2_0, pq_2_1, pq_2_2, pq_2_3, pq_2_4, pq_2_5, pq_2_6, pq_2_7, pq_2_8, pq_2_9, pq_2_10, pq_2_11, pq_2_12, pq_2_13, pq_2_14, pq_2_15, pq_2_16, pq_2_17, pq_2_18, pq_2_19, pq_2_20, pq_2_21, pq_2_22, pq_2_23, pq_3_0, pq_3_1, pq_3_2, pq_3_3, pq_3_4, pq_3_5, pq_3_6, pq_3_7, pq_3_8, pq_3_9, pq_3_10, pq_3_11, pq_3_12, pq_3_13, pq_15_0, pq_15_1, pq_15_2, pq_16_0, pq_16_1, pq_17_0, pq_17_1, pq_17_2, pq_17_3, pq_17_4, pq_17_5] (by rfl) gw_wsX0_measureChain
set_option maxRecDepth 20000 in
theorem gX6_chain_X0_measureChain : GoodIn wsX6_chain (wsV RX6 243 RX0 yX0_measureChain wsX0_measureChain) := goodIn_app (goodIn_s seX6_chain _ [pq_1_14, pq_1_15, pq_1_16, pq_1_17] (by rfl) (by decide +kernel)) ggX6_chain_X0_measureChain
set_option maxRecDepth 20000 in
theorem ggX6_chain_J4_init_da8c8 : GoodIn wsX6_chain wsJ4_init_da8c8 := goodIn_s seX6_chain _ [pq_3_16, pq_3_17, pq_3_18, pq_3_19, pq_3_20, pq_3_21, pq_3_22, pq_3_23, pq_4_0, pq_4_1, pq_4_2, pq_4_3, pq_4_4, pq_4_5, pq_4_6, pq_4_7, pq_4_8, pq_4_9, pq_4_10, pq_4_11, pq_14_0, pq_14_1, pq_14_2, pq_14_3] (by rfl) gw_wsJ4_init_da8c8
set_option maxRecDepth 20000 in
theorem gX6_chain_J4_init_da8c8 : GoodIn wsX6_chain (wsJ4_init_da8c8) := ggX6_chain_J4_init_da8c8
set_option maxRecDepth 20000 in
theorem ggX6_chain_X0_linkAt : GoodIn wsX6_chain wsX0_linkAt := goodIn_s seX6_chain _ [pq_4_15, pq_1_19, pq_1_20, pq_15_0, pq_15_1, pq_15_2] (by rfl) gw_wsX0_linkAt
set_option maxRecDepth 20000 in
theorem gX6_chain_X0_linkAt : GoodIn wsX6_chain (wsV RX6 249 RX0 yX0_linkAt wsX0_linkAt) := goodIn_app (goodIn_s seX6_chain _ [pq_4_12, pq_4_13, pq_4_14, pq_1_17] (by rfl) (by decide +kernel)) ggX6_chain_X0_linkAt
set_option maxRecDepth 20000 in
theorem ggX6_chain_J4_append_bf812 : GoodIn wsX6_chain wsJ4_append_bf812 := goodIn_s seX6_chain _ [pq_4_19, pq_4_20, pq_4_21, pq_4_22, pq_4_23, pq_3_19, pq_5_0, pq_5_1, pq_4_2, pq_5_2, pq_5_3, pq_5_4, pq_5_5, pq_5_6, pq_5_7, pq_5_8, pq_5_9, pq_5_10, pq_4_3, pq_5_11, pq_5_12, pq_5_13, pq_5_14, pq_5_15, pq_5_16, pq_5_17, pq_5_18, pq_5_19, pq_5_20, pq_5_21, pq_5_22, pq_5_23, pq_6_0, pq_6_1, pq_6_2, pq_6_3, pq_6_4, pq_6_5, pq_6_6, pq_6_7, pq_6_8, pq_6_9, pq_6_10, pq_6_11, pq_6_12, pq_6_13, pq_6_14, pq_4_1, pq_6_15, pq_6_16, pq_6_17, pq_6_18, pq_6_19, pq_6_20, pq_6_21, pq_6_22, pq_6_23, pq_7_0, pq_7_1, pq_7_2, pq_4_0, pq_7_3, pq_7_4, pq_7_5, pq_7_6, pq_7_7, pq_7_8, pq_7_9, pq_4_6, pq_7_10, pq_7_11, pq_7_12, pq_7_13, pq_7_14, pq_7_15, pq_7_16, pq_7_17, pq_7_18, pq_7_19, pq_7_20, pq_7_21, pq_7_22, pq_7_23, pq_8_0, pq_8_1, pq_8_2, pq_8_3, pq_8_4, pq_8_5, pq_8_6, pq_8_7, pq_8_8, pq_8_9, pq_8_10, pq_8_11, pq_8_12, pq_14_0, pq_14_1, pq_14_2, pq_14_3] (by rfl) gw_wsJ4_append_bf812
set_option maxRecDepth 20000 in
theorem gX6_chain_J4_append_bf812 : GoodIn wsX6_chain (wsV RX6 240 RJ4 yJ4_append_bf812 wsJ4_append_bf812) := goodIn_app (goodIn_s seX6_chain _ [pq_4_16, pq_4_17, pq_4_18, pq_1_3] (by rfl) (by decide +kernel)) ggX6_chain_J4_append_bf812
set_option maxRecDepth 20000 in
theorem ggX6_chain_J4_append_cf468 : GoodIn wsX6_chain wsJ4_append_cf468 := goodIn_s seX6_chain _ [pq_8_16, pq_8_17, pq_8_18, pq_4_22, pq_8_19, pq_3_19, pq_8_20, pq_5_1, pq_4_2, pq_5_6, pq_5_7, pq_5_8, pq_5_9, pq_5_10, pq_4_3, pq_5_11, pq_5_12, pq_5_13, pq_5_14, pq_5_15, pq_5_16, pq_5_17, pq_5_18, pq_5_19, pq_5_20, pq_5_21, pq_5_22, pq_5_23, pq_6_0, pq_6_1, pq_6_2, pq_6_3, pq_6_4, pq_6_5, pq_6_6, pq_6_7, pq_6_8, pq_6_9, pq_6_10, pq_6_11, pq_6_12, pq_6_13, pq_6_14, pq_4_1, pq_6_15, pq_6_16, pq_6_17, pq_6_18, pq_6_19, pq_6_20, pq_6_21, pq_6_22, pq_6_23, pq_7_0, pq_7_1, pq_7_2, pq_4_0, pq_8_21, pq_8_22, pq_8_23, pq_9_0, pq_9_1, pq_9_2, pq_9_3, pq_9_4, pq_9_5, pq_4_4, pq_4_5, pq_4_6, pq_4_7, pq_4_8, pq_4_9, pq_4_10, pq_4_11, pq_9_6, pq_9_7, pq_9_8, pq_9_9, pq_9_10, pq_9_11, pq_9_12, pq_9_13, pq_9_14, pq_7_15, pq_7_16, pq_7_17, pq_9_15, pq_9_16, pq_7_20, pq_9_17, pq_7_22, pq_9_18, pq_9_19, pq_8_1, pq_9_20, pq_8_8, pq_8_9, pq_8_10, pq_7_11, pq_8_11, pq_8_12, pq_9_21, pq_9_22, pq_9_23, pq_10_0, pq_10_1, pq_10_2, pq_10_3, pq_10_4, pq_10_5, pq_10_6, pq_10_7, pq_10_8, pq_14_0, pq_14_1, pq_14_2, pq_14_3] (by rfl) gw_wsJ4_append_cf468
set_option maxRecDepth 20000 in
theorem gX6_chain_J4_append_cf468 : GoodIn wsX6_chain (wsV RX6 116 RJ4 yJ4_append_cf468 wsJ4_append_cf468) := goodIn_app (goodIn_s seX6_chain _ [pq_8_13, pq_8_14, pq_8_15, pq_1_3] (by rfl) (by decide +kernel)) ggX6_chain_J4_append_cf468
set_option maxRecDepth 20000 in
theorem ggX6_chain_J4_toString_0e30d : GoodIn wsX6_chain wsJ4_toString_0e30d := goodIn_s seX6_chain _ [pq_10_12, pq_10_13, pq_10_14, pq_7_20, pq_10_15, pq_10_16, pq_10_17, pq_10_18, pq_10_19, pq_10_20, pq_10_21, pq_3_22, pq_3_23, pq_10_22, pq_10_23, pq_11_0, pq_11_1, pq_11_2, pq_11_3, pq_11_4, pq_11_5, pq_3_19, pq_11_6, pq_4_2, pq_11_7, pq_11_8, pq_11_9, pq_11_10, pq_11_11, pq_1_3, pq_11_12, pq_11_13, pq_4_22, pq_11_14, pq_11_15, pq_5_1, pq_11_16, pq_6_23, pq_7_0, pq_7_1, pq_7_2, pq_4_0, pq_4_3, pq_11_17, pq_11_18, pq_6_7, pq_11_19, pq_6_9, pq_6_10, pq_6_11, pq_6_12, pq_6_13, pq_6_14, pq_11_20, pq_11_21, pq_11_22, pq_4_1, pq_6_15, pq_6_16, pq_5_23, pq_6_17, pq_6_18, pq_6_19, pq_6_20, pq_6_21, pq_11_23, pq_12_0, pq_12_1, pq_12_2, pq_1_2, pq_12_3, pq_12_4, pq_4_6, pq_12_5, pq_12_6, pq_12_7, pq_12_8, pq_9_12, pq_9_13, pq_9_14, pq_7_15, pq_7_16, pq_7_17, pq_9_15, pq_9_16, pq_9_17, pq_7_22, pq_9_18, pq_9_19, pq_8_1, pq_9_20, pq_12_9, pq_12_10, pq_12_11, pq_7_11, pq_8_11, pq_8_12, pq_4_8, pq_4_9, pq_4_10, pq_4_11, pq_12_12, pq_12_13, pq_12_14, pq_12_15, pq_18_0, pq_18_1, pq_18_2, pq_18_3, pq_14_0, pq_14_1, pq_14_2, pq_14_3] (by rfl) gw_wsJ4_toString_0e30d
set_option maxRecDepth 20000 in
theorem gX6_chain_J4_toString_0e30d : GoodIn wsX6_chain (wsV RX6 120 RJ4 yJ4_toString_0e30d wsJ4_toString_0e30d) := goodIn_app (goodIn_s seX6_chain _ [pq_10_9, pq_10_10, pq_10_11, pq_1_3] (by rfl) (by decide +kernel)) ggX6_chain_J4_toString_0e30d
noncomputable def sgX6_differ : List (List Cond) := [[.code yX6_differ cX6_differ 3 (some .int)], wsX6_differ_r1, wsX6_differ_r2, wsX60, wsX20, wsX50, (vx_atS RX6 306 "java/lang/IndexOutOfBoundsException" ["java/lang/RuntimeException", "java/lang/Exception"]).filter goodWord]
theorem seX6_differ : sgX6_differ.flatten = wsX6_differ := by simp only [sgX6_differ, wsX6_differ, List.flatten_cons, List.flatten_nil, List.append_assoc, List.append_nil, List.cons_append, List.nil_append]
set_option maxRecDepth 20000 in
theorem ggX6_differ_X6_sourceOf : GoodIn wsX6_differ wsX6_sourceOf := goodIn_ca (goodIn_s seX6_differ _ [pq_1_4, pq_1_5, pq_1_6, pq_1_7, pq_1_8, pq_1_9, pq_3_0, pq_3_1, pq_3_2, pq_3_3, pq_3_4, pq_3_5, pq_3_6, pq_3_7, pq_3_8, pq_3_9, pq_3_10, pq_3_11, pq_3_12, pq_3_13] (by rfl) (by decide +kernel)) (goodIn_sub (fun _ h => List.mem_cons_of_mem _ (List.mem_append_right _ h)) (by decide +kernel))
set_option maxRecDepth 20000 in
theorem gX6_differ_X6_sourceOf : GoodIn wsX6_differ (wsV RX6 156 RX6 yX6_sourceOf wsX6_sourceOf) := goodIn_app (goodIn_s seX6_differ _ [pq_1_0, pq_1_1, pq_1_2, pq_1_3] (by rfl) (by decide +kernel)) ggX6_differ_X6_sourceOf
set_option maxRecDepth 20000 in
theorem ggX6_differ_X6_firstUnlike : GoodIn wsX6_differ wsX6_firstUnlike := goodIn_s seX6_differ _ [pq_1_12, pq_1_13, pq_1_14, pq_1_15, pq_1_16, pq_1_17, pq_1_18, pq_1_19, pq_1_20, pq_1_21, pq_1_22, pq_1_23, pq_2_0, pq_2_1, pq_2_2, pq_2_3, pq_2_4, pq_2_5, pq_2_6, pq_2_7, pq_2_8, pq_2_9, pq_2_10, pq_2_11, pq_2_12, pq_2_13, pq_2_14, pq_2_15, pq_2_16, pq_2_17, pq_2_18, pq_2_19, pq_2_20, pq_4_0, pq_4_1, pq_5_0, pq_5_1, pq_5_2, pq_5_3, pq_5_4, pq_5_5] (by rfl) gw_wsX6_firstUnlike
set_option maxRecDepth 20000 in
theorem gX6_differ_X6_firstUnlike : GoodIn wsX6_differ (va_wsS RX6 252 yX6_firstUnlike wsX6_firstUnlike) := goodIn_app (goodIn_s seX6_differ _ [pq_1_10, pq_1_11, pq_1_3] (by rfl) (by decide +kernel)) ggX6_differ_X6_firstUnlike
noncomputable def sgX6_known : List (List Cond) := [[.code yX6_known cX6_known 4 (some .int)], wsX6_known_r1, wsX6_known_r2, wsX6_known_r3, wsX6_known_r4, wsX60, wsX30, wsX00, wsX20, wsX50, (vx_atS RX6 306 "java/lang/IndexOutOfBoundsException" ["java/lang/RuntimeException", "java/lang/Exception"]).filter goodWord, (vx_atS RX6 317 "java/lang/IllegalArgumentException" ["java/lang/RuntimeException", "java/lang/Exception"]).filter goodWord]
theorem seX6_known : sgX6_known.flatten = wsX6_known := by simp only [sgX6_known, wsX6_known, List.flatten_cons, List.flatten_nil, List.append_assoc, List.append_nil, List.cons_append, List.nil_append]
set_option maxRecDepth 20000 in
theorem ggX6_known_X6_sourceOf : GoodIn wsX6_known wsX6_sourceOf := goodIn_ca (goodIn_s seX6_known _ [pq_1_7, pq_1_8, pq_1_9, pq_1_10, pq_1_1, pq_1_2, pq_5_0, pq_5_1, pq_5_2, pq_5_3, pq_5_4, pq_5_5, pq_5_6, pq_5_7, pq_5_8, pq_5_9, pq_5_10, pq_5_11, pq_5_12, pq_5_13] (by rfl) (by decide +kernel)) (goodIn_sub (fun _ h => List.mem_cons_of_mem _ (List.mem_append_left _ (List.mem_append_right _ h))) (by decide +kernel))
set_option maxRecDepth 20000 in
theorem gX6_known_X6_sourceOf : GoodIn wsX6_known (wsV RX6 156 RX6 yX6_sourceOf wsX6_sourceOf) := goodIn_app (goodIn_s seX6_known _ [pq_1_3, pq_1_4, pq_1_5, pq_1_6] (by rfl) (by decide +kernel)) ggX6_known_X6_sourceOf
set_option maxRecDepth 20000 in
theorem ggX6_known_X6_requireWithin : GoodIn wsX6_known wsX6_requireWithin := goodIn_ca (goodIn_s seX6_known _ [pq_1_13, pq_1_14, pq_1_15] (by rfl) (by decide +kernel)) (goodIn_sub (fun _ h => List.mem_cons_of_mem _ (List.mem_append_right _ h)) (by decide +kernel))
set_option maxRecDepth 20000 in
theorem gX6_known_X6_requireWithin : GoodIn wsX6_known (va_wsS RX6 66 yX6_requireWithin wsX6_requireWithin) := goodIn_app (goodIn_s seX6_known _ [pq_1_11, pq_1_12, pq_1_6] (by rfl) (by decide +kernel)) ggX6_known_X6_requireWithin
set_option maxRecDepth 20000 in
theorem ggX6_known_X3_seek : GoodIn wsX6_known wsX3_seek := goodIn_s seX6_known _ [pq_1_20, pq_1_21, pq_1_22, pq_1_23, pq_2_0, pq_2_1, pq_2_2, pq_2_3, pq_2_4, pq_2_5, pq_2_6, pq_2_7, pq_2_8, pq_2_9, pq_2_10, pq_2_11, pq_2_12, pq_2_13, pq_2_14, pq_2_15, pq_2_16, pq_2_17, pq_2_18, pq_2_19, pq_2_20, pq_2_21, pq_2_22, pq_2_23, pq_3_0, pq_3_1, pq_3_2, pq_3_3, pq_3_4, pq_3_5, pq_3_6, pq_3_7, pq_3_8, pq_3_9, pq_3_10, pq_3_11, pq_3_12, pq_3_13, pq_3_14, pq_3_15, pq_3_16, pq_3_17, pq_3_18, pq_3_19, pq_3_20, pq_1_19, pq_3_21, pq_3_22, pq_3_23, pq_4_0, pq_6_0, pq_6_1, pq_6_2, pq_7_0, pq_7_1, pq_7_2, pq_8_0, pq_8_1, pq_9_0, pq_9_1, pq_9_2, pq_9_3, pq_9_4, pq_9_5] (by rfl) gw_wsX3_seek
set_option maxRecDepth 20000 in
theorem gX6_known_X3_seek : GoodIn wsX6_known (wsV RX6 220 RX3 yX3_seek wsX3_seek) := goodIn_app (goodIn_s seX6_known _ [pq_1_16, pq_1_17, pq_1_18, pq_1_19] (by rfl) (by decide +kernel)) ggX6_known_X3_seek
set_option maxRecDepth 20000 in
theorem ggX6_known_X3_foundAt : GoodIn wsX6_known wsX3_foundAt := goodIn_s seX6_known _ [pq_4_4, pq_1_21, pq_3_22, pq_6_0, pq_6_1, pq_6_2] (by rfl) gw_wsX3_foundAt
set_option maxRecDepth 20000 in
theorem gX6_known_X3_foundAt : GoodIn wsX6_known (wsV RX6 224 RX3 yX3_foundAt wsX3_foundAt) := goodIn_app (goodIn_s seX6_known _ [pq_4_1, pq_4_2, pq_4_3, pq_1_19] (by rfl) (by decide +kernel)) ggX6_known_X3_foundAt
noncomputable def sgX6_held : List (List Cond) := [[.code yX6_held cX6_held 1 (some (.object "java/lang/String"))], wsX6_held_r1, wsX6_held_r2, wsX6_held_r3, wsX6_held_r4, wsX6_held_r5, wsX6_held_r6, wsX6_held_r7, wsX6_held_r8, wsX6_held_r9, wsX60, wsX10, wsJ40, wsX20, wsX50, wsJ00]
theorem seX6_held : sgX6_held.flatten = wsX6_held := by simp only [sgX6_held, wsX6_held, List.flatten_cons, List.flatten_nil, List.append_assoc, List.append_nil, List.cons_append, List.nil_append]
set_option maxRecDepth 20000 in
theorem ggX6_held_X6_spelled : GoodIn wsX6_held wsX6_spelled := goodIn_s seX6_held _ [pq_1_4, pq_1_5, pq_1_6, pq_1_7, pq_1_8, pq_1_9, pq_1_10, pq_1_11, pq_1_12, pq_1_13, pq_1_14, pq_1_15, pq_1_16, pq_1_17, pq_1_18, pq_1_19, pq_1_20, pq_1_21, pq_1_22, pq_1_23, pq_2_0, pq_2_1, pq_2_2, pq_2_3, pq_2_4, pq_2_5, pq_2_6, pq_2_7, pq_2_8, pq_2_9, pq_2_10, pq_2_11, pq_2_12, pq_2_13, pq_2_14, pq_2_15, pq_2_16, pq_2_17, pq_2_18, pq_2_19, pq_2_20, pq_2_21, pq_2_22, pq_2_23, pq_3_0, pq_3_1, pq_3_2, pq_3_3, pq_3_4, pq_3_5, pq_3_6, pq_3_7, pq_3_8, pq_3_9, pq_3_10, pq_3_11, pq_3_12, pq_3_13, pq_3_14, pq_3_15, pq_3_16, pq_3_17, pq_3_18, pq_3_19, pq_3_20, pq_3_21, pq_3_22, pq_3_23, pq_4_0, pq_4_1, pq_4_2, pq_4_3, pq_4_4, pq_4_5, pq_4_6, pq_4_7, pq_4_8, pq_4_9, pq_4_10, pq_4_11, pq_4_12, pq_4_13, pq_4_14, pq_4_15, pq_4_16, pq_4_17, pq_4_18, pq_4_19, pq_4_20, pq_4_21, pq_4_22, pq_4_23, pq_5_0, pq_5_1, pq_5_2, pq_5_3, pq_5_4, pq_5_5, pq_5_6, pq_5_7, pq_5_8, pq_5_9, pq_5_10, pq_5_11, pq_5_12, pq_5_13, pq_5_14, pq_5_15, pq_5_16, pq_5_17, pq_5_18, pq_5_19, pq_5_20, pq_5_21, pq_5_22, pq_5_23, pq_6_0, pq_6_1, pq_6_2, pq_6_3, pq_6_4, pq_6_5, pq_6_6, pq_6_7, pq_6_8, pq_6_9, pq_6_10, pq_6_11, pq_6_12, pq_6_13, pq_6_14, pq_6_15, pq_6_16, pq_6_17, pq_6_18, pq_6_19, pq_6_20, pq_6_21, pq_6_22, pq_6_23, pq_7_0, pq_7_1, pq_7_2, pq_7_3, pq_7_4, pq_7_5, pq_7_6, pq_7_7, pq_7_8, pq_7_9, pq_7_10, pq_7_11, pq_7_12, pq_7_13, pq_7_14, pq_7_15, pq_7_16, pq_7_17, pq_7_18, pq_7_19, pq_7_20, pq_7_21, pq_7_22, pq_7_23, pq_8_0, pq_8_1, pq_8_2, pq_8_3, pq_8_4, pq_8_5, pq_8_6, pq_8_7, pq_8_8, pq_8_9, pq_8_10, pq_8_11, pq_8_12, pq_8_13, pq_8_14, pq_8_15, pq_8_16, pq_8_17, pq_8_18, pq_8_19, pq_8_20, pq_8_21, pq_8_22, pq_8_23, pq_9_0, pq_9_1, pq_9_2, pq_9_3, pq_9_4, pq_9_5, pq_9_6, pq_9_7, pq_9_8, pq_9_9, pq_9_10, pq_9_11, pq_9_12, pq_9_13, pq_9_14, pq_9_15, pq_9_16, pq_9_17, pq_9_18, pq_9_19, pq_9_20, pq_9_21, pq_9_22, pq_9_23, pq_12_0, pq_12_1, pq_12_2, pq_12_3, pq_13_0, pq_13_1, pq_14_0, pq_14_1, pq_14_2, pq_14_3, pq_14_4, pq_14_5, pq_15_0, pq_15_1, pq_15_2, pq_15_3] (by rfl) gw_wsX6_spelled
set_option maxRecDepth 20000 in
theorem gX6_held_X6_spelled : GoodIn wsX6_held (va_wsS RX6 216 yX6_spelled wsX6_spelled) := goodIn_app (goodIn_s seX6_held _ [pq_1_1, pq_1_2, pq_1_3] (by rfl) (by decide +kernel)) ggX6_held_X6_spelled
noncomputable def sgX6_travelled : List (List Cond) := [[.code yX6_travelled cX6_travelled 2 (some (.object "java/lang/String"))], wsX6_travelled_r1, wsX6_travelled_r2, wsX6_travelled_r3, wsX6_travelled_r4, wsX6_travelled_r5, wsX6_travelled_r6, wsX6_travelled_r7, wsX6_travelled_r8, wsX6_travelled_r9, wsX6_travelled_r10, wsX60, wsX10, wsJ40, wsX20, wsX50, wsJ00, (vx_atS RX6 317 "java/lang/IllegalArgumentException" ["java/lang/RuntimeException", "java/lang/Exception"]).filter goodWord]
theorem seX6_travelled : sgX6_travelled.flatten = wsX6_travelled := by simp only [sgX6_travelled, wsX6_travelled, List.flatten_cons, List.flatten_nil, List.append_assoc, List.append_nil, List.cons_append, List.nil_append]
set_option maxRecDepth 20000 in
theorem ggX6_travelled_X6_requireWithin : GoodIn wsX6_travelled wsX6_requireWithin := goodIn_ca (goodIn_s seX6_travelled _ [pq_1_4, pq_1_5, pq_1_6] (by rfl) (by decide +kernel)) (goodIn_sub (fun _ h => List.mem_cons_of_mem _ (List.mem_append_right _ h)) (by decide +kernel))
set_option maxRecDepth 20000 in
theorem gX6_travelled_X6_requireWithin : GoodIn wsX6_travelled (va_wsS RX6 66 yX6_requireWithin wsX6_requireWithin) := goodIn_app (goodIn_s seX6_travelled _ [pq_1_1, pq_1_2, pq_1_3] (by rfl) (by decide +kernel)) ggX6_travelled_X6_requireWithin
set_option maxRecDepth 20000 in
theorem ggX6_travelled_X6_spelled : GoodIn wsX6_travelled wsX6_spelled := goodIn_s seX6_travelled _ [pq_1_9, pq_1_10, pq_1_11, pq_1_12, pq_1_13, pq_1_14, pq_1_15, pq_1_16, pq_1_17, pq_1_18, pq_1_19, pq_1_20, pq_1_21, pq_1_22, pq_1_23, pq_2_0, pq_2_1, pq_2_2, pq_2_3, pq_2_4, pq_2_5, pq_2_6, pq_2_7, pq_2_8, pq_2_9, pq_2_10, pq_2_11, pq_2_12, pq_2_13, pq_2_14, pq_2_15, pq_2_16, pq_2_17, pq_2_18, pq_2_19, pq_2_20, pq_2_21, pq_2_22, pq_2_23, pq_3_0, pq_3_1, pq_3_2, pq_3_3, pq_3_4, pq_3_5, pq_3_6, pq_3_7, pq_3_8, pq_3_9, pq_3_10, pq_3_11, pq_3_12, pq_3_13, pq_3_14, pq_3_15, pq_3_16, pq_3_17, pq_3_18, pq_3_19, pq_3_20, pq_3_21, pq_3_22, pq_3_23, pq_4_0, pq_4_1, pq_4_2, pq_4_3, pq_4_4, pq_4_5, pq_4_6, pq_4_7, pq_4_8, pq_4_9, pq_4_10, pq_4_11, pq_4_12, pq_4_13, pq_4_14, pq_4_15, pq_4_16, pq_4_17, pq_4_18, pq_4_19, pq_4_20, pq_4_21, pq_4_22, pq_4_23, pq_5_0, pq_5_1, pq_5_2, pq_5_3, pq_5_4, pq_5_5, pq_5_6, pq_5_7, pq_5_8, pq_5_9, pq_5_10, pq_5_11, pq_5_12, pq_5_13, pq_5_14, pq_5_15, pq_5_16, pq_5_17, pq_5_18, pq_5_19, pq_5_20, pq_5_21, pq_5_22, pq_5_23, pq_6_0, pq_6_1, pq_6_2, pq_6_3, pq_6_4, pq_6_5, pq_6_6, pq_6_7, pq_6_8, pq_6_9, pq_6_10, pq_6_11, pq_6_12, pq_6_13, pq_6_14, pq_6_15, pq_6_16, pq_6_17, pq_6_18, pq_6_19, pq_6_20, pq_6_21, pq_6_22, pq_6_23, pq_7_0, pq_7_1, pq_7_2, pq_7_3, pq_7_4, pq_7_5, pq_7_6, pq_7_7, pq_7_8, pq_7_9, pq_7_10, pq_7_11, pq_7_12, pq_7_13, pq_7_14, pq_7_15, pq_7_16, pq_7_17, pq_7_18, pq_7_19, pq_7_20, pq_7_21, pq_7_22, pq_7_23, pq_8_0, pq_8_1, pq_8_2, pq_8_3, pq_8_4, pq_8_5, pq_8_6, pq_8_7, pq_8_8, pq_8_9, pq_8_10, pq_8_11, pq_8_12, pq_8_13, pq_8_14, pq_8_15, pq_8_16, pq_8_17, pq_8_18, pq_8_19, pq_8_20, pq_8_21, pq_8_22, pq_8_23, pq_9_0, pq_9_1, pq_9_2, pq_9_3, pq_9_4, pq_9_5, pq_9_6, pq_9_7, pq_9_8, pq_9_9, pq_9_10, pq_9_11, pq_9_12, pq_9_13, pq_9_14, pq_9_15, pq_9_16, pq_9_17, pq_9_18, pq_9_19, pq_9_20, pq_9_21, pq_9_22, pq_9_23, pq_10_0, pq_10_1, pq_10_2, pq_10_3, pq_10_4, pq_13_0, pq_13_1, pq_13_2, pq_13_3, pq_14_0, pq_14_1, pq_15_0, pq_15_1, pq_15_2, pq_15_3, pq_15_4, pq_15_5, pq_16_0, pq_16_1, pq_16_2, pq_16_3] (by rfl) gw_wsX6_spelled
set_option maxRecDepth 20000 in
theorem gX6_travelled_X6_spelled : GoodIn wsX6_travelled (va_wsS RX6 216 yX6_spelled wsX6_spelled) := goodIn_app (goodIn_s seX6_travelled _ [pq_1_7, pq_1_8, pq_1_3] (by rfl) (by decide +kernel)) ggX6_travelled_X6_spelled
noncomputable def sgX6_house : List (List Cond) := [[.code yX6_house cX6_house 2 (some .int)], [.methodLink RX6 66 yX6_requireWithin, .static yX6_requireWithin, .initialized RX6, .code yX6_requireWithin cX6_requireWithin 3 none, .classLink RX6 313 "java/lang/IllegalArgumentException", .initialized "java/lang/IllegalArgumentException", .methodLink RX6 259 yX6_counted, .instanceMethod yX6_counted, .selects RX6 yX6_counted yX6_counted, .code yX6_counted cX6_counted 2 (some .int), .fieldLink RX6 328 "Sashwords" "actsDone" "I", .fieldLink RX6 331 "Sashwords" "actsRefused" "I", .fieldLink RX6 262 "Sashwords" "knocks" "I", .fieldLink RX6 203 "Sashwords" "rounds" "I"], wsX60, (vx_atS RX6 317 "java/lang/IllegalArgumentException" ["java/lang/RuntimeException", "java/lang/Exception"]).filter goodWord]
theorem seX6_house : sgX6_house.flatten = wsX6_house := by simp only [sgX6_house, wsX6_house, List.flatten_cons, List.flatten_nil, List.append_assoc, List.append_nil, List.cons_append, List.nil_append]
set_option maxRecDepth 20000 in
theorem ggX6_house_X6_requireWithin : GoodIn wsX6_house wsX6_requireWithin := goodIn_ca (goodIn_s seX6_house _ [pq_1_3, pq_1_4, pq_1_5] (by rfl) (by decide +kernel)) (goodIn_sub (fun _ h => List.mem_cons_of_mem _ (List.mem_append_right _ h)) (by decide +kernel))
set_option maxRecDepth 20000 in
theorem gX6_house_X6_requireWithin : GoodIn wsX6_house (va_wsS RX6 66 yX6_requireWithin wsX6_requireWithin) := goodIn_app (goodIn_s seX6_house _ [pq_1_0, pq_1_1, pq_1_2] (by rfl) (by decide +kernel)) ggX6_house_X6_requireWithin
set_option maxRecDepth 20000 in
theorem ggX6_house_X6_counted : GoodIn wsX6_house wsX6_counted := goodIn_s seX6_house _ [pq_1_9, pq_1_10, pq_1_11, pq_1_12, pq_1_13, pq_2_0, pq_2_1, pq_2_2, pq_2_3, pq_2_4, pq_2_5, pq_2_6, pq_2_7, pq_2_8, pq_2_9, pq_2_10, pq_2_11, pq_2_12, pq_2_13] (by rfl) gw_wsX6_counted
set_option maxRecDepth 20000 in
theorem gX6_house_X6_counted : GoodIn wsX6_house (wsV RX6 259 RX6 yX6_counted wsX6_counted) := goodIn_app (goodIn_s seX6_house _ [pq_1_6, pq_1_7, pq_1_8, pq_1_2] (by rfl) (by decide +kernel)) ggX6_house_X6_counted
noncomputable def sgX6_isSound : List (List Cond) := [[.code yX6_isSound cX6_isSound 2 (some .boolean)], wsX6_isSound_r1, wsX6_isSound_r2, wsX6_isSound_r3, wsX6_isSound_r4, wsX6_isSound_r5, wsX6_isSound_r6, wsX6_isSound_r7, wsX6_isSound_r8, wsX60, wsX50, wsX20, wsX30, wsX00, wsX10]
theorem seX6_isSound : sgX6_isSound.flatten = wsX6_isSound := by simp only [sgX6_isSound, wsX6_isSound, List.flatten_cons, List.flatten_nil, List.append_assoc, List.append_nil, List.cons_append, List.nil_append]
set_option maxRecDepth 20000 in
theorem ggX6_isSound_X5_isOrdered : GoodIn wsX6_isSound wsX5_isOrdered := goodIn_s seX6_isSound _ [pq_1_6, pq_1_7, pq_1_8, pq_1_9, pq_1_10, pq_10_0, pq_10_1, pq_10_2, pq_10_3, pq_10_4, pq_10_5] (by rfl) gw_wsX5_isOrdered
set_option maxRecDepth 20000 in
theorem gX6_isSound_X5_isOrdered : GoodIn wsX6_isSound (wsV RX6 265 RX5 yX5_isOrdered wsX5_isOrdered) := goodIn_app (goodIn_s seX6_isSound _ [pq_1_2, pq_1_3, pq_1_4, pq_1_5] (by rfl) (by decide +kernel)) ggX6_isSound_X5_isOrdered
set_option maxRecDepth 20000 in
theorem ggX6_isSound_X6_readsAlike : GoodIn wsX6_isSound wsX6_readsAlike := goodIn_s seX6_isSound _ [pq_1_15, pq_1_16, pq_1_17, pq_1_18, pq_1_19, pq_1_20, pq_1_14, pq_1_21, pq_1_22, pq_1_23, pq_2_0, pq_2_1, pq_2_2, pq_2_3, pq_2_4, pq_2_5, pq_2_6, pq_2_7, pq_2_8, pq_2_9, pq_2_10, pq_2_11, pq_2_12, pq_2_13, pq_2_14, pq_2_15, pq_1_5, pq_2_16, pq_1_9, pq_1_8, pq_2_17, pq_2_18, pq_2_19, pq_2_20, pq_2_21, pq_2_22, pq_2_23, pq_3_0, pq_3_1, pq_3_2, pq_3_3, pq_3_4, pq_3_5, pq_3_6, pq_3_7, pq_3_8, pq_3_9, pq_3_10, pq_3_11, pq_3_12, pq_3_13, pq_3_14, pq_3_15, pq_3_16, pq_3_17, pq_1_10, pq_1_7, pq_3_18, pq_3_19, pq_3_20, pq_3_21, pq_3_22, pq_3_23, pq_4_0, pq_4_1, pq_4_2, pq_4_3, pq_4_4, pq_4_5, pq_4_6, pq_4_7, pq_4_8, pq_4_9, pq_4_10, pq_4_11, pq_4_12, pq_4_13, pq_4_14, pq_4_15, pq_9_0, pq_9_1, pq_9_2, pq_9_3, pq_9_4, pq_9_5, pq_9_6, pq_9_7, pq_9_8, pq_9_9, pq_9_10, pq_9_11, pq_9_12, pq_9_13, pq_10_0, pq_10_1, pq_10_2, pq_10_3, pq_10_4, pq_10_5, pq_11_0, pq_11_1] (by rfl) gw_wsX6_readsAlike
set_option maxRecDepth 20000 in
theorem gX6_isSound_X6_readsAlike : GoodIn wsX6_isSound (wsV RX6 269 RX6 yX6_readsAlike wsX6_readsAlike) := goodIn_app (goodIn_s seX6_isSound _ [pq_1_11, pq_1_12, pq_1_13, pq_1_14] (by rfl) (by decide +kernel)) ggX6_isSound_X6_readsAlike
set_option maxRecDepth 20000 in
theorem ggX6_isSound_X6_keptLiesAlike : GoodIn wsX6_isSound wsX6_keptLiesAlike := goodIn_s seX6_isSound _ [pq_4_19, pq_1_16, pq_4_20, pq_4_21, pq_4_22, pq_4_23, pq_5_0, pq_5_1, pq_2_2, pq_5_2, pq_5_3, pq_2_0, pq_2_1, pq_2_3, pq_2_4, pq_5_4, pq_2_6, pq_2_7, pq_2_8, pq_2_9, pq_2_10, pq_2_11, pq_2_12, pq_2_13, pq_2_14, pq_2_15, pq_1_5, pq_2_16, pq_1_9, pq_1_8, pq_2_17, pq_2_18, pq_2_19, pq_2_20, pq_2_21, pq_2_22, pq_2_23, pq_3_0, pq_3_1, pq_3_2, pq_3_3, pq_3_4, pq_3_5, pq_3_6, pq_3_7, pq_3_8, pq_3_9, pq_3_10, pq_3_11, pq_5_5, pq_5_6, pq_5_7, pq_5_8, pq_5_9, pq_5_10, pq_5_11, pq_5_12, pq_5_13, pq_5_14, pq_5_15, pq_5_16, pq_5_17, pq_5_18, pq_5_19, pq_5_20, pq_5_21, pq_5_22, pq_5_23, pq_6_0, pq_6_1, pq_6_2, pq_6_3, pq_6_4, pq_6_5, pq_6_6, pq_6_7, pq_6_8, pq_6_9, pq_6_10, pq_6_11, pq_6_12, pq_6_13, pq_6_14, pq_6_15, pq_9_0, pq_9_1, pq_9_2, pq_9_3, pq_9_4, pq_9_5, pq_9_6, pq_9_7, pq_9_8, pq_9_9, pq_9_10, pq_9_11, pq_9_12, pq_9_13, pq_12_0, pq_12_1, pq_12_2, pq_11_0, pq_11_1, pq_10_0, pq_10_1, pq_10_2, pq_10_3, pq_10_4, pq_10_5, pq_13_0, pq_13_1, pq_13_2] (by rfl) gw_wsX6_keptLiesAlike
set_option maxRecDepth 20000 in
theorem gX6_isSound_X6_keptLiesAlike : GoodIn wsX6_isSound (wsV RX6 273 RX6 yX6_keptLiesAlike wsX6_keptLiesAlike) := goodIn_app (goodIn_s seX6_isSound _ [pq_4_16, pq_4_17, pq_4_18, pq_1_14] (by rfl) (by decide +kernel)) ggX6_isSound_X6_keptLiesAlike
set_option maxRecDepth 20000 in
theorem ggX6_isSound_X6_builderIsSearchedRightly : GoodIn wsX6_isSound wsX6_builderIsSearchedRightly := goodIn_s seX6_isSound _ [pq_6_19, pq_4_20, pq_6_20, pq_4_21, pq_5_5, pq_5_6, pq_5_7, pq_5_8, pq_5_9, pq_5_10, pq_5_11, pq_5_12, pq_5_13, pq_5_14, pq_5_15, pq_5_16, pq_5_17, pq_5_18, pq_2_10, pq_2_11, pq_2_12, pq_2_2, pq_2_13, pq_2_4, pq_2_14, pq_2_15, pq_1_5, pq_2_16, pq_1_9, pq_1_8, pq_5_19, pq_2_18, pq_2_19, pq_2_20, pq_2_21, pq_2_22, pq_2_23, pq_3_0, pq_3_1, pq_3_2, pq_3_3, pq_3_4, pq_3_5, pq_3_6, pq_3_7, pq_5_20, pq_5_21, pq_5_22, pq_5_23, pq_6_0, pq_6_1, pq_6_2, pq_6_3, pq_6_4, pq_6_5, pq_6_6, pq_6_7, pq_6_8, pq_6_9, pq_6_10, pq_6_11, pq_6_21, pq_6_22, pq_6_23, pq_7_0, pq_1_14, pq_7_1, pq_4_14, pq_4_15, pq_6_12, pq_6_13, pq_6_14, pq_6_15, pq_9_0, pq_9_1, pq_9_2, pq_9_3, pq_9_4, pq_9_5, pq_9_6, pq_9_7, pq_9_8, pq_9_9, pq_9_10, pq_9_11, pq_9_12, pq_9_13, pq_12_0, pq_12_1, pq_12_2, pq_13_0, pq_13_1, pq_13_2, pq_11_0, pq_11_1, pq_10_0, pq_10_1, pq_10_2, pq_10_3, pq_10_4, pq_10_5] (by rfl) gw_wsX6_builderIsSearchedRightly
set_option maxRecDepth 20000 in
theorem gX6_isSound_X6_builderIsSearchedRightly : GoodIn wsX6_isSound (wsV RX6 276 RX6 yX6_builderIsSearchedRightly wsX6_builderIsSearchedRightly) := goodIn_app (goodIn_s seX6_isSound _ [pq_6_16, pq_6_17, pq_6_18, pq_1_14] (by rfl) (by decide +kernel)) ggX6_isSound_X6_builderIsSearchedRightly
set_option maxRecDepth 20000 in
theorem ggX6_isSound_X6_builderChainIsRight : GoodIn wsX6_isSound wsX6_builderChainIsRight := goodIn_s seX6_isSound _ [pq_7_5, pq_7_6, pq_6_20, pq_7_7, pq_7_8, pq_7_9, pq_5_15, pq_7_10, pq_7_11, pq_7_12, pq_7_13, pq_5_13, pq_5_14, pq_5_16, pq_5_17, pq_5_18, pq_2_10, pq_2_11, pq_2_12, pq_2_2, pq_2_13, pq_2_4, pq_2_14, pq_2_15, pq_1_5, pq_2_16, pq_1_9, pq_1_8, pq_5_19, pq_2_18, pq_2_19, pq_2_20, pq_2_21, pq_2_22, pq_2_23, pq_3_0, pq_3_1, pq_3_2, pq_3_3, pq_3_4, pq_3_5, pq_3_6, pq_3_7, pq_5_20, pq_5_21, pq_5_22, pq_5_23, pq_6_0, pq_6_1, pq_6_2, pq_6_3, pq_6_21, pq_6_22, pq_6_23, pq_7_0, pq_1_14, pq_7_1, pq_4_14, pq_4_15, pq_7_14, pq_7_15, pq_7_16, pq_7_17, pq_9_0, pq_9_1, pq_9_2, pq_9_3, pq_9_4, pq_9_5, pq_9_6, pq_9_7, pq_9_8, pq_9_9, pq_9_10, pq_9_11, pq_9_12, pq_9_13, pq_13_0, pq_13_1, pq_13_2, pq_11_0, pq_11_1, pq_10_0, pq_10_1, pq_10_2, pq_10_3, pq_10_4, pq_10_5] (by rfl) gw_wsX6_builderChainIsRight
set_option maxRecDepth 20000 in
theorem gX6_isSound_X6_builderChainIsRight : GoodIn wsX6_isSound (wsV RX6 279 RX6 yX6_builderChainIsRight wsX6_builderChainIsRight) := goodIn_app (goodIn_s seX6_isSound _ [pq_7_2, pq_7_3, pq_7_4, pq_1_14] (by rfl) (by decide +kernel)) ggX6_isSound_X6_builderChainIsRight
set_option maxRecDepth 20000 in
theorem ggX6_isSound_X1_isWhole : GoodIn wsX6_isSound wsX1_isWhole := goodIn_s seX6_isSound _ [pq_7_22, pq_7_23, pq_8_0, pq_8_1, pq_8_2, pq_2_12, pq_6_22, pq_2_2, pq_2_13, pq_2_4, pq_7_0, pq_1_14, pq_7_1, pq_4_14, pq_2_10, pq_2_11, pq_2_14, pq_2_15, pq_1_5, pq_2_16, pq_1_9, pq_1_8, pq_4_15, pq_2_18, pq_2_19, pq_2_20, pq_2_21, pq_2_22, pq_2_23, pq_3_0, pq_3_1, pq_3_2, pq_3_3, pq_3_4, pq_3_5, pq_3_6, pq_3_7, pq_14_0, pq_14_1, pq_14_2, pq_14_3, pq_11_0, pq_11_1, pq_10_0, pq_10_1, pq_10_2, pq_10_3, pq_10_4, pq_10_5] (by rfl) gw_wsX1_isWhole
set_option maxRecDepth 20000 in
theorem gX6_isSound_X1_isWhole : GoodIn wsX6_isSound (wsV RX6 282 RX1 yX1_isWhole wsX1_isWhole) := goodIn_app (goodIn_s seX6_isSound _ [pq_7_18, pq_7_19, pq_7_20, pq_7_21] (by rfl) (by decide +kernel)) ggX6_isSound_X1_isWhole
noncomputable def sgX6_digest : List (List Cond) := [[.code yX6_digest cX6_digest 4 (some .long)], wsX6_digest_r1, wsX6_digest_r2, wsX6_digest_r3, wsX6_digest_r4, wsX6_digest_r5, wsX6_digest_r6, wsX6_digest_r7, wsX6_digest_r8, wsX6_digest_r9, wsX60, wsX30, wsX10, wsX50, wsX20, wsX00]
theorem seX6_digest : sgX6_digest.flatten = wsX6_digest := by simp only [sgX6_digest, wsX6_digest, List.flatten_cons, List.flatten_nil, List.append_assoc, List.append_nil, List.cons_append, List.nil_append]
set_option maxRecDepth 20000 in
theorem ggX6_digest_X6_mixedWithWindow : GoodIn wsX6_digest wsX6_mixedWithWindow := goodIn_s seX6_digest _ [pq_1_10, pq_1_4, pq_1_3, pq_1_11, pq_1_12, pq_1_9, pq_1_13, pq_1_14, pq_1_15, pq_1_16, pq_1_17, pq_1_18, pq_1_19, pq_1_20, pq_1_21, pq_1_22, pq_1_23, pq_2_0, pq_2_1, pq_2_2, pq_2_3, pq_2_4, pq_2_5, pq_2_6, pq_2_7, pq_2_8, pq_2_9, pq_2_10, pq_2_11, pq_2_12, pq_2_13, pq_2_14, pq_2_15, pq_2_16, pq_2_17, pq_2_18, pq_2_19, pq_2_20, pq_2_21, pq_2_22, pq_2_23, pq_3_0, pq_3_1, pq_3_2, pq_3_3, pq_3_4, pq_3_5, pq_3_6, pq_3_7, pq_3_8, pq_3_9, pq_3_10, pq_3_11, pq_3_12, pq_3_13, pq_3_14, pq_3_15, pq_3_16, pq_3_17, pq_3_18, pq_3_19, pq_3_20, pq_3_21, pq_3_22, pq_3_23, pq_4_0, pq_4_1, pq_4_2, pq_4_3, pq_4_4, pq_4_5, pq_4_6, pq_4_7, pq_4_8, pq_4_9, pq_4_10, pq_4_11, pq_4_12, pq_4_13, pq_4_14, pq_4_15, pq_13_0, pq_13_1, pq_13_2, pq_13_3, pq_13_4, pq_13_5, pq_10_0, pq_10_1, pq_10_2, pq_10_3, pq_10_4, pq_10_5, pq_10_6, pq_10_7, pq_10_8, pq_10_9, pq_10_10, pq_10_11, pq_10_12, pq_10_13, pq_14_0, pq_14_1, pq_15_0, pq_15_1, pq_15_2, pq_11_0, pq_11_1, pq_11_2] (by rfl) gw_wsX6_mixedWithWindow
set_option maxRecDepth 20000 in
theorem gX6_digest_X6_mixedWithWindow : GoodIn wsX6_digest (wsV RX6 287 RX6 yX6_mixedWithWindow wsX6_mixedWithWindow) := goodIn_app (goodIn_s seX6_digest _ [pq_1_6, pq_1_7, pq_1_8, pq_1_9] (by rfl) (by decide +kernel)) ggX6_digest_X6_mixedWithWindow
set_option maxRecDepth 20000 in
theorem ggX6_digest_X2_size : GoodIn wsX6_digest wsX2_size := goodIn_s seX6_digest _ [pq_1_23, pq_2_0, pq_14_0, pq_14_1] (by rfl) gw_wsX2_size
set_option maxRecDepth 20000 in
theorem gX6_digest_X2_size : GoodIn wsX6_digest (wsV RX6 164 RX2 yX2_size wsX2_size) := goodIn_app (goodIn_s seX6_digest _ [pq_4_16, pq_1_21, pq_4_17, pq_1_22] (by rfl) (by decide +kernel)) ggX6_digest_X2_size
set_option maxRecDepth 20000 in
theorem ggX6_digest_X6_mixed : GoodIn wsX6_digest wsX6_mixed := goodIn_s seX6_digest _ [pq_1_13, pq_1_14] (by rfl) gw_wsX6_mixed
set_option maxRecDepth 20000 in
theorem gX6_digest_X6_mixed : GoodIn wsX6_digest (va_wsS RX6 291 yX6_mixed wsX6_mixed) := goodIn_app (goodIn_s seX6_digest _ [pq_1_11, pq_1_12, pq_1_9] (by rfl) (by decide +kernel)) ggX6_digest_X6_mixed
set_option maxRecDepth 20000 in
theorem ggX6_digest_X6_mixedWithText : GoodIn wsX6_digest wsX6_mixedWithText := goodIn_s seX6_digest _ [pq_1_17, pq_1_18, pq_1_19, pq_1_20, pq_1_21, pq_1_22, pq_1_23, pq_2_0, pq_2_1, pq_2_2, pq_2_3, pq_2_4, pq_2_5, pq_2_6, pq_2_7, pq_2_8, pq_2_9, pq_2_10, pq_2_11, pq_2_12, pq_2_13, pq_2_14, pq_2_15, pq_2_16, pq_2_17, pq_2_18, pq_2_19, pq_2_20, pq_2_21, pq_1_11, pq_1_12, pq_1_9, pq_1_13, pq_1_14, pq_14_0, pq_14_1, pq_13_0, pq_13_1, pq_13_2, pq_13_3, pq_13_4, pq_13_5] (by rfl) gw_wsX6_mixedWithText
set_option maxRecDepth 20000 in
theorem gX6_digest_X6_mixedWithText : GoodIn wsX6_digest (va_wsS RX6 295 yX6_mixedWithText wsX6_mixedWithText) := goodIn_app (goodIn_s seX6_digest _ [pq_1_15, pq_1_16, pq_1_9] (by rfl) (by decide +kernel)) ggX6_digest_X6_mixedWithText
set_option maxRecDepth 20000 in
theorem ggX6_digest_X6_greatestBorder : GoodIn wsX6_digest wsX6_greatestBorder := goodIn_s seX6_digest _ [pq_3_1, pq_3_2, pq_3_3, pq_3_4, pq_3_5, pq_3_6, pq_3_7, pq_3_8, pq_3_9, pq_1_19, pq_1_20, pq_1_21, pq_1_22, pq_1_23, pq_2_0, pq_2_1, pq_2_2, pq_2_3, pq_2_4, pq_2_5, pq_2_6, pq_3_10, pq_2_8, pq_2_9, pq_2_10, pq_2_11, pq_2_12, pq_2_13, pq_2_14, pq_2_15, pq_2_16, pq_2_17, pq_2_18, pq_2_19, pq_2_20, pq_2_21, pq_3_11, pq_3_12, pq_3_13, pq_3_14, pq_3_15, pq_3_16, pq_3_17, pq_3_18, pq_1_18, pq_3_19, pq_10_0, pq_10_1, pq_10_2, pq_10_3, pq_10_4, pq_10_5, pq_10_6, pq_10_7, pq_10_8, pq_10_9, pq_10_10, pq_10_11, pq_10_12, pq_10_13, pq_15_0, pq_15_1, pq_15_2, pq_14_0, pq_14_1, pq_13_0, pq_13_1, pq_13_2, pq_13_3, pq_13_4, pq_13_5] (by rfl) gw_wsX6_greatestBorder
set_option maxRecDepth 20000 in
theorem gX6_digest_X6_greatestBorder : GoodIn wsX6_digest (wsV RX6 230 RX6 yX6_greatestBorder wsX6_greatestBorder) := goodIn_app (goodIn_s seX6_digest _ [pq_2_22, pq_2_23, pq_3_0, pq_1_9] (by rfl) (by decide +kernel)) ggX6_digest_X6_greatestBorder
set_option maxRecDepth 20000 in
theorem ggX6_digest_X3_seek : GoodIn wsX6_digest wsX3_seek := goodIn_s seX6_digest _ [pq_4_0, pq_4_1, pq_4_2, pq_4_3, pq_3_4, pq_3_5, pq_3_6, pq_3_7, pq_3_8, pq_3_9, pq_1_19, pq_1_20, pq_1_21, pq_1_22, pq_1_23, pq_2_0, pq_2_1, pq_2_2, pq_2_3, pq_2_4, pq_2_5, pq_2_6, pq_3_10, pq_2_8, pq_2_9, pq_2_10, pq_2_11, pq_2_12, pq_2_13, pq_2_14, pq_2_15, pq_2_16, pq_2_17, pq_2_18, pq_2_19, pq_2_20, pq_2_21, pq_3_11, pq_3_12, pq_3_13, pq_3_14, pq_3_15, pq_3_16, pq_3_17, pq_3_18, pq_4_4, pq_4_5, pq_4_6, pq_4_7, pq_3_23, pq_4_8, pq_4_9, pq_4_10, pq_4_11, pq_11_0, pq_11_1, pq_11_2, pq_15_0, pq_15_1, pq_15_2, pq_14_0, pq_14_1, pq_13_0, pq_13_1, pq_13_2, pq_13_3, pq_13_4, pq_13_5] (by rfl) gw_wsX3_seek
set_option maxRecDepth 20000 in
theorem gX6_digest_X3_seek : GoodIn wsX6_digest (wsV RX6 220 RX3 yX3_seek wsX3_seek) := goodIn_app (goodIn_s seX6_digest _ [pq_3_20, pq_3_21, pq_3_22, pq_3_23] (by rfl) (by decide +kernel)) ggX6_digest_X3_seek
set_option maxRecDepth 20000 in
theorem ggX6_digest_X6_counted : GoodIn wsX6_digest wsX6_counted := goodIn_s seX6_digest _ [pq_4_21, pq_4_22, pq_4_23, pq_5_0, pq_5_1, pq_10_0, pq_10_1, pq_10_2, pq_10_3, pq_10_4, pq_10_5, pq_10_6, pq_10_7, pq_10_8, pq_10_9, pq_10_10, pq_10_11, pq_10_12, pq_10_13] (by rfl) gw_wsX6_counted
set_option maxRecDepth 20000 in
theorem gX6_digest_X6_counted : GoodIn wsX6_digest (wsV RX6 259 RX6 yX6_counted wsX6_counted) := goodIn_app (goodIn_s seX6_digest _ [pq_4_18, pq_4_19, pq_4_20, pq_1_9] (by rfl) (by decide +kernel)) ggX6_digest_X6_counted
set_option maxRecDepth 20000 in
theorem ggX6_digest_X6_isSound : GoodIn wsX6_digest wsX6_isSound := goodIn_s seX6_digest _ [pq_5_5, pq_1_1, pq_1_5, pq_5_6, pq_5_7, pq_5_8, pq_2_3, pq_5_9, pq_5_10, pq_2_6, pq_2_5, pq_5_11, pq_5_12, pq_5_13, pq_5_14, pq_1_9, pq_5_15, pq_5_16, pq_5_17, pq_5_18, pq_5_19, pq_5_20, pq_5_21, pq_5_22, pq_5_23, pq_6_0, pq_6_1, pq_1_22, pq_6_2, pq_2_0, pq_6_3, pq_6_4, pq_6_5, pq_6_6, pq_6_7, pq_1_19, pq_1_20, pq_1_21, pq_1_23, pq_2_1, pq_2_2, pq_2_4, pq_6_8, pq_2_8, pq_2_9, pq_2_10, pq_2_11, pq_2_12, pq_2_13, pq_2_14, pq_2_15, pq_2_16, pq_2_17, pq_2_18, pq_2_19, pq_2_20, pq_2_21, pq_6_9, pq_6_10, pq_6_11, pq_6_12, pq_6_13, pq_6_14, pq_6_15, pq_6_16, pq_6_17, pq_6_18, pq_6_19, pq_6_20, pq_6_21, pq_6_22, pq_6_23, pq_7_0, pq_7_1, pq_7_2, pq_7_3, pq_7_4, pq_7_5, pq_7_6, pq_7_7, pq_7_8, pq_7_9, pq_7_10, pq_7_11, pq_7_12, pq_7_13, pq_7_14, pq_1_18, pq_2_7, pq_7_15, pq_7_16, pq_7_17, pq_7_18, pq_1_4, pq_1_3, pq_7_19, pq_7_20, pq_7_21, pq_7_22, pq_7_23, pq_8_0, pq_8_1, pq_3_20, pq_3_21, pq_3_22, pq_3_23, pq_4_0, pq_4_1, pq_4_2, pq_4_3, pq_3_4, pq_3_5, pq_3_6, pq_3_7, pq_3_8, pq_3_9, pq_3_10, pq_3_11, pq_3_12, pq_3_13, pq_3_14, pq_3_15, pq_3_16, pq_3_17, pq_3_18, pq_4_4, pq_4_5, pq_4_6, pq_4_7, pq_4_8, pq_4_9, pq_4_10, pq_4_11, pq_4_12, pq_4_13, pq_4_14, pq_4_15, pq_8_2, pq_8_3, pq_8_4, pq_8_5, pq_1_2, pq_4_16, pq_4_17, pq_8_6, pq_8_7, pq_8_8, pq_8_9, pq_8_10, pq_8_11, pq_8_12, pq_3_2, pq_8_13, pq_8_14, pq_8_15, pq_8_16, pq_8_17, pq_8_18, pq_8_19, pq_8_20, pq_8_21, pq_8_22, pq_8_23, pq_9_0, pq_9_1, pq_9_2, pq_9_3, pq_9_4, pq_9_5, pq_9_6, pq_9_7, pq_9_8, pq_10_0, pq_10_1, pq_10_2, pq_10_3, pq_10_4, pq_10_5, pq_10_6, pq_10_7, pq_10_8, pq_10_9, pq_10_10, pq_10_11, pq_10_12, pq_10_13, pq_13_0, pq_13_1, pq_13_2, pq_13_3, pq_13_4, pq_13_5, pq_14_0, pq_14_1, pq_11_0, pq_11_1, pq_11_2, pq_15_0, pq_15_1, pq_15_2, pq_12_0, pq_12_1, pq_12_2, pq_12_3] (by rfl) gw_wsX6_isSound
set_option maxRecDepth 20000 in
theorem gX6_digest_X6_isSound : GoodIn wsX6_digest (wsV RX6 299 RX6 yX6_isSound wsX6_isSound) := goodIn_app (goodIn_s seX6_digest _ [pq_5_2, pq_5_3, pq_5_4, pq_1_9] (by rfl) (by decide +kernel)) ggX6_digest_X6_isSound
noncomputable def sgX6_requireLetters : List (List Cond) := [[.code yX6_requireLetters cX6_requireLetters 2 none], [.constant RX6 322 (2147483647), .methodLink RX6 66 yX6_requireWithin, .static yX6_requireWithin, .initialized RX6, .code yX6_requireWithin cX6_requireWithin 3 none, .classLink RX6 313 "java/lang/IllegalArgumentException", .initialized "java/lang/IllegalArgumentException"], (vx_atS RX6 317 "java/lang/IllegalArgumentException" ["java/lang/RuntimeException", "java/lang/Exception"]).filter goodWord]
theorem seX6_requireLetters : sgX6_requireLetters.flatten = wsX6_requireLetters := by simp only [sgX6_requireLetters, wsX6_requireLetters, List.flatten_cons, List.flatten_nil, List.append_assoc, List.append_nil, List.cons_append, List.nil_append]
set_option maxRecDepth 20000 in
theorem ggX6_requireLetters_X6_requireWithin : GoodIn wsX6_requireLetters wsX6_requireWithin := goodIn_ca (goodIn_s seX6_requireLetters _ [pq_1_4, pq_1_5, pq_1_6] (by rfl) (by decide +kernel)) (goodIn_sub (fun _ h => List.mem_cons_of_mem _ (List.mem_append_right _ h)) (by decide +kernel))
set_option maxRecDepth 20000 in
theorem gX6_requireLetters_X6_requireWithin : GoodIn wsX6_requireLetters (va_wsS RX6 66 yX6_requireWithin wsX6_requireWithin) := goodIn_app (goodIn_s seX6_requireLetters _ [pq_1_1, pq_1_2, pq_1_3] (by rfl) (by decide +kernel)) ggX6_requireLetters_X6_requireWithin
noncomputable def sgX6_letIn : List (List Cond) := [[.code yX6_letIn cX6_letIn 5 (some .int)], wsX6_letIn_r1, wsX6_letIn_r2, wsX60, wsX20, wsX50, wsX10]
theorem seX6_letIn : sgX6_letIn.flatten = wsX6_letIn := by simp only [sgX6_letIn, wsX6_letIn, List.flatten_cons, List.flatten_nil, List.append_assoc, List.append_nil, List.cons_append, List.nil_append]
set_option maxRecDepth 20000 in
theorem ggX6_letIn_X2_size : GoodIn wsX6_letIn wsX2_size := goodIn_s seX6_letIn _ [pq_1_6, pq_1_7, pq_4_0, pq_4_1] (by rfl) gw_wsX2_size
set_option maxRecDepth 20000 in
theorem gX6_letIn_X2_size_u165X2 : GoodIn wsX6_letIn (va_wsU RX6 165 RX2 "Sashwords$Text" ⟨"Sashwords$Text", "size", "()I"⟩ yX2_size wsX2_size) := goodIn_app (goodIn_s seX6_letIn _ [pq_1_1, pq_1_2, pq_1_3, pq_1_4, pq_1_5] (by rfl) (by decide +kernel)) ggX6_letIn_X2_size
set_option maxRecDepth 20000 in
theorem ggX6_letIn_X5_size : GoodIn wsX6_letIn wsX5_size := goodIn_s seX6_letIn _ [pq_1_11, pq_1_12, pq_1_13, pq_5_0, pq_5_1, pq_5_2, pq_5_3, pq_5_4, pq_5_5] (by rfl) gw_wsX5_size
set_option maxRecDepth 20000 in
theorem gX6_letIn_X5_size_u165X5 : GoodIn wsX6_letIn (va_wsU RX6 165 RX5 "Sashwords$Text" ⟨"Sashwords$Text", "size", "()I"⟩ yX5_size wsX5_size) := goodIn_app (goodIn_s seX6_letIn _ [pq_1_1, pq_1_2, pq_1_8, pq_1_9, pq_1_10] (by rfl) (by decide +kernel)) ggX6_letIn_X5_size
set_option maxRecDepth 20000 in
theorem ggX6_letIn_X2_at : GoodIn wsX6_letIn wsX2_at := goodIn_s seX6_letIn _ [pq_1_18, pq_1_7, pq_1_19, pq_4_0, pq_4_1] (by rfl) gw_wsX2_at
set_option maxRecDepth 20000 in
theorem gX6_letIn_X2_at_u334X2 : GoodIn wsX6_letIn (va_wsU RX6 334 RX2 "Sashwords$Text" ⟨"Sashwords$Text", "at", "(I)I"⟩ yX2_at wsX2_at) := goodIn_app (goodIn_s seX6_letIn _ [pq_1_14, pq_1_15, pq_1_16, pq_1_17, pq_1_5] (by rfl) (by decide +kernel)) ggX6_letIn_X2_at
set_option maxRecDepth 20000 in
theorem ggX6_letIn_X5_at : GoodIn wsX6_letIn wsX5_at := goodIn_s seX6_letIn _ [pq_1_22, pq_1_12, pq_1_13, pq_1_23, pq_2_0, pq_2_1, pq_1_10, pq_2_2, pq_2_3, pq_2_4, pq_5_0, pq_5_1, pq_5_2, pq_5_3, pq_5_4, pq_5_5] (by rfl) gw_wsX5_at
set_option maxRecDepth 20000 in
theorem gX6_letIn_X5_at_u334X5 : GoodIn wsX6_letIn (va_wsU RX6 334 RX5 "Sashwords$Text" ⟨"Sashwords$Text", "at", "(I)I"⟩ yX5_at wsX5_at) := goodIn_app (goodIn_s seX6_letIn _ [pq_1_14, pq_1_15, pq_1_20, pq_1_21, pq_1_10] (by rfl) (by decide +kernel)) ggX6_letIn_X5_at
set_option maxRecDepth 20000 in
theorem ggX6_letIn_X1_takeIn : GoodIn wsX6_letIn wsX1_takeIn := goodIn_s seX6_letIn _ [pq_2_9, pq_2_10, pq_2_11, pq_2_12, pq_2_13, pq_1_4, pq_2_14, pq_1_5, pq_1_6, pq_1_7, pq_2_15, pq_2_16, pq_2_17, pq_2_18, pq_1_19, pq_2_19, pq_2_20, pq_2_21, pq_2_22, pq_6_0, pq_6_1, pq_6_2, pq_6_3, pq_4_0, pq_4_1] (by rfl) gw_wsX1_takeIn
set_option maxRecDepth 20000 in
theorem gX6_letIn_X1_takeIn : GoodIn wsX6_letIn (wsV RX6 189 RX1 yX1_takeIn wsX1_takeIn) := goodIn_app (goodIn_s seX6_letIn _ [pq_2_5, pq_2_6, pq_2_7, pq_2_8] (by rfl) (by decide +kernel)) ggX6_letIn_X1_takeIn
noncomputable def sgX6_letOut : List (List Cond) := [[.code yX6_letOut cX6_letOut 4 none], wsX6_letOut_r1, wsX6_letOut_r2, wsX6_letOut_r3, wsX6_letOut_r4, wsX6_letOut_r5, wsX6_letOut_r6, wsX6_letOut_r7, wsX60, wsX10, wsX20, wsJ40]
theorem seX6_letOut : sgX6_letOut.flatten = wsX6_letOut := by simp only [sgX6_letOut, wsX6_letOut, List.flatten_cons, List.flatten_nil, List.append_assoc, List.append_nil, List.cons_append, List.nil_append]
set_option maxRecDepth 20000 in
theorem ggX6_letOut_X2_size : GoodIn wsX6_letOut wsX2_size := goodIn_s seX6_letOut _ [pq_1_5, pq_1_6, pq_10_0, pq_10_1] (by rfl) gw_wsX2_size
set_option maxRecDepth 20000 in
theorem gX6_letOut_X2_size : GoodIn wsX6_letOut (wsV RX6 164 RX2 yX2_size wsX2_size) := goodIn_app (goodIn_s seX6_letOut _ [pq_1_1, pq_1_2, pq_1_3, pq_1_4] (by rfl) (by decide +kernel)) ggX6_letOut_X2_size
set_option maxRecDepth 20000 in
theorem ggX6_letOut_X1_giveOut : GoodIn wsX6_letOut wsX1_giveOut := goodIn_s seX6_letOut _ [pq_1_11, pq_1_12, pq_1_13, pq_1_14, pq_1_15, pq_1_16, pq_1_4, pq_1_17, pq_1_6, pq_1_18, pq_1_19, pq_1_20, pq_1_21, pq_1_22, pq_1_23, pq_2_0, pq_2_1, pq_2_2, pq_2_3, pq_2_4, pq_2_5, pq_2_6, pq_2_7, pq_2_8, pq_2_9, pq_2_10, pq_9_0, pq_9_1, pq_9_2, pq_9_3, pq_10_0, pq_10_1] (by rfl) gw_wsX1_giveOut
set_option maxRecDepth 20000 in
theorem gX6_letOut_X1_giveOut : GoodIn wsX6_letOut (wsV RX6 335 RX1 yX1_giveOut wsX1_giveOut) := goodIn_app (goodIn_s seX6_letOut _ [pq_1_7, pq_1_8, pq_1_9, pq_1_10] (by rfl) (by decide +kernel)) ggX6_letOut_X1_giveOut
set_option maxRecDepth 20000 in
theorem ggX6_letOut_J4_append_cf468 : GoodIn wsX6_letOut wsJ4_append_cf468 := goodIn_s seX6_letOut _ [pq_2_15, pq_2_16, pq_2_17, pq_2_18, pq_2_19, pq_2_20, pq_2_21, pq_2_22, pq_2_23, pq_3_0, pq_3_1, pq_3_2, pq_3_3, pq_3_4, pq_3_5, pq_3_6, pq_3_7, pq_3_8, pq_3_9, pq_3_10, pq_3_11, pq_3_12, pq_3_13, pq_3_14, pq_3_15, pq_3_16, pq_1_19, pq_1_20, pq_1_21, pq_3_17, pq_3_18, pq_3_19, pq_3_20, pq_3_21, pq_3_22, pq_3_23, pq_4_0, pq_4_1, pq_4_2, pq_4_3, pq_4_4, pq_4_5, pq_4_6, pq_4_7, pq_4_8, pq_4_9, pq_4_10, pq_4_11, pq_4_12, pq_4_13, pq_4_14, pq_4_15, pq_4_16, pq_4_17, pq_4_18, pq_4_19, pq_4_20, pq_4_21, pq_4_22, pq_4_23, pq_5_0, pq_5_1, pq_5_2, pq_5_3, pq_5_4, pq_5_5, pq_5_6, pq_5_7, pq_5_8, pq_5_9, pq_5_10, pq_5_11, pq_5_12, pq_5_13, pq_5_14, pq_5_15, pq_5_16, pq_5_17, pq_5_18, pq_5_19, pq_5_20, pq_5_21, pq_5_22, pq_5_23, pq_6_0, pq_6_1, pq_6_2, pq_6_3, pq_6_4, pq_6_5, pq_6_6, pq_6_7, pq_6_8, pq_6_9, pq_6_10, pq_6_11, pq_6_12, pq_6_13, pq_6_14, pq_6_15, pq_6_16, pq_6_17, pq_6_18, pq_6_19, pq_6_20, pq_6_21, pq_6_22, pq_6_23, pq_7_0, pq_7_1, pq_7_2, pq_7_3, pq_7_4, pq_11_0, pq_11_1, pq_11_2, pq_11_3] (by rfl) gw_wsJ4_append_cf468
set_option maxRecDepth 20000 in
theorem gX6_letOut_J4_append_cf468 : GoodIn wsX6_letOut (wsV RX6 116 RJ4 yJ4_append_cf468 wsJ4_append_cf468) := goodIn_app (goodIn_s seX6_letOut _ [pq_2_11, pq_2_12, pq_2_13, pq_2_14] (by rfl) (by decide +kernel)) ggX6_letOut_J4_append_cf468
noncomputable def sgX6_spelled : List (List Cond) := [[.code yX6_spelled cX6_spelled 3 (some (.object "java/lang/String"))], wsX6_spelled_r1, wsX6_spelled_r2, wsX6_spelled_r3, wsX6_spelled_r4, wsX6_spelled_r5, wsX6_spelled_r6, wsX6_spelled_r7, wsX6_spelled_r8, wsX6_spelled_r9, wsJ40, wsX20, wsX50, wsJ00]
theorem seX6_spelled : sgX6_spelled.flatten = wsX6_spelled := by simp only [sgX6_spelled, wsX6_spelled, List.flatten_cons, List.flatten_nil, List.append_assoc, List.append_nil, List.cons_append, List.nil_append]
set_option maxRecDepth 20000 in
theorem ggX6_spelled_J4_init_da8c8 : GoodIn wsX6_spelled wsJ4_init_da8c8 := goodIn_s seX6_spelled _ [pq_1_5, pq_1_6, pq_1_7, pq_1_8, pq_1_9, pq_1_10, pq_1_11, pq_1_12, pq_1_13, pq_1_14, pq_1_15, pq_1_16, pq_1_17, pq_1_18, pq_1_19, pq_1_20, pq_1_21, pq_1_22, pq_1_23, pq_2_0, pq_10_0, pq_10_1, pq_10_2, pq_10_3] (by rfl) gw_wsJ4_init_da8c8
set_option maxRecDepth 20000 in
theorem gX6_spelled_J4_init_da8c8 : GoodIn wsX6_spelled (wsJ4_init_da8c8) := ggX6_spelled_J4_init_da8c8
set_option maxRecDepth 20000 in
theorem ggX6_spelled_X2_size : GoodIn wsX6_spelled wsX2_size := goodIn_s seX6_spelled _ [pq_2_6, pq_2_7, pq_11_0, pq_11_1] (by rfl) gw_wsX2_size
set_option maxRecDepth 20000 in
theorem gX6_spelled_X2_size_u165X2 : GoodIn wsX6_spelled (va_wsU RX6 165 RX2 "Sashwords$Text" ⟨"Sashwords$Text", "size", "()I"⟩ yX2_size wsX2_size) := goodIn_app (goodIn_s seX6_spelled _ [pq_2_1, pq_2_2, pq_2_3, pq_2_4, pq_2_5] (by rfl) (by decide +kernel)) ggX6_spelled_X2_size
set_option maxRecDepth 20000 in
theorem ggX6_spelled_X5_size : GoodIn wsX6_spelled wsX5_size := goodIn_s seX6_spelled _ [pq_2_11, pq_2_12, pq_2_13, pq_12_0, pq_12_1, pq_12_2, pq_12_3, pq_12_4, pq_12_5] (by rfl) gw_wsX5_size
set_option maxRecDepth 20000 in
theorem gX6_spelled_X5_size_u165X5 : GoodIn wsX6_spelled (va_wsU RX6 165 RX5 "Sashwords$Text" ⟨"Sashwords$Text", "size", "()I"⟩ yX5_size wsX5_size) := goodIn_app (goodIn_s seX6_spelled _ [pq_2_1, pq_2_2, pq_2_8, pq_2_9, pq_2_10] (by rfl) (by decide +kernel)) ggX6_spelled_X5_size
set_option maxRecDepth 20000 in
theorem ggX6_spelled_X2_at : GoodIn wsX6_spelled wsX2_at := goodIn_s seX6_spelled _ [pq_2_18, pq_2_7, pq_2_19, pq_11_0, pq_11_1] (by rfl) gw_wsX2_at
set_option maxRecDepth 20000 in
theorem gX6_spelled_X2_at_u334X2 : GoodIn wsX6_spelled (va_wsU RX6 334 RX2 "Sashwords$Text" ⟨"Sashwords$Text", "at", "(I)I"⟩ yX2_at wsX2_at) := goodIn_app (goodIn_s seX6_spelled _ [pq_2_14, pq_2_15, pq_2_16, pq_2_17, pq_2_5] (by rfl) (by decide +kernel)) ggX6_spelled_X2_at
set_option maxRecDepth 20000 in
theorem ggX6_spelled_X5_at : GoodIn wsX6_spelled wsX5_at := goodIn_s seX6_spelled _ [pq_2_22, pq_2_12, pq_2_13, pq_2_23, pq_3_0, pq_3_1, pq_2_10, pq_3_2, pq_3_3, pq_3_4, pq_12_0, pq_12_1, pq_12_2, pq_12_3, pq_12_4, pq_12_5] (by rfl) gw_wsX5_at
set_option maxRecDepth 20000 in
theorem gX6_spelled_X5_at_u334X5 : GoodIn wsX6_spelled (va_wsU RX6 334 RX5 "Sashwords$Text" ⟨"Sashwords$Text", "at", "(I)I"⟩ yX5_at wsX5_at) := goodIn_app (goodIn_s seX6_spelled _ [pq_2_14, pq_2_15, pq_2_20, pq_2_21, pq_2_10] (by rfl) (by decide +kernel)) ggX6_spelled_X5_at
set_option maxRecDepth 20000 in
theorem ggX6_spelled_J4_append_cf468 : GoodIn wsX6_spelled wsJ4_append_cf468 := goodIn_s seX6_spelled _ [pq_3_8, pq_3_9, pq_3_10, pq_3_11, pq_3_12, pq_1_8, pq_3_13, pq_3_14, pq_1_15, pq_3_15, pq_3_16, pq_3_17, pq_3_18, pq_3_19, pq_1_16, pq_3_20, pq_3_21, pq_3_22, pq_3_23, pq_4_0, pq_4_1, pq_4_2, pq_4_3, pq_4_4, pq_4_5, pq_4_6, pq_4_7, pq_4_8, pq_4_9, pq_4_10, pq_4_11, pq_4_12, pq_4_13, pq_4_14, pq_4_15, pq_4_16, pq_4_17, pq_4_18, pq_4_19, pq_4_20, pq_4_21, pq_4_22, pq_4_23, pq_1_14, pq_5_0, pq_5_1, pq_5_2, pq_5_3, pq_5_4, pq_5_5, pq_5_6, pq_5_7, pq_5_8, pq_5_9, pq_5_10, pq_5_11, pq_1_13, pq_5_12, pq_5_13, pq_5_14, pq_5_15, pq_5_16, pq_5_17, pq_5_18, pq_5_19, pq_5_20, pq_1_17, pq_1_18, pq_1_19, pq_1_20, pq_1_21, pq_1_22, pq_1_23, pq_2_0, pq_5_21, pq_5_22, pq_5_23, pq_6_0, pq_6_1, pq_6_2, pq_6_3, pq_6_4, pq_6_5, pq_6_6, pq_6_7, pq_6_8, pq_6_9, pq_6_10, pq_6_11, pq_6_12, pq_6_13, pq_6_14, pq_6_15, pq_6_16, pq_6_17, pq_6_18, pq_6_19, pq_6_20, pq_6_21, pq_6_22, pq_6_23, pq_7_0, pq_7_1, pq_7_2, pq_7_3, pq_7_4, pq_7_5, pq_7_6, pq_7_7, pq_7_8, pq_7_9, pq_7_10, pq_7_11, pq_10_0, pq_10_1, pq_10_2, pq_10_3] (by rfl) gw_wsJ4_append_cf468
set_option maxRecDepth 20000 in
theorem gX6_spelled_J4_append_cf468 : GoodIn wsX6_spelled (wsV RX6 116 RJ4 yJ4_append_cf468 wsJ4_append_cf468) := goodIn_app (goodIn_s seX6_spelled _ [pq_3_5, pq_3_6, pq_3_7, pq_1_2] (by rfl) (by decide +kernel)) ggX6_spelled_J4_append_cf468
set_option maxRecDepth 20000 in
theorem ggX6_spelled_J4_toString_0e30d : GoodIn wsX6_spelled wsJ4_toString_0e30d := goodIn_s seX6_spelled _ [pq_7_15, pq_7_16, pq_7_17, pq_6_11, pq_7_18, pq_7_19, pq_7_20, pq_7_21, pq_7_22, pq_7_23, pq_8_0, pq_1_11, pq_1_12, pq_8_1, pq_8_2, pq_8_3, pq_8_4, pq_8_5, pq_8_6, pq_8_7, pq_8_8, pq_1_8, pq_8_9, pq_1_15, pq_8_10, pq_8_11, pq_8_12, pq_8_13, pq_8_14, pq_1_2, pq_8_15, pq_8_16, pq_3_11, pq_8_17, pq_8_18, pq_3_14, pq_8_19, pq_5_8, pq_5_9, pq_5_10, pq_5_11, pq_1_13, pq_1_16, pq_8_20, pq_8_21, pq_4_16, pq_8_22, pq_4_18, pq_4_19, pq_4_20, pq_4_21, pq_4_22, pq_4_23, pq_8_23, pq_9_0, pq_9_1, pq_1_14, pq_5_0, pq_5_1, pq_4_8, pq_5_2, pq_5_3, pq_5_4, pq_5_5, pq_5_6, pq_9_2, pq_9_3, pq_9_4, pq_9_5, pq_1_1, pq_9_6, pq_9_7, pq_1_19, pq_9_8, pq_9_9, pq_9_10, pq_9_11, pq_6_3, pq_6_4, pq_6_5, pq_6_6, pq_6_7, pq_6_8, pq_6_9, pq_6_10, pq_6_12, pq_6_13, pq_6_14, pq_6_15, pq_6_16, pq_6_17, pq_9_12, pq_9_13, pq_9_14, pq_6_21, pq_6_22, pq_6_23, pq_1_21, pq_1_22, pq_1_23, pq_2_0, pq_9_15, pq_9_16, pq_9_17, pq_9_18, pq_13_0, pq_13_1, pq_13_2, pq_13_3, pq_10_0, pq_10_1, pq_10_2, pq_10_3] (by rfl) gw_wsJ4_toString_0e30d
set_option maxRecDepth 20000 in
theorem gX6_spelled_J4_toString_0e30d : GoodIn wsX6_spelled (wsV RX6 120 RJ4 yJ4_toString_0e30d wsJ4_toString_0e30d) := goodIn_app (goodIn_s seX6_spelled _ [pq_7_12, pq_7_13, pq_7_14, pq_1_2] (by rfl) (by decide +kernel)) ggX6_spelled_J4_toString_0e30d
noncomputable def sgX6_copyText : List (List Cond) := [[.code yX6_copyText cX6_copyText 5 none], wsX6_copyText_r1, wsX6_copyText_r2, wsX6_copyText_r3, wsX50, wsX60, wsX20]
theorem seX6_copyText : sgX6_copyText.flatten = wsX6_copyText := by simp only [sgX6_copyText, wsX6_copyText, List.flatten_cons, List.flatten_nil, List.append_assoc, List.append_nil, List.cons_append, List.nil_append]
set_option maxRecDepth 20000 in
theorem ggX6_copyText_X2_clear : GoodIn wsX6_copyText wsX2_clear := goodIn_s seX6_copyText _ [pq_1_5, pq_1_6, pq_6_0, pq_6_1] (by rfl) gw_wsX2_clear
set_option maxRecDepth 20000 in
theorem gX6_copyText_X2_clear : GoodIn wsX6_copyText (wsV RX6 338 RX2 yX2_clear wsX2_clear) := goodIn_app (goodIn_s seX6_copyText _ [pq_1_1, pq_1_2, pq_1_3, pq_1_4] (by rfl) (by decide +kernel)) ggX6_copyText_X2_clear
set_option maxRecDepth 20000 in
theorem ggX6_copyText_X2_append : GoodIn wsX6_copyText wsX2_append := goodIn_s seX6_copyText _ [pq_1_10, pq_1_11, pq_1_12, pq_1_13, pq_1_14, pq_1_4, pq_1_15, pq_1_6, pq_1_16, pq_1_17, pq_1_18, pq_1_19, pq_1_20, pq_1_21, pq_1_22, pq_1_23, pq_2_0, pq_2_1, pq_2_2, pq_2_3, pq_2_4, pq_2_5, pq_2_6, pq_2_7, pq_2_8, pq_2_9, pq_2_10, pq_2_11, pq_2_12, pq_2_13, pq_2_14, pq_2_15, pq_2_16, pq_6_0, pq_6_1, pq_4_0, pq_4_1, pq_4_2, pq_4_3, pq_4_4, pq_4_5] (by rfl) gw_wsX2_append
set_option maxRecDepth 20000 in
theorem gX6_copyText_X2_append : GoodIn wsX6_copyText (wsV RX6 171 RX2 yX2_append wsX2_append) := goodIn_app (goodIn_s seX6_copyText _ [pq_1_7, pq_1_8, pq_1_9, pq_1_4] (by rfl) (by decide +kernel)) ggX6_copyText_X2_append
set_option maxRecDepth 20000 in
theorem ggX6_copyText_X5_atPlace : GoodIn wsX6_copyText wsX5_atPlace := goodIn_s seX6_copyText _ [pq_2_10, pq_1_20, pq_2_11, pq_2_12, pq_4_0, pq_4_1, pq_4_2, pq_4_3, pq_4_4, pq_4_5] (by rfl) gw_wsX5_atPlace
set_option maxRecDepth 20000 in
theorem gX6_copyText_X5_atPlace : GoodIn wsX6_copyText (wsV RX6 209 RX5 yX5_atPlace wsX5_atPlace) := goodIn_app (goodIn_s seX6_copyText _ [pq_2_17, pq_2_8, pq_2_9, pq_1_18] (by rfl) (by decide +kernel)) ggX6_copyText_X5_atPlace
set_option maxRecDepth 20000 in
theorem ggX6_copyText_X2_add : GoodIn wsX6_copyText wsX2_add := goodIn_s seX6_copyText _ [pq_2_16, pq_1_6, pq_2_3, pq_6_0, pq_6_1] (by rfl) gw_wsX2_add
set_option maxRecDepth 20000 in
theorem gX6_copyText_X2_add : GoodIn wsX6_copyText (wsV RX6 341 RX2 yX2_add wsX2_add) := goodIn_app (goodIn_s seX6_copyText _ [pq_2_18, pq_2_14, pq_2_15, pq_1_4] (by rfl) (by decide +kernel)) ggX6_copyText_X2_add
set_option maxRecDepth 20000 in
theorem ggX6_copyText_X5_becomeLike : GoodIn wsX6_copyText wsX5_becomeLike := goodIn_s seX6_copyText _ [pq_2_22, pq_2_12, pq_2_11, pq_2_23, pq_1_20, pq_1_21, pq_3_0, pq_4_0, pq_4_1, pq_4_2, pq_4_3, pq_4_4, pq_4_5] (by rfl) gw_wsX5_becomeLike
set_option maxRecDepth 20000 in
theorem gX6_copyText_X5_becomeLike : GoodIn wsX6_copyText (wsV RX6 85 RX5 yX5_becomeLike wsX5_becomeLike) := goodIn_app (goodIn_s seX6_copyText _ [pq_2_19, pq_2_20, pq_2_21, pq_1_18] (by rfl) (by decide +kernel)) ggX6_copyText_X5_becomeLike
set_option maxRecDepth 20000 in
theorem ggX6_copyText_X5_size : GoodIn wsX6_copyText wsX5_size := goodIn_s seX6_copyText _ [pq_1_19, pq_1_20, pq_1_21, pq_4_0, pq_4_1, pq_4_2, pq_4_3, pq_4_4, pq_4_5] (by rfl) gw_wsX5_size
set_option maxRecDepth 20000 in
theorem gX6_copyText_X5_size : GoodIn wsX6_copyText (wsV RX6 73 RX5 yX5_size wsX5_size) := goodIn_app (goodIn_s seX6_copyText _ [pq_3_1, pq_1_17, pq_3_2, pq_1_18] (by rfl) (by decide +kernel)) ggX6_copyText_X5_size
set_option maxRecDepth 20000 in
theorem ggX6_copyText_X5_readSign : GoodIn wsX6_copyText wsX5_readSign := goodIn_s seX6_copyText _ [pq_3_6, pq_1_21, pq_3_7, pq_2_5, pq_3_8, pq_1_18, pq_2_6, pq_1_20, pq_2_7, pq_2_8, pq_2_9, pq_2_10, pq_2_11, pq_2_12, pq_3_9, pq_1_17, pq_3_2, pq_1_19, pq_4_0, pq_4_1, pq_4_2, pq_4_3, pq_4_4, pq_4_5] (by rfl) gw_wsX5_readSign
set_option maxRecDepth 20000 in
theorem gX6_copyText_X5_readSign : GoodIn wsX6_copyText (wsV RX6 110 RX5 yX5_readSign wsX5_readSign) := goodIn_app (goodIn_s seX6_copyText _ [pq_3_3, pq_3_4, pq_3_5, pq_1_18] (by rfl) (by decide +kernel)) ggX6_copyText_X5_readSign
set_option maxRecDepth 20000 in
theorem ggX6_copyText_X5_becomePart : GoodIn wsX6_copyText wsX5_becomePart := goodIn_s seX6_copyText _ [pq_3_13, pq_1_21, pq_2_12, pq_2_11, pq_2_23, pq_1_20, pq_3_0, pq_4_0, pq_4_1, pq_4_2, pq_4_3, pq_4_4, pq_4_5] (by rfl) gw_wsX5_becomePart
set_option maxRecDepth 20000 in
theorem gX6_copyText_X5_becomePart : GoodIn wsX6_copyText (wsV RX6 95 RX5 yX5_becomePart wsX5_becomePart) := goodIn_app (goodIn_s seX6_copyText _ [pq_3_10, pq_3_11, pq_3_12, pq_1_18] (by rfl) (by decide +kernel)) ggX6_copyText_X5_becomePart
noncomputable def sgX6_firstUnlike : List (List Cond) := [[.code yX6_firstUnlike cX6_firstUnlike 4 (some .int)], wsX6_firstUnlike_r1, wsX6_firstUnlike_r2, wsX20, wsX50]
theorem seX6_firstUnlike : sgX6_firstUnlike.flatten = wsX6_firstUnlike := by simp only [sgX6_firstUnlike, wsX6_firstUnlike, List.flatten_cons, List.flatten_nil, List.append_assoc, List.append_nil, List.cons_append, List.nil_append]
set_option maxRecDepth 20000 in
theorem ggX6_firstUnlike_X2_size : GoodIn wsX6_firstUnlike wsX2_size := goodIn_s seX6_firstUnlike _ [pq_1_9, pq_1_10, pq_3_0, pq_3_1] (by rfl) gw_wsX2_size
set_option maxRecDepth 20000 in
theorem gX6_firstUnlike_X2_size_u165X2 : GoodIn wsX6_firstUnlike (va_wsU RX6 165 RX2 "Sashwords$Text" ⟨"Sashwords$Text", "size", "()I"⟩ yX2_size wsX2_size) := goodIn_app (goodIn_s seX6_firstUnlike _ [pq_1_4, pq_1_5, pq_1_6, pq_1_7, pq_1_8] (by rfl) (by decide +kernel)) ggX6_firstUnlike_X2_size
set_option maxRecDepth 20000 in
theorem ggX6_firstUnlike_X5_size : GoodIn wsX6_firstUnlike wsX5_size := goodIn_s seX6_firstUnlike _ [pq_1_14, pq_1_15, pq_1_16, pq_4_0, pq_4_1, pq_4_2, pq_4_3, pq_4_4, pq_4_5] (by rfl) gw_wsX5_size
set_option maxRecDepth 20000 in
theorem gX6_firstUnlike_X5_size_u165X5 : GoodIn wsX6_firstUnlike (va_wsU RX6 165 RX5 "Sashwords$Text" ⟨"Sashwords$Text", "size", "()I"⟩ yX5_size wsX5_size) := goodIn_app (goodIn_s seX6_firstUnlike _ [pq_1_4, pq_1_5, pq_1_11, pq_1_12, pq_1_13] (by rfl) (by decide +kernel)) ggX6_firstUnlike_X5_size
set_option maxRecDepth 20000 in
theorem ggX6_firstUnlike_X2_at : GoodIn wsX6_firstUnlike wsX2_at := goodIn_s seX6_firstUnlike _ [pq_1_21, pq_1_10, pq_1_22, pq_3_0, pq_3_1] (by rfl) gw_wsX2_at
set_option maxRecDepth 20000 in
theorem gX6_firstUnlike_X2_at_u334X2 : GoodIn wsX6_firstUnlike (va_wsU RX6 334 RX2 "Sashwords$Text" ⟨"Sashwords$Text", "at", "(I)I"⟩ yX2_at wsX2_at) := goodIn_app (goodIn_s seX6_firstUnlike _ [pq_1_17, pq_1_18, pq_1_19, pq_1_20, pq_1_8] (by rfl) (by decide +kernel)) ggX6_firstUnlike_X2_at
set_option maxRecDepth 20000 in
theorem ggX6_firstUnlike_X5_at : GoodIn wsX6_firstUnlike wsX5_at := goodIn_s seX6_firstUnlike _ [pq_2_1, pq_1_15, pq_1_16, pq_2_2, pq_2_3, pq_2_4, pq_1_13, pq_2_5, pq_2_6, pq_2_7, pq_4_0, pq_4_1, pq_4_2, pq_4_3, pq_4_4, pq_4_5] (by rfl) gw_wsX5_at
set_option maxRecDepth 20000 in
theorem gX6_firstUnlike_X5_at_u334X5 : GoodIn wsX6_firstUnlike (va_wsU RX6 334 RX5 "Sashwords$Text" ⟨"Sashwords$Text", "at", "(I)I"⟩ yX5_at wsX5_at) := goodIn_app (goodIn_s seX6_firstUnlike _ [pq_1_17, pq_1_18, pq_1_23, pq_2_0, pq_1_13] (by rfl) (by decide +kernel)) ggX6_firstUnlike_X5_at
noncomputable def sgX6_greatestBorder : List (List Cond) := [[.code yX6_greatestBorder cX6_greatestBorder 2 (some .int)], wsX6_greatestBorder_r1, wsX6_greatestBorder_r2, wsX60, wsX00, wsX20, wsX50]
theorem seX6_greatestBorder : sgX6_greatestBorder.flatten = wsX6_greatestBorder := by simp only [sgX6_greatestBorder, wsX6_greatestBorder, List.flatten_cons, List.flatten_nil, List.append_assoc, List.append_nil, List.cons_append, List.nil_append]
set_option maxRecDepth 20000 in
theorem ggX6_greatestBorder_X0_measure : GoodIn wsX6_greatestBorder wsX0_measure := goodIn_s seX6_greatestBorder _ [pq_1_5, pq_1_6, pq_1_7, pq_1_8, pq_1_9, pq_1_10, pq_1_11, pq_1_12, pq_1_13, pq_1_14, pq_1_15, pq_1_16, pq_1_17, pq_1_18, pq_1_19, pq_1_20, pq_1_21, pq_1_22, pq_1_23, pq_2_0, pq_2_1, pq_2_2, pq_2_3, pq_2_4, pq_2_5, pq_2_6, pq_2_7, pq_2_8, pq_2_9, pq_2_10, pq_2_11, pq_2_12, pq_2_13, pq_1_4, pq_2_14, pq_2_15, pq_2_16, pq_2_17, pq_2_18, pq_4_0, pq_4_1, pq_4_2, pq_5_0, pq_5_1, pq_6_0, pq_6_1, pq_6_2, pq_6_3, pq_6_4, pq_6_5] (by rfl) gw_wsX0_measure
set_option maxRecDepth 20000 in
theorem gX6_greatestBorder_X0_measure : GoodIn wsX6_greatestBorder (wsV RX6 234 RX0 yX0_measure wsX0_measure) := goodIn_app (goodIn_s seX6_greatestBorder _ [pq_1_1, pq_1_2, pq_1_3, pq_1_4] (by rfl) (by decide +kernel)) ggX6_greatestBorder_X0_measure
set_option maxRecDepth 20000 in
theorem ggX6_greatestBorder_X2_size : GoodIn wsX6_greatestBorder wsX2_size := goodIn_s seX6_greatestBorder _ [pq_1_12, pq_1_13, pq_5_0, pq_5_1] (by rfl) gw_wsX2_size
set_option maxRecDepth 20000 in
theorem gX6_greatestBorder_X2_size_u165X2 : GoodIn wsX6_greatestBorder (va_wsU RX6 165 RX2 "Sashwords$Text" ⟨"Sashwords$Text", "size", "()I"⟩ yX2_size wsX2_size) := goodIn_app (goodIn_s seX6_greatestBorder _ [pq_2_19, pq_1_8, pq_1_9, pq_1_10, pq_1_11] (by rfl) (by decide +kernel)) ggX6_greatestBorder_X2_size
set_option maxRecDepth 20000 in
theorem ggX6_greatestBorder_X5_size : GoodIn wsX6_greatestBorder wsX5_size := goodIn_s seX6_greatestBorder _ [pq_1_17, pq_1_18, pq_1_19, pq_6_0, pq_6_1, pq_6_2, pq_6_3, pq_6_4, pq_6_5] (by rfl) gw_wsX5_size
set_option maxRecDepth 20000 in
theorem gX6_greatestBorder_X5_size_u165X5 : GoodIn wsX6_greatestBorder (va_wsU RX6 165 RX5 "Sashwords$Text" ⟨"Sashwords$Text", "size", "()I"⟩ yX5_size wsX5_size) := goodIn_app (goodIn_s seX6_greatestBorder _ [pq_2_19, pq_1_8, pq_1_14, pq_1_15, pq_1_16] (by rfl) (by decide +kernel)) ggX6_greatestBorder_X5_size
set_option maxRecDepth 20000 in
theorem ggX6_greatestBorder_X0_greatestOf : GoodIn wsX6_greatestBorder wsX0_greatestOf := goodIn_s seX6_greatestBorder _ [pq_2_18, pq_1_6, pq_4_0, pq_4_1, pq_4_2] (by rfl) gw_wsX0_greatestOf
set_option maxRecDepth 20000 in
theorem gX6_greatestBorder_X0_greatestOf : GoodIn wsX6_greatestBorder (wsV RX6 237 RX0 yX0_greatestOf wsX0_greatestOf) := goodIn_app (goodIn_s seX6_greatestBorder _ [pq_2_20, pq_2_16, pq_2_17, pq_1_4] (by rfl) (by decide +kernel)) ggX6_greatestBorder_X0_greatestOf
noncomputable def sgX6_readsAlike : List (List Cond) := [[.code yX6_readsAlike cX6_readsAlike 3 (some .boolean)], wsX6_readsAlike_r1, wsX6_readsAlike_r2, wsX6_readsAlike_r3, wsX6_readsAlike_r4, wsX60, wsX50, wsX20]
theorem seX6_readsAlike : sgX6_readsAlike.flatten = wsX6_readsAlike := by simp only [sgX6_readsAlike, wsX6_readsAlike, List.flatten_cons, List.flatten_nil, List.append_assoc, List.append_nil, List.cons_append, List.nil_append]
set_option maxRecDepth 20000 in
theorem ggX6_readsAlike_X6_copyText : GoodIn wsX6_readsAlike wsX6_copyText := goodIn_s seX6_readsAlike _ [pq_1_6, pq_1_7, pq_1_8, pq_1_9, pq_1_10, pq_1_11, pq_1_12, pq_1_13, pq_1_14, pq_1_15, pq_1_16, pq_1_17, pq_1_18, pq_1_19, pq_1_20, pq_1_21, pq_1_22, pq_1_23, pq_2_0, pq_2_1, pq_2_2, pq_2_3, pq_2_4, pq_2_5, pq_2_6, pq_2_7, pq_2_8, pq_2_9, pq_2_10, pq_2_11, pq_2_12, pq_2_13, pq_2_14, pq_2_15, pq_2_16, pq_2_17, pq_2_18, pq_2_19, pq_2_20, pq_2_21, pq_2_22, pq_2_23, pq_3_0, pq_3_1, pq_3_2, pq_3_3, pq_3_4, pq_3_5, pq_3_6, pq_3_7, pq_3_8, pq_3_9, pq_3_10, pq_3_11, pq_3_12, pq_3_13, pq_3_14, pq_3_15, pq_3_16, pq_3_17, pq_3_18, pq_3_19, pq_3_20, pq_6_0, pq_6_1, pq_6_2, pq_6_3, pq_6_4, pq_6_5, pq_5_0, pq_5_1, pq_5_2, pq_5_3, pq_5_4, pq_5_5, pq_5_6, pq_5_7, pq_5_8, pq_5_9, pq_5_10, pq_5_11, pq_5_12, pq_5_13, pq_7_0, pq_7_1] (by rfl) gw_wsX6_copyText
set_option maxRecDepth 20000 in
theorem gX6_readsAlike_X6_copyText : GoodIn wsX6_readsAlike (wsV RX6 212 RX6 yX6_copyText wsX6_copyText) := goodIn_app (goodIn_s seX6_readsAlike _ [pq_1_2, pq_1_3, pq_1_4, pq_1_5] (by rfl) (by decide +kernel)) ggX6_readsAlike_X6_copyText
set_option maxRecDepth 20000 in
theorem ggX6_readsAlike_X6_firstUnlike : GoodIn wsX6_readsAlike wsX6_firstUnlike := goodIn_s seX6_readsAlike _ [pq_3_23, pq_4_0, pq_4_1, pq_4_2, pq_4_3, pq_4_4, pq_1_19, pq_1_20, pq_1_21, pq_1_11, pq_1_22, pq_1_13, pq_1_23, pq_2_0, pq_2_1, pq_2_2, pq_2_3, pq_2_4, pq_4_5, pq_2_6, pq_2_7, pq_2_8, pq_2_9, pq_2_10, pq_2_11, pq_2_12, pq_2_13, pq_2_14, pq_2_15, pq_2_16, pq_2_17, pq_2_18, pq_2_19, pq_7_0, pq_7_1, pq_6_0, pq_6_1, pq_6_2, pq_6_3, pq_6_4, pq_6_5] (by rfl) gw_wsX6_firstUnlike
set_option maxRecDepth 20000 in
theorem gX6_readsAlike_X6_firstUnlike : GoodIn wsX6_readsAlike (va_wsS RX6 252 yX6_firstUnlike wsX6_firstUnlike) := goodIn_app (goodIn_s seX6_readsAlike _ [pq_3_21, pq_3_22, pq_1_5] (by rfl) (by decide +kernel)) ggX6_readsAlike_X6_firstUnlike
noncomputable def sgX6_keptLiesAlike : List (List Cond) := [[.code yX6_keptLiesAlike cX6_keptLiesAlike 3 (some .boolean)], wsX6_keptLiesAlike_r1, wsX6_keptLiesAlike_r2, wsX6_keptLiesAlike_r3, wsX6_keptLiesAlike_r4, wsX60, wsX30, wsX20, wsX50, wsX00]
theorem seX6_keptLiesAlike : sgX6_keptLiesAlike.flatten = wsX6_keptLiesAlike := by simp only [sgX6_keptLiesAlike, wsX6_keptLiesAlike, List.flatten_cons, List.flatten_nil, List.append_assoc, List.append_nil, List.cons_append, List.nil_append]
set_option maxRecDepth 20000 in
theorem ggX6_keptLiesAlike_X2_becomeText : GoodIn wsX6_keptLiesAlike wsX2_becomeText := goodIn_s seX6_keptLiesAlike _ [pq_1_8, pq_1_9, pq_1_10, pq_1_11, pq_1_7, pq_1_12, pq_1_13, pq_1_14, pq_1_15, pq_1_16, pq_1_17, pq_1_18, pq_1_19, pq_1_20, pq_1_21, pq_1_22, pq_1_23, pq_2_0, pq_2_1, pq_2_2, pq_2_3, pq_2_4, pq_2_5, pq_2_6, pq_2_7, pq_2_8, pq_2_9, pq_2_10, pq_2_11, pq_2_12, pq_2_13, pq_2_14, pq_2_15, pq_2_16, pq_2_17, pq_2_18, pq_2_19, pq_2_20, pq_2_21, pq_2_22, pq_2_23, pq_7_0, pq_7_1, pq_8_0, pq_8_1, pq_8_2, pq_8_3, pq_8_4, pq_8_5] (by rfl) gw_wsX2_becomeText
set_option maxRecDepth 20000 in
theorem gX6_keptLiesAlike_X2_becomeText : GoodIn wsX6_keptLiesAlike (wsV RX6 160 RX2 yX2_becomeText wsX2_becomeText) := goodIn_app (goodIn_s seX6_keptLiesAlike _ [pq_1_4, pq_1_5, pq_1_6, pq_1_7] (by rfl) (by decide +kernel)) ggX6_keptLiesAlike_X2_becomeText
set_option maxRecDepth 20000 in
theorem ggX6_keptLiesAlike_X3_seek : GoodIn wsX6_keptLiesAlike wsX3_seek := goodIn_s seX6_keptLiesAlike _ [pq_3_4, pq_3_5, pq_3_6, pq_3_7, pq_3_8, pq_3_9, pq_3_10, pq_3_11, pq_3_12, pq_3_13, pq_1_19, pq_1_20, pq_1_21, pq_1_7, pq_1_22, pq_1_13, pq_1_23, pq_2_0, pq_2_1, pq_2_2, pq_2_3, pq_2_4, pq_3_14, pq_2_6, pq_2_7, pq_2_8, pq_2_9, pq_2_10, pq_2_11, pq_2_12, pq_2_13, pq_2_14, pq_2_15, pq_2_16, pq_2_17, pq_2_18, pq_2_19, pq_3_15, pq_3_16, pq_3_17, pq_3_18, pq_3_19, pq_3_20, pq_3_21, pq_3_22, pq_3_23, pq_4_0, pq_4_1, pq_4_2, pq_3_3, pq_4_3, pq_4_4, pq_4_5, pq_4_6, pq_6_0, pq_6_1, pq_6_2, pq_9_0, pq_9_1, pq_9_2, pq_7_0, pq_7_1, pq_8_0, pq_8_1, pq_8_2, pq_8_3, pq_8_4, pq_8_5] (by rfl) gw_wsX3_seek
set_option maxRecDepth 20000 in
theorem gX6_keptLiesAlike_X3_seek : GoodIn wsX6_keptLiesAlike (wsV RX6 220 RX3 yX3_seek wsX3_seek) := goodIn_app (goodIn_s seX6_keptLiesAlike _ [pq_3_0, pq_3_1, pq_3_2, pq_3_3] (by rfl) (by decide +kernel)) ggX6_keptLiesAlike_X3_seek
set_option maxRecDepth 20000 in
theorem ggX6_keptLiesAlike_X3_foundAt : GoodIn wsX6_keptLiesAlike wsX3_foundAt := goodIn_s seX6_keptLiesAlike _ [pq_4_10, pq_3_5, pq_4_4, pq_6_0, pq_6_1, pq_6_2] (by rfl) gw_wsX3_foundAt
set_option maxRecDepth 20000 in
theorem gX6_keptLiesAlike_X3_foundAt : GoodIn wsX6_keptLiesAlike (wsV RX6 224 RX3 yX3_foundAt wsX3_foundAt) := goodIn_app (goodIn_s seX6_keptLiesAlike _ [pq_4_7, pq_4_8, pq_4_9, pq_3_3] (by rfl) (by decide +kernel)) ggX6_keptLiesAlike_X3_foundAt
noncomputable def sgX6_builderIsSearchedRightly : List (List Cond) := [[.code yX6_builderIsSearchedRightly cX6_builderIsSearchedRightly 3 (some .boolean)], wsX6_builderIsSearchedRightly_r1, wsX6_builderIsSearchedRightly_r2, wsX6_builderIsSearchedRightly_r3, wsX60, wsX30, wsX00, wsX20, wsX50]
theorem seX6_builderIsSearchedRightly : sgX6_builderIsSearchedRightly.flatten = wsX6_builderIsSearchedRightly := by simp only [sgX6_builderIsSearchedRightly, wsX6_builderIsSearchedRightly, List.flatten_cons, List.flatten_nil, List.append_assoc, List.append_nil, List.cons_append, List.nil_append]
set_option maxRecDepth 20000 in
theorem ggX6_builderIsSearchedRightly_X3_seek : GoodIn wsX6_builderIsSearchedRightly wsX3_seek := goodIn_s seX6_builderIsSearchedRightly _ [pq_1_7, pq_1_8, pq_1_9, pq_1_10, pq_1_11, pq_1_12, pq_1_13, pq_1_14, pq_1_15, pq_1_16, pq_1_17, pq_1_18, pq_1_19, pq_1_20, pq_1_21, pq_1_22, pq_1_23, pq_2_0, pq_2_1, pq_2_2, pq_2_3, pq_2_4, pq_2_5, pq_2_6, pq_2_7, pq_2_8, pq_2_9, pq_2_10, pq_2_11, pq_2_12, pq_2_13, pq_2_14, pq_2_15, pq_2_16, pq_2_17, pq_2_18, pq_2_19, pq_2_20, pq_2_21, pq_2_22, pq_2_23, pq_3_0, pq_3_1, pq_3_2, pq_3_3, pq_3_4, pq_3_5, pq_3_6, pq_3_7, pq_1_6, pq_3_8, pq_3_9, pq_3_10, pq_3_11, pq_5_0, pq_5_1, pq_5_2, pq_6_0, pq_6_1, pq_6_2, pq_7_0, pq_7_1, pq_8_0, pq_8_1, pq_8_2, pq_8_3, pq_8_4, pq_8_5] (by rfl) gw_wsX3_seek
set_option maxRecDepth 20000 in
theorem gX6_builderIsSearchedRightly_X3_seek : GoodIn wsX6_builderIsSearchedRightly (wsV RX6 220 RX3 yX3_seek wsX3_seek) := goodIn_app (goodIn_s seX6_builderIsSearchedRightly _ [pq_1_3, pq_1_4, pq_1_5, pq_1_6] (by rfl) (by decide +kernel)) ggX6_builderIsSearchedRightly_X3_seek
set_option maxRecDepth 20000 in
theorem ggX6_builderIsSearchedRightly_X2_size : GoodIn wsX6_builderIsSearchedRightly wsX2_size := goodIn_s seX6_builderIsSearchedRightly _ [pq_1_21, pq_1_22, pq_7_0, pq_7_1] (by rfl) gw_wsX2_size
set_option maxRecDepth 20000 in
theorem gX6_builderIsSearchedRightly_X2_size : GoodIn wsX6_builderIsSearchedRightly (wsV RX6 164 RX2 yX2_size wsX2_size) := goodIn_app (goodIn_s seX6_builderIsSearchedRightly _ [pq_3_12, pq_1_19, pq_3_13, pq_1_20] (by rfl) (by decide +kernel)) ggX6_builderIsSearchedRightly_X2_size
set_option maxRecDepth 20000 in
theorem ggX6_builderIsSearchedRightly_X6_matches : GoodIn wsX6_builderIsSearchedRightly wsX6_matches := goodIn_s seX6_builderIsSearchedRightly _ [pq_3_17, pq_3_18, pq_1_17, pq_1_18, pq_1_19, pq_1_20, pq_1_21, pq_1_22, pq_1_23, pq_2_0, pq_2_1, pq_2_2, pq_2_3, pq_2_4, pq_3_19, pq_2_6, pq_2_7, pq_2_8, pq_2_9, pq_2_10, pq_2_11, pq_2_12, pq_2_13, pq_2_14, pq_2_15, pq_2_16, pq_2_17, pq_2_18, pq_2_19, pq_7_0, pq_7_1, pq_8_0, pq_8_1, pq_8_2, pq_8_3, pq_8_4, pq_8_5] (by rfl) gw_wsX6_matches
set_option maxRecDepth 20000 in
theorem gX6_builderIsSearchedRightly_X6_matches : GoodIn wsX6_builderIsSearchedRightly (va_wsS RX6 349 yX6_matches wsX6_matches) := goodIn_app (goodIn_s seX6_builderIsSearchedRightly _ [pq_3_14, pq_3_15, pq_3_16] (by rfl) (by decide +kernel)) ggX6_builderIsSearchedRightly_X6_matches
set_option maxRecDepth 20000 in
theorem ggX6_builderIsSearchedRightly_X3_foundAt : GoodIn wsX6_builderIsSearchedRightly wsX3_foundAt := goodIn_s seX6_builderIsSearchedRightly _ [pq_3_23, pq_1_8, pq_3_9, pq_5_0, pq_5_1, pq_5_2] (by rfl) gw_wsX3_foundAt
set_option maxRecDepth 20000 in
theorem gX6_builderIsSearchedRightly_X3_foundAt : GoodIn wsX6_builderIsSearchedRightly (wsV RX6 224 RX3 yX3_foundAt wsX3_foundAt) := goodIn_app (goodIn_s seX6_builderIsSearchedRightly _ [pq_3_20, pq_3_21, pq_3_22, pq_1_6] (by rfl) (by decide +kernel)) ggX6_builderIsSearchedRightly_X3_foundAt
noncomputable def sgX6_builderChainIsRight : List (List Cond) := [[.code yX6_builderChainIsRight cX6_builderChainIsRight 3 (some .boolean)], wsX6_builderChainIsRight_r1, wsX6_builderChainIsRight_r2, wsX6_builderChainIsRight_r3, wsX60, wsX00, wsX20, wsX50]
theorem seX6_builderChainIsRight : sgX6_builderChainIsRight.flatten = wsX6_builderChainIsRight := by simp only [sgX6_builderChainIsRight, wsX6_builderChainIsRight, List.flatten_cons, List.flatten_nil, List.append_assoc, List.append_nil, List.cons_append, List.nil_append]
set_option maxRecDepth 20000 in
theorem ggX6_builderChainIsRight_X0_measureChain : GoodIn wsX6_builderChainIsRight wsX0_measureChain := goodIn_s seX6_builderChainIsRight _ [pq_1_6, pq_1_7, pq_1_8, pq_1_9, pq_1_10, pq_1_11, pq_1_5, pq_1_12, pq_1_13, pq_1_14, pq_1_15, pq_1_16, pq_1_17, pq_1_18, pq_1_19, pq_1_20, pq_1_21, pq_1_22, pq_1_23, pq_2_0, pq_2_1, pq_2_2, pq_2_3, pq_2_4, pq_2_5, pq_2_6, pq_2_7, pq_2_8, pq_2_9, pq_2_10, pq_2_11, pq_2_12, pq_2_13, pq_2_14, pq_2_15, pq_2_16, pq_2_17, pq_2_18, pq_2_19, pq_2_20, pq_2_21, pq_2_22, pq_2_23, pq_3_0, pq_3_1, pq_5_0, pq_5_1, pq_5_2, pq_6_0, pq_6_1, pq_7_0, pq_7_1, pq_7_2, pq_7_3, pq_7_4, pq_7_5] (by rfl) gw_wsX0_measureChain
set_option maxRecDepth 20000 in
theorem gX6_builderChainIsRight_X0_measureChain : GoodIn wsX6_builderChainIsRight (wsV RX6 243 RX0 yX0_measureChain wsX0_measureChain) := goodIn_app (goodIn_s seX6_builderChainIsRight _ [pq_1_2, pq_1_3, pq_1_4, pq_1_5] (by rfl) (by decide +kernel)) ggX6_builderChainIsRight_X0_measureChain
set_option maxRecDepth 20000 in
theorem ggX6_builderChainIsRight_X2_size : GoodIn wsX6_builderChainIsRight wsX2_size := goodIn_s seX6_builderChainIsRight _ [pq_1_19, pq_1_20, pq_6_0, pq_6_1] (by rfl) gw_wsX2_size
set_option maxRecDepth 20000 in
theorem gX6_builderChainIsRight_X2_size : GoodIn wsX6_builderChainIsRight (wsV RX6 164 RX2 yX2_size wsX2_size) := goodIn_app (goodIn_s seX6_builderChainIsRight _ [pq_3_2, pq_1_17, pq_3_3, pq_1_18] (by rfl) (by decide +kernel)) ggX6_builderChainIsRight_X2_size
set_option maxRecDepth 20000 in
theorem ggX6_builderChainIsRight_X6_matches : GoodIn wsX6_builderChainIsRight wsX6_matches := goodIn_s seX6_builderChainIsRight _ [pq_3_7, pq_3_8, pq_1_15, pq_1_16, pq_1_17, pq_1_18, pq_1_19, pq_1_20, pq_1_21, pq_1_22, pq_1_23, pq_2_0, pq_2_1, pq_2_2, pq_3_9, pq_2_4, pq_2_5, pq_2_6, pq_2_7, pq_2_8, pq_2_9, pq_2_10, pq_2_11, pq_2_12, pq_2_13, pq_2_14, pq_2_15, pq_2_16, pq_2_17, pq_6_0, pq_6_1, pq_7_0, pq_7_1, pq_7_2, pq_7_3, pq_7_4, pq_7_5] (by rfl) gw_wsX6_matches
set_option maxRecDepth 20000 in
theorem gX6_builderChainIsRight_X6_matches : GoodIn wsX6_builderChainIsRight (va_wsS RX6 349 yX6_matches wsX6_matches) := goodIn_app (goodIn_s seX6_builderChainIsRight _ [pq_3_4, pq_3_5, pq_3_6] (by rfl) (by decide +kernel)) ggX6_builderChainIsRight_X6_matches
set_option maxRecDepth 20000 in
theorem ggX6_builderChainIsRight_X0_linkAt : GoodIn wsX6_builderChainIsRight wsX0_linkAt := goodIn_s seX6_builderChainIsRight _ [pq_3_13, pq_1_7, pq_1_8, pq_5_0, pq_5_1, pq_5_2] (by rfl) gw_wsX0_linkAt
set_option maxRecDepth 20000 in
theorem gX6_builderChainIsRight_X0_linkAt : GoodIn wsX6_builderChainIsRight (wsV RX6 249 RX0 yX0_linkAt wsX0_linkAt) := goodIn_app (goodIn_s seX6_builderChainIsRight _ [pq_3_10, pq_3_11, pq_3_12, pq_1_5] (by rfl) (by decide +kernel)) ggX6_builderChainIsRight_X0_linkAt
noncomputable def sgX6_matches : List (List Cond) := [[.code yX6_matches cX6_matches 6 (some .boolean)], wsX6_matches_r1, wsX6_matches_r2, wsX20, wsX50]
theorem seX6_matches : sgX6_matches.flatten = wsX6_matches := by simp only [sgX6_matches, wsX6_matches, List.flatten_cons, List.flatten_nil, List.append_assoc, List.append_nil, List.cons_append, List.nil_append]
set_option maxRecDepth 20000 in
theorem ggX6_matches_X2_size : GoodIn wsX6_matches wsX2_size := goodIn_s seX6_matches _ [pq_1_5, pq_1_6, pq_3_0, pq_3_1] (by rfl) gw_wsX2_size
set_option maxRecDepth 20000 in
theorem gX6_matches_X2_size_u165X2 : GoodIn wsX6_matches (va_wsU RX6 165 RX2 "Sashwords$Text" ⟨"Sashwords$Text", "size", "()I"⟩ yX2_size wsX2_size) := goodIn_app (goodIn_s seX6_matches _ [pq_1_0, pq_1_1, pq_1_2, pq_1_3, pq_1_4] (by rfl) (by decide +kernel)) ggX6_matches_X2_size
set_option maxRecDepth 20000 in
theorem ggX6_matches_X5_size : GoodIn wsX6_matches wsX5_size := goodIn_s seX6_matches _ [pq_1_10, pq_1_11, pq_1_12, pq_4_0, pq_4_1, pq_4_2, pq_4_3, pq_4_4, pq_4_5] (by rfl) gw_wsX5_size
set_option maxRecDepth 20000 in
theorem gX6_matches_X5_size_u165X5 : GoodIn wsX6_matches (va_wsU RX6 165 RX5 "Sashwords$Text" ⟨"Sashwords$Text", "size", "()I"⟩ yX5_size wsX5_size) := goodIn_app (goodIn_s seX6_matches _ [pq_1_0, pq_1_1, pq_1_7, pq_1_8, pq_1_9] (by rfl) (by decide +kernel)) ggX6_matches_X5_size
set_option maxRecDepth 20000 in
theorem ggX6_matches_X2_at : GoodIn wsX6_matches wsX2_at := goodIn_s seX6_matches _ [pq_1_17, pq_1_6, pq_1_18, pq_3_0, pq_3_1] (by rfl) gw_wsX2_at
set_option maxRecDepth 20000 in
theorem gX6_matches_X2_at_u334X2 : GoodIn wsX6_matches (va_wsU RX6 334 RX2 "Sashwords$Text" ⟨"Sashwords$Text", "at", "(I)I"⟩ yX2_at wsX2_at) := goodIn_app (goodIn_s seX6_matches _ [pq_1_13, pq_1_14, pq_1_15, pq_1_16, pq_1_4] (by rfl) (by decide +kernel)) ggX6_matches_X2_at
set_option maxRecDepth 20000 in
theorem ggX6_matches_X5_at : GoodIn wsX6_matches wsX5_at := goodIn_s seX6_matches _ [pq_1_21, pq_1_11, pq_1_12, pq_1_22, pq_1_23, pq_2_0, pq_1_9, pq_2_1, pq_2_2, pq_2_3, pq_4_0, pq_4_1, pq_4_2, pq_4_3, pq_4_4, pq_4_5] (by rfl) gw_wsX5_at
set_option maxRecDepth 20000 in
theorem gX6_matches_X5_at_u334X5 : GoodIn wsX6_matches (va_wsU RX6 334 RX5 "Sashwords$Text" ⟨"Sashwords$Text", "at", "(I)I"⟩ yX5_at wsX5_at) := goodIn_app (goodIn_s seX6_matches _ [pq_1_13, pq_1_14, pq_1_19, pq_1_20, pq_1_9] (by rfl) (by decide +kernel)) ggX6_matches_X5_at
noncomputable def sgX6_mixedWithText : List (List Cond) := [[.code yX6_mixedWithText cX6_mixedWithText 6 (some .long)], wsX6_mixedWithText_r1, wsX6_mixedWithText_r2, wsX20, wsX50]
theorem seX6_mixedWithText : sgX6_mixedWithText.flatten = wsX6_mixedWithText := by simp only [sgX6_mixedWithText, wsX6_mixedWithText, List.flatten_cons, List.flatten_nil, List.append_assoc, List.append_nil, List.cons_append, List.nil_append]
set_option maxRecDepth 20000 in
theorem ggX6_mixedWithText_X2_size : GoodIn wsX6_mixedWithText wsX2_size := goodIn_s seX6_mixedWithText _ [pq_1_5, pq_1_6, pq_3_0, pq_3_1] (by rfl) gw_wsX2_size
set_option maxRecDepth 20000 in
theorem gX6_mixedWithText_X2_size_u165X2 : GoodIn wsX6_mixedWithText (va_wsU RX6 165 RX2 "Sashwords$Text" ⟨"Sashwords$Text", "size", "()I"⟩ yX2_size wsX2_size) := goodIn_app (goodIn_s seX6_mixedWithText _ [pq_1_0, pq_1_1, pq_1_2, pq_1_3, pq_1_4] (by rfl) (by decide +kernel)) ggX6_mixedWithText_X2_size
set_option maxRecDepth 20000 in
theorem ggX6_mixedWithText_X5_size : GoodIn wsX6_mixedWithText wsX5_size := goodIn_s seX6_mixedWithText _ [pq_1_10, pq_1_11, pq_1_12, pq_4_0, pq_4_1, pq_4_2, pq_4_3, pq_4_4, pq_4_5] (by rfl) gw_wsX5_size
set_option maxRecDepth 20000 in
theorem gX6_mixedWithText_X5_size_u165X5 : GoodIn wsX6_mixedWithText (va_wsU RX6 165 RX5 "Sashwords$Text" ⟨"Sashwords$Text", "size", "()I"⟩ yX5_size wsX5_size) := goodIn_app (goodIn_s seX6_mixedWithText _ [pq_1_0, pq_1_1, pq_1_7, pq_1_8, pq_1_9] (by rfl) (by decide +kernel)) ggX6_mixedWithText_X5_size
set_option maxRecDepth 20000 in
theorem ggX6_mixedWithText_X2_at : GoodIn wsX6_mixedWithText wsX2_at := goodIn_s seX6_mixedWithText _ [pq_1_17, pq_1_6, pq_1_18, pq_3_0, pq_3_1] (by rfl) gw_wsX2_at
set_option maxRecDepth 20000 in
theorem gX6_mixedWithText_X2_at_u334X2 : GoodIn wsX6_mixedWithText (va_wsU RX6 334 RX2 "Sashwords$Text" ⟨"Sashwords$Text", "at", "(I)I"⟩ yX2_at wsX2_at) := goodIn_app (goodIn_s seX6_mixedWithText _ [pq_1_13, pq_1_14, pq_1_15, pq_1_16, pq_1_4] (by rfl) (by decide +kernel)) ggX6_mixedWithText_X2_at
set_option maxRecDepth 20000 in
theorem ggX6_mixedWithText_X5_at : GoodIn wsX6_mixedWithText wsX5_at := goodIn_s seX6_mixedWithText _ [pq_1_21, pq_1_11, pq_1_12, pq_1_22, pq_1_23, pq_2_0, pq_1_9, pq_2_1, pq_2_2, pq_2_3, pq_4_0, pq_4_1, pq_4_2, pq_4_3, pq_4_4, pq_4_5] (by rfl) gw_wsX5_at
set_option maxRecDepth 20000 in
theorem gX6_mixedWithText_X5_at_u334X5 : GoodIn wsX6_mixedWithText (va_wsU RX6 334 RX5 "Sashwords$Text" ⟨"Sashwords$Text", "at", "(I)I"⟩ yX5_at wsX5_at) := goodIn_app (goodIn_s seX6_mixedWithText _ [pq_1_13, pq_1_14, pq_1_19, pq_1_20, pq_1_9] (by rfl) (by decide +kernel)) ggX6_mixedWithText_X5_at
set_option maxRecDepth 20000 in
theorem ggX6_mixedWithText_X6_mixed : GoodIn wsX6_mixedWithText wsX6_mixed := goodIn_s seX6_mixedWithText _ [pq_2_7, pq_2_8] (by rfl) gw_wsX6_mixed
set_option maxRecDepth 20000 in
theorem gX6_mixedWithText_X6_mixed : GoodIn wsX6_mixedWithText (va_wsS RX6 291 yX6_mixed wsX6_mixed) := goodIn_app (goodIn_s seX6_mixedWithText _ [pq_2_4, pq_2_5, pq_2_6] (by rfl) (by decide +kernel)) ggX6_mixedWithText_X6_mixed
noncomputable def sgX6_mixedWithWindow : List (List Cond) := [[.code yX6_mixedWithWindow cX6_mixedWithWindow 6 (some .long)], wsX6_mixedWithWindow_r1, wsX6_mixedWithWindow_r2, wsX6_mixedWithWindow_r3, wsX6_mixedWithWindow_r4, wsX50, wsX60, wsX20, wsX00, wsX30]
theorem seX6_mixedWithWindow : sgX6_mixedWithWindow.flatten = wsX6_mixedWithWindow := by simp only [sgX6_mixedWithWindow, wsX6_mixedWithWindow, List.flatten_cons, List.flatten_nil, List.append_assoc, List.append_nil, List.cons_append, List.nil_append]
set_option maxRecDepth 20000 in
theorem ggX6_mixedWithWindow_X6_mixed : GoodIn wsX6_mixedWithWindow wsX6_mixed := goodIn_s seX6_mixedWithWindow _ [pq_1_5, pq_1_6] (by rfl) gw_wsX6_mixed
set_option maxRecDepth 20000 in
theorem gX6_mixedWithWindow_X6_mixed : GoodIn wsX6_mixedWithWindow (va_wsS RX6 291 yX6_mixed wsX6_mixed) := goodIn_app (goodIn_s seX6_mixedWithWindow _ [pq_1_2, pq_1_3, pq_1_4] (by rfl) (by decide +kernel)) ggX6_mixedWithWindow_X6_mixed
set_option maxRecDepth 20000 in
theorem ggX6_mixedWithWindow_X6_mixedWithText : GoodIn wsX6_mixedWithWindow wsX6_mixedWithText := goodIn_s seX6_mixedWithWindow _ [pq_1_9, pq_1_10, pq_1_11, pq_1_12, pq_1_13, pq_1_14, pq_1_15, pq_1_16, pq_1_17, pq_1_18, pq_1_19, pq_1_20, pq_1_21, pq_1_22, pq_1_23, pq_2_0, pq_2_1, pq_2_2, pq_2_3, pq_2_4, pq_2_5, pq_2_6, pq_2_7, pq_2_8, pq_2_9, pq_2_10, pq_2_11, pq_2_12, pq_2_13, pq_1_2, pq_1_3, pq_1_4, pq_1_5, pq_1_6, pq_7_0, pq_7_1, pq_5_0, pq_5_1, pq_5_2, pq_5_3, pq_5_4, pq_5_5] (by rfl) gw_wsX6_mixedWithText
set_option maxRecDepth 20000 in
theorem gX6_mixedWithWindow_X6_mixedWithText : GoodIn wsX6_mixedWithWindow (va_wsS RX6 295 yX6_mixedWithText wsX6_mixedWithText) := goodIn_app (goodIn_s seX6_mixedWithWindow _ [pq_1_7, pq_1_8, pq_1_4] (by rfl) (by decide +kernel)) ggX6_mixedWithWindow_X6_mixedWithText
set_option maxRecDepth 20000 in
theorem ggX6_mixedWithWindow_X6_greatestBorder : GoodIn wsX6_mixedWithWindow wsX6_greatestBorder := goodIn_s seX6_mixedWithWindow _ [pq_2_17, pq_2_18, pq_2_19, pq_2_20, pq_2_21, pq_2_22, pq_2_23, pq_3_0, pq_3_1, pq_1_11, pq_1_12, pq_1_13, pq_1_14, pq_1_15, pq_1_16, pq_1_17, pq_1_18, pq_1_19, pq_1_20, pq_1_21, pq_1_22, pq_3_2, pq_2_0, pq_2_1, pq_2_2, pq_2_3, pq_2_4, pq_2_5, pq_2_6, pq_2_7, pq_2_8, pq_2_9, pq_2_10, pq_2_11, pq_2_12, pq_2_13, pq_3_3, pq_3_4, pq_3_5, pq_3_6, pq_3_7, pq_3_8, pq_3_9, pq_3_10, pq_1_10, pq_3_11, pq_6_0, pq_6_1, pq_6_2, pq_6_3, pq_6_4, pq_6_5, pq_6_6, pq_6_7, pq_6_8, pq_6_9, pq_6_10, pq_6_11, pq_6_12, pq_6_13, pq_8_0, pq_8_1, pq_8_2, pq_7_0, pq_7_1, pq_5_0, pq_5_1, pq_5_2, pq_5_3, pq_5_4, pq_5_5] (by rfl) gw_wsX6_greatestBorder
set_option maxRecDepth 20000 in
theorem gX6_mixedWithWindow_X6_greatestBorder : GoodIn wsX6_mixedWithWindow (wsV RX6 230 RX6 yX6_greatestBorder wsX6_greatestBorder) := goodIn_app (goodIn_s seX6_mixedWithWindow _ [pq_2_14, pq_2_15, pq_2_16, pq_1_4] (by rfl) (by decide +kernel)) ggX6_mixedWithWindow_X6_greatestBorder
set_option maxRecDepth 20000 in
theorem ggX6_mixedWithWindow_X3_seek : GoodIn wsX6_mixedWithWindow wsX3_seek := goodIn_s seX6_mixedWithWindow _ [pq_3_16, pq_3_17, pq_3_18, pq_3_19, pq_2_20, pq_2_21, pq_2_22, pq_2_23, pq_3_0, pq_3_1, pq_1_11, pq_1_12, pq_1_13, pq_1_14, pq_1_15, pq_1_16, pq_1_17, pq_1_18, pq_1_19, pq_1_20, pq_1_21, pq_1_22, pq_3_2, pq_2_0, pq_2_1, pq_2_2, pq_2_3, pq_2_4, pq_2_5, pq_2_6, pq_2_7, pq_2_8, pq_2_9, pq_2_10, pq_2_11, pq_2_12, pq_2_13, pq_3_3, pq_3_4, pq_3_5, pq_3_6, pq_3_7, pq_3_8, pq_3_9, pq_3_10, pq_3_20, pq_3_21, pq_3_22, pq_3_23, pq_3_15, pq_4_0, pq_4_1, pq_4_2, pq_4_3, pq_9_0, pq_9_1, pq_9_2, pq_8_0, pq_8_1, pq_8_2, pq_7_0, pq_7_1, pq_5_0, pq_5_1, pq_5_2, pq_5_3, pq_5_4, pq_5_5] (by rfl) gw_wsX3_seek
set_option maxRecDepth 20000 in
theorem gX6_mixedWithWindow_X3_seek : GoodIn wsX6_mixedWithWindow (wsV RX6 220 RX3 yX3_seek wsX3_seek) := goodIn_app (goodIn_s seX6_mixedWithWindow _ [pq_3_12, pq_3_13, pq_3_14, pq_3_15] (by rfl) (by decide +kernel)) ggX6_mixedWithWindow_X3_seek
set_option maxRecDepth 20000 in
theorem ggX6_mixedWithWindow_X3_foundAt : GoodIn wsX6_mixedWithWindow wsX3_foundAt := goodIn_s seX6_mixedWithWindow _ [pq_4_7, pq_3_17, pq_4_1, pq_9_0, pq_9_1, pq_9_2] (by rfl) gw_wsX3_foundAt
set_option maxRecDepth 20000 in
theorem gX6_mixedWithWindow_X3_foundAt : GoodIn wsX6_mixedWithWindow (wsV RX6 224 RX3 yX3_foundAt wsX3_foundAt) := goodIn_app (goodIn_s seX6_mixedWithWindow _ [pq_4_4, pq_4_5, pq_4_6, pq_3_15] (by rfl) (by decide +kernel)) ggX6_mixedWithWindow_X3_foundAt
