noncomputable def sgX6_init : List (List Cond) := [[.code yX6_init cX6_init 2 none], wsX6_init_r1, wsX6_init_r2, wsX6_init_r3, wsX60, wsX20, wsX10, wsX50, wsX30, wsX00]
theorem seX6_init : sgX6_init.flatten = wsX6_init := by simp only [sgX6_init, wsX6_init, List.flatten_cons, List.flatten_nil, List.append_assoc, List.append_nil, List.cons_append, List.nil_append]
set_option maxRecDepth 20000 in
theorem ggX6_init_X2_init : GoodIn wsX6_init wsX2_init := goodIn_s seX6_init _ [(2, 6), (2, 7), (2, 8), (2, 9), (2, 10), (2, 11), (2, 12), (2, 13), (2, 14), (2, 15), (2, 16), (1, 1), (1, 2), (5, 0), (5, 1)] (by rfl) gw_wsX2_init
set_option maxRecDepth 20000 in
theorem gX6_init_X2_init : GoodIn wsX6_init (wsX2_init) := ggX6_init_X2_init
set_option maxRecDepth 20000 in
theorem ggX6_init_X1_init : GoodIn wsX6_init wsX1_init := goodIn_s seX6_init _ [(2, 18), (2, 19), (1, 1), (1, 2), (2, 20), (1, 6), (1, 7), (2, 21), (2, 22), (2, 23), (3, 0), (3, 1), (2, 5), (2, 6), (2, 7), (2, 8), (2, 9), (2, 10), (2, 11), (2, 12), (2, 13), (2, 14), (2, 15), (2, 16), (5, 0), (5, 1), (6, 0), (6, 1), (6, 2), (6, 3)] (by rfl) gw_wsX1_init
set_option maxRecDepth 20000 in
theorem gX6_init_X1_init_n29 : GoodIn wsX6_init (wsX1_init) := ggX6_init_X1_init
set_option maxRecDepth 20000 in
theorem ggX6_init_X5_init : GoodIn wsX6_init wsX5_init := goodIn_s seX6_init _ [(3, 4), (3, 5), (2, 8), (2, 9), (2, 10), (2, 11), (3, 6), (3, 7), (3, 8), (3, 9), (2, 13), (2, 14), (2, 15), (2, 16), (1, 1), (1, 2), (7, 0), (7, 1), (7, 2), (7, 3), (7, 4), (7, 5)] (by rfl) gw_wsX5_init
set_option maxRecDepth 20000 in
theorem gX6_init_X5_init : GoodIn wsX6_init (wsX5_init) := ggX6_init_X5_init
set_option maxRecDepth 20000 in
theorem ggX6_init_X3_init : GoodIn wsX6_init wsX3_init := goodIn_s seX6_init _ [(3, 11), (3, 12), (1, 1), (1, 2), (3, 13), (2, 1), (2, 2), (3, 14), (3, 15), (3, 16), (3, 17), (3, 18), (3, 19), (3, 20), (3, 21), (9, 0), (9, 1), (9, 2), (8, 0), (8, 1), (8, 2)] (by rfl) gw_wsX3_init
set_option maxRecDepth 20000 in
theorem gX6_init_X3_init_n47 : GoodIn wsX6_init (wsX3_init) := ggX6_init_X3_init
set_option maxRecDepth 20000 in
theorem ggX6_init_X0_init : GoodIn wsX6_init wsX0_init := goodIn_s seX6_init _ [(3, 18), (3, 19), (1, 1), (1, 2), (3, 15), (3, 20), (3, 21), (9, 0), (9, 1), (9, 2)] (by rfl) gw_wsX0_init
set_option maxRecDepth 20000 in
theorem gX6_init_X0_init_n57 : GoodIn wsX6_init (wsX0_init) := ggX6_init_X0_init
noncomputable def sgX6_allocate : List (List Cond) := [[.code yX6_allocate cX6_allocate 4 (some .int)], wsX6_allocate_r1, wsX6_allocate_r2, wsX60, wsX50, (vx_atS RX6 306 "java/lang/IndexOutOfBoundsException" ["java/lang/RuntimeException", "java/lang/Exception"]).filter goodWord, (vx_atS RX6 317 "java/lang/IllegalArgumentException" ["java/lang/RuntimeException", "java/lang/Exception"]).filter goodWord]
theorem seX6_allocate : sgX6_allocate.flatten = wsX6_allocate := by simp only [sgX6_allocate, wsX6_allocate, List.flatten_cons, List.flatten_nil, List.append_assoc, List.append_nil, List.cons_append, List.nil_append]
set_option maxRecDepth 20000 in
theorem ggX6_allocate_X6_windowOf : GoodIn wsX6_allocate wsX6_windowOf := goodIn_ca (goodIn_s seX6_allocate _ [(1, 4), (1, 5), (1, 6), (1, 7), (3, 0), (3, 1), (3, 2), (3, 3), (3, 4), (3, 5), (3, 6), (3, 7), (3, 8), (3, 9), (3, 10), (3, 11), (3, 12), (3, 13)] (by rfl) (by decide +kernel)) (goodIn_sub (fun _ h => List.mem_cons_of_mem _ (List.mem_append_left _ (List.mem_append_right _ h))) (by decide +kernel))
set_option maxRecDepth 20000 in
theorem gX6_allocate_X6_windowOf : GoodIn wsX6_allocate (wsV RX6 62 RX6 yX6_windowOf wsX6_windowOf) := goodIn_app (goodIn_s seX6_allocate _ [(1, 0), (1, 1), (1, 2), (1, 3)] (by rfl) (by decide +kernel)) ggX6_allocate_X6_windowOf
set_option maxRecDepth 20000 in
theorem ggX6_allocate_X6_requireWithin : GoodIn wsX6_allocate wsX6_requireWithin := goodIn_ca (goodIn_s seX6_allocate _ [(1, 10), (1, 11), (1, 12)] (by rfl) (by decide +kernel)) (goodIn_sub (fun _ h => List.mem_cons_of_mem _ (List.mem_append_right _ h)) (by decide +kernel))
set_option maxRecDepth 20000 in
theorem gX6_allocate_X6_requireWithin : GoodIn wsX6_allocate (va_wsS RX6 66 yX6_requireWithin wsX6_requireWithin) := goodIn_app (goodIn_s seX6_allocate _ [(1, 8), (1, 9), (1, 3)] (by rfl) (by decide +kernel)) ggX6_allocate_X6_requireWithin
set_option maxRecDepth 20000 in
theorem ggX6_allocate_X5_becomeNew : GoodIn wsX6_allocate wsX5_becomeNew := goodIn_s seX6_allocate _ [(1, 17), (1, 18), (1, 19), (1, 20), (1, 21), (1, 22), (1, 23), (2, 0), (2, 1), (2, 2), (2, 3), (2, 4), (1, 16), (2, 5), (2, 6), (2, 7), (2, 8), (4, 0), (4, 1), (4, 2), (4, 3), (4, 4), (4, 5)] (by rfl) gw_wsX5_becomeNew
set_option maxRecDepth 20000 in
theorem gX6_allocate_X5_becomeNew : GoodIn wsX6_allocate (wsV RX6 70 RX5 yX5_becomeNew wsX5_becomeNew) := goodIn_app (goodIn_s seX6_allocate _ [(1, 13), (1, 14), (1, 15), (1, 16)] (by rfl) (by decide +kernel)) ggX6_allocate_X5_becomeNew
set_option maxRecDepth 20000 in
theorem ggX6_allocate_X5_size : GoodIn wsX6_allocate wsX5_size := goodIn_s seX6_allocate _ [(2, 12), (2, 7), (2, 6), (4, 0), (4, 1), (4, 2), (4, 3), (4, 4), (4, 5)] (by rfl) gw_wsX5_size
set_option maxRecDepth 20000 in
theorem gX6_allocate_X5_size : GoodIn wsX6_allocate (wsV RX6 73 RX5 yX5_size wsX5_size) := goodIn_app (goodIn_s seX6_allocate _ [(2, 9), (2, 10), (2, 11), (1, 16)] (by rfl) (by decide +kernel)) ggX6_allocate_X5_size
set_option maxRecDepth 20000 in
theorem ggX6_allocate_X6_done : GoodIn wsX6_allocate wsX6_done := goodIn_s seX6_allocate _ [(2, 16), (2, 17), (3, 0), (3, 1), (3, 2), (3, 3), (3, 4), (3, 5), (3, 6), (3, 7), (3, 8), (3, 9), (3, 10), (3, 11), (3, 12), (3, 13)] (by rfl) gw_wsX6_done
set_option maxRecDepth 20000 in
theorem gX6_allocate_X6_done : GoodIn wsX6_allocate (wsV RX6 77 RX6 yX6_done wsX6_done) := goodIn_app (goodIn_s seX6_allocate _ [(2, 13), (2, 14), (2, 15), (1, 3)] (by rfl) (by decide +kernel)) ggX6_allocate_X6_done
noncomputable def sgX6_slice : List (List Cond) := [[.code yX6_slice cX6_slice 5 (some .int)], wsX6_slice_r1, wsX6_slice_r2, wsX60, wsX50, (vx_atS RX6 306 "java/lang/IndexOutOfBoundsException" ["java/lang/RuntimeException", "java/lang/Exception"]).filter goodWord]
theorem seX6_slice : sgX6_slice.flatten = wsX6_slice := by simp only [sgX6_slice, wsX6_slice, List.flatten_cons, List.flatten_nil, List.append_assoc, List.append_nil, List.cons_append, List.nil_append]
set_option maxRecDepth 20000 in
theorem ggX6_slice_X6_windowOf : GoodIn wsX6_slice wsX6_windowOf := goodIn_ca (goodIn_s seX6_slice _ [(1, 4), (1, 5), (1, 6), (1, 7), (3, 0), (3, 1), (3, 2), (3, 3), (3, 4), (3, 5), (3, 6), (3, 7), (3, 8), (3, 9), (3, 10), (3, 11), (3, 12), (3, 13)] (by rfl) (by decide +kernel)) (goodIn_sub (fun _ h => List.mem_cons_of_mem _ (List.mem_append_right _ h)) (by decide +kernel))
set_option maxRecDepth 20000 in
theorem gX6_slice_X6_windowOf : GoodIn wsX6_slice (wsV RX6 62 RX6 yX6_windowOf wsX6_windowOf) := goodIn_app (goodIn_s seX6_slice _ [(1, 0), (1, 1), (1, 2), (1, 3)] (by rfl) (by decide +kernel)) ggX6_slice_X6_windowOf
set_option maxRecDepth 20000 in
theorem ggX6_slice_X5_becomeSlice : GoodIn wsX6_slice wsX5_becomeSlice := goodIn_s seX6_slice _ [(1, 12), (1, 13), (1, 14), (1, 15), (1, 16), (1, 17), (1, 18), (1, 19), (1, 11), (1, 20), (1, 21), (1, 22), (1, 23), (2, 0), (2, 1), (2, 2), (4, 0), (4, 1), (4, 2), (4, 3), (4, 4), (4, 5)] (by rfl) gw_wsX5_becomeSlice
set_option maxRecDepth 20000 in
theorem gX6_slice_X5_becomeSlice : GoodIn wsX6_slice (wsV RX6 81 RX5 yX5_becomeSlice wsX5_becomeSlice) := goodIn_app (goodIn_s seX6_slice _ [(1, 8), (1, 9), (1, 10), (1, 11)] (by rfl) (by decide +kernel)) ggX6_slice_X5_becomeSlice
set_option maxRecDepth 20000 in
theorem ggX6_slice_X5_size : GoodIn wsX6_slice wsX5_size := goodIn_s seX6_slice _ [(1, 20), (1, 21), (1, 15), (4, 0), (4, 1), (4, 2), (4, 3), (4, 4), (4, 5)] (by rfl) gw_wsX5_size
set_option maxRecDepth 20000 in
theorem gX6_slice_X5_size : GoodIn wsX6_slice (wsV RX6 73 RX5 yX5_size wsX5_size) := goodIn_app (goodIn_s seX6_slice _ [(2, 3), (1, 18), (1, 19), (1, 11)] (by rfl) (by decide +kernel)) ggX6_slice_X5_size
set_option maxRecDepth 20000 in
theorem ggX6_slice_X6_done : GoodIn wsX6_slice wsX6_done := goodIn_s seX6_slice _ [(2, 7), (2, 8), (3, 0), (3, 1), (3, 2), (3, 3), (3, 4), (3, 5), (3, 6), (3, 7), (3, 8), (3, 9), (3, 10), (3, 11), (3, 12), (3, 13)] (by rfl) gw_wsX6_done
set_option maxRecDepth 20000 in
theorem gX6_slice_X6_done : GoodIn wsX6_slice (wsV RX6 77 RX6 yX6_done wsX6_done) := goodIn_app (goodIn_s seX6_slice _ [(2, 4), (2, 5), (2, 6), (1, 3)] (by rfl) (by decide +kernel)) ggX6_slice_X6_done
noncomputable def sgX6_duplicate : List (List Cond) := [[.code yX6_duplicate cX6_duplicate 5 (some .int)], wsX6_duplicate_r1, wsX6_duplicate_r2, wsX60, wsX50, (vx_atS RX6 306 "java/lang/IndexOutOfBoundsException" ["java/lang/RuntimeException", "java/lang/Exception"]).filter goodWord]
theorem seX6_duplicate : sgX6_duplicate.flatten = wsX6_duplicate := by simp only [sgX6_duplicate, wsX6_duplicate, List.flatten_cons, List.flatten_nil, List.append_assoc, List.append_nil, List.cons_append, List.nil_append]
set_option maxRecDepth 20000 in
theorem ggX6_duplicate_X6_windowOf : GoodIn wsX6_duplicate wsX6_windowOf := goodIn_ca (goodIn_s seX6_duplicate _ [(1, 4), (1, 5), (1, 6), (1, 7), (3, 0), (3, 1), (3, 2), (3, 3), (3, 4), (3, 5), (3, 6), (3, 7), (3, 8), (3, 9), (3, 10), (3, 11), (3, 12), (3, 13)] (by rfl) (by decide +kernel)) (goodIn_sub (fun _ h => List.mem_cons_of_mem _ (List.mem_append_right _ h)) (by decide +kernel))
set_option maxRecDepth 20000 in
theorem gX6_duplicate_X6_windowOf : GoodIn wsX6_duplicate (wsV RX6 62 RX6 yX6_windowOf wsX6_windowOf) := goodIn_app (goodIn_s seX6_duplicate _ [(1, 0), (1, 1), (1, 2), (1, 3)] (by rfl) (by decide +kernel)) ggX6_duplicate_X6_windowOf
set_option maxRecDepth 20000 in
theorem ggX6_duplicate_X5_becomeLike : GoodIn wsX6_duplicate wsX5_becomeLike := goodIn_s seX6_duplicate _ [(1, 12), (1, 13), (1, 14), (1, 15), (1, 16), (1, 17), (1, 18), (4, 0), (4, 1), (4, 2), (4, 3), (4, 4), (4, 5)] (by rfl) gw_wsX5_becomeLike
set_option maxRecDepth 20000 in
theorem gX6_duplicate_X5_becomeLike : GoodIn wsX6_duplicate (wsV RX6 85 RX5 yX5_becomeLike wsX5_becomeLike) := goodIn_app (goodIn_s seX6_duplicate _ [(1, 8), (1, 9), (1, 10), (1, 11)] (by rfl) (by decide +kernel)) ggX6_duplicate_X5_becomeLike
set_option maxRecDepth 20000 in
theorem ggX6_duplicate_X5_size : GoodIn wsX6_duplicate wsX5_size := goodIn_s seX6_duplicate _ [(1, 22), (1, 16), (1, 17), (4, 0), (4, 1), (4, 2), (4, 3), (4, 4), (4, 5)] (by rfl) gw_wsX5_size
set_option maxRecDepth 20000 in
theorem gX6_duplicate_X5_size : GoodIn wsX6_duplicate (wsV RX6 73 RX5 yX5_size wsX5_size) := goodIn_app (goodIn_s seX6_duplicate _ [(1, 19), (1, 20), (1, 21), (1, 11)] (by rfl) (by decide +kernel)) ggX6_duplicate_X5_size
set_option maxRecDepth 20000 in
theorem ggX6_duplicate_X6_done : GoodIn wsX6_duplicate wsX6_done := goodIn_s seX6_duplicate _ [(2, 2), (2, 3), (3, 0), (3, 1), (3, 2), (3, 3), (3, 4), (3, 5), (3, 6), (3, 7), (3, 8), (3, 9), (3, 10), (3, 11), (3, 12), (3, 13)] (by rfl) gw_wsX6_done
set_option maxRecDepth 20000 in
theorem gX6_duplicate_X6_done : GoodIn wsX6_duplicate (wsV RX6 77 RX6 yX6_done wsX6_done) := goodIn_app (goodIn_s seX6_duplicate _ [(1, 23), (2, 0), (2, 1), (1, 3)] (by rfl) (by decide +kernel)) ggX6_duplicate_X6_done
noncomputable def sgX6_part : List (List Cond) := [[.code yX6_part cX6_part 7 (some .int)], wsX6_part_r1, wsX6_part_r2, wsX60, wsX50, (vx_atS RX6 306 "java/lang/IndexOutOfBoundsException" ["java/lang/RuntimeException", "java/lang/Exception"]).filter goodWord]
theorem seX6_part : sgX6_part.flatten = wsX6_part := by simp only [sgX6_part, wsX6_part, List.flatten_cons, List.flatten_nil, List.append_assoc, List.append_nil, List.cons_append, List.nil_append]
set_option maxRecDepth 20000 in
theorem ggX6_part_X6_windowOf : GoodIn wsX6_part wsX6_windowOf := goodIn_ca (goodIn_s seX6_part _ [(1, 4), (1, 5), (1, 6), (1, 7), (3, 0), (3, 1), (3, 2), (3, 3), (3, 4), (3, 5), (3, 6), (3, 7), (3, 8), (3, 9), (3, 10), (3, 11), (3, 12), (3, 13)] (by rfl) (by decide +kernel)) (goodIn_sub (fun _ h => List.mem_cons_of_mem _ (List.mem_append_right _ h)) (by decide +kernel))
set_option maxRecDepth 20000 in
theorem gX6_part_X6_windowOf : GoodIn wsX6_part (wsV RX6 62 RX6 yX6_windowOf wsX6_windowOf) := goodIn_app (goodIn_s seX6_part _ [(1, 0), (1, 1), (1, 2), (1, 3)] (by rfl) (by decide +kernel)) ggX6_part_X6_windowOf
set_option maxRecDepth 20000 in
theorem ggX6_part_X5_size : GoodIn wsX6_part wsX5_size := goodIn_s seX6_part _ [(1, 12), (1, 13), (1, 14), (4, 0), (4, 1), (4, 2), (4, 3), (4, 4), (4, 5)] (by rfl) gw_wsX5_size
set_option maxRecDepth 20000 in
theorem gX6_part_X5_size : GoodIn wsX6_part (wsV RX6 73 RX5 yX5_size wsX5_size) := goodIn_app (goodIn_s seX6_part _ [(1, 8), (1, 9), (1, 10), (1, 11)] (by rfl) (by decide +kernel)) ggX6_part_X5_size
set_option maxRecDepth 20000 in
theorem ggX6_part_X6_isStretch : GoodIn wsX6_part wsX6_isStretch := goodIn_s seX6_part _ [(1, 17)] (by rfl) gw_wsX6_isStretch
set_option maxRecDepth 20000 in
theorem gX6_part_X6_isStretch : GoodIn wsX6_part (va_wsS RX6 88 yX6_isStretch wsX6_isStretch) := goodIn_app (goodIn_s seX6_part _ [(1, 15), (1, 16), (1, 3)] (by rfl) (by decide +kernel)) ggX6_part_X6_isStretch
set_option maxRecDepth 20000 in
theorem ggX6_part_X6_refused : GoodIn wsX6_part wsX6_refused := goodIn_s seX6_part _ [(1, 21), (1, 22), (3, 0), (3, 1), (3, 2), (3, 3), (3, 4), (3, 5), (3, 6), (3, 7), (3, 8), (3, 9), (3, 10), (3, 11), (3, 12), (3, 13)] (by rfl) gw_wsX6_refused
set_option maxRecDepth 20000 in
theorem gX6_part_X6_refused : GoodIn wsX6_part (wsV RX6 92 RX6 yX6_refused wsX6_refused) := goodIn_app (goodIn_s seX6_part _ [(1, 18), (1, 19), (1, 20), (1, 3)] (by rfl) (by decide +kernel)) ggX6_part_X6_refused
set_option maxRecDepth 20000 in
theorem ggX6_part_X5_becomePart : GoodIn wsX6_part wsX5_becomePart := goodIn_s seX6_part _ [(2, 2), (1, 14), (2, 3), (2, 4), (2, 5), (1, 13), (2, 6), (4, 0), (4, 1), (4, 2), (4, 3), (4, 4), (4, 5)] (by rfl) gw_wsX5_becomePart
set_option maxRecDepth 20000 in
theorem gX6_part_X5_becomePart : GoodIn wsX6_part (wsV RX6 95 RX5 yX5_becomePart wsX5_becomePart) := goodIn_app (goodIn_s seX6_part _ [(1, 23), (2, 0), (2, 1), (1, 11)] (by rfl) (by decide +kernel)) ggX6_part_X5_becomePart
set_option maxRecDepth 20000 in
theorem ggX6_part_X6_done : GoodIn wsX6_part wsX6_done := goodIn_s seX6_part _ [(2, 10), (2, 11), (3, 0), (3, 1), (3, 2), (3, 3), (3, 4), (3, 5), (3, 6), (3, 7), (3, 8), (3, 9), (3, 10), (3, 11), (3, 12), (3, 13)] (by rfl) gw_wsX6_done
set_option maxRecDepth 20000 in
theorem gX6_part_X6_done : GoodIn wsX6_part (wsV RX6 77 RX6 yX6_done wsX6_done) := goodIn_app (goodIn_s seX6_part _ [(2, 7), (2, 8), (2, 9), (1, 3)] (by rfl) (by decide +kernel)) ggX6_part_X6_done
noncomputable def sgX6_put : List (List Cond) := [[.code yX6_put cX6_put 4 (some .int)], wsX6_put_r1, wsX6_put_r2, wsX60, wsX50, (vx_atS RX6 306 "java/lang/IndexOutOfBoundsException" ["java/lang/RuntimeException", "java/lang/Exception"]).filter goodWord, (vx_atS RX6 317 "java/lang/IllegalArgumentException" ["java/lang/RuntimeException", "java/lang/Exception"]).filter goodWord]
theorem seX6_put : sgX6_put.flatten = wsX6_put := by simp only [sgX6_put, wsX6_put, List.flatten_cons, List.flatten_nil, List.append_assoc, List.append_nil, List.cons_append, List.nil_append]
set_option maxRecDepth 20000 in
theorem ggX6_put_X6_windowOf : GoodIn wsX6_put wsX6_windowOf := goodIn_ca (goodIn_s seX6_put _ [(1, 4), (1, 5), (1, 6), (1, 7), (3, 0), (3, 1), (3, 2), (3, 3), (3, 4), (3, 5), (3, 6), (3, 7), (3, 8), (3, 9), (3, 10), (3, 11), (3, 12), (3, 13)] (by rfl) (by decide +kernel)) (goodIn_sub (fun _ h => List.mem_cons_of_mem _ (List.mem_append_left _ (List.mem_append_right _ h))) (by decide +kernel))
set_option maxRecDepth 20000 in
theorem gX6_put_X6_windowOf : GoodIn wsX6_put (wsV RX6 62 RX6 yX6_windowOf wsX6_windowOf) := goodIn_app (goodIn_s seX6_put _ [(1, 0), (1, 1), (1, 2), (1, 3)] (by rfl) (by decide +kernel)) ggX6_put_X6_windowOf
set_option maxRecDepth 20000 in
theorem ggX6_put_X6_requireWithin : GoodIn wsX6_put wsX6_requireWithin := goodIn_ca (goodIn_s seX6_put _ [(1, 10), (1, 11), (1, 12)] (by rfl) (by decide +kernel)) (goodIn_sub (fun _ h => List.mem_cons_of_mem _ (List.mem_append_right _ h)) (by decide +kernel))
set_option maxRecDepth 20000 in
theorem gX6_put_X6_requireWithin : GoodIn wsX6_put (va_wsS RX6 66 yX6_requireWithin wsX6_requireWithin) := goodIn_app (goodIn_s seX6_put _ [(1, 8), (1, 9), (1, 3)] (by rfl) (by decide +kernel)) ggX6_put_X6_requireWithin
set_option maxRecDepth 20000 in
theorem ggX6_put_X5_writeSign : GoodIn wsX6_put wsX5_writeSign := goodIn_s seX6_put _ [(1, 17), (1, 18), (1, 19), (1, 20), (1, 21), (1, 16), (1, 22), (1, 23), (2, 0), (2, 1), (2, 2), (2, 3), (2, 4), (2, 5), (4, 0), (4, 1), (4, 2), (4, 3), (4, 4), (4, 5)] (by rfl) gw_wsX5_writeSign
set_option maxRecDepth 20000 in
theorem gX6_put_X5_writeSign : GoodIn wsX6_put (wsV RX6 99 RX5 yX5_writeSign wsX5_writeSign) := goodIn_app (goodIn_s seX6_put _ [(1, 13), (1, 14), (1, 15), (1, 16)] (by rfl) (by decide +kernel)) ggX6_put_X5_writeSign
set_option maxRecDepth 20000 in
theorem ggX6_put_X5_size : GoodIn wsX6_put wsX5_size := goodIn_s seX6_put _ [(1, 22), (1, 23), (1, 18), (4, 0), (4, 1), (4, 2), (4, 3), (4, 4), (4, 5)] (by rfl) gw_wsX5_size
set_option maxRecDepth 20000 in
theorem gX6_put_X5_size : GoodIn wsX6_put (wsV RX6 73 RX5 yX5_size wsX5_size) := goodIn_app (goodIn_s seX6_put _ [(2, 6), (1, 20), (1, 21), (1, 16)] (by rfl) (by decide +kernel)) ggX6_put_X5_size
set_option maxRecDepth 20000 in
theorem ggX6_put_X6_done : GoodIn wsX6_put wsX6_done := goodIn_s seX6_put _ [(2, 10), (2, 11), (3, 0), (3, 1), (3, 2), (3, 3), (3, 4), (3, 5), (3, 6), (3, 7), (3, 8), (3, 9), (3, 10), (3, 11), (3, 12), (3, 13)] (by rfl) gw_wsX6_done
set_option maxRecDepth 20000 in
theorem gX6_put_X6_done : GoodIn wsX6_put (wsV RX6 77 RX6 yX6_done wsX6_done) := goodIn_app (goodIn_s seX6_put _ [(2, 7), (2, 8), (2, 9), (1, 3)] (by rfl) (by decide +kernel)) ggX6_put_X6_done
set_option maxRecDepth 20000 in
theorem ggX6_put_X6_refused : GoodIn wsX6_put wsX6_refused := goodIn_s seX6_put _ [(2, 15), (2, 16), (3, 0), (3, 1), (3, 2), (3, 3), (3, 4), (3, 5), (3, 6), (3, 7), (3, 8), (3, 9), (3, 10), (3, 11), (3, 12), (3, 13)] (by rfl) gw_wsX6_refused
set_option maxRecDepth 20000 in
theorem gX6_put_X6_refused : GoodIn wsX6_put (wsV RX6 92 RX6 yX6_refused wsX6_refused) := goodIn_app (goodIn_s seX6_put _ [(2, 12), (2, 13), (2, 14), (1, 3)] (by rfl) (by decide +kernel)) ggX6_put_X6_refused
noncomputable def sgX6_run : List (List Cond) := [[.code yX6_run cX6_run 7 (some .int)], wsX6_run_r1, wsX6_run_r2, wsX60, wsX50, (vx_atS RX6 306 "java/lang/IndexOutOfBoundsException" ["java/lang/RuntimeException", "java/lang/Exception"]).filter goodWord, (vx_atS RX6 317 "java/lang/IllegalArgumentException" ["java/lang/RuntimeException", "java/lang/Exception"]).filter goodWord]
theorem seX6_run : sgX6_run.flatten = wsX6_run := by simp only [sgX6_run, wsX6_run, List.flatten_cons, List.flatten_nil, List.append_assoc, List.append_nil, List.cons_append, List.nil_append]
set_option maxRecDepth 20000 in
theorem ggX6_run_X6_windowOf : GoodIn wsX6_run wsX6_windowOf := goodIn_ca (goodIn_s seX6_run _ [(1, 4), (1, 5), (1, 6), (1, 7), (3, 0), (3, 1), (3, 2), (3, 3), (3, 4), (3, 5), (3, 6), (3, 7), (3, 8), (3, 9), (3, 10), (3, 11), (3, 12), (3, 13)] (by rfl) (by decide +kernel)) (goodIn_sub (fun _ h => List.mem_cons_of_mem _ (List.mem_append_left _ (List.mem_append_right _ h))) (by decide +kernel))
set_option maxRecDepth 20000 in
theorem gX6_run_X6_windowOf : GoodIn wsX6_run (wsV RX6 62 RX6 yX6_windowOf wsX6_windowOf) := goodIn_app (goodIn_s seX6_run _ [(1, 0), (1, 1), (1, 2), (1, 3)] (by rfl) (by decide +kernel)) ggX6_run_X6_windowOf
set_option maxRecDepth 20000 in
theorem ggX6_run_X6_requireWithin : GoodIn wsX6_run wsX6_requireWithin := goodIn_ca (goodIn_s seX6_run _ [(1, 10), (1, 11), (1, 12)] (by rfl) (by decide +kernel)) (goodIn_sub (fun _ h => List.mem_cons_of_mem _ (List.mem_append_right _ h)) (by decide +kernel))
set_option maxRecDepth 20000 in
theorem gX6_run_X6_requireWithin : GoodIn wsX6_run (va_wsS RX6 66 yX6_requireWithin wsX6_requireWithin) := goodIn_app (goodIn_s seX6_run _ [(1, 8), (1, 9), (1, 3)] (by rfl) (by decide +kernel)) ggX6_run_X6_requireWithin
set_option maxRecDepth 20000 in
theorem ggX6_run_X5_writeSign : GoodIn wsX6_run wsX5_writeSign := goodIn_s seX6_run _ [(1, 17), (1, 18), (1, 19), (1, 20), (1, 21), (1, 16), (1, 22), (1, 23), (2, 0), (2, 1), (2, 2), (2, 3), (2, 4), (2, 5), (4, 0), (4, 1), (4, 2), (4, 3), (4, 4), (4, 5)] (by rfl) gw_wsX5_writeSign
set_option maxRecDepth 20000 in
theorem gX6_run_X5_writeSign : GoodIn wsX6_run (wsV RX6 99 RX5 yX5_writeSign wsX5_writeSign) := goodIn_app (goodIn_s seX6_run _ [(1, 13), (1, 14), (1, 15), (1, 16)] (by rfl) (by decide +kernel)) ggX6_run_X5_writeSign
set_option maxRecDepth 20000 in
theorem ggX6_run_X6_done : GoodIn wsX6_run wsX6_done := goodIn_s seX6_run _ [(2, 9), (2, 10), (3, 0), (3, 1), (3, 2), (3, 3), (3, 4), (3, 5), (3, 6), (3, 7), (3, 8), (3, 9), (3, 10), (3, 11), (3, 12), (3, 13)] (by rfl) gw_wsX6_done
set_option maxRecDepth 20000 in
theorem gX6_run_X6_done : GoodIn wsX6_run (wsV RX6 77 RX6 yX6_done wsX6_done) := goodIn_app (goodIn_s seX6_run _ [(2, 6), (2, 7), (2, 8), (1, 3)] (by rfl) (by decide +kernel)) ggX6_run_X6_done
noncomputable def sgX6_write : List (List Cond) := [[.code yX6_write cX6_write 7 (some .int)], wsX6_write_r1, wsX6_write_r2, wsX60, wsX50, (vx_atS RX6 306 "java/lang/IndexOutOfBoundsException" ["java/lang/RuntimeException", "java/lang/Exception"]).filter goodWord, (vx_atS RX6 317 "java/lang/IllegalArgumentException" ["java/lang/RuntimeException", "java/lang/Exception"]).filter goodWord]
theorem seX6_write : sgX6_write.flatten = wsX6_write := by simp only [sgX6_write, wsX6_write, List.flatten_cons, List.flatten_nil, List.append_assoc, List.append_nil, List.cons_append, List.nil_append]
set_option maxRecDepth 20000 in
theorem ggX6_write_X6_windowOf : GoodIn wsX6_write wsX6_windowOf := goodIn_ca (goodIn_s seX6_write _ [(1, 4), (1, 5), (1, 6), (1, 7), (3, 0), (3, 1), (3, 2), (3, 3), (3, 4), (3, 5), (3, 6), (3, 7), (3, 8), (3, 9), (3, 10), (3, 11), (3, 12), (3, 13)] (by rfl) (by decide +kernel)) (goodIn_sub (fun _ h => List.mem_cons_of_mem _ (List.mem_append_left _ (List.mem_append_right _ h))) (by decide +kernel))
set_option maxRecDepth 20000 in
theorem gX6_write_X6_windowOf : GoodIn wsX6_write (wsV RX6 62 RX6 yX6_windowOf wsX6_windowOf) := goodIn_app (goodIn_s seX6_write _ [(1, 0), (1, 1), (1, 2), (1, 3)] (by rfl) (by decide +kernel)) ggX6_write_X6_windowOf
set_option maxRecDepth 20000 in
theorem ggX6_write_X6_requireLetters : GoodIn wsX6_write wsX6_requireLetters := goodIn_ca (goodIn_s seX6_write _ [(1, 10), (1, 11), (1, 12), (1, 13), (1, 3), (1, 14), (1, 15), (1, 16)] (by rfl) (by decide +kernel)) (goodIn_sub (fun _ h => List.mem_cons_of_mem _ (List.mem_append_right _ h)) (by decide +kernel))
set_option maxRecDepth 20000 in
theorem gX6_write_X6_requireLetters : GoodIn wsX6_write (va_wsS RX6 103 yX6_requireLetters wsX6_requireLetters) := goodIn_app (goodIn_s seX6_write _ [(1, 8), (1, 9), (1, 3)] (by rfl) (by decide +kernel)) ggX6_write_X6_requireLetters
set_option maxRecDepth 20000 in
theorem ggX6_write_X6_lowestLetter : GoodIn wsX6_write wsX6_lowestLetter := goodIn_s seX6_write _ [(1, 19)] (by rfl) gw_wsX6_lowestLetter
set_option maxRecDepth 20000 in
theorem gX6_write_X6_lowestLetter : GoodIn wsX6_write (va_wsS RX6 107 yX6_lowestLetter wsX6_lowestLetter) := goodIn_app (goodIn_s seX6_write _ [(1, 17), (1, 18), (1, 3)] (by rfl) (by decide +kernel)) ggX6_write_X6_lowestLetter
set_option maxRecDepth 20000 in
theorem ggX6_write_X5_writeSign : GoodIn wsX6_write wsX5_writeSign := goodIn_s seX6_write _ [(2, 0), (2, 1), (2, 2), (2, 3), (2, 4), (1, 23), (2, 5), (2, 6), (2, 7), (2, 8), (2, 9), (2, 10), (2, 11), (2, 12), (4, 0), (4, 1), (4, 2), (4, 3), (4, 4), (4, 5)] (by rfl) gw_wsX5_writeSign
set_option maxRecDepth 20000 in
theorem gX6_write_X5_writeSign : GoodIn wsX6_write (wsV RX6 99 RX5 yX5_writeSign wsX5_writeSign) := goodIn_app (goodIn_s seX6_write _ [(1, 20), (1, 21), (1, 22), (1, 23)] (by rfl) (by decide +kernel)) ggX6_write_X5_writeSign
set_option maxRecDepth 20000 in
theorem ggX6_write_X6_done : GoodIn wsX6_write wsX6_done := goodIn_s seX6_write _ [(2, 16), (2, 17), (3, 0), (3, 1), (3, 2), (3, 3), (3, 4), (3, 5), (3, 6), (3, 7), (3, 8), (3, 9), (3, 10), (3, 11), (3, 12), (3, 13)] (by rfl) gw_wsX6_done
set_option maxRecDepth 20000 in
theorem gX6_write_X6_done : GoodIn wsX6_write (wsV RX6 77 RX6 yX6_done wsX6_done) := goodIn_app (goodIn_s seX6_write _ [(2, 13), (2, 14), (2, 15), (1, 3)] (by rfl) (by decide +kernel)) ggX6_write_X6_done
noncomputable def sgX6_get : List (List Cond) := [[.code yX6_get cX6_get 3 (some .int)], wsX6_get_r1, wsX6_get_r2, wsX60, wsX50, (vx_atS RX6 306 "java/lang/IndexOutOfBoundsException" ["java/lang/RuntimeException", "java/lang/Exception"]).filter goodWord]
theorem seX6_get : sgX6_get.flatten = wsX6_get := by simp only [sgX6_get, wsX6_get, List.flatten_cons, List.flatten_nil, List.append_assoc, List.append_nil, List.cons_append, List.nil_append]
set_option maxRecDepth 20000 in
theorem ggX6_get_X6_windowOf : GoodIn wsX6_get wsX6_windowOf := goodIn_ca (goodIn_s seX6_get _ [(1, 4), (1, 5), (1, 6), (1, 7), (3, 0), (3, 1), (3, 2), (3, 3), (3, 4), (3, 5), (3, 6), (3, 7), (3, 8), (3, 9), (3, 10), (3, 11), (3, 12), (3, 13)] (by rfl) (by decide +kernel)) (goodIn_sub (fun _ h => List.mem_cons_of_mem _ (List.mem_append_right _ h)) (by decide +kernel))
set_option maxRecDepth 20000 in
theorem gX6_get_X6_windowOf : GoodIn wsX6_get (wsV RX6 62 RX6 yX6_windowOf wsX6_windowOf) := goodIn_app (goodIn_s seX6_get _ [(1, 0), (1, 1), (1, 2), (1, 3)] (by rfl) (by decide +kernel)) ggX6_get_X6_windowOf
set_option maxRecDepth 20000 in
theorem ggX6_get_X5_size : GoodIn wsX6_get wsX5_size := goodIn_s seX6_get _ [(1, 12), (1, 13), (1, 14), (4, 0), (4, 1), (4, 2), (4, 3), (4, 4), (4, 5)] (by rfl) gw_wsX5_size
set_option maxRecDepth 20000 in
theorem gX6_get_X5_size : GoodIn wsX6_get (wsV RX6 73 RX5 yX5_size wsX5_size) := goodIn_app (goodIn_s seX6_get _ [(1, 8), (1, 9), (1, 10), (1, 11)] (by rfl) (by decide +kernel)) ggX6_get_X5_size
set_option maxRecDepth 20000 in
theorem ggX6_get_X6_refused : GoodIn wsX6_get wsX6_refused := goodIn_s seX6_get _ [(1, 18), (1, 19), (3, 0), (3, 1), (3, 2), (3, 3), (3, 4), (3, 5), (3, 6), (3, 7), (3, 8), (3, 9), (3, 10), (3, 11), (3, 12), (3, 13)] (by rfl) gw_wsX6_refused
set_option maxRecDepth 20000 in
theorem gX6_get_X6_refused : GoodIn wsX6_get (wsV RX6 92 RX6 yX6_refused wsX6_refused) := goodIn_app (goodIn_s seX6_get _ [(1, 15), (1, 16), (1, 17), (1, 3)] (by rfl) (by decide +kernel)) ggX6_get_X6_refused
set_option maxRecDepth 20000 in
theorem ggX6_get_X5_readSign : GoodIn wsX6_get wsX5_readSign := goodIn_s seX6_get _ [(1, 23), (1, 14), (2, 0), (2, 1), (2, 2), (1, 11), (2, 3), (1, 13), (2, 4), (2, 5), (2, 6), (2, 7), (2, 8), (2, 9), (2, 10), (1, 9), (1, 10), (1, 12), (4, 0), (4, 1), (4, 2), (4, 3), (4, 4), (4, 5)] (by rfl) gw_wsX5_readSign
set_option maxRecDepth 20000 in
theorem gX6_get_X5_readSign : GoodIn wsX6_get (wsV RX6 110 RX5 yX5_readSign wsX5_readSign) := goodIn_app (goodIn_s seX6_get _ [(1, 20), (1, 21), (1, 22), (1, 11)] (by rfl) (by decide +kernel)) ggX6_get_X5_readSign
set_option maxRecDepth 20000 in
theorem ggX6_get_X6_done : GoodIn wsX6_get wsX6_done := goodIn_s seX6_get _ [(2, 14), (2, 15), (3, 0), (3, 1), (3, 2), (3, 3), (3, 4), (3, 5), (3, 6), (3, 7), (3, 8), (3, 9), (3, 10), (3, 11), (3, 12), (3, 13)] (by rfl) gw_wsX6_done
set_option maxRecDepth 20000 in
theorem gX6_get_X6_done : GoodIn wsX6_get (wsV RX6 77 RX6 yX6_done wsX6_done) := goodIn_app (goodIn_s seX6_get _ [(2, 11), (2, 12), (2, 13), (1, 3)] (by rfl) (by decide +kernel)) ggX6_get_X6_done
noncomputable def sgX6_read : List (List Cond) := [[.code yX6_read cX6_read 6 (some (.object "java/lang/String"))], wsX6_read_r1, wsX6_read_r2, wsX6_read_r3, wsX6_read_r4, wsX6_read_r5, wsX6_read_r6, wsX6_read_r7, wsX6_read_r8, wsX6_read_r9, wsX6_read_r10, wsJ40, wsX60, wsX50, wsJ00, (vx_atS RX6 306 "java/lang/IndexOutOfBoundsException" ["java/lang/RuntimeException", "java/lang/Exception"]).filter goodWord, (vx_atS RX6 317 "java/lang/IllegalArgumentException" ["java/lang/RuntimeException", "java/lang/Exception"]).filter goodWord]
theorem seX6_read : sgX6_read.flatten = wsX6_read := by simp only [sgX6_read, wsX6_read, List.flatten_cons, List.flatten_nil, List.append_assoc, List.append_nil, List.cons_append, List.nil_append]
set_option maxRecDepth 20000 in
theorem ggX6_read_X6_windowOf : GoodIn wsX6_read wsX6_windowOf := goodIn_ca (goodIn_s seX6_read _ [(1, 7), (1, 8), (1, 9), (1, 10), (12, 0), (12, 1), (12, 2), (12, 3), (12, 4), (12, 5), (12, 6), (12, 7), (12, 8), (12, 9), (12, 10), (12, 11), (12, 12), (12, 13)] (by rfl) (by decide +kernel)) (goodIn_sub (fun _ h => List.mem_cons_of_mem _ (List.mem_append_left _ (List.mem_append_right _ h))) (by decide +kernel))
set_option maxRecDepth 20000 in
theorem gX6_read_X6_windowOf : GoodIn wsX6_read (wsV RX6 62 RX6 yX6_windowOf wsX6_windowOf) := goodIn_app (goodIn_s seX6_read _ [(1, 3), (1, 4), (1, 5), (1, 6)] (by rfl) (by decide +kernel)) ggX6_read_X6_windowOf
set_option maxRecDepth 20000 in
theorem ggX6_read_X6_requireWithin : GoodIn wsX6_read wsX6_requireWithin := goodIn_ca (goodIn_s seX6_read _ [(1, 13), (1, 14), (1, 15)] (by rfl) (by decide +kernel)) (goodIn_sub (fun _ h => List.mem_cons_of_mem _ (List.mem_append_right _ h)) (by decide +kernel))
set_option maxRecDepth 20000 in
theorem gX6_read_X6_requireWithin : GoodIn wsX6_read (va_wsS RX6 66 yX6_requireWithin wsX6_requireWithin) := goodIn_app (goodIn_s seX6_read _ [(1, 11), (1, 12), (1, 6)] (by rfl) (by decide +kernel)) ggX6_read_X6_requireWithin
set_option maxRecDepth 20000 in
theorem ggX6_read_J4_init_da8c8 : GoodIn wsX6_read wsJ4_init_da8c8 := goodIn_s seX6_read _ [(1, 18), (1, 19), (1, 20), (1, 21), (1, 22), (1, 23), (2, 0), (2, 1), (2, 2), (2, 3), (2, 4), (2, 5), (2, 6), (2, 7), (2, 8), (2, 9), (2, 10), (2, 11), (2, 12), (2, 13), (11, 0), (11, 1), (11, 2), (11, 3)] (by rfl) gw_wsJ4_init_da8c8
set_option maxRecDepth 20000 in
theorem gX6_read_J4_init_da8c8 : GoodIn wsX6_read (wsJ4_init_da8c8) := ggX6_read_J4_init_da8c8
set_option maxRecDepth 20000 in
theorem ggX6_read_X5_size : GoodIn wsX6_read wsX5_size := goodIn_s seX6_read _ [(2, 18), (2, 19), (2, 20), (13, 0), (13, 1), (13, 2), (13, 3), (13, 4), (13, 5)] (by rfl) gw_wsX5_size
set_option maxRecDepth 20000 in
theorem gX6_read_X5_size : GoodIn wsX6_read (wsV RX6 73 RX5 yX5_size wsX5_size) := goodIn_app (goodIn_s seX6_read _ [(2, 14), (2, 15), (2, 16), (2, 17)] (by rfl) (by decide +kernel)) ggX6_read_X5_size
set_option maxRecDepth 20000 in
theorem ggX6_read_X5_readSign : GoodIn wsX6_read wsX5_readSign := goodIn_s seX6_read _ [(3, 0), (2, 20), (3, 1), (3, 2), (3, 3), (2, 17), (3, 4), (2, 19), (3, 5), (3, 6), (3, 7), (3, 8), (3, 9), (3, 10), (3, 11), (2, 15), (2, 16), (2, 18), (13, 0), (13, 1), (13, 2), (13, 3), (13, 4), (13, 5)] (by rfl) gw_wsX5_readSign
set_option maxRecDepth 20000 in
theorem gX6_read_X5_readSign : GoodIn wsX6_read (wsV RX6 110 RX5 yX5_readSign wsX5_readSign) := goodIn_app (goodIn_s seX6_read _ [(2, 21), (2, 22), (2, 23), (2, 17)] (by rfl) (by decide +kernel)) ggX6_read_X5_readSign
set_option maxRecDepth 20000 in
theorem ggX6_read_J4_append_cf468 : GoodIn wsX6_read wsJ4_append_cf468 := goodIn_s seX6_read _ [(3, 15), (3, 16), (3, 17), (3, 18), (3, 19), (1, 21), (3, 20), (3, 21), (2, 4), (3, 22), (3, 23), (4, 0), (4, 1), (4, 2), (2, 5), (4, 3), (4, 4), (4, 5), (4, 6), (4, 7), (4, 8), (4, 9), (4, 10), (4, 11), (4, 12), (4, 13), (4, 14), (4, 15), (4, 16), (4, 17), (4, 18), (4, 19), (4, 20), (4, 21), (4, 22), (4, 23), (5, 0), (5, 1), (5, 2), (5, 3), (5, 4), (5, 5), (5, 6), (2, 3), (5, 7), (5, 8), (5, 9), (5, 10), (5, 11), (5, 12), (5, 13), (5, 14), (5, 15), (5, 16), (5, 17), (5, 18), (2, 2), (5, 19), (5, 20), (5, 21), (5, 22), (5, 23), (6, 0), (6, 1), (6, 2), (6, 3), (2, 6), (2, 7), (2, 8), (2, 9), (2, 10), (2, 11), (2, 12), (2, 13), (6, 4), (6, 5), (6, 6), (6, 7), (6, 8), (6, 9), (6, 10), (6, 11), (6, 12), (6, 13), (6, 14), (6, 15), (6, 16), (6, 17), (6, 18), (6, 19), (6, 20), (6, 21), (6, 22), (6, 23), (7, 0), (7, 1), (7, 2), (7, 3), (7, 4), (7, 5), (7, 6), (7, 7), (7, 8), (7, 9), (7, 10), (7, 11), (7, 12), (7, 13), (7, 14), (7, 15), (7, 16), (7, 17), (7, 18), (11, 0), (11, 1), (11, 2), (11, 3)] (by rfl) gw_wsJ4_append_cf468
set_option maxRecDepth 20000 in
theorem gX6_read_J4_append_cf468 : GoodIn wsX6_read (wsV RX6 116 RJ4 yJ4_append_cf468 wsJ4_append_cf468) := goodIn_app (goodIn_s seX6_read _ [(3, 12), (3, 13), (3, 14), (1, 2)] (by rfl) (by decide +kernel)) ggX6_read_J4_append_cf468
set_option maxRecDepth 20000 in
theorem ggX6_read_J4_toString_0e30d : GoodIn wsX6_read wsJ4_toString_0e30d := goodIn_s seX6_read _ [(7, 22), (7, 23), (8, 0), (6, 18), (8, 1), (8, 2), (8, 3), (8, 4), (8, 5), (8, 6), (8, 7), (2, 0), (2, 1), (8, 8), (8, 9), (8, 10), (8, 11), (8, 12), (8, 13), (8, 14), (8, 15), (1, 21), (8, 16), (2, 4), (8, 17), (8, 18), (8, 19), (8, 20), (8, 21), (1, 2), (8, 22), (8, 23), (3, 18), (9, 0), (9, 1), (3, 21), (9, 2), (5, 15), (5, 16), (5, 17), (5, 18), (2, 2), (2, 5), (9, 3), (9, 4), (4, 23), (9, 5), (5, 1), (5, 2), (5, 3), (5, 4), (5, 5), (5, 6), (9, 6), (9, 7), (9, 8), (2, 3), (5, 7), (5, 8), (4, 15), (5, 9), (5, 10), (5, 11), (5, 12), (5, 13), (9, 9), (9, 10), (9, 11), (9, 12), (1, 1), (9, 13), (9, 14), (2, 8), (9, 15), (9, 16), (9, 17), (9, 18), (6, 10), (6, 11), (6, 12), (6, 13), (6, 14), (6, 15), (6, 16), (6, 17), (6, 19), (6, 20), (6, 21), (6, 22), (6, 23), (7, 0), (9, 19), (9, 20), (9, 21), (7, 4), (7, 5), (7, 6), (2, 10), (2, 11), (2, 12), (2, 13), (9, 22), (9, 23), (10, 0), (10, 1), (14, 0), (14, 1), (14, 2), (14, 3), (11, 0), (11, 1), (11, 2), (11, 3)] (by rfl) gw_wsJ4_toString_0e30d
set_option maxRecDepth 20000 in
theorem gX6_read_J4_toString_0e30d : GoodIn wsX6_read (wsV RX6 120 RJ4 yJ4_toString_0e30d wsJ4_toString_0e30d) := goodIn_app (goodIn_s seX6_read _ [(7, 19), (7, 20), (7, 21), (1, 2)] (by rfl) (by decide +kernel)) ggX6_read_J4_toString_0e30d
set_option maxRecDepth 20000 in
theorem ggX6_read_X6_done_ : GoodIn wsX6_read wsX6_done_ := goodIn_s seX6_read _ [(10, 5), (10, 6), (12, 0), (12, 1), (12, 2), (12, 3), (12, 4), (12, 5), (12, 6), (12, 7), (12, 8), (12, 9), (12, 10), (12, 11), (12, 12), (12, 13)] (by rfl) gw_wsX6_done_
set_option maxRecDepth 20000 in
theorem gX6_read_X6_done_ : GoodIn wsX6_read (wsV RX6 124 RX6 yX6_done_ wsX6_done_) := goodIn_app (goodIn_s seX6_read _ [(10, 2), (10, 3), (10, 4), (1, 6)] (by rfl) (by decide +kernel)) ggX6_read_X6_done_
noncomputable def sgX6_pour : List (List Cond) := [[.code yX6_pour cX6_pour 7 (some .int)], wsX6_pour_r1, wsX6_pour_r2, wsX6_pour_r3, wsX60, wsX50, (vx_atS RX6 306 "java/lang/IndexOutOfBoundsException" ["java/lang/RuntimeException", "java/lang/Exception"]).filter goodWord, (vx_atS RX6 317 "java/lang/IllegalArgumentException" ["java/lang/RuntimeException", "java/lang/Exception"]).filter goodWord]
theorem seX6_pour : sgX6_pour.flatten = wsX6_pour := by simp only [sgX6_pour, wsX6_pour, List.flatten_cons, List.flatten_nil, List.append_assoc, List.append_nil, List.cons_append, List.nil_append]
set_option maxRecDepth 20000 in
theorem ggX6_pour_X6_windowOf : GoodIn wsX6_pour wsX6_windowOf := goodIn_ca (goodIn_s seX6_pour _ [(1, 4), (1, 5), (1, 6), (1, 7), (4, 0), (4, 1), (4, 2), (4, 3), (4, 4), (4, 5), (4, 6), (4, 7), (4, 8), (4, 9), (4, 10), (4, 11), (4, 12), (4, 13)] (by rfl) (by decide +kernel)) (goodIn_sub (fun _ h => List.mem_cons_of_mem _ (List.mem_append_left _ (List.mem_append_right _ h))) (by decide +kernel))
set_option maxRecDepth 20000 in
theorem gX6_pour_X6_windowOf : GoodIn wsX6_pour (wsV RX6 62 RX6 yX6_windowOf wsX6_windowOf) := goodIn_app (goodIn_s seX6_pour _ [(1, 0), (1, 1), (1, 2), (1, 3)] (by rfl) (by decide +kernel)) ggX6_pour_X6_windowOf
set_option maxRecDepth 20000 in
theorem ggX6_pour_X6_require : GoodIn wsX6_pour wsX6_require := goodIn_ca (goodIn_s seX6_pour _ [(1, 10), (1, 11), (1, 12)] (by rfl) (by decide +kernel)) (goodIn_sub (fun _ h => List.mem_cons_of_mem _ (List.mem_append_right _ h)) (by decide +kernel))
set_option maxRecDepth 20000 in
theorem gX6_pour_X6_require : GoodIn wsX6_pour (va_wsS RX6 127 yX6_require wsX6_require) := goodIn_app (goodIn_s seX6_pour _ [(1, 8), (1, 9), (1, 3)] (by rfl) (by decide +kernel)) ggX6_pour_X6_require
set_option maxRecDepth 20000 in
theorem ggX6_pour_X6_requireWithin : GoodIn wsX6_pour wsX6_requireWithin := goodIn_ca (goodIn_s seX6_pour _ [(1, 15), (1, 11), (1, 12)] (by rfl) (by decide +kernel)) (goodIn_sub (fun _ h => List.mem_cons_of_mem _ (List.mem_append_right _ h)) (by decide +kernel))
set_option maxRecDepth 20000 in
theorem gX6_pour_X6_requireWithin : GoodIn wsX6_pour (va_wsS RX6 66 yX6_requireWithin wsX6_requireWithin) := goodIn_app (goodIn_s seX6_pour _ [(1, 13), (1, 14), (1, 3)] (by rfl) (by decide +kernel)) ggX6_pour_X6_requireWithin
set_option maxRecDepth 20000 in
theorem ggX6_pour_X5_size : GoodIn wsX6_pour wsX5_size := goodIn_s seX6_pour _ [(1, 20), (1, 21), (1, 22), (5, 0), (5, 1), (5, 2), (5, 3), (5, 4), (5, 5)] (by rfl) gw_wsX5_size
set_option maxRecDepth 20000 in
theorem gX6_pour_X5_size : GoodIn wsX6_pour (wsV RX6 73 RX5 yX5_size wsX5_size) := goodIn_app (goodIn_s seX6_pour _ [(1, 16), (1, 17), (1, 18), (1, 19)] (by rfl) (by decide +kernel)) ggX6_pour_X5_size
set_option maxRecDepth 20000 in
theorem ggX6_pour_X5_readSign : GoodIn wsX6_pour wsX5_readSign := goodIn_s seX6_pour _ [(2, 2), (1, 22), (2, 3), (2, 4), (2, 5), (1, 19), (2, 6), (1, 21), (2, 7), (2, 8), (2, 9), (2, 10), (2, 11), (2, 12), (2, 13), (1, 17), (1, 18), (1, 20), (5, 0), (5, 1), (5, 2), (5, 3), (5, 4), (5, 5)] (by rfl) gw_wsX5_readSign
set_option maxRecDepth 20000 in
theorem gX6_pour_X5_readSign : GoodIn wsX6_pour (wsV RX6 110 RX5 yX5_readSign wsX5_readSign) := goodIn_app (goodIn_s seX6_pour _ [(1, 23), (2, 0), (2, 1), (1, 19)] (by rfl) (by decide +kernel)) ggX6_pour_X5_readSign
set_option maxRecDepth 20000 in
theorem ggX6_pour_X5_writeSign : GoodIn wsX6_pour wsX5_writeSign := goodIn_s seX6_pour _ [(2, 17), (1, 22), (2, 13), (1, 17), (1, 18), (1, 19), (1, 20), (1, 21), (2, 18), (2, 19), (2, 20), (2, 21), (2, 11), (2, 12), (5, 0), (5, 1), (5, 2), (5, 3), (5, 4), (5, 5)] (by rfl) gw_wsX5_writeSign
set_option maxRecDepth 20000 in
theorem gX6_pour_X5_writeSign : GoodIn wsX6_pour (wsV RX6 99 RX5 yX5_writeSign wsX5_writeSign) := goodIn_app (goodIn_s seX6_pour _ [(2, 14), (2, 15), (2, 16), (1, 19)] (by rfl) (by decide +kernel)) ggX6_pour_X5_writeSign
set_option maxRecDepth 20000 in
theorem ggX6_pour_X6_done : GoodIn wsX6_pour wsX6_done := goodIn_s seX6_pour _ [(3, 1), (3, 2), (4, 0), (4, 1), (4, 2), (4, 3), (4, 4), (4, 5), (4, 6), (4, 7), (4, 8), (4, 9), (4, 10), (4, 11), (4, 12), (4, 13)] (by rfl) gw_wsX6_done
set_option maxRecDepth 20000 in
theorem gX6_pour_X6_done : GoodIn wsX6_pour (wsV RX6 77 RX6 yX6_done wsX6_done) := goodIn_app (goodIn_s seX6_pour _ [(2, 22), (2, 23), (3, 0), (1, 3)] (by rfl) (by decide +kernel)) ggX6_pour_X6_done
noncomputable def sgX6_mark : List (List Cond) := [[.code yX6_mark cX6_mark 3 (some .int)], [.methodLink RX6 62 yX6_windowOf, .instanceMethod yX6_windowOf, .selects RX6 yX6_windowOf yX6_windowOf, .initialized RX6, .code yX6_windowOf cX6_windowOf 2 (some (.object "Sashwords$Window")), .classLink RX6 302 "java/lang/IndexOutOfBoundsException", .initialized "java/lang/IndexOutOfBoundsException", .fieldLink RX6 11 "Sashwords" "windows" "[LSashwords$Window;", .methodLink RX6 131 yX5_setMark, .instanceMethod yX5_setMark, .selects RX5 yX5_setMark yX5_setMark, .initialized RX5, .code yX5_setMark cX5_setMark 1 none, .fieldLink RX5 31 "Sashwords$Window" "position" "I", .fieldLink RX5 28 "Sashwords$Window" "mark" "I", .methodLink RX6 77 yX6_done, .instanceMethod yX6_done, .selects RX6 yX6_done yX6_done, .code yX6_done cX6_done 2 (some .int), .fieldLink RX6 328 "Sashwords" "actsDone" "I"], wsX50, wsX60, (vx_atS RX6 306 "java/lang/IndexOutOfBoundsException" ["java/lang/RuntimeException", "java/lang/Exception"]).filter goodWord]
theorem seX6_mark : sgX6_mark.flatten = wsX6_mark := by simp only [sgX6_mark, wsX6_mark, List.flatten_cons, List.flatten_nil, List.append_assoc, List.append_nil, List.cons_append, List.nil_append]
set_option maxRecDepth 20000 in
theorem ggX6_mark_X6_windowOf : GoodIn wsX6_mark wsX6_windowOf := goodIn_ca (goodIn_s seX6_mark _ [(1, 4), (1, 5), (1, 6), (1, 7), (3, 0), (3, 1), (3, 2), (3, 3), (3, 4), (3, 5), (3, 6), (3, 7), (3, 8), (3, 9), (3, 10), (3, 11), (3, 12), (3, 13)] (by rfl) (by decide +kernel)) (goodIn_sub (fun _ h => List.mem_cons_of_mem _ (List.mem_append_right _ h)) (by decide +kernel))
set_option maxRecDepth 20000 in
theorem gX6_mark_X6_windowOf : GoodIn wsX6_mark (wsV RX6 62 RX6 yX6_windowOf wsX6_windowOf) := goodIn_app (goodIn_s seX6_mark _ [(1, 0), (1, 1), (1, 2), (1, 3)] (by rfl) (by decide +kernel)) ggX6_mark_X6_windowOf
set_option maxRecDepth 20000 in
theorem ggX6_mark_X5_setMark : GoodIn wsX6_mark wsX5_setMark := goodIn_s seX6_mark _ [(1, 12), (1, 13), (1, 14), (2, 0), (2, 1), (2, 2), (2, 3), (2, 4), (2, 5)] (by rfl) gw_wsX5_setMark
set_option maxRecDepth 20000 in
theorem gX6_mark_X5_setMark : GoodIn wsX6_mark (wsV RX6 131 RX5 yX5_setMark wsX5_setMark) := goodIn_app (goodIn_s seX6_mark _ [(1, 8), (1, 9), (1, 10), (1, 11)] (by rfl) (by decide +kernel)) ggX6_mark_X5_setMark
set_option maxRecDepth 20000 in
theorem ggX6_mark_X6_done : GoodIn wsX6_mark wsX6_done := goodIn_s seX6_mark _ [(1, 18), (1, 19), (3, 0), (3, 1), (3, 2), (3, 3), (3, 4), (3, 5), (3, 6), (3, 7), (3, 8), (3, 9), (3, 10), (3, 11), (3, 12), (3, 13)] (by rfl) gw_wsX6_done
set_option maxRecDepth 20000 in
theorem gX6_mark_X6_done : GoodIn wsX6_mark (wsV RX6 77 RX6 yX6_done wsX6_done) := goodIn_app (goodIn_s seX6_mark _ [(1, 15), (1, 16), (1, 17), (1, 3)] (by rfl) (by decide +kernel)) ggX6_mark_X6_done
noncomputable def sgX6_reset : List (List Cond) := [[.code yX6_reset cX6_reset 3 (some .int)], wsX6_reset_r1, wsX6_reset_r2, wsX50, wsX60, (vx_atS RX6 306 "java/lang/IndexOutOfBoundsException" ["java/lang/RuntimeException", "java/lang/Exception"]).filter goodWord]
theorem seX6_reset : sgX6_reset.flatten = wsX6_reset := by simp only [sgX6_reset, wsX6_reset, List.flatten_cons, List.flatten_nil, List.append_assoc, List.append_nil, List.cons_append, List.nil_append]
set_option maxRecDepth 20000 in
theorem ggX6_reset_X6_windowOf : GoodIn wsX6_reset wsX6_windowOf := goodIn_ca (goodIn_s seX6_reset _ [(1, 4), (1, 5), (1, 6), (1, 7), (4, 0), (4, 1), (4, 2), (4, 3), (4, 4), (4, 5), (4, 6), (4, 7), (4, 8), (4, 9), (4, 10), (4, 11), (4, 12), (4, 13)] (by rfl) (by decide +kernel)) (goodIn_sub (fun _ h => List.mem_cons_of_mem _ (List.mem_append_right _ h)) (by decide +kernel))
set_option maxRecDepth 20000 in
theorem gX6_reset_X6_windowOf : GoodIn wsX6_reset (wsV RX6 62 RX6 yX6_windowOf wsX6_windowOf) := goodIn_app (goodIn_s seX6_reset _ [(1, 0), (1, 1), (1, 2), (1, 3)] (by rfl) (by decide +kernel)) ggX6_reset_X6_windowOf
set_option maxRecDepth 20000 in
theorem ggX6_reset_X6_refused : GoodIn wsX6_reset wsX6_refused := goodIn_s seX6_reset _ [(1, 11), (1, 12), (4, 0), (4, 1), (4, 2), (4, 3), (4, 4), (4, 5), (4, 6), (4, 7), (4, 8), (4, 9), (4, 10), (4, 11), (4, 12), (4, 13)] (by rfl) gw_wsX6_refused
set_option maxRecDepth 20000 in
theorem gX6_reset_X6_refused : GoodIn wsX6_reset (wsV RX6 92 RX6 yX6_refused wsX6_refused) := goodIn_app (goodIn_s seX6_reset _ [(1, 8), (1, 9), (1, 10), (1, 3)] (by rfl) (by decide +kernel)) ggX6_reset_X6_refused
set_option maxRecDepth 20000 in
theorem ggX6_reset_X5_goToMark : GoodIn wsX6_reset wsX5_goToMark := goodIn_s seX6_reset _ [(1, 17), (1, 18), (1, 19), (3, 0), (3, 1), (3, 2), (3, 3), (3, 4), (3, 5)] (by rfl) gw_wsX5_goToMark
set_option maxRecDepth 20000 in
theorem gX6_reset_X5_goToMark : GoodIn wsX6_reset (wsV RX6 141 RX5 yX5_goToMark wsX5_goToMark) := goodIn_app (goodIn_s seX6_reset _ [(1, 13), (1, 14), (1, 15), (1, 16)] (by rfl) (by decide +kernel)) ggX6_reset_X5_goToMark
set_option maxRecDepth 20000 in
theorem ggX6_reset_X6_done : GoodIn wsX6_reset wsX6_done := goodIn_s seX6_reset _ [(1, 23), (2, 0), (4, 0), (4, 1), (4, 2), (4, 3), (4, 4), (4, 5), (4, 6), (4, 7), (4, 8), (4, 9), (4, 10), (4, 11), (4, 12), (4, 13)] (by rfl) gw_wsX6_done
set_option maxRecDepth 20000 in
theorem gX6_reset_X6_done : GoodIn wsX6_reset (wsV RX6 77 RX6 yX6_done wsX6_done) := goodIn_app (goodIn_s seX6_reset _ [(1, 20), (1, 21), (1, 22), (1, 3)] (by rfl) (by decide +kernel)) ggX6_reset_X6_done
noncomputable def sgX6_rewind : List (List Cond) := [[.code yX6_rewind cX6_rewind 3 (some .int)], wsX6_rewind_r1, wsX6_rewind_r2, wsX50, wsX60, (vx_atS RX6 306 "java/lang/IndexOutOfBoundsException" ["java/lang/RuntimeException", "java/lang/Exception"]).filter goodWord]
theorem seX6_rewind : sgX6_rewind.flatten = wsX6_rewind := by simp only [sgX6_rewind, wsX6_rewind, List.flatten_cons, List.flatten_nil, List.append_assoc, List.append_nil, List.cons_append, List.nil_append]
set_option maxRecDepth 20000 in
theorem ggX6_rewind_X6_windowOf : GoodIn wsX6_rewind wsX6_windowOf := goodIn_ca (goodIn_s seX6_rewind _ [(1, 4), (1, 5), (1, 6), (1, 7), (4, 0), (4, 1), (4, 2), (4, 3), (4, 4), (4, 5), (4, 6), (4, 7), (4, 8), (4, 9), (4, 10), (4, 11), (4, 12), (4, 13)] (by rfl) (by decide +kernel)) (goodIn_sub (fun _ h => List.mem_cons_of_mem _ (List.mem_append_right _ h)) (by decide +kernel))
set_option maxRecDepth 20000 in
theorem gX6_rewind_X6_windowOf : GoodIn wsX6_rewind (wsV RX6 62 RX6 yX6_windowOf wsX6_windowOf) := goodIn_app (goodIn_s seX6_rewind _ [(1, 0), (1, 1), (1, 2), (1, 3)] (by rfl) (by decide +kernel)) ggX6_rewind_X6_windowOf
set_option maxRecDepth 20000 in
theorem ggX6_rewind_X5_goTo : GoodIn wsX6_rewind wsX5_goTo := goodIn_s seX6_rewind _ [(1, 12), (1, 13), (1, 14), (1, 15), (3, 0), (3, 1), (3, 2), (3, 3), (3, 4), (3, 5)] (by rfl) gw_wsX5_goTo
set_option maxRecDepth 20000 in
theorem gX6_rewind_X5_goTo : GoodIn wsX6_rewind (wsV RX6 147 RX5 yX5_goTo wsX5_goTo) := goodIn_app (goodIn_s seX6_rewind _ [(1, 8), (1, 9), (1, 10), (1, 11)] (by rfl) (by decide +kernel)) ggX6_rewind_X5_goTo
set_option maxRecDepth 20000 in
theorem ggX6_rewind_X5_size : GoodIn wsX6_rewind wsX5_size := goodIn_s seX6_rewind _ [(1, 19), (1, 14), (1, 13), (3, 0), (3, 1), (3, 2), (3, 3), (3, 4), (3, 5)] (by rfl) gw_wsX5_size
set_option maxRecDepth 20000 in
theorem gX6_rewind_X5_size : GoodIn wsX6_rewind (wsV RX6 73 RX5 yX5_size wsX5_size) := goodIn_app (goodIn_s seX6_rewind _ [(1, 16), (1, 17), (1, 18), (1, 11)] (by rfl) (by decide +kernel)) ggX6_rewind_X5_size
set_option maxRecDepth 20000 in
theorem ggX6_rewind_X6_done : GoodIn wsX6_rewind wsX6_done := goodIn_s seX6_rewind _ [(1, 23), (2, 0), (4, 0), (4, 1), (4, 2), (4, 3), (4, 4), (4, 5), (4, 6), (4, 7), (4, 8), (4, 9), (4, 10), (4, 11), (4, 12), (4, 13)] (by rfl) gw_wsX6_done
set_option maxRecDepth 20000 in
theorem gX6_rewind_X6_done : GoodIn wsX6_rewind (wsV RX6 77 RX6 yX6_done wsX6_done) := goodIn_app (goodIn_s seX6_rewind _ [(1, 20), (1, 21), (1, 22), (1, 3)] (by rfl) (by decide +kernel)) ggX6_rewind_X6_done
noncomputable def sgX6_flip : List (List Cond) := [[.code yX6_flip cX6_flip 3 (some .int)], wsX6_flip_r1, wsX6_flip_r2, wsX50, wsX60, (vx_atS RX6 306 "java/lang/IndexOutOfBoundsException" ["java/lang/RuntimeException", "java/lang/Exception"]).filter goodWord]
theorem seX6_flip : sgX6_flip.flatten = wsX6_flip := by simp only [sgX6_flip, wsX6_flip, List.flatten_cons, List.flatten_nil, List.append_assoc, List.append_nil, List.cons_append, List.nil_append]
set_option maxRecDepth 20000 in
theorem ggX6_flip_X6_windowOf : GoodIn wsX6_flip wsX6_windowOf := goodIn_ca (goodIn_s seX6_flip _ [(1, 4), (1, 5), (1, 6), (1, 7), (4, 0), (4, 1), (4, 2), (4, 3), (4, 4), (4, 5), (4, 6), (4, 7), (4, 8), (4, 9), (4, 10), (4, 11), (4, 12), (4, 13)] (by rfl) (by decide +kernel)) (goodIn_sub (fun _ h => List.mem_cons_of_mem _ (List.mem_append_right _ h)) (by decide +kernel))
set_option maxRecDepth 20000 in
theorem gX6_flip_X6_windowOf : GoodIn wsX6_flip (wsV RX6 62 RX6 yX6_windowOf wsX6_windowOf) := goodIn_app (goodIn_s seX6_flip _ [(1, 0), (1, 1), (1, 2), (1, 3)] (by rfl) (by decide +kernel)) ggX6_flip_X6_windowOf
set_option maxRecDepth 20000 in
theorem ggX6_flip_X5_goTo : GoodIn wsX6_flip wsX5_goTo := goodIn_s seX6_flip _ [(1, 12), (1, 13), (1, 14), (1, 15), (3, 0), (3, 1), (3, 2), (3, 3), (3, 4), (3, 5)] (by rfl) gw_wsX5_goTo
set_option maxRecDepth 20000 in
theorem gX6_flip_X5_goTo : GoodIn wsX6_flip (wsV RX6 147 RX5 yX5_goTo wsX5_goTo) := goodIn_app (goodIn_s seX6_flip _ [(1, 8), (1, 9), (1, 10), (1, 11)] (by rfl) (by decide +kernel)) ggX6_flip_X5_goTo
set_option maxRecDepth 20000 in
theorem ggX6_flip_X5_size : GoodIn wsX6_flip wsX5_size := goodIn_s seX6_flip _ [(1, 19), (1, 14), (1, 13), (3, 0), (3, 1), (3, 2), (3, 3), (3, 4), (3, 5)] (by rfl) gw_wsX5_size
set_option maxRecDepth 20000 in
theorem gX6_flip_X5_size : GoodIn wsX6_flip (wsV RX6 73 RX5 yX5_size wsX5_size) := goodIn_app (goodIn_s seX6_flip _ [(1, 16), (1, 17), (1, 18), (1, 11)] (by rfl) (by decide +kernel)) ggX6_flip_X5_size
set_option maxRecDepth 20000 in
theorem ggX6_flip_X6_done : GoodIn wsX6_flip wsX6_done := goodIn_s seX6_flip _ [(1, 23), (2, 0), (4, 0), (4, 1), (4, 2), (4, 3), (4, 4), (4, 5), (4, 6), (4, 7), (4, 8), (4, 9), (4, 10), (4, 11), (4, 12), (4, 13)] (by rfl) gw_wsX6_done
set_option maxRecDepth 20000 in
theorem gX6_flip_X6_done : GoodIn wsX6_flip (wsV RX6 77 RX6 yX6_done wsX6_done) := goodIn_app (goodIn_s seX6_flip _ [(1, 20), (1, 21), (1, 22), (1, 3)] (by rfl) (by decide +kernel)) ggX6_flip_X6_done
noncomputable def sgX6_compact : List (List Cond) := [[.code yX6_compact cX6_compact 3 (some .int)], wsX6_compact_r1, wsX6_compact_r2, wsX50, wsX60, (vx_atS RX6 306 "java/lang/IndexOutOfBoundsException" ["java/lang/RuntimeException", "java/lang/Exception"]).filter goodWord]
theorem seX6_compact : sgX6_compact.flatten = wsX6_compact := by simp only [sgX6_compact, wsX6_compact, List.flatten_cons, List.flatten_nil, List.append_assoc, List.append_nil, List.cons_append, List.nil_append]
set_option maxRecDepth 20000 in
theorem ggX6_compact_X6_windowOf : GoodIn wsX6_compact wsX6_windowOf := goodIn_ca (goodIn_s seX6_compact _ [(1, 4), (1, 5), (1, 6), (1, 7), (4, 0), (4, 1), (4, 2), (4, 3), (4, 4), (4, 5), (4, 6), (4, 7), (4, 8), (4, 9), (4, 10), (4, 11), (4, 12), (4, 13)] (by rfl) (by decide +kernel)) (goodIn_sub (fun _ h => List.mem_cons_of_mem _ (List.mem_append_right _ h)) (by decide +kernel))
set_option maxRecDepth 20000 in
theorem gX6_compact_X6_windowOf : GoodIn wsX6_compact (wsV RX6 62 RX6 yX6_windowOf wsX6_windowOf) := goodIn_app (goodIn_s seX6_compact _ [(1, 0), (1, 1), (1, 2), (1, 3)] (by rfl) (by decide +kernel)) ggX6_compact_X6_windowOf
set_option maxRecDepth 20000 in
theorem ggX6_compact_X5_moveTextToFront : GoodIn wsX6_compact wsX5_moveTextToFront := goodIn_s seX6_compact _ [(1, 12), (1, 13), (1, 14), (1, 15), (1, 16), (1, 11), (1, 17), (1, 18), (1, 19), (1, 20), (1, 21), (1, 22), (1, 23), (2, 0), (2, 1), (2, 2), (2, 3), (2, 4), (2, 5), (2, 6), (2, 7), (2, 8), (2, 9), (2, 10), (2, 11), (2, 12), (2, 13), (2, 14), (3, 0), (3, 1), (3, 2), (3, 3), (3, 4), (3, 5)] (by rfl) gw_wsX5_moveTextToFront
set_option maxRecDepth 20000 in
theorem gX6_compact_X5_moveTextToFront : GoodIn wsX6_compact (wsV RX6 150 RX5 yX5_moveTextToFront wsX5_moveTextToFront) := goodIn_app (goodIn_s seX6_compact _ [(1, 8), (1, 9), (1, 10), (1, 11)] (by rfl) (by decide +kernel)) ggX6_compact_X5_moveTextToFront
set_option maxRecDepth 20000 in
theorem ggX6_compact_X6_done : GoodIn wsX6_compact wsX6_done := goodIn_s seX6_compact _ [(2, 18), (2, 19), (4, 0), (4, 1), (4, 2), (4, 3), (4, 4), (4, 5), (4, 6), (4, 7), (4, 8), (4, 9), (4, 10), (4, 11), (4, 12), (4, 13)] (by rfl) gw_wsX6_done
set_option maxRecDepth 20000 in
theorem gX6_compact_X6_done : GoodIn wsX6_compact (wsV RX6 77 RX6 yX6_done wsX6_done) := goodIn_app (goodIn_s seX6_compact _ [(2, 15), (2, 16), (2, 17), (1, 3)] (by rfl) (by decide +kernel)) ggX6_compact_X6_done
noncomputable def sgX6_open : List (List Cond) := [[.code yX6_open cX6_open 3 (some .int)], wsX6_open_r1, wsX6_open_r2, wsX50, wsX60, (vx_atS RX6 306 "java/lang/IndexOutOfBoundsException" ["java/lang/RuntimeException", "java/lang/Exception"]).filter goodWord]
theorem seX6_open : sgX6_open.flatten = wsX6_open := by simp only [sgX6_open, wsX6_open, List.flatten_cons, List.flatten_nil, List.append_assoc, List.append_nil, List.cons_append, List.nil_append]
set_option maxRecDepth 20000 in
theorem ggX6_open_X6_windowOf : GoodIn wsX6_open wsX6_windowOf := goodIn_ca (goodIn_s seX6_open _ [(1, 4), (1, 5), (1, 6), (1, 7), (4, 0), (4, 1), (4, 2), (4, 3), (4, 4), (4, 5), (4, 6), (4, 7), (4, 8), (4, 9), (4, 10), (4, 11), (4, 12), (4, 13)] (by rfl) (by decide +kernel)) (goodIn_sub (fun _ h => List.mem_cons_of_mem _ (List.mem_append_right _ h)) (by decide +kernel))
set_option maxRecDepth 20000 in
theorem gX6_open_X6_windowOf : GoodIn wsX6_open (wsV RX6 62 RX6 yX6_windowOf wsX6_windowOf) := goodIn_app (goodIn_s seX6_open _ [(1, 0), (1, 1), (1, 2), (1, 3)] (by rfl) (by decide +kernel)) ggX6_open_X6_windowOf
set_option maxRecDepth 20000 in
theorem ggX6_open_X5_goTo : GoodIn wsX6_open wsX5_goTo := goodIn_s seX6_open _ [(1, 12), (1, 13), (1, 14), (1, 15), (3, 0), (3, 1), (3, 2), (3, 3), (3, 4), (3, 5)] (by rfl) gw_wsX5_goTo
set_option maxRecDepth 20000 in
theorem gX6_open_X5_goTo : GoodIn wsX6_open (wsV RX6 147 RX5 yX5_goTo wsX5_goTo) := goodIn_app (goodIn_s seX6_open _ [(1, 8), (1, 9), (1, 10), (1, 11)] (by rfl) (by decide +kernel)) ggX6_open_X5_goTo
set_option maxRecDepth 20000 in
theorem ggX6_open_X5_size : GoodIn wsX6_open wsX5_size := goodIn_s seX6_open _ [(1, 19), (1, 14), (1, 13), (3, 0), (3, 1), (3, 2), (3, 3), (3, 4), (3, 5)] (by rfl) gw_wsX5_size
set_option maxRecDepth 20000 in
theorem gX6_open_X5_size : GoodIn wsX6_open (wsV RX6 73 RX5 yX5_size wsX5_size) := goodIn_app (goodIn_s seX6_open _ [(1, 16), (1, 17), (1, 18), (1, 11)] (by rfl) (by decide +kernel)) ggX6_open_X5_size
set_option maxRecDepth 20000 in
theorem ggX6_open_X6_done : GoodIn wsX6_open wsX6_done := goodIn_s seX6_open _ [(1, 23), (2, 0), (4, 0), (4, 1), (4, 2), (4, 3), (4, 4), (4, 5), (4, 6), (4, 7), (4, 8), (4, 9), (4, 10), (4, 11), (4, 12), (4, 13)] (by rfl) gw_wsX6_done
set_option maxRecDepth 20000 in
theorem gX6_open_X6_done : GoodIn wsX6_open (wsV RX6 77 RX6 yX6_done wsX6_done) := goodIn_app (goodIn_s seX6_open _ [(1, 20), (1, 21), (1, 22), (1, 3)] (by rfl) (by decide +kernel)) ggX6_open_X6_done
noncomputable def sgX6_keep : List (List Cond) := [[.code yX6_keep cX6_keep 2 (some .int)], wsX6_keep_r1, wsX6_keep_r2, wsX6_keep_r3, wsX60, wsX20, wsX50, (vx_atS RX6 306 "java/lang/IndexOutOfBoundsException" ["java/lang/RuntimeException", "java/lang/Exception"]).filter goodWord]
theorem seX6_keep : sgX6_keep.flatten = wsX6_keep := by simp only [sgX6_keep, wsX6_keep, List.flatten_cons, List.flatten_nil, List.append_assoc, List.append_nil, List.cons_append, List.nil_append]
set_option maxRecDepth 20000 in
theorem ggX6_keep_X6_sourceOf : GoodIn wsX6_keep wsX6_sourceOf := goodIn_ca (goodIn_s seX6_keep _ [(1, 5), (1, 6), (1, 7), (1, 8), (1, 9), (1, 0), (4, 0), (4, 1), (4, 2), (4, 3), (4, 4), (4, 5), (4, 6), (4, 7), (4, 8), (4, 9), (4, 10), (4, 11), (4, 12), (4, 13)] (by rfl) (by decide +kernel)) (goodIn_sub (fun _ h => List.mem_cons_of_mem _ (List.mem_append_right _ h)) (by decide +kernel))
set_option maxRecDepth 20000 in
theorem gX6_keep_X6_sourceOf : GoodIn wsX6_keep (wsV RX6 156 RX6 yX6_sourceOf wsX6_sourceOf) := goodIn_app (goodIn_s seX6_keep _ [(1, 1), (1, 2), (1, 3), (1, 4)] (by rfl) (by decide +kernel)) ggX6_keep_X6_sourceOf
set_option maxRecDepth 20000 in
theorem ggX6_keep_X2_becomeText : GoodIn wsX6_keep wsX2_becomeText := goodIn_s seX6_keep _ [(1, 14), (1, 15), (1, 16), (1, 17), (1, 13), (1, 18), (1, 19), (1, 20), (1, 21), (1, 22), (1, 23), (2, 0), (2, 1), (2, 2), (2, 3), (2, 4), (2, 5), (2, 6), (2, 7), (2, 8), (2, 9), (2, 10), (2, 11), (2, 12), (2, 13), (2, 14), (2, 15), (2, 16), (2, 17), (2, 18), (2, 19), (2, 20), (2, 21), (2, 22), (2, 23), (3, 0), (3, 1), (3, 2), (3, 3), (3, 4), (3, 5), (5, 0), (5, 1), (6, 0), (6, 1), (6, 2), (6, 3), (6, 4), (6, 5)] (by rfl) gw_wsX2_becomeText
set_option maxRecDepth 20000 in
theorem gX6_keep_X2_becomeText : GoodIn wsX6_keep (wsV RX6 160 RX2 yX2_becomeText wsX2_becomeText) := goodIn_app (goodIn_s seX6_keep _ [(1, 10), (1, 11), (1, 12), (1, 13)] (by rfl) (by decide +kernel)) ggX6_keep_X2_becomeText
set_option maxRecDepth 20000 in
theorem ggX6_keep_X2_size : GoodIn wsX6_keep wsX2_size := goodIn_s seX6_keep _ [(2, 4), (1, 19), (5, 0), (5, 1)] (by rfl) gw_wsX2_size
set_option maxRecDepth 20000 in
theorem gX6_keep_X2_size : GoodIn wsX6_keep (wsV RX6 164 RX2 yX2_size wsX2_size) := goodIn_app (goodIn_s seX6_keep _ [(3, 6), (2, 3), (3, 7), (1, 13)] (by rfl) (by decide +kernel)) ggX6_keep_X2_size
set_option maxRecDepth 20000 in
theorem ggX6_keep_X6_done : GoodIn wsX6_keep wsX6_done := goodIn_s seX6_keep _ [(3, 11), (3, 12), (4, 0), (4, 1), (4, 2), (4, 3), (4, 4), (4, 5), (4, 6), (4, 7), (4, 8), (4, 9), (4, 10), (4, 11), (4, 12), (4, 13)] (by rfl) gw_wsX6_done
set_option maxRecDepth 20000 in
theorem gX6_keep_X6_done : GoodIn wsX6_keep (wsV RX6 77 RX6 yX6_done wsX6_done) := goodIn_app (goodIn_s seX6_keep _ [(3, 8), (3, 9), (3, 10), (1, 4)] (by rfl) (by decide +kernel)) ggX6_keep_X6_done
noncomputable def sgX6_load : List (List Cond) := [[.code yX6_load cX6_load 2 (some .int)], wsX6_load_r1, wsX6_load_r2, wsX6_load_r3, wsX60, wsX20, wsX50, (vx_atS RX6 306 "java/lang/IndexOutOfBoundsException" ["java/lang/RuntimeException", "java/lang/Exception"]).filter goodWord]
theorem seX6_load : sgX6_load.flatten = wsX6_load := by simp only [sgX6_load, wsX6_load, List.flatten_cons, List.flatten_nil, List.append_assoc, List.append_nil, List.cons_append, List.nil_append]
set_option maxRecDepth 20000 in
theorem ggX6_load_X6_sourceOf : GoodIn wsX6_load wsX6_sourceOf := goodIn_ca (goodIn_s seX6_load _ [(1, 5), (1, 6), (1, 7), (1, 8), (1, 0), (1, 9), (4, 0), (4, 1), (4, 2), (4, 3), (4, 4), (4, 5), (4, 6), (4, 7), (4, 8), (4, 9), (4, 10), (4, 11), (4, 12), (4, 13)] (by rfl) (by decide +kernel)) (goodIn_sub (fun _ h => List.mem_cons_of_mem _ (List.mem_append_right _ h)) (by decide +kernel))
set_option maxRecDepth 20000 in
theorem gX6_load_X6_sourceOf : GoodIn wsX6_load (wsV RX6 156 RX6 yX6_sourceOf wsX6_sourceOf) := goodIn_app (goodIn_s seX6_load _ [(1, 1), (1, 2), (1, 3), (1, 4)] (by rfl) (by decide +kernel)) ggX6_load_X6_sourceOf
set_option maxRecDepth 20000 in
theorem ggX6_load_X2_becomeText : GoodIn wsX6_load wsX2_becomeText := goodIn_s seX6_load _ [(1, 14), (1, 15), (1, 16), (1, 17), (1, 13), (1, 18), (1, 19), (1, 20), (1, 21), (1, 22), (1, 23), (2, 0), (2, 1), (2, 2), (2, 3), (2, 4), (2, 5), (2, 6), (2, 7), (2, 8), (2, 9), (2, 10), (2, 11), (2, 12), (2, 13), (2, 14), (2, 15), (2, 16), (2, 17), (2, 18), (2, 19), (2, 20), (2, 21), (2, 22), (2, 23), (3, 0), (3, 1), (3, 2), (3, 3), (3, 4), (3, 5), (5, 0), (5, 1), (6, 0), (6, 1), (6, 2), (6, 3), (6, 4), (6, 5)] (by rfl) gw_wsX2_becomeText
set_option maxRecDepth 20000 in
theorem gX6_load_X2_becomeText : GoodIn wsX6_load (wsV RX6 160 RX2 yX2_becomeText wsX2_becomeText) := goodIn_app (goodIn_s seX6_load _ [(1, 10), (1, 11), (1, 12), (1, 13)] (by rfl) (by decide +kernel)) ggX6_load_X2_becomeText
set_option maxRecDepth 20000 in
theorem ggX6_load_X2_size : GoodIn wsX6_load wsX2_size := goodIn_s seX6_load _ [(2, 4), (1, 19), (5, 0), (5, 1)] (by rfl) gw_wsX2_size
set_option maxRecDepth 20000 in
theorem gX6_load_X2_size : GoodIn wsX6_load (wsV RX6 164 RX2 yX2_size wsX2_size) := goodIn_app (goodIn_s seX6_load _ [(3, 6), (2, 3), (3, 7), (1, 13)] (by rfl) (by decide +kernel)) ggX6_load_X2_size
set_option maxRecDepth 20000 in
theorem ggX6_load_X6_done : GoodIn wsX6_load wsX6_done := goodIn_s seX6_load _ [(3, 11), (3, 12), (4, 0), (4, 1), (4, 2), (4, 3), (4, 4), (4, 5), (4, 6), (4, 7), (4, 8), (4, 9), (4, 10), (4, 11), (4, 12), (4, 13)] (by rfl) gw_wsX6_done
set_option maxRecDepth 20000 in
theorem gX6_load_X6_done : GoodIn wsX6_load (wsV RX6 77 RX6 yX6_done wsX6_done) := goodIn_app (goodIn_s seX6_load _ [(3, 8), (3, 9), (3, 10), (1, 4)] (by rfl) (by decide +kernel)) ggX6_load_X6_done
noncomputable def sgX6_build : List (List Cond) := [[.code yX6_build cX6_build 3 (some .int)], wsX6_build_r1, wsX6_build_r2, wsX6_build_r3, wsX60, wsX20, wsX50, (vx_atS RX6 306 "java/lang/IndexOutOfBoundsException" ["java/lang/RuntimeException", "java/lang/Exception"]).filter goodWord, (vx_atS RX6 327 "java/lang/IllegalStateException" ["java/lang/RuntimeException", "java/lang/Exception"]).filter goodWord]
theorem seX6_build : sgX6_build.flatten = wsX6_build := by simp only [sgX6_build, wsX6_build, List.flatten_cons, List.flatten_nil, List.append_assoc, List.append_nil, List.cons_append, List.nil_append]
set_option maxRecDepth 20000 in
theorem ggX6_build_X6_sourceOf : GoodIn wsX6_build wsX6_sourceOf := goodIn_ca (goodIn_s seX6_build _ [(1, 5), (1, 6), (1, 7), (1, 8), (1, 0), (1, 9), (4, 0), (4, 1), (4, 2), (4, 3), (4, 4), (4, 5), (4, 6), (4, 7), (4, 8), (4, 9), (4, 10), (4, 11), (4, 12), (4, 13)] (by rfl) (by decide +kernel)) (goodIn_sub (fun _ h => List.mem_cons_of_mem _ (List.mem_append_left _ (List.mem_append_right _ h))) (by decide +kernel))
set_option maxRecDepth 20000 in
theorem gX6_build_X6_sourceOf : GoodIn wsX6_build (wsV RX6 156 RX6 yX6_sourceOf wsX6_sourceOf) := goodIn_app (goodIn_s seX6_build _ [(1, 1), (1, 2), (1, 3), (1, 4)] (by rfl) (by decide +kernel)) ggX6_build_X6_sourceOf
set_option maxRecDepth 20000 in
theorem ggX6_build_X2_size : GoodIn wsX6_build wsX2_size := goodIn_s seX6_build _ [(1, 14), (1, 15), (5, 0), (5, 1)] (by rfl) gw_wsX2_size
set_option maxRecDepth 20000 in
theorem gX6_build_X2_size : GoodIn wsX6_build (wsV RX6 164 RX2 yX2_size wsX2_size) := goodIn_app (goodIn_s seX6_build _ [(1, 10), (1, 11), (1, 12), (1, 13)] (by rfl) (by decide +kernel)) ggX6_build_X2_size
set_option maxRecDepth 20000 in
theorem gX6_build_X2_size_u165X2 : GoodIn wsX6_build (va_wsU RX6 165 RX2 "Sashwords$Text" ⟨"Sashwords$Text", "size", "()I"⟩ yX2_size wsX2_size) := goodIn_app (goodIn_s seX6_build _ [(1, 16), (1, 17), (1, 18), (1, 11), (1, 13)] (by rfl) (by decide +kernel)) ggX6_build_X2_size
set_option maxRecDepth 20000 in
theorem ggX6_build_X5_size : GoodIn wsX6_build wsX5_size := goodIn_s seX6_build _ [(1, 22), (1, 23), (2, 0), (6, 0), (6, 1), (6, 2), (6, 3), (6, 4), (6, 5)] (by rfl) gw_wsX5_size
set_option maxRecDepth 20000 in
theorem gX6_build_X5_size_u165X5 : GoodIn wsX6_build (va_wsU RX6 165 RX5 "Sashwords$Text" ⟨"Sashwords$Text", "size", "()I"⟩ yX5_size wsX5_size) := goodIn_app (goodIn_s seX6_build _ [(1, 16), (1, 17), (1, 19), (1, 20), (1, 21)] (by rfl) (by decide +kernel)) ggX6_build_X5_size
set_option maxRecDepth 20000 in
theorem ggX6_build_X6_requireRoom : GoodIn wsX6_build wsX6_requireRoom := goodIn_ca (goodIn_s seX6_build _ [(2, 3), (2, 4), (2, 5)] (by rfl) (by decide +kernel)) (goodIn_sub (fun _ h => List.mem_cons_of_mem _ (List.mem_append_right _ h)) (by decide +kernel))
set_option maxRecDepth 20000 in
theorem gX6_build_X6_requireRoom : GoodIn wsX6_build (va_wsS RX6 168 yX6_requireRoom wsX6_requireRoom) := goodIn_app (goodIn_s seX6_build _ [(2, 1), (2, 2), (1, 4)] (by rfl) (by decide +kernel)) ggX6_build_X6_requireRoom
set_option maxRecDepth 20000 in
theorem ggX6_build_X2_append : GoodIn wsX6_build wsX2_append := goodIn_s seX6_build _ [(2, 9), (2, 10), (1, 17), (1, 18), (1, 11), (1, 13), (1, 14), (1, 15), (1, 19), (1, 20), (1, 21), (1, 22), (1, 23), (2, 0), (2, 11), (2, 12), (2, 13), (2, 14), (2, 15), (2, 16), (2, 17), (2, 18), (2, 19), (2, 20), (2, 21), (2, 22), (2, 23), (3, 0), (3, 1), (3, 2), (3, 3), (3, 4), (3, 5), (5, 0), (5, 1), (6, 0), (6, 1), (6, 2), (6, 3), (6, 4), (6, 5)] (by rfl) gw_wsX2_append
set_option maxRecDepth 20000 in
theorem gX6_build_X2_append : GoodIn wsX6_build (wsV RX6 171 RX2 yX2_append wsX2_append) := goodIn_app (goodIn_s seX6_build _ [(2, 6), (2, 7), (2, 8), (1, 13)] (by rfl) (by decide +kernel)) ggX6_build_X2_append
set_option maxRecDepth 20000 in
theorem ggX6_build_X6_done : GoodIn wsX6_build wsX6_done := goodIn_s seX6_build _ [(3, 9), (3, 10), (4, 0), (4, 1), (4, 2), (4, 3), (4, 4), (4, 5), (4, 6), (4, 7), (4, 8), (4, 9), (4, 10), (4, 11), (4, 12), (4, 13)] (by rfl) gw_wsX6_done
set_option maxRecDepth 20000 in
theorem gX6_build_X6_done : GoodIn wsX6_build (wsV RX6 77 RX6 yX6_done wsX6_done) := goodIn_app (goodIn_s seX6_build _ [(3, 6), (3, 7), (3, 8), (1, 4)] (by rfl) (by decide +kernel)) ggX6_build_X6_done
noncomputable def sgX6_turn : List (List Cond) := [[.code yX6_turn cX6_turn 1 (some .int)], wsX6_turn_r1, wsX6_turn_r2, wsX60, wsX20]
theorem seX6_turn : sgX6_turn.flatten = wsX6_turn := by simp only [sgX6_turn, wsX6_turn, List.flatten_cons, List.flatten_nil, List.append_assoc, List.append_nil, List.cons_append, List.nil_append]
set_option maxRecDepth 20000 in
theorem ggX6_turn_X2_turnRound : GoodIn wsX6_turn wsX2_turnRound := goodIn_s seX6_turn _ [(1, 5), (1, 6), (1, 7), (1, 8), (1, 9), (1, 4), (1, 10), (1, 11), (1, 12), (1, 13), (1, 14), (1, 15), (4, 0), (4, 1)] (by rfl) gw_wsX2_turnRound
set_option maxRecDepth 20000 in
theorem gX6_turn_X2_turnRound : GoodIn wsX6_turn (wsV RX6 173 RX2 yX2_turnRound wsX2_turnRound) := goodIn_app (goodIn_s seX6_turn _ [(1, 1), (1, 2), (1, 3), (1, 4)] (by rfl) (by decide +kernel)) ggX6_turn_X2_turnRound
set_option maxRecDepth 20000 in
theorem ggX6_turn_X2_size : GoodIn wsX6_turn wsX2_size := goodIn_s seX6_turn _ [(1, 19), (1, 6), (4, 0), (4, 1)] (by rfl) gw_wsX2_size
set_option maxRecDepth 20000 in
theorem gX6_turn_X2_size : GoodIn wsX6_turn (wsV RX6 164 RX2 yX2_size wsX2_size) := goodIn_app (goodIn_s seX6_turn _ [(1, 16), (1, 17), (1, 18), (1, 4)] (by rfl) (by decide +kernel)) ggX6_turn_X2_size
set_option maxRecDepth 20000 in
theorem ggX6_turn_X6_done : GoodIn wsX6_turn wsX6_done := goodIn_s seX6_turn _ [(2, 0), (2, 1), (3, 0), (3, 1), (3, 2), (3, 3), (3, 4), (3, 5), (3, 6), (3, 7), (3, 8), (3, 9), (3, 10), (3, 11), (3, 12), (3, 13)] (by rfl) gw_wsX6_done
set_option maxRecDepth 20000 in
theorem gX6_turn_X6_done : GoodIn wsX6_turn (wsV RX6 77 RX6 yX6_done wsX6_done) := goodIn_app (goodIn_s seX6_turn _ [(1, 20), (1, 21), (1, 22), (1, 23)] (by rfl) (by decide +kernel)) ggX6_turn_X6_done
noncomputable def sgX6_change : List (List Cond) := [[.code yX6_change cX6_change 3 (some .int)], wsX6_change_r1, wsX6_change_r2, wsX60, wsX20, (vx_atS RX6 306 "java/lang/IndexOutOfBoundsException" ["java/lang/RuntimeException", "java/lang/Exception"]).filter goodWord, (vx_atS RX6 317 "java/lang/IllegalArgumentException" ["java/lang/RuntimeException", "java/lang/Exception"]).filter goodWord]
theorem seX6_change : sgX6_change.flatten = wsX6_change := by simp only [sgX6_change, wsX6_change, List.flatten_cons, List.flatten_nil, List.append_assoc, List.append_nil, List.cons_append, List.nil_append]
set_option maxRecDepth 20000 in
theorem ggX6_change_X2_size : GoodIn wsX6_change wsX2_size := goodIn_s seX6_change _ [(1, 5), (1, 6), (4, 0), (4, 1)] (by rfl) gw_wsX2_size
set_option maxRecDepth 20000 in
theorem gX6_change_X2_size : GoodIn wsX6_change (wsV RX6 164 RX2 yX2_size wsX2_size) := goodIn_app (goodIn_s seX6_change _ [(1, 1), (1, 2), (1, 3), (1, 4)] (by rfl) (by decide +kernel)) ggX6_change_X2_size
set_option maxRecDepth 20000 in
theorem ggX6_change_X6_requirePlace : GoodIn wsX6_change wsX6_requirePlace := goodIn_ca (goodIn_s seX6_change _ [(1, 10), (1, 11), (1, 12)] (by rfl) (by decide +kernel)) (goodIn_sub (fun _ h => List.mem_cons_of_mem _ (List.mem_append_left _ (List.mem_append_right _ h))) (by decide +kernel))
set_option maxRecDepth 20000 in
theorem gX6_change_X6_requirePlace : GoodIn wsX6_change (va_wsS RX6 176 yX6_requirePlace wsX6_requirePlace) := goodIn_app (goodIn_s seX6_change _ [(1, 7), (1, 8), (1, 9)] (by rfl) (by decide +kernel)) ggX6_change_X6_requirePlace
set_option maxRecDepth 20000 in
theorem ggX6_change_X6_requireWithin : GoodIn wsX6_change wsX6_requireWithin := goodIn_ca (goodIn_s seX6_change _ [(1, 15), (1, 16), (1, 17)] (by rfl) (by decide +kernel)) (goodIn_sub (fun _ h => List.mem_cons_of_mem _ (List.mem_append_right _ h)) (by decide +kernel))
set_option maxRecDepth 20000 in
theorem gX6_change_X6_requireWithin : GoodIn wsX6_change (va_wsS RX6 66 yX6_requireWithin wsX6_requireWithin) := goodIn_app (goodIn_s seX6_change _ [(1, 13), (1, 14), (1, 9)] (by rfl) (by decide +kernel)) ggX6_change_X6_requireWithin
set_option maxRecDepth 20000 in
theorem ggX6_change_X2_exchange : GoodIn wsX6_change wsX2_exchange := goodIn_s seX6_change _ [(1, 21), (1, 22), (1, 23), (2, 0), (2, 1), (1, 4), (2, 2), (1, 6), (4, 0), (4, 1)] (by rfl) gw_wsX2_exchange
set_option maxRecDepth 20000 in
theorem gX6_change_X2_exchange : GoodIn wsX6_change (wsV RX6 179 RX2 yX2_exchange wsX2_exchange) := goodIn_app (goodIn_s seX6_change _ [(1, 18), (1, 19), (1, 20), (1, 4)] (by rfl) (by decide +kernel)) ggX6_change_X2_exchange
set_option maxRecDepth 20000 in
theorem ggX6_change_X6_done : GoodIn wsX6_change wsX6_done := goodIn_s seX6_change _ [(2, 6), (2, 7), (3, 0), (3, 1), (3, 2), (3, 3), (3, 4), (3, 5), (3, 6), (3, 7), (3, 8), (3, 9), (3, 10), (3, 11), (3, 12), (3, 13)] (by rfl) gw_wsX6_done
set_option maxRecDepth 20000 in
theorem gX6_change_X6_done : GoodIn wsX6_change (wsV RX6 77 RX6 yX6_done wsX6_done) := goodIn_app (goodIn_s seX6_change _ [(2, 3), (2, 4), (2, 5), (1, 9)] (by rfl) (by decide +kernel)) ggX6_change_X6_done
noncomputable def sgX6_pipe : List (List Cond) := [[.code yX6_pipe cX6_pipe 3 (some .int)], wsX6_pipe_r1, wsX6_pipe_r2, wsX60, wsX10, wsX20, (vx_atS RX6 317 "java/lang/IllegalArgumentException" ["java/lang/RuntimeException", "java/lang/Exception"]).filter goodWord]
theorem seX6_pipe : sgX6_pipe.flatten = wsX6_pipe := by simp only [sgX6_pipe, wsX6_pipe, List.flatten_cons, List.flatten_nil, List.append_assoc, List.append_nil, List.cons_append, List.nil_append]
set_option maxRecDepth 20000 in
theorem ggX6_pipe_X6_requireWithin : GoodIn wsX6_pipe wsX6_requireWithin := goodIn_ca (goodIn_s seX6_pipe _ [(1, 4), (1, 5), (1, 6)] (by rfl) (by decide +kernel)) (goodIn_sub (fun _ h => List.mem_cons_of_mem _ (List.mem_append_right _ h)) (by decide +kernel))
set_option maxRecDepth 20000 in
theorem gX6_pipe_X6_requireWithin : GoodIn wsX6_pipe (va_wsS RX6 66 yX6_requireWithin wsX6_requireWithin) := goodIn_app (goodIn_s seX6_pipe _ [(1, 1), (1, 2), (1, 3)] (by rfl) (by decide +kernel)) ggX6_pipe_X6_requireWithin
set_option maxRecDepth 20000 in
theorem ggX6_pipe_X2_size : GoodIn wsX6_pipe wsX2_size := goodIn_s seX6_pipe _ [(1, 11), (1, 12), (5, 0), (5, 1)] (by rfl) gw_wsX2_size
set_option maxRecDepth 20000 in
theorem gX6_pipe_X2_size : GoodIn wsX6_pipe (wsV RX6 164 RX2 yX2_size wsX2_size) := goodIn_app (goodIn_s seX6_pipe _ [(1, 7), (1, 8), (1, 9), (1, 10)] (by rfl) (by decide +kernel)) ggX6_pipe_X2_size
set_option maxRecDepth 20000 in
theorem ggX6_pipe_X1_makeNew : GoodIn wsX6_pipe wsX1_makeNew := goodIn_s seX6_pipe _ [(1, 17), (1, 18), (1, 19), (1, 20), (1, 21), (1, 22), (1, 23), (2, 0), (1, 10), (2, 1), (1, 12), (4, 0), (4, 1), (4, 2), (4, 3), (5, 0), (5, 1)] (by rfl) gw_wsX1_makeNew
set_option maxRecDepth 20000 in
theorem gX6_pipe_X1_makeNew : GoodIn wsX6_pipe (wsV RX6 186 RX1 yX1_makeNew wsX1_makeNew) := goodIn_app (goodIn_s seX6_pipe _ [(1, 13), (1, 14), (1, 15), (1, 16)] (by rfl) (by decide +kernel)) ggX6_pipe_X1_makeNew
set_option maxRecDepth 20000 in
theorem ggX6_pipe_X6_done : GoodIn wsX6_pipe wsX6_done := goodIn_s seX6_pipe _ [(2, 5), (2, 6), (3, 0), (3, 1), (3, 2), (3, 3), (3, 4), (3, 5), (3, 6), (3, 7), (3, 8), (3, 9), (3, 10), (3, 11), (3, 12), (3, 13)] (by rfl) gw_wsX6_done
set_option maxRecDepth 20000 in
theorem gX6_pipe_X6_done : GoodIn wsX6_pipe (wsV RX6 77 RX6 yX6_done wsX6_done) := goodIn_app (goodIn_s seX6_pipe _ [(2, 2), (2, 3), (2, 4), (1, 3)] (by rfl) (by decide +kernel)) ggX6_pipe_X6_done
noncomputable def sgX6_feed : List (List Cond) := [[.code yX6_feed cX6_feed 5 (some .int)], wsX6_feed_r1, wsX6_feed_r2, wsX60, wsX10, wsX20, (vx_atS RX6 317 "java/lang/IllegalArgumentException" ["java/lang/RuntimeException", "java/lang/Exception"]).filter goodWord]
theorem seX6_feed : sgX6_feed.flatten = wsX6_feed := by simp only [sgX6_feed, wsX6_feed, List.flatten_cons, List.flatten_nil, List.append_assoc, List.append_nil, List.cons_append, List.nil_append]
set_option maxRecDepth 20000 in
theorem ggX6_feed_X6_requireLetters : GoodIn wsX6_feed wsX6_requireLetters := goodIn_ca (goodIn_s seX6_feed _ [(1, 4), (1, 5), (1, 6), (1, 7), (1, 3), (1, 8), (1, 9), (1, 10)] (by rfl) (by decide +kernel)) (goodIn_sub (fun _ h => List.mem_cons_of_mem _ (List.mem_append_right _ h)) (by decide +kernel))
set_option maxRecDepth 20000 in
theorem gX6_feed_X6_requireLetters : GoodIn wsX6_feed (va_wsS RX6 103 yX6_requireLetters wsX6_requireLetters) := goodIn_app (goodIn_s seX6_feed _ [(1, 1), (1, 2), (1, 3)] (by rfl) (by decide +kernel)) ggX6_feed_X6_requireLetters
set_option maxRecDepth 20000 in
theorem ggX6_feed_X6_lowestLetter : GoodIn wsX6_feed wsX6_lowestLetter := goodIn_s seX6_feed _ [(1, 13)] (by rfl) gw_wsX6_lowestLetter
set_option maxRecDepth 20000 in
theorem gX6_feed_X6_lowestLetter : GoodIn wsX6_feed (va_wsS RX6 107 yX6_lowestLetter wsX6_lowestLetter) := goodIn_app (goodIn_s seX6_feed _ [(1, 11), (1, 12), (1, 3)] (by rfl) (by decide +kernel)) ggX6_feed_X6_lowestLetter
set_option maxRecDepth 20000 in
theorem ggX6_feed_X1_takeIn : GoodIn wsX6_feed wsX1_takeIn := goodIn_s seX6_feed _ [(1, 18), (1, 19), (1, 20), (1, 21), (1, 22), (1, 23), (2, 0), (2, 1), (2, 2), (2, 3), (2, 4), (2, 5), (2, 6), (2, 7), (2, 8), (2, 9), (2, 10), (2, 11), (2, 12), (4, 0), (4, 1), (4, 2), (4, 3), (5, 0), (5, 1)] (by rfl) gw_wsX1_takeIn
set_option maxRecDepth 20000 in
theorem gX6_feed_X1_takeIn : GoodIn wsX6_feed (wsV RX6 189 RX1 yX1_takeIn wsX1_takeIn) := goodIn_app (goodIn_s seX6_feed _ [(1, 14), (1, 15), (1, 16), (1, 17)] (by rfl) (by decide +kernel)) ggX6_feed_X1_takeIn
set_option maxRecDepth 20000 in
theorem ggX6_feed_X6_done : GoodIn wsX6_feed wsX6_done := goodIn_s seX6_feed _ [(2, 16), (2, 17), (3, 0), (3, 1), (3, 2), (3, 3), (3, 4), (3, 5), (3, 6), (3, 7), (3, 8), (3, 9), (3, 10), (3, 11), (3, 12), (3, 13)] (by rfl) gw_wsX6_done
set_option maxRecDepth 20000 in
theorem gX6_feed_X6_done : GoodIn wsX6_feed (wsV RX6 77 RX6 yX6_done wsX6_done) := goodIn_app (goodIn_s seX6_feed _ [(2, 13), (2, 14), (2, 15), (1, 3)] (by rfl) (by decide +kernel)) ggX6_feed_X6_done
noncomputable def sgX6_drain : List (List Cond) := [[.code yX6_drain cX6_drain 3 (some (.object "java/lang/String"))], wsX6_drain_r1, wsX6_drain_r2, wsX6_drain_r3, wsX6_drain_r4, wsX6_drain_r5, wsX6_drain_r6, wsX6_drain_r7, wsX6_drain_r8, wsX6_drain_r9, wsX6_drain_r10, wsJ40, wsX60, wsX10, wsX20, wsJ00, (vx_atS RX6 317 "java/lang/IllegalArgumentException" ["java/lang/RuntimeException", "java/lang/Exception"]).filter goodWord]
theorem seX6_drain : sgX6_drain.flatten = wsX6_drain := by simp only [sgX6_drain, wsX6_drain, List.flatten_cons, List.flatten_nil, List.append_assoc, List.append_nil, List.cons_append, List.nil_append]
set_option maxRecDepth 20000 in
theorem ggX6_drain_X6_requireWithin : GoodIn wsX6_drain wsX6_requireWithin := goodIn_ca (goodIn_s seX6_drain _ [(1, 6), (1, 7), (1, 8)] (by rfl) (by decide +kernel)) (goodIn_sub (fun _ h => List.mem_cons_of_mem _ (List.mem_append_right _ h)) (by decide +kernel))
set_option maxRecDepth 20000 in
theorem gX6_drain_X6_requireWithin : GoodIn wsX6_drain (va_wsS RX6 66 yX6_requireWithin wsX6_requireWithin) := goodIn_app (goodIn_s seX6_drain _ [(1, 3), (1, 4), (1, 5)] (by rfl) (by decide +kernel)) ggX6_drain_X6_requireWithin
set_option maxRecDepth 20000 in
theorem ggX6_drain_J4_init_da8c8 : GoodIn wsX6_drain wsJ4_init_da8c8 := goodIn_s seX6_drain _ [(1, 11), (1, 12), (1, 13), (1, 14), (1, 15), (1, 16), (1, 17), (1, 18), (1, 19), (1, 20), (1, 21), (1, 22), (1, 23), (2, 0), (2, 1), (2, 2), (2, 3), (2, 4), (2, 5), (2, 6), (11, 0), (11, 1), (11, 2), (11, 3)] (by rfl) gw_wsJ4_init_da8c8
set_option maxRecDepth 20000 in
theorem gX6_drain_J4_init_da8c8 : GoodIn wsX6_drain (wsJ4_init_da8c8) := ggX6_drain_J4_init_da8c8
set_option maxRecDepth 20000 in
theorem ggX6_drain_X6_letOut : GoodIn wsX6_drain wsX6_letOut := goodIn_s seX6_drain _ [(2, 10), (2, 11), (2, 12), (2, 13), (2, 14), (2, 15), (2, 16), (2, 17), (2, 18), (2, 19), (2, 20), (2, 21), (2, 22), (2, 23), (3, 0), (3, 1), (3, 2), (3, 3), (3, 4), (3, 5), (3, 6), (3, 7), (3, 8), (3, 9), (3, 10), (3, 11), (3, 12), (3, 13), (3, 14), (3, 15), (3, 16), (3, 17), (3, 18), (3, 19), (3, 20), (3, 21), (3, 22), (3, 23), (4, 0), (1, 2), (4, 1), (4, 2), (4, 3), (4, 4), (4, 5), (1, 14), (4, 6), (4, 7), (1, 21), (4, 8), (4, 9), (4, 10), (4, 11), (4, 12), (1, 22), (4, 13), (4, 14), (4, 15), (4, 16), (4, 17), (4, 18), (4, 19), (4, 20), (4, 21), (4, 22), (4, 23), (5, 0), (5, 1), (5, 2), (5, 3), (5, 4), (5, 5), (5, 6), (5, 7), (5, 8), (5, 9), (5, 10), (5, 11), (5, 12), (5, 13), (1, 20), (5, 14), (5, 15), (5, 16), (5, 17), (5, 18), (5, 19), (5, 20), (5, 21), (5, 22), (5, 23), (6, 0), (6, 1), (1, 19), (6, 2), (6, 3), (6, 4), (6, 5), (6, 6), (6, 7), (6, 8), (6, 9), (6, 10), (1, 23), (2, 0), (2, 1), (2, 2), (2, 3), (2, 4), (2, 5), (2, 6), (6, 11), (6, 12), (6, 13), (6, 14), (6, 15), (6, 16), (6, 17), (6, 18), (6, 19), (6, 20), (6, 21), (6, 22), (6, 23), (7, 0), (7, 1), (7, 2), (7, 3), (7, 4), (7, 5), (7, 6), (7, 7), (7, 8), (7, 9), (7, 10), (7, 11), (7, 12), (7, 13), (7, 14), (7, 15), (7, 16), (7, 17), (7, 18), (7, 19), (7, 20), (7, 21), (7, 22), (7, 23), (8, 0), (8, 1), (12, 0), (12, 1), (12, 2), (12, 3), (12, 4), (12, 5), (12, 6), (12, 7), (12, 8), (12, 9), (12, 10), (12, 11), (12, 12), (12, 13), (13, 0), (13, 1), (13, 2), (13, 3), (14, 0), (14, 1), (11, 0), (11, 1), (11, 2), (11, 3)] (by rfl) gw_wsX6_letOut
set_option maxRecDepth 20000 in
theorem gX6_drain_X6_letOut : GoodIn wsX6_drain (wsV RX6 192 RX6 yX6_letOut wsX6_letOut) := goodIn_app (goodIn_s seX6_drain _ [(2, 7), (2, 8), (2, 9), (1, 5)] (by rfl) (by decide +kernel)) ggX6_drain_X6_letOut
set_option maxRecDepth 20000 in
theorem ggX6_drain_J4_toString_0e30d : GoodIn wsX6_drain wsJ4_toString_0e30d := goodIn_s seX6_drain _ [(8, 5), (8, 6), (8, 7), (7, 1), (8, 8), (8, 9), (8, 10), (8, 11), (8, 12), (8, 13), (8, 14), (1, 17), (1, 18), (8, 15), (8, 16), (8, 17), (8, 18), (8, 19), (8, 20), (8, 21), (8, 22), (1, 14), (8, 23), (1, 21), (9, 0), (9, 1), (9, 2), (9, 3), (9, 4), (1, 2), (9, 5), (9, 6), (4, 4), (9, 7), (9, 8), (4, 7), (9, 9), (5, 22), (5, 23), (6, 0), (6, 1), (1, 19), (1, 22), (9, 10), (9, 11), (5, 6), (9, 12), (5, 8), (5, 9), (5, 10), (5, 11), (5, 12), (5, 13), (9, 13), (9, 14), (9, 15), (1, 20), (5, 14), (5, 15), (3, 7), (5, 16), (5, 17), (5, 18), (5, 19), (5, 20), (9, 16), (9, 17), (9, 18), (9, 19), (1, 1), (9, 20), (9, 21), (2, 1), (9, 22), (9, 23), (10, 0), (10, 1), (6, 17), (6, 18), (6, 19), (6, 20), (6, 21), (6, 22), (6, 23), (7, 0), (7, 2), (7, 3), (7, 4), (7, 5), (7, 6), (7, 7), (10, 2), (10, 3), (10, 4), (7, 11), (7, 12), (7, 13), (2, 3), (2, 4), (2, 5), (2, 6), (10, 5), (10, 6), (10, 7), (10, 8), (15, 0), (15, 1), (15, 2), (15, 3), (11, 0), (11, 1), (11, 2), (11, 3)] (by rfl) gw_wsJ4_toString_0e30d
set_option maxRecDepth 20000 in
theorem gX6_drain_J4_toString_0e30d : GoodIn wsX6_drain (wsV RX6 120 RJ4 yJ4_toString_0e30d wsJ4_toString_0e30d) := goodIn_app (goodIn_s seX6_drain _ [(8, 2), (8, 3), (8, 4), (1, 2)] (by rfl) (by decide +kernel)) ggX6_drain_J4_toString_0e30d
set_option maxRecDepth 20000 in
theorem ggX6_drain_X6_done_ : GoodIn wsX6_drain wsX6_done_ := goodIn_s seX6_drain _ [(10, 12), (10, 13), (12, 0), (12, 1), (12, 2), (12, 3), (12, 4), (12, 5), (12, 6), (12, 7), (12, 8), (12, 9), (12, 10), (12, 11), (12, 12), (12, 13)] (by rfl) gw_wsX6_done_
set_option maxRecDepth 20000 in
theorem gX6_drain_X6_done_ : GoodIn wsX6_drain (wsV RX6 124 RX6 yX6_done_ wsX6_done_) := goodIn_app (goodIn_s seX6_drain _ [(10, 9), (10, 10), (10, 11), (1, 5)] (by rfl) (by decide +kernel)) ggX6_drain_X6_done_
noncomputable def sgX6_pump : List (List Cond) := [[.code yX6_pump cX6_pump 8 (some (.object "java/lang/String"))], wsX6_pump_r1, wsX6_pump_r2, wsX6_pump_r3, wsX6_pump_r4, wsX6_pump_r5, wsX6_pump_r6, wsX6_pump_r7, wsX6_pump_r8, wsX6_pump_r9, wsX6_pump_r10, wsX6_pump_r11, wsX6_pump_r12, wsX60, wsX10, wsJ40, wsX20, wsX50, wsJ00, (vx_atS RX6 306 "java/lang/IndexOutOfBoundsException" ["java/lang/RuntimeException", "java/lang/Exception"]).filter goodWord, (vx_atS RX6 317 "java/lang/IllegalArgumentException" ["java/lang/RuntimeException", "java/lang/Exception"]).filter goodWord, (vx_atS RX6 327 "java/lang/IllegalStateException" ["java/lang/RuntimeException", "java/lang/Exception"]).filter goodWord]
theorem seX6_pump : sgX6_pump.flatten = wsX6_pump := by simp only [sgX6_pump, wsX6_pump, List.flatten_cons, List.flatten_nil, List.append_assoc, List.append_nil, List.cons_append, List.nil_append]
set_option maxRecDepth 20000 in
theorem ggX6_pump_X6_sourceOf : GoodIn wsX6_pump wsX6_sourceOf := goodIn_ca (goodIn_s seX6_pump _ [(1, 9), (1, 10), (1, 11), (1, 12), (1, 13), (1, 14), (13, 0), (13, 1), (13, 2), (13, 3), (13, 4), (13, 5), (13, 6), (13, 7), (13, 8), (13, 9), (13, 10), (13, 11), (13, 12), (13, 13)] (by rfl) (by decide +kernel)) (goodIn_sub (fun _ h => List.mem_cons_of_mem _ (List.mem_append_left _ (List.mem_append_left _ (List.mem_append_right _ h)))) (by decide +kernel))
set_option maxRecDepth 20000 in
theorem gX6_pump_X6_sourceOf : GoodIn wsX6_pump (wsV RX6 156 RX6 yX6_sourceOf wsX6_sourceOf) := goodIn_app (goodIn_s seX6_pump _ [(1, 5), (1, 6), (1, 7), (1, 8)] (by rfl) (by decide +kernel)) ggX6_pump_X6_sourceOf
set_option maxRecDepth 20000 in
theorem ggX6_pump_X6_requireWithin : GoodIn wsX6_pump wsX6_requireWithin := goodIn_ca (goodIn_s seX6_pump _ [(1, 17), (1, 18), (1, 19)] (by rfl) (by decide +kernel)) (goodIn_sub (fun _ h => List.mem_cons_of_mem _ (List.mem_append_left _ (List.mem_append_right _ h))) (by decide +kernel))
set_option maxRecDepth 20000 in
theorem gX6_pump_X6_requireWithin : GoodIn wsX6_pump (va_wsS RX6 66 yX6_requireWithin wsX6_requireWithin) := goodIn_app (goodIn_s seX6_pump _ [(1, 15), (1, 16), (1, 8)] (by rfl) (by decide +kernel)) ggX6_pump_X6_requireWithin
set_option maxRecDepth 20000 in
theorem ggX6_pump_X2_size : GoodIn wsX6_pump wsX2_size := goodIn_s seX6_pump _ [(2, 0), (2, 1), (16, 0), (16, 1)] (by rfl) gw_wsX2_size
set_option maxRecDepth 20000 in
theorem gX6_pump_X2_size : GoodIn wsX6_pump (wsV RX6 164 RX2 yX2_size wsX2_size) := goodIn_app (goodIn_s seX6_pump _ [(1, 20), (1, 21), (1, 22), (1, 23)] (by rfl) (by decide +kernel)) ggX6_pump_X2_size
set_option maxRecDepth 20000 in
theorem gX6_pump_X2_size_u165X2 : GoodIn wsX6_pump (va_wsU RX6 165 RX2 "Sashwords$Text" ⟨"Sashwords$Text", "size", "()I"⟩ yX2_size wsX2_size) := goodIn_app (goodIn_s seX6_pump _ [(2, 2), (2, 3), (2, 4), (1, 21), (1, 23)] (by rfl) (by decide +kernel)) ggX6_pump_X2_size
set_option maxRecDepth 20000 in
theorem ggX6_pump_X5_size : GoodIn wsX6_pump wsX5_size := goodIn_s seX6_pump _ [(2, 8), (2, 9), (2, 10), (17, 0), (17, 1), (17, 2), (17, 3), (17, 4), (17, 5)] (by rfl) gw_wsX5_size
set_option maxRecDepth 20000 in
theorem gX6_pump_X5_size_u165X5 : GoodIn wsX6_pump (va_wsU RX6 165 RX5 "Sashwords$Text" ⟨"Sashwords$Text", "size", "()I"⟩ yX5_size wsX5_size) := goodIn_app (goodIn_s seX6_pump _ [(2, 2), (2, 3), (2, 5), (2, 6), (2, 7)] (by rfl) (by decide +kernel)) ggX6_pump_X5_size
set_option maxRecDepth 20000 in
theorem ggX6_pump_X6_requireRoom : GoodIn wsX6_pump wsX6_requireRoom := goodIn_ca (goodIn_s seX6_pump _ [(2, 13), (2, 14), (2, 15)] (by rfl) (by decide +kernel)) (goodIn_sub (fun _ h => List.mem_cons_of_mem _ (List.mem_append_right _ h)) (by decide +kernel))
set_option maxRecDepth 20000 in
theorem gX6_pump_X6_requireRoom : GoodIn wsX6_pump (va_wsS RX6 168 yX6_requireRoom wsX6_requireRoom) := goodIn_app (goodIn_s seX6_pump _ [(2, 11), (2, 12), (1, 8)] (by rfl) (by decide +kernel)) ggX6_pump_X6_requireRoom
set_option maxRecDepth 20000 in
theorem ggX6_pump_J4_init_da8c8 : GoodIn wsX6_pump wsJ4_init_da8c8 := goodIn_s seX6_pump _ [(2, 18), (2, 19), (2, 20), (2, 21), (2, 22), (2, 23), (3, 0), (3, 1), (3, 2), (3, 3), (3, 4), (3, 5), (3, 6), (3, 7), (3, 8), (3, 9), (3, 10), (3, 11), (3, 12), (3, 13), (15, 0), (15, 1), (15, 2), (15, 3)] (by rfl) gw_wsJ4_init_da8c8
set_option maxRecDepth 20000 in
theorem gX6_pump_J4_init_da8c8 : GoodIn wsX6_pump (wsJ4_init_da8c8) := ggX6_pump_J4_init_da8c8
set_option maxRecDepth 20000 in
theorem ggX6_pump_X6_letIn : GoodIn wsX6_pump wsX6_letIn := goodIn_s seX6_pump _ [(3, 17), (1, 0), (2, 2), (2, 3), (2, 4), (1, 21), (1, 23), (2, 0), (2, 1), (2, 5), (2, 6), (2, 7), (2, 8), (2, 9), (2, 10), (3, 18), (3, 19), (3, 20), (3, 21), (3, 22), (3, 23), (4, 0), (4, 1), (4, 2), (4, 3), (4, 4), (4, 5), (4, 6), (4, 7), (4, 8), (4, 9), (4, 10), (4, 11), (4, 12), (4, 13), (4, 14), (4, 15), (4, 16), (4, 17), (1, 22), (4, 18), (4, 19), (4, 20), (4, 21), (4, 22), (4, 23), (5, 0), (5, 1), (13, 0), (13, 1), (13, 2), (13, 3), (13, 4), (13, 5), (13, 6), (13, 7), (13, 8), (13, 9), (13, 10), (13, 11), (13, 12), (13, 13), (16, 0), (16, 1), (17, 0), (17, 1), (17, 2), (17, 3), (17, 4), (17, 5), (14, 0), (14, 1), (14, 2), (14, 3)] (by rfl) gw_wsX6_letIn
set_option maxRecDepth 20000 in
theorem gX6_pump_X6_letIn : GoodIn wsX6_pump (wsV RX6 199 RX6 yX6_letIn wsX6_letIn) := goodIn_app (goodIn_s seX6_pump _ [(3, 14), (3, 15), (3, 16), (1, 8)] (by rfl) (by decide +kernel)) ggX6_pump_X6_letIn
set_option maxRecDepth 20000 in
theorem ggX6_pump_X6_letOut : GoodIn wsX6_pump wsX6_letOut := goodIn_s seX6_pump _ [(5, 5), (1, 0), (1, 20), (1, 21), (1, 22), (1, 23), (2, 0), (2, 1), (5, 6), (5, 7), (5, 8), (4, 12), (5, 9), (4, 14), (5, 10), (5, 11), (5, 12), (5, 13), (5, 14), (5, 15), (5, 16), (5, 17), (5, 18), (5, 19), (3, 21), (5, 20), (3, 22), (3, 23), (5, 21), (5, 22), (5, 23), (6, 0), (4, 22), (4, 23), (5, 0), (5, 1), (6, 1), (6, 2), (6, 3), (1, 3), (6, 4), (6, 5), (6, 6), (6, 7), (6, 8), (2, 21), (6, 9), (6, 10), (3, 4), (6, 11), (6, 12), (6, 13), (6, 14), (6, 15), (3, 5), (6, 16), (6, 17), (6, 18), (6, 19), (6, 20), (6, 21), (6, 22), (6, 23), (7, 0), (7, 1), (7, 2), (7, 3), (7, 4), (7, 5), (7, 6), (7, 7), (7, 8), (7, 9), (7, 10), (7, 11), (7, 12), (7, 13), (7, 14), (7, 15), (7, 16), (3, 3), (7, 17), (7, 18), (7, 19), (7, 20), (7, 21), (7, 22), (7, 23), (8, 0), (8, 1), (8, 2), (8, 3), (8, 4), (3, 2), (8, 5), (8, 6), (8, 7), (8, 8), (8, 9), (8, 10), (8, 11), (8, 12), (8, 13), (3, 6), (3, 7), (3, 8), (3, 9), (3, 10), (3, 11), (3, 12), (3, 13), (8, 14), (8, 15), (8, 16), (8, 17), (8, 18), (8, 19), (8, 20), (8, 21), (8, 22), (8, 23), (9, 0), (9, 1), (9, 2), (9, 3), (9, 4), (9, 5), (9, 6), (9, 7), (9, 8), (9, 9), (9, 10), (9, 11), (9, 12), (9, 13), (9, 14), (9, 15), (9, 16), (9, 17), (9, 18), (9, 19), (9, 20), (9, 21), (9, 22), (9, 23), (10, 0), (10, 1), (10, 2), (10, 3), (10, 4), (13, 0), (13, 1), (13, 2), (13, 3), (13, 4), (13, 5), (13, 6), (13, 7), (13, 8), (13, 9), (13, 10), (13, 11), (13, 12), (13, 13), (14, 0), (14, 1), (14, 2), (14, 3), (16, 0), (16, 1), (15, 0), (15, 1), (15, 2), (15, 3)] (by rfl) gw_wsX6_letOut
set_option maxRecDepth 20000 in
theorem gX6_pump_X6_letOut : GoodIn wsX6_pump (wsV RX6 192 RX6 yX6_letOut wsX6_letOut) := goodIn_app (goodIn_s seX6_pump _ [(5, 2), (5, 3), (5, 4), (1, 8)] (by rfl) (by decide +kernel)) ggX6_pump_X6_letOut
set_option maxRecDepth 20000 in
theorem ggX6_pump_J4_toString_0e30d : GoodIn wsX6_pump wsJ4_toString_0e30d := goodIn_s seX6_pump _ [(10, 8), (10, 9), (10, 10), (9, 4), (10, 11), (10, 12), (10, 13), (10, 14), (10, 15), (10, 16), (10, 17), (3, 0), (3, 1), (10, 18), (10, 19), (10, 20), (10, 21), (10, 22), (10, 23), (11, 0), (11, 1), (2, 21), (11, 2), (3, 4), (11, 3), (11, 4), (11, 5), (11, 6), (11, 7), (1, 3), (11, 8), (11, 9), (6, 7), (11, 10), (11, 11), (6, 10), (11, 12), (8, 1), (8, 2), (8, 3), (8, 4), (3, 2), (3, 5), (11, 13), (11, 14), (7, 9), (11, 15), (7, 11), (7, 12), (7, 13), (7, 14), (7, 15), (7, 16), (11, 16), (11, 17), (11, 18), (3, 3), (7, 17), (7, 18), (5, 17), (7, 19), (7, 20), (7, 21), (7, 22), (7, 23), (11, 19), (11, 20), (11, 21), (11, 22), (1, 2), (11, 23), (12, 0), (3, 8), (12, 1), (12, 2), (12, 3), (12, 4), (8, 20), (8, 21), (8, 22), (8, 23), (9, 0), (9, 1), (9, 2), (9, 3), (9, 5), (9, 6), (9, 7), (9, 8), (9, 9), (9, 10), (12, 5), (12, 6), (12, 7), (9, 14), (9, 15), (9, 16), (3, 10), (3, 11), (3, 12), (3, 13), (12, 8), (12, 9), (12, 10), (12, 11), (18, 0), (18, 1), (18, 2), (18, 3), (15, 0), (15, 1), (15, 2), (15, 3)] (by rfl) gw_wsJ4_toString_0e30d
set_option maxRecDepth 20000 in
theorem gX6_pump_J4_toString_0e30d : GoodIn wsX6_pump (wsV RX6 120 RJ4 yJ4_toString_0e30d wsJ4_toString_0e30d) := goodIn_app (goodIn_s seX6_pump _ [(10, 5), (10, 6), (10, 7), (1, 3)] (by rfl) (by decide +kernel)) ggX6_pump_J4_toString_0e30d
set_option maxRecDepth 20000 in
theorem ggX6_pump_X6_done_ : GoodIn wsX6_pump wsX6_done_ := goodIn_s seX6_pump _ [(12, 15), (12, 16), (13, 0), (13, 1), (13, 2), (13, 3), (13, 4), (13, 5), (13, 6), (13, 7), (13, 8), (13, 9), (13, 10), (13, 11), (13, 12), (13, 13)] (by rfl) gw_wsX6_done_
set_option maxRecDepth 20000 in
theorem gX6_pump_X6_done_ : GoodIn wsX6_pump (wsV RX6 124 RX6 yX6_done_ wsX6_done_) := goodIn_app (goodIn_s seX6_pump _ [(12, 12), (12, 13), (12, 14), (1, 8)] (by rfl) (by decide +kernel)) ggX6_pump_X6_done_
noncomputable def sgX6_left : List (List Cond) := [[.code yX6_left cX6_left 4 (some .int)], [.methodLink RX6 62 yX6_windowOf, .instanceMethod yX6_windowOf, .selects RX6 yX6_windowOf yX6_windowOf, .initialized RX6, .code yX6_windowOf cX6_windowOf 2 (some (.object "Sashwords$Window")), .classLink RX6 302 "java/lang/IndexOutOfBoundsException", .initialized "java/lang/IndexOutOfBoundsException", .fieldLink RX6 11 "Sashwords" "windows" "[LSashwords$Window;", .methodLink RX6 66 yX6_requireWithin, .static yX6_requireWithin, .code yX6_requireWithin cX6_requireWithin 3 none, .classLink RX6 313 "java/lang/IllegalArgumentException", .initialized "java/lang/IllegalArgumentException", .methodLink RX6 73 yX5_size, .instanceMethod yX5_size, .selects RX5 yX5_size yX5_size, .initialized RX5, .code yX5_size cX5_size 1 (some .int), .fieldLink RX5 25 "Sashwords$Window" "limit" "I", .fieldLink RX5 31 "Sashwords$Window" "position" "I"], wsX60, wsX50, (vx_atS RX6 306 "java/lang/IndexOutOfBoundsException" ["java/lang/RuntimeException", "java/lang/Exception"]).filter goodWord, (vx_atS RX6 317 "java/lang/IllegalArgumentException" ["java/lang/RuntimeException", "java/lang/Exception"]).filter goodWord]
theorem seX6_left : sgX6_left.flatten = wsX6_left := by simp only [sgX6_left, wsX6_left, List.flatten_cons, List.flatten_nil, List.append_assoc, List.append_nil, List.cons_append, List.nil_append]
set_option maxRecDepth 20000 in
theorem ggX6_left_X6_windowOf : GoodIn wsX6_left wsX6_windowOf := goodIn_ca (goodIn_s seX6_left _ [(1, 4), (1, 5), (1, 6), (1, 7), (2, 0), (2, 1), (2, 2), (2, 3), (2, 4), (2, 5), (2, 6), (2, 7), (2, 8), (2, 9), (2, 10), (2, 11), (2, 12), (2, 13)] (by rfl) (by decide +kernel)) (goodIn_sub (fun _ h => List.mem_cons_of_mem _ (List.mem_append_left _ (List.mem_append_right _ h))) (by decide +kernel))
set_option maxRecDepth 20000 in
theorem gX6_left_X6_windowOf : GoodIn wsX6_left (wsV RX6 62 RX6 yX6_windowOf wsX6_windowOf) := goodIn_app (goodIn_s seX6_left _ [(1, 0), (1, 1), (1, 2), (1, 3)] (by rfl) (by decide +kernel)) ggX6_left_X6_windowOf
set_option maxRecDepth 20000 in
theorem ggX6_left_X6_requireWithin : GoodIn wsX6_left wsX6_requireWithin := goodIn_ca (goodIn_s seX6_left _ [(1, 10), (1, 11), (1, 12)] (by rfl) (by decide +kernel)) (goodIn_sub (fun _ h => List.mem_cons_of_mem _ (List.mem_append_right _ h)) (by decide +kernel))
set_option maxRecDepth 20000 in
theorem gX6_left_X6_requireWithin : GoodIn wsX6_left (va_wsS RX6 66 yX6_requireWithin wsX6_requireWithin) := goodIn_app (goodIn_s seX6_left _ [(1, 8), (1, 9), (1, 3)] (by rfl) (by decide +kernel)) ggX6_left_X6_requireWithin
set_option maxRecDepth 20000 in
theorem ggX6_left_X5_size : GoodIn wsX6_left wsX5_size := goodIn_s seX6_left _ [(1, 17), (1, 18), (1, 19), (3, 0), (3, 1), (3, 2), (3, 3), (3, 4), (3, 5)] (by rfl) gw_wsX5_size
set_option maxRecDepth 20000 in
theorem gX6_left_X5_size : GoodIn wsX6_left (wsV RX6 73 RX5 yX5_size wsX5_size) := goodIn_app (goodIn_s seX6_left _ [(1, 13), (1, 14), (1, 15), (1, 16)] (by rfl) (by decide +kernel)) ggX6_left_X5_size
noncomputable def sgX6_position : List (List Cond) := [[.code yX6_position cX6_position 2 (some .int)], [.methodLink RX6 62 yX6_windowOf, .instanceMethod yX6_windowOf, .selects RX6 yX6_windowOf yX6_windowOf, .initialized RX6, .code yX6_windowOf cX6_windowOf 2 (some (.object "Sashwords$Window")), .classLink RX6 302 "java/lang/IndexOutOfBoundsException", .initialized "java/lang/IndexOutOfBoundsException", .fieldLink RX6 11 "Sashwords" "windows" "[LSashwords$Window;"], wsX50, wsX60, (vx_atS RX6 306 "java/lang/IndexOutOfBoundsException" ["java/lang/RuntimeException", "java/lang/Exception"]).filter goodWord]
theorem seX6_position : sgX6_position.flatten = wsX6_position := by simp only [sgX6_position, wsX6_position, List.flatten_cons, List.flatten_nil, List.append_assoc, List.append_nil, List.cons_append, List.nil_append]
set_option maxRecDepth 20000 in
theorem ggX6_position_X6_windowOf : GoodIn wsX6_position wsX6_windowOf := goodIn_ca (goodIn_s seX6_position _ [(1, 4), (1, 5), (1, 6), (1, 7), (3, 0), (3, 1), (3, 2), (3, 3), (3, 4), (3, 5), (3, 6), (3, 7), (3, 8), (3, 9), (3, 10), (3, 11), (3, 12), (3, 13)] (by rfl) (by decide +kernel)) (goodIn_sub (fun _ h => List.mem_cons_of_mem _ (List.mem_append_right _ h)) (by decide +kernel))
set_option maxRecDepth 20000 in
theorem gX6_position_X6_windowOf : GoodIn wsX6_position (wsV RX6 62 RX6 yX6_windowOf wsX6_windowOf) := goodIn_app (goodIn_s seX6_position _ [(1, 0), (1, 1), (1, 2), (1, 3)] (by rfl) (by decide +kernel)) ggX6_position_X6_windowOf
noncomputable def sgX6_limit : List (List Cond) := [[.code yX6_limit cX6_limit 2 (some .int)], [.methodLink RX6 62 yX6_windowOf, .instanceMethod yX6_windowOf, .selects RX6 yX6_windowOf yX6_windowOf, .initialized RX6, .code yX6_windowOf cX6_windowOf 2 (some (.object "Sashwords$Window")), .classLink RX6 302 "java/lang/IndexOutOfBoundsException", .initialized "java/lang/IndexOutOfBoundsException", .fieldLink RX6 11 "Sashwords" "windows" "[LSashwords$Window;"], wsX50, wsX60, (vx_atS RX6 306 "java/lang/IndexOutOfBoundsException" ["java/lang/RuntimeException", "java/lang/Exception"]).filter goodWord]
theorem seX6_limit : sgX6_limit.flatten = wsX6_limit := by simp only [sgX6_limit, wsX6_limit, List.flatten_cons, List.flatten_nil, List.append_assoc, List.append_nil, List.cons_append, List.nil_append]
set_option maxRecDepth 20000 in
theorem ggX6_limit_X6_windowOf : GoodIn wsX6_limit wsX6_windowOf := goodIn_ca (goodIn_s seX6_limit _ [(1, 4), (1, 5), (1, 6), (1, 7), (3, 0), (3, 1), (3, 2), (3, 3), (3, 4), (3, 5), (3, 6), (3, 7), (3, 8), (3, 9), (3, 10), (3, 11), (3, 12), (3, 13)] (by rfl) (by decide +kernel)) (goodIn_sub (fun _ h => List.mem_cons_of_mem _ (List.mem_append_right _ h)) (by decide +kernel))
set_option maxRecDepth 20000 in
theorem gX6_limit_X6_windowOf : GoodIn wsX6_limit (wsV RX6 62 RX6 yX6_windowOf wsX6_windowOf) := goodIn_app (goodIn_s seX6_limit _ [(1, 0), (1, 1), (1, 2), (1, 3)] (by rfl) (by decide +kernel)) ggX6_limit_X6_windowOf
noncomputable def sgX6_capacity : List (List Cond) := [[.code yX6_capacity cX6_capacity 2 (some .int)], [.methodLink RX6 62 yX6_windowOf, .instanceMethod yX6_windowOf, .selects RX6 yX6_windowOf yX6_windowOf, .initialized RX6, .code yX6_windowOf cX6_windowOf 2 (some (.object "Sashwords$Window")), .classLink RX6 302 "java/lang/IndexOutOfBoundsException", .initialized "java/lang/IndexOutOfBoundsException", .fieldLink RX6 11 "Sashwords" "windows" "[LSashwords$Window;"], wsX50, wsX60, (vx_atS RX6 306 "java/lang/IndexOutOfBoundsException" ["java/lang/RuntimeException", "java/lang/Exception"]).filter goodWord]
theorem seX6_capacity : sgX6_capacity.flatten = wsX6_capacity := by simp only [sgX6_capacity, wsX6_capacity, List.flatten_cons, List.flatten_nil, List.append_assoc, List.append_nil, List.cons_append, List.nil_append]
set_option maxRecDepth 20000 in
theorem ggX6_capacity_X6_windowOf : GoodIn wsX6_capacity wsX6_windowOf := goodIn_ca (goodIn_s seX6_capacity _ [(1, 4), (1, 5), (1, 6), (1, 7), (3, 0), (3, 1), (3, 2), (3, 3), (3, 4), (3, 5), (3, 6), (3, 7), (3, 8), (3, 9), (3, 10), (3, 11), (3, 12), (3, 13)] (by rfl) (by decide +kernel)) (goodIn_sub (fun _ h => List.mem_cons_of_mem _ (List.mem_append_right _ h)) (by decide +kernel))
set_option maxRecDepth 20000 in
theorem gX6_capacity_X6_windowOf : GoodIn wsX6_capacity (wsV RX6 62 RX6 yX6_windowOf wsX6_windowOf) := goodIn_app (goodIn_s seX6_capacity _ [(1, 0), (1, 1), (1, 2), (1, 3)] (by rfl) (by decide +kernel)) ggX6_capacity_X6_windowOf
noncomputable def sgX6_marked : List (List Cond) := [[.code yX6_marked cX6_marked 2 (some .int)], [.methodLink RX6 62 yX6_windowOf, .instanceMethod yX6_windowOf, .selects RX6 yX6_windowOf yX6_windowOf, .initialized RX6, .code yX6_windowOf cX6_windowOf 2 (some (.object "Sashwords$Window")), .classLink RX6 302 "java/lang/IndexOutOfBoundsException", .initialized "java/lang/IndexOutOfBoundsException", .fieldLink RX6 11 "Sashwords" "windows" "[LSashwords$Window;"], wsX50, wsX60, (vx_atS RX6 306 "java/lang/IndexOutOfBoundsException" ["java/lang/RuntimeException", "java/lang/Exception"]).filter goodWord]
theorem seX6_marked : sgX6_marked.flatten = wsX6_marked := by simp only [sgX6_marked, wsX6_marked, List.flatten_cons, List.flatten_nil, List.append_assoc, List.append_nil, List.cons_append, List.nil_append]
set_option maxRecDepth 20000 in
theorem ggX6_marked_X6_windowOf : GoodIn wsX6_marked wsX6_windowOf := goodIn_ca (goodIn_s seX6_marked _ [(1, 4), (1, 5), (1, 6), (1, 7), (3, 0), (3, 1), (3, 2), (3, 3), (3, 4), (3, 5), (3, 6), (3, 7), (3, 8), (3, 9), (3, 10), (3, 11), (3, 12), (3, 13)] (by rfl) (by decide +kernel)) (goodIn_sub (fun _ h => List.mem_cons_of_mem _ (List.mem_append_right _ h)) (by decide +kernel))
set_option maxRecDepth 20000 in
theorem gX6_marked_X6_windowOf : GoodIn wsX6_marked (wsV RX6 62 RX6 yX6_windowOf wsX6_windowOf) := goodIn_app (goodIn_s seX6_marked _ [(1, 0), (1, 1), (1, 2), (1, 3)] (by rfl) (by decide +kernel)) ggX6_marked_X6_windowOf
noncomputable def sgX6_sign : List (List Cond) := [[.code yX6_sign cX6_sign 3 (some .int)], [.methodLink RX6 62 yX6_windowOf, .instanceMethod yX6_windowOf, .selects RX6 yX6_windowOf yX6_windowOf, .initialized RX6, .code yX6_windowOf cX6_windowOf 2 (some (.object "Sashwords$Window")), .classLink RX6 302 "java/lang/IndexOutOfBoundsException", .initialized "java/lang/IndexOutOfBoundsException", .fieldLink RX6 11 "Sashwords" "windows" "[LSashwords$Window;", .methodLink RX6 206 yX5_at, .instanceMethod yX5_at, .selects RX5 yX5_at yX5_at, .initialized RX5, .code yX5_at cX5_at 2 (some .int), .fieldLink RX5 25 "Sashwords$Window" "limit" "I", .fieldLink RX5 31 "Sashwords$Window" "position" "I", .methodLink RX5 34 yX5_atPlace, .instanceMethod yX5_atPlace, .selects RX5 yX5_atPlace yX5_atPlace, .code yX5_atPlace cX5_atPlace 3 (some .int), .fieldLink RX5 38 "Sashwords$Window" "start" "I", .fieldLink RX5 15 "Sashwords$Window" "row" "[C"], wsX60, wsX50, (vx_atS RX6 306 "java/lang/IndexOutOfBoundsException" ["java/lang/RuntimeException", "java/lang/Exception"]).filter goodWord]
theorem seX6_sign : sgX6_sign.flatten = wsX6_sign := by simp only [sgX6_sign, wsX6_sign, List.flatten_cons, List.flatten_nil, List.append_assoc, List.append_nil, List.cons_append, List.nil_append]
set_option maxRecDepth 20000 in
theorem ggX6_sign_X6_windowOf : GoodIn wsX6_sign wsX6_windowOf := goodIn_ca (goodIn_s seX6_sign _ [(1, 4), (1, 5), (1, 6), (1, 7), (2, 0), (2, 1), (2, 2), (2, 3), (2, 4), (2, 5), (2, 6), (2, 7), (2, 8), (2, 9), (2, 10), (2, 11), (2, 12), (2, 13)] (by rfl) (by decide +kernel)) (goodIn_sub (fun _ h => List.mem_cons_of_mem _ (List.mem_append_right _ h)) (by decide +kernel))
set_option maxRecDepth 20000 in
theorem gX6_sign_X6_windowOf : GoodIn wsX6_sign (wsV RX6 62 RX6 yX6_windowOf wsX6_windowOf) := goodIn_app (goodIn_s seX6_sign _ [(1, 0), (1, 1), (1, 2), (1, 3)] (by rfl) (by decide +kernel)) ggX6_sign_X6_windowOf
set_option maxRecDepth 20000 in
theorem ggX6_sign_X5_at : GoodIn wsX6_sign wsX5_at := goodIn_s seX6_sign _ [(1, 12), (1, 13), (1, 14), (1, 15), (1, 16), (1, 17), (1, 11), (1, 18), (1, 19), (1, 20), (3, 0), (3, 1), (3, 2), (3, 3), (3, 4), (3, 5)] (by rfl) gw_wsX5_at
set_option maxRecDepth 20000 in
theorem gX6_sign_X5_at : GoodIn wsX6_sign (wsV RX6 206 RX5 yX5_at wsX5_at) := goodIn_app (goodIn_s seX6_sign _ [(1, 8), (1, 9), (1, 10), (1, 11)] (by rfl) (by decide +kernel)) ggX6_sign_X5_at
noncomputable def sgX6_look : List (List Cond) := [[.code yX6_look cX6_look 3 (some .int)], [.methodLink RX6 62 yX6_windowOf, .instanceMethod yX6_windowOf, .selects RX6 yX6_windowOf yX6_windowOf, .initialized RX6, .code yX6_windowOf cX6_windowOf 2 (some (.object "Sashwords$Window")), .classLink RX6 302 "java/lang/IndexOutOfBoundsException", .initialized "java/lang/IndexOutOfBoundsException", .fieldLink RX6 11 "Sashwords" "windows" "[LSashwords$Window;", .methodLink RX6 209 yX5_atPlace, .instanceMethod yX5_atPlace, .selects RX5 yX5_atPlace yX5_atPlace, .initialized RX5, .code yX5_atPlace cX5_atPlace 3 (some .int), .fieldLink RX5 25 "Sashwords$Window" "limit" "I", .fieldLink RX5 38 "Sashwords$Window" "start" "I", .fieldLink RX5 15 "Sashwords$Window" "row" "[C"], wsX60, wsX50, (vx_atS RX6 306 "java/lang/IndexOutOfBoundsException" ["java/lang/RuntimeException", "java/lang/Exception"]).filter goodWord]
theorem seX6_look : sgX6_look.flatten = wsX6_look := by simp only [sgX6_look, wsX6_look, List.flatten_cons, List.flatten_nil, List.append_assoc, List.append_nil, List.cons_append, List.nil_append]
set_option maxRecDepth 20000 in
theorem ggX6_look_X6_windowOf : GoodIn wsX6_look wsX6_windowOf := goodIn_ca (goodIn_s seX6_look _ [(1, 4), (1, 5), (1, 6), (1, 7), (2, 0), (2, 1), (2, 2), (2, 3), (2, 4), (2, 5), (2, 6), (2, 7), (2, 8), (2, 9), (2, 10), (2, 11), (2, 12), (2, 13)] (by rfl) (by decide +kernel)) (goodIn_sub (fun _ h => List.mem_cons_of_mem _ (List.mem_append_right _ h)) (by decide +kernel))
set_option maxRecDepth 20000 in
theorem gX6_look_X6_windowOf : GoodIn wsX6_look (wsV RX6 62 RX6 yX6_windowOf wsX6_windowOf) := goodIn_app (goodIn_s seX6_look _ [(1, 0), (1, 1), (1, 2), (1, 3)] (by rfl) (by decide +kernel)) ggX6_look_X6_windowOf
set_option maxRecDepth 20000 in
theorem ggX6_look_X5_atPlace : GoodIn wsX6_look wsX5_atPlace := goodIn_s seX6_look _ [(1, 12), (1, 13), (1, 14), (1, 15), (3, 0), (3, 1), (3, 2), (3, 3), (3, 4), (3, 5)] (by rfl) gw_wsX5_atPlace
set_option maxRecDepth 20000 in
theorem gX6_look_X5_atPlace : GoodIn wsX6_look (wsV RX6 209 RX5 yX5_atPlace wsX5_atPlace) := goodIn_app (goodIn_s seX6_look _ [(1, 8), (1, 9), (1, 10), (1, 11)] (by rfl) (by decide +kernel)) ggX6_look_X5_atPlace
noncomputable def sgX6_text : List (List Cond) := [[.code yX6_text cX6_text 4 (some (.object "java/lang/String"))], wsX6_text_r1, wsX6_text_r2, wsX6_text_r3, wsX6_text_r4, wsX6_text_r5, wsX6_text_r6, wsX6_text_r7, wsX6_text_r8, wsX6_text_r9, wsX6_text_r10, wsX6_text_r11, wsX6_text_r12, wsX60, wsX50, wsX20, wsJ40, wsJ00, (vx_atS RX6 306 "java/lang/IndexOutOfBoundsException" ["java/lang/RuntimeException", "java/lang/Exception"]).filter goodWord, (vx_atS RX6 317 "java/lang/IllegalArgumentException" ["java/lang/RuntimeException", "java/lang/Exception"]).filter goodWord]
theorem seX6_text : sgX6_text.flatten = wsX6_text := by simp only [sgX6_text, wsX6_text, List.flatten_cons, List.flatten_nil, List.append_assoc, List.append_nil, List.cons_append, List.nil_append]
set_option maxRecDepth 20000 in
theorem ggX6_text_X6_windowOf : GoodIn wsX6_text wsX6_windowOf := goodIn_ca (goodIn_s seX6_text _ [(1, 5), (1, 6), (1, 7), (1, 8), (13, 0), (13, 1), (13, 2), (13, 3), (13, 4), (13, 5), (13, 6), (13, 7), (13, 8), (13, 9), (13, 10), (13, 11), (13, 12), (13, 13)] (by rfl) (by decide +kernel)) (goodIn_sub (fun _ h => List.mem_cons_of_mem _ (List.mem_append_left _ (List.mem_append_right _ h))) (by decide +kernel))
set_option maxRecDepth 20000 in
theorem gX6_text_X6_windowOf : GoodIn wsX6_text (wsV RX6 62 RX6 yX6_windowOf wsX6_windowOf) := goodIn_app (goodIn_s seX6_text _ [(1, 1), (1, 2), (1, 3), (1, 4)] (by rfl) (by decide +kernel)) ggX6_text_X6_windowOf
set_option maxRecDepth 20000 in
theorem ggX6_text_X6_requireWithin : GoodIn wsX6_text wsX6_requireWithin := goodIn_ca (goodIn_s seX6_text _ [(1, 11), (1, 12), (1, 13)] (by rfl) (by decide +kernel)) (goodIn_sub (fun _ h => List.mem_cons_of_mem _ (List.mem_append_right _ h)) (by decide +kernel))
set_option maxRecDepth 20000 in
theorem gX6_text_X6_requireWithin : GoodIn wsX6_text (va_wsS RX6 66 yX6_requireWithin wsX6_requireWithin) := goodIn_app (goodIn_s seX6_text _ [(1, 9), (1, 10), (1, 4)] (by rfl) (by decide +kernel)) ggX6_text_X6_requireWithin
set_option maxRecDepth 20000 in
theorem ggX6_text_X6_copyText : GoodIn wsX6_text wsX6_copyText := goodIn_s seX6_text _ [(1, 17), (1, 18), (1, 19), (1, 20), (1, 21), (1, 22), (1, 23), (2, 0), (2, 1), (2, 2), (2, 3), (2, 4), (2, 5), (2, 6), (2, 7), (2, 8), (2, 9), (2, 10), (2, 11), (2, 12), (2, 13), (2, 14), (2, 15), (2, 16), (2, 17), (2, 18), (2, 19), (2, 20), (2, 21), (2, 22), (2, 23), (3, 0), (3, 1), (3, 2), (3, 3), (3, 4), (3, 5), (3, 6), (3, 7), (3, 8), (3, 9), (3, 10), (3, 11), (3, 12), (3, 13), (3, 14), (3, 15), (3, 16), (3, 17), (3, 18), (3, 19), (3, 20), (3, 21), (3, 22), (3, 23), (4, 0), (4, 1), (4, 2), (4, 3), (4, 4), (4, 5), (4, 6), (4, 7), (14, 0), (14, 1), (14, 2), (14, 3), (14, 4), (14, 5), (13, 0), (13, 1), (13, 2), (13, 3), (13, 4), (13, 5), (13, 6), (13, 7), (13, 8), (13, 9), (13, 10), (13, 11), (13, 12), (13, 13), (15, 0), (15, 1)] (by rfl) gw_wsX6_copyText
set_option maxRecDepth 20000 in
theorem gX6_text_X6_copyText : GoodIn wsX6_text (wsV RX6 212 RX6 yX6_copyText wsX6_copyText) := goodIn_app (goodIn_s seX6_text _ [(1, 14), (1, 15), (1, 16), (1, 4)] (by rfl) (by decide +kernel)) ggX6_text_X6_copyText
set_option maxRecDepth 20000 in
theorem ggX6_text_X6_spelled : GoodIn wsX6_text wsX6_spelled := goodIn_s seX6_text _ [(4, 10), (4, 11), (4, 12), (4, 13), (4, 14), (4, 15), (4, 16), (4, 17), (4, 18), (4, 19), (4, 20), (4, 21), (4, 22), (4, 23), (5, 0), (5, 1), (5, 2), (5, 3), (5, 4), (5, 5), (5, 6), (5, 7), (5, 8), (5, 9), (5, 10), (5, 11), (5, 12), (2, 6), (2, 7), (2, 8), (1, 22), (2, 9), (2, 0), (2, 10), (2, 11), (2, 12), (2, 13), (2, 14), (2, 15), (5, 13), (2, 17), (2, 18), (2, 19), (2, 20), (2, 21), (2, 22), (2, 23), (3, 0), (3, 1), (3, 2), (3, 3), (3, 4), (3, 5), (3, 6), (5, 14), (5, 15), (5, 16), (5, 17), (5, 18), (5, 19), (5, 20), (5, 21), (5, 22), (5, 23), (6, 0), (6, 1), (6, 2), (6, 3), (6, 4), (6, 5), (6, 6), (6, 7), (6, 8), (6, 9), (6, 10), (6, 11), (6, 12), (6, 13), (6, 14), (6, 15), (6, 16), (6, 17), (6, 18), (6, 19), (6, 20), (6, 21), (6, 22), (6, 23), (7, 0), (7, 1), (7, 2), (7, 3), (7, 4), (7, 5), (7, 6), (7, 7), (7, 8), (7, 9), (7, 10), (7, 11), (7, 12), (7, 13), (7, 14), (7, 15), (7, 16), (7, 17), (7, 18), (7, 19), (7, 20), (7, 21), (7, 22), (7, 23), (8, 0), (8, 1), (8, 2), (8, 3), (8, 4), (8, 5), (8, 6), (8, 7), (8, 8), (8, 9), (8, 10), (8, 11), (8, 12), (8, 13), (8, 14), (8, 15), (8, 16), (8, 17), (8, 18), (8, 19), (8, 20), (8, 21), (8, 22), (8, 23), (9, 0), (9, 1), (9, 2), (9, 3), (9, 4), (9, 5), (9, 6), (9, 7), (9, 8), (9, 9), (9, 10), (9, 11), (9, 12), (9, 13), (9, 14), (9, 15), (9, 16), (9, 17), (9, 18), (9, 19), (9, 20), (9, 21), (9, 22), (9, 23), (10, 0), (10, 1), (10, 2), (10, 3), (10, 4), (10, 5), (10, 6), (10, 7), (10, 8), (10, 9), (10, 10), (10, 11), (10, 12), (10, 13), (10, 14), (10, 15), (10, 16), (10, 17), (10, 18), (10, 19), (10, 20), (10, 21), (10, 22), (10, 23), (11, 0), (11, 1), (11, 2), (11, 3), (11, 4), (11, 5), (11, 6), (11, 7), (11, 8), (11, 9), (11, 10), (11, 11), (11, 12), (11, 13), (11, 14), (11, 15), (11, 16), (11, 17), (11, 18), (11, 19), (11, 20), (11, 21), (11, 22), (11, 23), (12, 0), (12, 1), (12, 2), (12, 3), (16, 0), (16, 1), (16, 2), (16, 3), (15, 0), (15, 1), (14, 0), (14, 1), (14, 2), (14, 3), (14, 4), (14, 5), (17, 0), (17, 1), (17, 2), (17, 3)] (by rfl) gw_wsX6_spelled
set_option maxRecDepth 20000 in
theorem gX6_text_X6_spelled : GoodIn wsX6_text (va_wsS RX6 216 yX6_spelled wsX6_spelled) := goodIn_app (goodIn_s seX6_text _ [(4, 8), (4, 9), (1, 4)] (by rfl) (by decide +kernel)) ggX6_text_X6_spelled
noncomputable def sgX6_inner : List (List Cond) := [[.code yX6_inner cX6_inner 8 (some (.object "java/lang/String"))], wsX6_inner_r1, wsX6_inner_r2, wsX6_inner_r3, wsX6_inner_r4, wsX6_inner_r5, wsX6_inner_r6, wsX6_inner_r7, wsX6_inner_r8, wsX6_inner_r9, wsX6_inner_r10, wsX6_inner_r11, wsX60, wsX50, wsJ40, wsX20, wsJ00, (vx_atS RX6 306 "java/lang/IndexOutOfBoundsException" ["java/lang/RuntimeException", "java/lang/Exception"]).filter goodWord, (vx_atS RX6 317 "java/lang/IllegalArgumentException" ["java/lang/RuntimeException", "java/lang/Exception"]).filter goodWord]
theorem seX6_inner : sgX6_inner.flatten = wsX6_inner := by simp only [sgX6_inner, wsX6_inner, List.flatten_cons, List.flatten_nil, List.append_assoc, List.append_nil, List.cons_append, List.nil_append]
set_option maxRecDepth 20000 in
theorem ggX6_inner_X6_windowOf : GoodIn wsX6_inner wsX6_windowOf := goodIn_ca (goodIn_s seX6_inner _ [(1, 5), (1, 6), (1, 7), (1, 8), (12, 0), (12, 1), (12, 2), (12, 3), (12, 4), (12, 5), (12, 6), (12, 7), (12, 8), (12, 9), (12, 10), (12, 11), (12, 12), (12, 13)] (by rfl) (by decide +kernel)) (goodIn_sub (fun _ h => List.mem_cons_of_mem _ (List.mem_append_left _ (List.mem_append_right _ h))) (by decide +kernel))
set_option maxRecDepth 20000 in
theorem gX6_inner_X6_windowOf : GoodIn wsX6_inner (wsV RX6 62 RX6 yX6_windowOf wsX6_windowOf) := goodIn_app (goodIn_s seX6_inner _ [(1, 1), (1, 2), (1, 3), (1, 4)] (by rfl) (by decide +kernel)) ggX6_inner_X6_windowOf
set_option maxRecDepth 20000 in
theorem ggX6_inner_X5_size : GoodIn wsX6_inner wsX5_size := goodIn_s seX6_inner _ [(1, 13), (1, 14), (1, 15), (13, 0), (13, 1), (13, 2), (13, 3), (13, 4), (13, 5)] (by rfl) gw_wsX5_size
set_option maxRecDepth 20000 in
theorem gX6_inner_X5_size : GoodIn wsX6_inner (wsV RX6 73 RX5 yX5_size wsX5_size) := goodIn_app (goodIn_s seX6_inner _ [(1, 9), (1, 10), (1, 11), (1, 12)] (by rfl) (by decide +kernel)) ggX6_inner_X5_size
set_option maxRecDepth 20000 in
theorem ggX6_inner_X6_isStretch : GoodIn wsX6_inner wsX6_isStretch := goodIn_s seX6_inner _ [(1, 18)] (by rfl) gw_wsX6_isStretch
set_option maxRecDepth 20000 in
theorem gX6_inner_X6_isStretch : GoodIn wsX6_inner (va_wsS RX6 88 yX6_isStretch wsX6_isStretch) := goodIn_app (goodIn_s seX6_inner _ [(1, 16), (1, 17), (1, 4)] (by rfl) (by decide +kernel)) ggX6_inner_X6_isStretch
set_option maxRecDepth 20000 in
theorem ggX6_inner_X6_require : GoodIn wsX6_inner wsX6_require := goodIn_ca (goodIn_s seX6_inner _ [(1, 21), (1, 22), (1, 23)] (by rfl) (by decide +kernel)) (goodIn_sub (fun _ h => List.mem_cons_of_mem _ (List.mem_append_right _ h)) (by decide +kernel))
set_option maxRecDepth 20000 in
theorem gX6_inner_X6_require : GoodIn wsX6_inner (va_wsS RX6 127 yX6_require wsX6_require) := goodIn_app (goodIn_s seX6_inner _ [(1, 19), (1, 20), (1, 4)] (by rfl) (by decide +kernel)) ggX6_inner_X6_require
set_option maxRecDepth 20000 in
theorem ggX6_inner_X6_requireWithin : GoodIn wsX6_inner wsX6_requireWithin := goodIn_ca (goodIn_s seX6_inner _ [(2, 2), (1, 22), (1, 23)] (by rfl) (by decide +kernel)) (goodIn_sub (fun _ h => List.mem_cons_of_mem _ (List.mem_append_right _ h)) (by decide +kernel))
set_option maxRecDepth 20000 in
theorem gX6_inner_X6_requireWithin : GoodIn wsX6_inner (va_wsS RX6 66 yX6_requireWithin wsX6_requireWithin) := goodIn_app (goodIn_s seX6_inner _ [(2, 0), (2, 1), (1, 4)] (by rfl) (by decide +kernel)) ggX6_inner_X6_requireWithin
set_option maxRecDepth 20000 in
theorem ggX6_inner_X5_becomePart : GoodIn wsX6_inner wsX5_becomePart := goodIn_s seX6_inner _ [(2, 6), (1, 15), (2, 7), (2, 8), (2, 9), (1, 14), (2, 10), (13, 0), (13, 1), (13, 2), (13, 3), (13, 4), (13, 5)] (by rfl) gw_wsX5_becomePart
set_option maxRecDepth 20000 in
theorem gX6_inner_X5_becomePart : GoodIn wsX6_inner (wsV RX6 95 RX5 yX5_becomePart wsX5_becomePart) := goodIn_app (goodIn_s seX6_inner _ [(2, 3), (2, 4), (2, 5), (1, 12)] (by rfl) (by decide +kernel)) ggX6_inner_X5_becomePart
set_option maxRecDepth 20000 in
theorem ggX6_inner_X6_spelled : GoodIn wsX6_inner wsX6_spelled := goodIn_s seX6_inner _ [(2, 13), (2, 14), (2, 15), (2, 16), (2, 17), (2, 18), (2, 19), (2, 20), (2, 21), (2, 22), (2, 23), (3, 0), (3, 1), (3, 2), (3, 3), (3, 4), (3, 5), (3, 6), (3, 7), (3, 8), (3, 9), (3, 10), (3, 11), (3, 12), (3, 13), (3, 14), (3, 15), (3, 16), (3, 17), (3, 18), (3, 19), (3, 20), (3, 21), (3, 22), (1, 10), (1, 12), (1, 13), (1, 14), (1, 15), (3, 23), (4, 0), (4, 1), (4, 2), (4, 3), (4, 4), (4, 5), (4, 6), (4, 7), (4, 8), (4, 9), (4, 10), (4, 11), (2, 8), (2, 7), (4, 12), (4, 13), (4, 14), (4, 15), (4, 16), (4, 17), (4, 18), (4, 19), (4, 20), (4, 21), (4, 22), (4, 23), (5, 0), (5, 1), (5, 2), (5, 3), (5, 4), (5, 5), (5, 6), (5, 7), (5, 8), (5, 9), (5, 10), (5, 11), (5, 12), (5, 13), (5, 14), (5, 15), (5, 16), (5, 17), (5, 18), (5, 19), (5, 20), (5, 21), (5, 22), (5, 23), (6, 0), (6, 1), (6, 2), (6, 3), (6, 4), (6, 5), (6, 6), (6, 7), (6, 8), (6, 9), (6, 10), (6, 11), (6, 12), (6, 13), (6, 14), (6, 15), (6, 16), (6, 17), (6, 18), (6, 19), (6, 20), (6, 21), (6, 22), (6, 23), (7, 0), (7, 1), (7, 2), (7, 3), (7, 4), (7, 5), (7, 6), (7, 7), (7, 8), (7, 9), (7, 10), (7, 11), (7, 12), (7, 13), (7, 14), (7, 15), (7, 16), (7, 17), (7, 18), (7, 19), (7, 20), (7, 21), (7, 22), (7, 23), (8, 0), (8, 1), (8, 2), (8, 3), (8, 4), (8, 5), (8, 6), (8, 7), (8, 8), (8, 9), (8, 10), (8, 11), (8, 12), (8, 13), (8, 14), (8, 15), (8, 16), (8, 17), (8, 18), (8, 19), (8, 20), (8, 21), (8, 22), (8, 23), (9, 0), (9, 1), (9, 2), (9, 3), (9, 4), (9, 5), (9, 6), (9, 7), (9, 8), (9, 9), (9, 10), (9, 11), (9, 12), (9, 13), (9, 14), (9, 15), (9, 16), (9, 17), (9, 18), (9, 19), (9, 20), (9, 21), (9, 22), (9, 23), (10, 0), (10, 1), (10, 2), (10, 3), (10, 4), (10, 5), (10, 6), (10, 7), (10, 8), (10, 9), (10, 10), (10, 11), (10, 12), (10, 13), (10, 14), (10, 15), (10, 16), (10, 17), (10, 18), (10, 19), (10, 20), (10, 21), (10, 22), (10, 23), (11, 0), (11, 1), (14, 0), (14, 1), (14, 2), (14, 3), (15, 0), (15, 1), (13, 0), (13, 1), (13, 2), (13, 3), (13, 4), (13, 5), (16, 0), (16, 1), (16, 2), (16, 3)] (by rfl) gw_wsX6_spelled
set_option maxRecDepth 20000 in
theorem gX6_inner_X6_spelled : GoodIn wsX6_inner (va_wsS RX6 216 yX6_spelled wsX6_spelled) := goodIn_app (goodIn_s seX6_inner _ [(2, 11), (2, 12), (1, 4)] (by rfl) (by decide +kernel)) ggX6_inner_X6_spelled
set_option maxRecDepth 20000 in
theorem ggX6_inner_X5_becomeSlice : GoodIn wsX6_inner wsX5_becomeSlice := goodIn_s seX6_inner _ [(11, 5), (2, 7), (2, 8), (1, 15), (2, 9), (11, 6), (1, 10), (1, 11), (1, 12), (1, 13), (1, 14), (11, 7), (11, 8), (11, 9), (11, 10), (2, 10), (13, 0), (13, 1), (13, 2), (13, 3), (13, 4), (13, 5)] (by rfl) gw_wsX5_becomeSlice
set_option maxRecDepth 20000 in
theorem gX6_inner_X5_becomeSlice : GoodIn wsX6_inner (wsV RX6 81 RX5 yX5_becomeSlice wsX5_becomeSlice) := goodIn_app (goodIn_s seX6_inner _ [(11, 2), (11, 3), (11, 4), (1, 12)] (by rfl) (by decide +kernel)) ggX6_inner_X5_becomeSlice
noncomputable def sgX6_first : List (List Cond) := [[.code yX6_first cX6_first 3 (some .int)], wsX6_first_r1, wsX6_first_r2, wsX6_first_r3, wsX60, wsX30, wsX00, wsX20, wsX50, (vx_atS RX6 306 "java/lang/IndexOutOfBoundsException" ["java/lang/RuntimeException", "java/lang/Exception"]).filter goodWord]
theorem seX6_first : sgX6_first.flatten = wsX6_first := by simp only [sgX6_first, wsX6_first, List.flatten_cons, List.flatten_nil, List.append_assoc, List.append_nil, List.cons_append, List.nil_append]
set_option maxRecDepth 20000 in
theorem ggX6_first_X6_sourceOf : GoodIn wsX6_first wsX6_sourceOf := goodIn_ca (goodIn_s seX6_first _ [(1, 5), (1, 6), (1, 7), (1, 8), (1, 9), (1, 10), (4, 0), (4, 1), (4, 2), (4, 3), (4, 4), (4, 5), (4, 6), (4, 7), (4, 8), (4, 9), (4, 10), (4, 11), (4, 12), (4, 13)] (by rfl) (by decide +kernel)) (goodIn_sub (fun _ h => List.mem_cons_of_mem _ (List.mem_append_right _ h)) (by decide +kernel))
set_option maxRecDepth 20000 in
theorem gX6_first_X6_sourceOf : GoodIn wsX6_first (wsV RX6 156 RX6 yX6_sourceOf wsX6_sourceOf) := goodIn_app (goodIn_s seX6_first _ [(1, 1), (1, 2), (1, 3), (1, 4)] (by rfl) (by decide +kernel)) ggX6_first_X6_sourceOf
set_option maxRecDepth 20000 in
theorem ggX6_first_X3_seek : GoodIn wsX6_first wsX3_seek := goodIn_s seX6_first _ [(1, 15), (1, 16), (1, 17), (1, 18), (1, 19), (1, 20), (1, 21), (1, 22), (1, 23), (2, 0), (2, 1), (2, 2), (2, 3), (2, 4), (2, 5), (2, 6), (2, 7), (2, 8), (2, 9), (2, 10), (2, 11), (2, 12), (2, 13), (2, 14), (2, 15), (2, 16), (2, 17), (2, 18), (2, 19), (2, 20), (2, 21), (2, 22), (2, 23), (3, 0), (3, 1), (3, 2), (3, 3), (3, 4), (3, 5), (3, 6), (3, 7), (3, 8), (3, 9), (3, 10), (3, 11), (3, 12), (3, 13), (3, 14), (3, 15), (1, 14), (3, 16), (3, 17), (3, 18), (3, 19), (5, 0), (5, 1), (5, 2), (6, 0), (6, 1), (6, 2), (7, 0), (7, 1), (8, 0), (8, 1), (8, 2), (8, 3), (8, 4), (8, 5)] (by rfl) gw_wsX3_seek
set_option maxRecDepth 20000 in
theorem gX6_first_X3_seek : GoodIn wsX6_first (wsV RX6 220 RX3 yX3_seek wsX3_seek) := goodIn_app (goodIn_s seX6_first _ [(1, 11), (1, 12), (1, 13), (1, 14)] (by rfl) (by decide +kernel)) ggX6_first_X3_seek
set_option maxRecDepth 20000 in
theorem ggX6_first_X3_foundAt : GoodIn wsX6_first wsX3_foundAt := goodIn_s seX6_first _ [(3, 23), (1, 16), (3, 17), (5, 0), (5, 1), (5, 2)] (by rfl) gw_wsX3_foundAt
set_option maxRecDepth 20000 in
theorem gX6_first_X3_foundAt : GoodIn wsX6_first (wsV RX6 224 RX3 yX3_foundAt wsX3_foundAt) := goodIn_app (goodIn_s seX6_first _ [(3, 20), (3, 21), (3, 22), (1, 14)] (by rfl) (by decide +kernel)) ggX6_first_X3_foundAt
noncomputable def sgX6_last : List (List Cond) := [[.code yX6_last cX6_last 3 (some .int)], wsX6_last_r1, wsX6_last_r2, wsX6_last_r3, wsX60, wsX30, wsX00, wsX20, wsX50, (vx_atS RX6 306 "java/lang/IndexOutOfBoundsException" ["java/lang/RuntimeException", "java/lang/Exception"]).filter goodWord]
theorem seX6_last : sgX6_last.flatten = wsX6_last := by simp only [sgX6_last, wsX6_last, List.flatten_cons, List.flatten_nil, List.append_assoc, List.append_nil, List.cons_append, List.nil_append]
set_option maxRecDepth 20000 in
theorem ggX6_last_X6_sourceOf : GoodIn wsX6_last wsX6_sourceOf := goodIn_ca (goodIn_s seX6_last _ [(1, 5), (1, 6), (1, 7), (1, 8), (1, 9), (1, 10), (4, 0), (4, 1), (4, 2), (4, 3), (4, 4), (4, 5), (4, 6), (4, 7), (4, 8), (4, 9), (4, 10), (4, 11), (4, 12), (4, 13)] (by rfl) (by decide +kernel)) (goodIn_sub (fun _ h => List.mem_cons_of_mem _ (List.mem_append_right _ h)) (by decide +kernel))
set_option maxRecDepth 20000 in
theorem gX6_last_X6_sourceOf : GoodIn wsX6_last (wsV RX6 156 RX6 yX6_sourceOf wsX6_sourceOf) := goodIn_app (goodIn_s seX6_last _ [(1, 1), (1, 2), (1, 3), (1, 4)] (by rfl) (by decide +kernel)) ggX6_last_X6_sourceOf
set_option maxRecDepth 20000 in
theorem ggX6_last_X3_seek : GoodIn wsX6_last wsX3_seek := goodIn_s seX6_last _ [(1, 15), (1, 16), (1, 17), (1, 18), (1, 19), (1, 20), (1, 21), (1, 22), (1, 23), (2, 0), (2, 1), (2, 2), (2, 3), (2, 4), (2, 5), (2, 6), (2, 7), (2, 8), (2, 9), (2, 10), (2, 11), (2, 12), (2, 13), (2, 14), (2, 15), (2, 16), (2, 17), (2, 18), (2, 19), (2, 20), (2, 21), (2, 22), (2, 23), (3, 0), (3, 1), (3, 2), (3, 3), (3, 4), (3, 5), (3, 6), (3, 7), (3, 8), (3, 9), (3, 10), (3, 11), (3, 12), (3, 13), (3, 14), (3, 15), (1, 14), (3, 16), (3, 17), (3, 18), (3, 19), (5, 0), (5, 1), (5, 2), (6, 0), (6, 1), (6, 2), (7, 0), (7, 1), (8, 0), (8, 1), (8, 2), (8, 3), (8, 4), (8, 5)] (by rfl) gw_wsX3_seek
set_option maxRecDepth 20000 in
theorem gX6_last_X3_seek : GoodIn wsX6_last (wsV RX6 220 RX3 yX3_seek wsX3_seek) := goodIn_app (goodIn_s seX6_last _ [(1, 11), (1, 12), (1, 13), (1, 14)] (by rfl) (by decide +kernel)) ggX6_last_X3_seek
set_option maxRecDepth 20000 in
theorem ggX6_last_X3_foundAt : GoodIn wsX6_last wsX3_foundAt := goodIn_s seX6_last _ [(3, 23), (1, 16), (3, 17), (5, 0), (5, 1), (5, 2)] (by rfl) gw_wsX3_foundAt
set_option maxRecDepth 20000 in
theorem gX6_last_X3_foundAt : GoodIn wsX6_last (wsV RX6 224 RX3 yX3_foundAt wsX3_foundAt) := goodIn_app (goodIn_s seX6_last _ [(3, 20), (3, 21), (3, 22), (1, 14)] (by rfl) (by decide +kernel)) ggX6_last_X3_foundAt
noncomputable def sgX6_count : List (List Cond) := [[.code yX6_count cX6_count 3 (some .int)], wsX6_count_r1, wsX6_count_r2, wsX6_count_r3, wsX60, wsX30, wsX00, wsX20, wsX50, (vx_atS RX6 306 "java/lang/IndexOutOfBoundsException" ["java/lang/RuntimeException", "java/lang/Exception"]).filter goodWord]
theorem seX6_count : sgX6_count.flatten = wsX6_count := by simp only [sgX6_count, wsX6_count, List.flatten_cons, List.flatten_nil, List.append_assoc, List.append_nil, List.cons_append, List.nil_append]
set_option maxRecDepth 20000 in
theorem ggX6_count_X6_sourceOf : GoodIn wsX6_count wsX6_sourceOf := goodIn_ca (goodIn_s seX6_count _ [(1, 5), (1, 6), (1, 7), (1, 8), (1, 9), (1, 10), (4, 0), (4, 1), (4, 2), (4, 3), (4, 4), (4, 5), (4, 6), (4, 7), (4, 8), (4, 9), (4, 10), (4, 11), (4, 12), (4, 13)] (by rfl) (by decide +kernel)) (goodIn_sub (fun _ h => List.mem_cons_of_mem _ (List.mem_append_right _ h)) (by decide +kernel))
set_option maxRecDepth 20000 in
theorem gX6_count_X6_sourceOf : GoodIn wsX6_count (wsV RX6 156 RX6 yX6_sourceOf wsX6_sourceOf) := goodIn_app (goodIn_s seX6_count _ [(1, 1), (1, 2), (1, 3), (1, 4)] (by rfl) (by decide +kernel)) ggX6_count_X6_sourceOf
set_option maxRecDepth 20000 in
theorem ggX6_count_X3_seek : GoodIn wsX6_count wsX3_seek := goodIn_s seX6_count _ [(1, 15), (1, 16), (1, 17), (1, 18), (1, 19), (1, 20), (1, 21), (1, 22), (1, 23), (2, 0), (2, 1), (2, 2), (2, 3), (2, 4), (2, 5), (2, 6), (2, 7), (2, 8), (2, 9), (2, 10), (2, 11), (2, 12), (2, 13), (2, 14), (2, 15), (2, 16), (2, 17), (2, 18), (2, 19), (2, 20), (2, 21), (2, 22), (2, 23), (3, 0), (3, 1), (3, 2), (3, 3), (3, 4), (3, 5), (3, 6), (3, 7), (3, 8), (3, 9), (3, 10), (3, 11), (3, 12), (3, 13), (3, 14), (3, 15), (1, 14), (3, 16), (3, 17), (3, 18), (3, 19), (5, 0), (5, 1), (5, 2), (6, 0), (6, 1), (6, 2), (7, 0), (7, 1), (8, 0), (8, 1), (8, 2), (8, 3), (8, 4), (8, 5)] (by rfl) gw_wsX3_seek
set_option maxRecDepth 20000 in
theorem gX6_count_X3_seek : GoodIn wsX6_count (wsV RX6 220 RX3 yX3_seek wsX3_seek) := goodIn_app (goodIn_s seX6_count _ [(1, 11), (1, 12), (1, 13), (1, 14)] (by rfl) (by decide +kernel)) ggX6_count_X3_seek
noncomputable def sgX6_place : List (List Cond) := [[.code yX6_place cX6_place 6 (some .int)], wsX6_place_r1, wsX6_place_r2, wsX6_place_r3, wsX6_place_r4, wsX60, wsX30, wsX00, wsX20, wsX50, (vx_atS RX6 306 "java/lang/IndexOutOfBoundsException" ["java/lang/RuntimeException", "java/lang/Exception"]).filter goodWord, (vx_atS RX6 317 "java/lang/IllegalArgumentException" ["java/lang/RuntimeException", "java/lang/Exception"]).filter goodWord]
theorem seX6_place : sgX6_place.flatten = wsX6_place := by simp only [sgX6_place, wsX6_place, List.flatten_cons, List.flatten_nil, List.append_assoc, List.append_nil, List.cons_append, List.nil_append]
set_option maxRecDepth 20000 in
theorem ggX6_place_X6_sourceOf : GoodIn wsX6_place wsX6_sourceOf := goodIn_ca (goodIn_s seX6_place _ [(1, 5), (1, 6), (1, 7), (1, 8), (1, 9), (1, 10), (5, 0), (5, 1), (5, 2), (5, 3), (5, 4), (5, 5), (5, 6), (5, 7), (5, 8), (5, 9), (5, 10), (5, 11), (5, 12), (5, 13)] (by rfl) (by decide +kernel)) (goodIn_sub (fun _ h => List.mem_cons_of_mem _ (List.mem_append_left _ (List.mem_append_right _ h))) (by decide +kernel))
set_option maxRecDepth 20000 in
theorem gX6_place_X6_sourceOf : GoodIn wsX6_place (wsV RX6 156 RX6 yX6_sourceOf wsX6_sourceOf) := goodIn_app (goodIn_s seX6_place _ [(1, 1), (1, 2), (1, 3), (1, 4)] (by rfl) (by decide +kernel)) ggX6_place_X6_sourceOf
set_option maxRecDepth 20000 in
theorem ggX6_place_X6_requireWithin : GoodIn wsX6_place wsX6_requireWithin := goodIn_ca (goodIn_s seX6_place _ [(1, 13), (1, 14), (1, 15)] (by rfl) (by decide +kernel)) (goodIn_sub (fun _ h => List.mem_cons_of_mem _ (List.mem_append_right _ h)) (by decide +kernel))
set_option maxRecDepth 20000 in
theorem gX6_place_X6_requireWithin : GoodIn wsX6_place (va_wsS RX6 66 yX6_requireWithin wsX6_requireWithin) := goodIn_app (goodIn_s seX6_place _ [(1, 11), (1, 12), (1, 4)] (by rfl) (by decide +kernel)) ggX6_place_X6_requireWithin
set_option maxRecDepth 20000 in
theorem ggX6_place_X3_seek : GoodIn wsX6_place wsX3_seek := goodIn_s seX6_place _ [(1, 20), (1, 21), (1, 22), (1, 23), (2, 0), (2, 1), (2, 2), (2, 3), (2, 4), (2, 5), (2, 6), (2, 7), (2, 8), (2, 9), (2, 10), (2, 11), (2, 12), (2, 13), (2, 14), (2, 15), (2, 16), (2, 17), (2, 18), (2, 19), (2, 20), (2, 21), (2, 22), (2, 23), (3, 0), (3, 1), (3, 2), (3, 3), (3, 4), (3, 5), (3, 6), (3, 7), (3, 8), (3, 9), (3, 10), (3, 11), (3, 12), (3, 13), (3, 14), (3, 15), (3, 16), (3, 17), (3, 18), (3, 19), (3, 20), (1, 19), (3, 21), (3, 22), (3, 23), (4, 0), (6, 0), (6, 1), (6, 2), (7, 0), (7, 1), (7, 2), (8, 0), (8, 1), (9, 0), (9, 1), (9, 2), (9, 3), (9, 4), (9, 5)] (by rfl) gw_wsX3_seek
set_option maxRecDepth 20000 in
theorem gX6_place_X3_seek : GoodIn wsX6_place (wsV RX6 220 RX3 yX3_seek wsX3_seek) := goodIn_app (goodIn_s seX6_place _ [(1, 16), (1, 17), (1, 18), (1, 19)] (by rfl) (by decide +kernel)) ggX6_place_X3_seek
set_option maxRecDepth 20000 in
theorem ggX6_place_X3_foundAt : GoodIn wsX6_place wsX3_foundAt := goodIn_s seX6_place _ [(4, 4), (1, 21), (3, 22), (6, 0), (6, 1), (6, 2)] (by rfl) gw_wsX3_foundAt
set_option maxRecDepth 20000 in
theorem gX6_place_X3_foundAt : GoodIn wsX6_place (wsV RX6 224 RX3 yX3_foundAt wsX3_foundAt) := goodIn_app (goodIn_s seX6_place _ [(4, 1), (4, 2), (4, 3), (1, 19)] (by rfl) (by decide +kernel)) ggX6_place_X3_foundAt
noncomputable def sgX6_border : List (List Cond) := [[.code yX6_border cX6_border 2 (some .int)], wsX6_border_r1, wsX6_border_r2, wsX6_border_r3, wsX60, wsX00, wsX20, wsX50, (vx_atS RX6 306 "java/lang/IndexOutOfBoundsException" ["java/lang/RuntimeException", "java/lang/Exception"]).filter goodWord]
theorem seX6_border : sgX6_border.flatten = wsX6_border := by simp only [sgX6_border, wsX6_border, List.flatten_cons, List.flatten_nil, List.append_assoc, List.append_nil, List.cons_append, List.nil_append]
set_option maxRecDepth 20000 in
theorem ggX6_border_X6_sourceOf : GoodIn wsX6_border wsX6_sourceOf := goodIn_ca (goodIn_s seX6_border _ [(1, 4), (1, 5), (1, 6), (1, 7), (1, 8), (1, 9), (4, 0), (4, 1), (4, 2), (4, 3), (4, 4), (4, 5), (4, 6), (4, 7), (4, 8), (4, 9), (4, 10), (4, 11), (4, 12), (4, 13)] (by rfl) (by decide +kernel)) (goodIn_sub (fun _ h => List.mem_cons_of_mem _ (List.mem_append_right _ h)) (by decide +kernel))
set_option maxRecDepth 20000 in
theorem gX6_border_X6_sourceOf : GoodIn wsX6_border (wsV RX6 156 RX6 yX6_sourceOf wsX6_sourceOf) := goodIn_app (goodIn_s seX6_border _ [(1, 0), (1, 1), (1, 2), (1, 3)] (by rfl) (by decide +kernel)) ggX6_border_X6_sourceOf
set_option maxRecDepth 20000 in
theorem ggX6_border_X6_greatestBorder : GoodIn wsX6_border wsX6_greatestBorder := goodIn_s seX6_border _ [(1, 13), (1, 14), (1, 15), (1, 16), (1, 17), (1, 18), (1, 19), (1, 20), (1, 21), (1, 22), (1, 23), (2, 0), (2, 1), (2, 2), (2, 3), (2, 4), (2, 5), (2, 6), (2, 7), (2, 8), (2, 9), (2, 10), (2, 11), (2, 12), (2, 13), (2, 14), (2, 15), (2, 16), (2, 17), (2, 18), (2, 19), (2, 20), (2, 21), (2, 22), (2, 23), (3, 0), (3, 1), (3, 2), (3, 3), (3, 4), (3, 5), (3, 6), (3, 7), (3, 8), (3, 9), (3, 10), (4, 0), (4, 1), (4, 2), (4, 3), (4, 4), (4, 5), (4, 6), (4, 7), (4, 8), (4, 9), (4, 10), (4, 11), (4, 12), (4, 13), (5, 0), (5, 1), (5, 2), (6, 0), (6, 1), (7, 0), (7, 1), (7, 2), (7, 3), (7, 4), (7, 5)] (by rfl) gw_wsX6_greatestBorder
set_option maxRecDepth 20000 in
theorem gX6_border_X6_greatestBorder : GoodIn wsX6_border (wsV RX6 230 RX6 yX6_greatestBorder wsX6_greatestBorder) := goodIn_app (goodIn_s seX6_border _ [(1, 10), (1, 11), (1, 12), (1, 3)] (by rfl) (by decide +kernel)) ggX6_border_X6_greatestBorder
noncomputable def sgX6_borders : List (List Cond) := [[.code yX6_borders cX6_borders 5 (some (.object "java/lang/String"))], wsX6_borders_r1, wsX6_borders_r2, wsX6_borders_r3, wsX6_borders_r4, wsX6_borders_r5, wsX6_borders_r6, wsX6_borders_r7, wsX6_borders_r8, wsX6_borders_r9, wsX6_borders_r10, wsX6_borders_r11, wsX6_borders_r12, wsX60, wsJ40, wsX00, wsX20, wsX50, wsJ00, (vx_atS RX6 306 "java/lang/IndexOutOfBoundsException" ["java/lang/RuntimeException", "java/lang/Exception"]).filter goodWord]
theorem seX6_borders : sgX6_borders.flatten = wsX6_borders := by simp only [sgX6_borders, wsX6_borders, List.flatten_cons, List.flatten_nil, List.append_assoc, List.append_nil, List.cons_append, List.nil_append]
set_option maxRecDepth 20000 in
theorem ggX6_borders_X6_sourceOf : GoodIn wsX6_borders wsX6_sourceOf := goodIn_ca (goodIn_s seX6_borders _ [(1, 8), (1, 9), (1, 10), (1, 11), (1, 12), (1, 13), (13, 0), (13, 1), (13, 2), (13, 3), (13, 4), (13, 5), (13, 6), (13, 7), (13, 8), (13, 9), (13, 10), (13, 11), (13, 12), (13, 13)] (by rfl) (by decide +kernel)) (goodIn_sub (fun _ h => List.mem_cons_of_mem _ (List.mem_append_right _ h)) (by decide +kernel))
set_option maxRecDepth 20000 in
theorem gX6_borders_X6_sourceOf : GoodIn wsX6_borders (wsV RX6 156 RX6 yX6_sourceOf wsX6_sourceOf) := goodIn_app (goodIn_s seX6_borders _ [(1, 4), (1, 5), (1, 6), (1, 7)] (by rfl) (by decide +kernel)) ggX6_borders_X6_sourceOf
set_option maxRecDepth 20000 in
theorem ggX6_borders_X0_measure : GoodIn wsX6_borders wsX0_measure := goodIn_s seX6_borders _ [(1, 18), (1, 19), (1, 20), (1, 21), (1, 22), (1, 23), (2, 0), (2, 1), (2, 2), (2, 3), (2, 4), (2, 5), (2, 6), (2, 7), (2, 8), (2, 9), (2, 10), (2, 11), (2, 12), (2, 13), (2, 14), (2, 15), (2, 16), (2, 17), (2, 18), (2, 19), (2, 20), (2, 21), (2, 22), (2, 23), (3, 0), (3, 1), (3, 2), (1, 17), (3, 3), (3, 4), (3, 5), (3, 6), (3, 7), (15, 0), (15, 1), (15, 2), (16, 0), (16, 1), (17, 0), (17, 1), (17, 2), (17, 3), (17, 4), (17, 5)] (by rfl) gw_wsX0_measure
set_option maxRecDepth 20000 in
theorem gX6_borders_X0_measure : GoodIn wsX6_borders (wsV RX6 234 RX0 yX0_measure wsX0_measure) := goodIn_app (goodIn_s seX6_borders _ [(1, 14), (1, 15), (1, 16), (1, 17)] (by rfl) (by decide +kernel)) ggX6_borders_X0_measure
set_option maxRecDepth 20000 in
theorem ggX6_borders_J4_init_da8c8 : GoodIn wsX6_borders wsJ4_init_da8c8 := goodIn_s seX6_borders _ [(3, 10), (3, 11), (3, 12), (3, 13), (3, 14), (3, 15), (3, 16), (3, 17), (3, 18), (3, 19), (3, 20), (3, 21), (3, 22), (3, 23), (4, 0), (4, 1), (4, 2), (4, 3), (4, 4), (4, 5), (14, 0), (14, 1), (14, 2), (14, 3)] (by rfl) gw_wsJ4_init_da8c8
set_option maxRecDepth 20000 in
theorem gX6_borders_J4_init_da8c8 : GoodIn wsX6_borders (wsJ4_init_da8c8) := ggX6_borders_J4_init_da8c8
set_option maxRecDepth 20000 in
theorem ggX6_borders_X2_size : GoodIn wsX6_borders wsX2_size := goodIn_s seX6_borders _ [(2, 1), (2, 2), (16, 0), (16, 1)] (by rfl) gw_wsX2_size
set_option maxRecDepth 20000 in
theorem gX6_borders_X2_size_u165X2 : GoodIn wsX6_borders (va_wsU RX6 165 RX2 "Sashwords$Text" ⟨"Sashwords$Text", "size", "()I"⟩ yX2_size wsX2_size) := goodIn_app (goodIn_s seX6_borders _ [(4, 6), (1, 21), (1, 22), (1, 23), (2, 0)] (by rfl) (by decide +kernel)) ggX6_borders_X2_size
set_option maxRecDepth 20000 in
theorem ggX6_borders_X5_size : GoodIn wsX6_borders wsX5_size := goodIn_s seX6_borders _ [(2, 6), (2, 7), (2, 8), (17, 0), (17, 1), (17, 2), (17, 3), (17, 4), (17, 5)] (by rfl) gw_wsX5_size
set_option maxRecDepth 20000 in
theorem gX6_borders_X5_size_u165X5 : GoodIn wsX6_borders (va_wsU RX6 165 RX5 "Sashwords$Text" ⟨"Sashwords$Text", "size", "()I"⟩ yX5_size wsX5_size) := goodIn_app (goodIn_s seX6_borders _ [(4, 6), (1, 21), (2, 3), (2, 4), (2, 5)] (by rfl) (by decide +kernel)) ggX6_borders_X5_size
set_option maxRecDepth 20000 in
theorem ggX6_borders_X0_greatestOf : GoodIn wsX6_borders wsX0_greatestOf := goodIn_s seX6_borders _ [(3, 7), (1, 19), (15, 0), (15, 1), (15, 2)] (by rfl) gw_wsX0_greatestOf
set_option maxRecDepth 20000 in
theorem gX6_borders_X0_greatestOf : GoodIn wsX6_borders (wsV RX6 237 RX0 yX0_greatestOf wsX0_greatestOf) := goodIn_app (goodIn_s seX6_borders _ [(4, 7), (3, 5), (3, 6), (1, 17)] (by rfl) (by decide +kernel)) ggX6_borders_X0_greatestOf
set_option maxRecDepth 20000 in
theorem ggX6_borders_J4_append_bf812 : GoodIn wsX6_borders wsJ4_append_bf812 := goodIn_s seX6_borders _ [(4, 11), (4, 12), (4, 13), (4, 14), (4, 15), (3, 13), (4, 16), (4, 17), (3, 20), (4, 18), (4, 19), (4, 20), (4, 21), (4, 22), (4, 23), (5, 0), (5, 1), (5, 2), (3, 21), (5, 3), (5, 4), (5, 5), (5, 6), (5, 7), (5, 8), (5, 9), (5, 10), (5, 11), (5, 12), (5, 13), (5, 14), (5, 15), (5, 16), (5, 17), (5, 18), (5, 19), (5, 20), (5, 21), (5, 22), (5, 23), (6, 0), (6, 1), (6, 2), (6, 3), (6, 4), (6, 5), (6, 6), (3, 19), (6, 7), (6, 8), (6, 9), (6, 10), (6, 11), (6, 12), (6, 13), (6, 14), (6, 15), (6, 16), (6, 17), (6, 18), (3, 18), (6, 19), (6, 20), (6, 21), (6, 22), (6, 23), (7, 0), (7, 1), (4, 0), (7, 2), (7, 3), (7, 4), (7, 5), (7, 6), (7, 7), (7, 8), (7, 9), (7, 10), (7, 11), (7, 12), (7, 13), (7, 14), (7, 15), (7, 16), (7, 17), (7, 18), (7, 19), (7, 20), (7, 21), (7, 22), (7, 23), (8, 0), (8, 1), (8, 2), (8, 3), (8, 4), (14, 0), (14, 1), (14, 2), (14, 3)] (by rfl) gw_wsJ4_append_bf812
set_option maxRecDepth 20000 in
theorem gX6_borders_J4_append_bf812 : GoodIn wsX6_borders (wsV RX6 240 RJ4 yJ4_append_bf812 wsJ4_append_bf812) := goodIn_app (goodIn_s seX6_borders _ [(4, 8), (4, 9), (4, 10), (1, 3)] (by rfl) (by decide +kernel)) ggX6_borders_J4_append_bf812
set_option maxRecDepth 20000 in
theorem ggX6_borders_J4_append_cf468 : GoodIn wsX6_borders wsJ4_append_cf468 := goodIn_s seX6_borders _ [(8, 8), (8, 9), (8, 10), (4, 14), (8, 11), (3, 13), (8, 12), (4, 17), (3, 20), (4, 22), (4, 23), (5, 0), (5, 1), (5, 2), (3, 21), (5, 3), (5, 4), (5, 5), (5, 6), (5, 7), (5, 8), (5, 9), (5, 10), (5, 11), (5, 12), (5, 13), (5, 14), (5, 15), (5, 16), (5, 17), (5, 18), (5, 19), (5, 20), (5, 21), (5, 22), (5, 23), (6, 0), (6, 1), (6, 2), (6, 3), (6, 4), (6, 5), (6, 6), (3, 19), (6, 7), (6, 8), (6, 9), (6, 10), (6, 11), (6, 12), (6, 13), (6, 14), (6, 15), (6, 16), (6, 17), (6, 18), (3, 18), (8, 13), (8, 14), (8, 15), (8, 16), (8, 17), (8, 18), (8, 19), (8, 20), (8, 21), (3, 22), (3, 23), (4, 0), (4, 1), (4, 2), (4, 3), (4, 4), (4, 5), (8, 22), (8, 23), (9, 0), (9, 1), (9, 2), (9, 3), (9, 4), (9, 5), (9, 6), (7, 7), (7, 8), (7, 9), (9, 7), (9, 8), (7, 12), (9, 9), (7, 14), (9, 10), (9, 11), (7, 17), (9, 12), (8, 0), (8, 1), (8, 2), (7, 3), (8, 3), (8, 4), (9, 13), (9, 14), (9, 15), (9, 16), (9, 17), (9, 18), (9, 19), (9, 20), (9, 21), (9, 22), (9, 23), (10, 0), (14, 0), (14, 1), (14, 2), (14, 3)] (by rfl) gw_wsJ4_append_cf468
set_option maxRecDepth 20000 in
theorem gX6_borders_J4_append_cf468 : GoodIn wsX6_borders (wsV RX6 116 RJ4 yJ4_append_cf468 wsJ4_append_cf468) := goodIn_app (goodIn_s seX6_borders _ [(8, 5), (8, 6), (8, 7), (1, 3)] (by rfl) (by decide +kernel)) ggX6_borders_J4_append_cf468
set_option maxRecDepth 20000 in
theorem ggX6_borders_J4_toString_0e30d : GoodIn wsX6_borders wsJ4_toString_0e30d := goodIn_s seX6_borders _ [(10, 4), (10, 5), (10, 6), (7, 12), (10, 7), (10, 8), (10, 9), (10, 10), (10, 11), (10, 12), (10, 13), (3, 16), (3, 17), (10, 14), (10, 15), (10, 16), (10, 17), (10, 18), (10, 19), (10, 20), (10, 21), (3, 13), (10, 22), (3, 20), (10, 23), (11, 0), (11, 1), (11, 2), (11, 3), (1, 3), (11, 4), (11, 5), (4, 14), (11, 6), (11, 7), (4, 17), (11, 8), (6, 15), (6, 16), (6, 17), (6, 18), (3, 18), (3, 21), (11, 9), (11, 10), (5, 23), (11, 11), (6, 1), (6, 2), (6, 3), (6, 4), (6, 5), (6, 6), (11, 12), (11, 13), (11, 14), (3, 19), (6, 7), (6, 8), (5, 15), (6, 9), (6, 10), (6, 11), (6, 12), (6, 13), (11, 15), (11, 16), (11, 17), (11, 18), (1, 2), (11, 19), (11, 20), (4, 0), (11, 21), (11, 22), (11, 23), (12, 0), (9, 4), (9, 5), (9, 6), (7, 7), (7, 8), (7, 9), (9, 7), (9, 8), (9, 9), (7, 14), (9, 10), (9, 11), (7, 17), (9, 12), (12, 1), (12, 2), (12, 3), (7, 3), (8, 3), (8, 4), (4, 2), (4, 3), (4, 4), (4, 5), (12, 4), (12, 5), (12, 6), (12, 7), (18, 0), (18, 1), (18, 2), (18, 3), (14, 0), (14, 1), (14, 2), (14, 3)] (by rfl) gw_wsJ4_toString_0e30d
set_option maxRecDepth 20000 in
theorem gX6_borders_J4_toString_0e30d : GoodIn wsX6_borders (wsV RX6 120 RJ4 yJ4_toString_0e30d wsJ4_toString_0e30d) := goodIn_app (goodIn_s seX6_borders _ [(10, 1), (10, 2), (10, 3), (1, 3)] (by rfl) (by decide +kernel)) ggX6_borders_J4_toString_0e30d
noncomputable def sgX6_chain : List (List Cond) := [[.code yX6_chain cX6_chain 4 (some (.object "java/lang/String"))], wsX6_chain_r1, wsX6_chain_r2, wsX6_chain_r3, wsX6_chain_r4, wsX6_chain_r5, wsX6_chain_r6, wsX6_chain_r7, wsX6_chain_r8, wsX6_chain_r9, wsX6_chain_r10, wsX6_chain_r11, wsX6_chain_r12, wsX60, wsJ40, wsX00, wsX20, wsX50, wsJ00, (vx_atS RX6 306 "java/lang/IndexOutOfBoundsException" ["java/lang/RuntimeException", "java/lang/Exception"]).filter goodWord]
theorem seX6_chain : sgX6_chain.flatten = wsX6_chain := by simp only [sgX6_chain, wsX6_chain, List.flatten_cons, List.flatten_nil, List.append_assoc, List.append_nil, List.cons_append, List.nil_append]
set_option maxRecDepth 20000 in
theorem ggX6_chain_X6_sourceOf : GoodIn wsX6_chain wsX6_sourceOf := goodIn_ca (goodIn_s seX6_chain _ [(1, 8), (1, 9), (1, 10), (1, 11), (1, 12), (1, 13), (13, 0), (13, 1), (13, 2), (13, 3), (13, 4), (13, 5), (13, 6), (13, 7), (13, 8), (13, 9), (13, 10), (13, 11), (13, 12), (13, 13)] (by rfl) (by decide +kernel)) (goodIn_sub (fun _ h => List.mem_cons_of_mem _ (List.mem_append_right _ h)) (by decide +kernel))
set_option maxRecDepth 20000 in
theorem gX6_chain_X6_sourceOf : GoodIn wsX6_chain (wsV RX6 156 RX6 yX6_sourceOf wsX6_sourceOf) := goodIn_app (goodIn_s seX6_chain _ [(1, 4), (1, 5), (1, 6), (1, 7)] (by rfl) (by decide +kernel)) ggX6_chain_X6_sourceOf
set_option maxRecDepth 20000 in
theorem ggX6_chain_X0_measureChain : GoodIn wsX6_chain wsX0_measureChain := goodIn_s seX6_chain _ [(1, 18), (1, 19), (1, 20), (1, 21), (1, 22), (1, 23), (1, 17), (2, 0), (2, 1), (2, 2), (2, 3), (2, 4), (2, 5), (2, 6), (2, 7), (2, 8), (2, 9), (2, 10), (2, 11), (2, 12), (2, 13), (2, 14), (2, 15), (2, 16), (2, 17), (2, 18), (2, 19), (2, 20), (2, 21), (2, 22), (2, 23), (3, 0), (3, 1), (3, 2), (3, 3), (3, 4), (3, 5), (3, 6), (3, 7), (3, 8), (3, 9), (3, 10), (3, 11), (3, 12), (3, 13), (15, 0), (15, 1), (15, 2), (16, 0), (16, 1), (17, 0), (17, 1), (17, 2), (17, 3), (17, 4), (17, 5)] (by rfl) gw_wsX0_measureChain
set_option maxRecDepth 20000 in
theorem gX6_chain_X0_measureChain : GoodIn wsX6_chain (wsV RX6 243 RX0 yX0_measureChain wsX0_measureChain) := goodIn_app (goodIn_s seX6_chain _ [(1, 14), (1, 15), (1, 16), (1, 17)] (by rfl) (by decide +kernel)) ggX6_chain_X0_measureChain
set_option maxRecDepth 20000 in
theorem ggX6_chain_J4_init_da8c8 : GoodIn wsX6_chain wsJ4_init_da8c8 := goodIn_s seX6_chain _ [(3, 16), (3, 17), (3, 18), (3, 19), (3, 20), (3, 21), (3, 22), (3, 23), (4, 0), (4, 1), (4, 2), (4, 3), (4, 4), (4, 5), (4, 6), (4, 7), (4, 8), (4, 9), (4, 10), (4, 11), (14, 0), (14, 1), (14, 2), (14, 3)] (by rfl) gw_wsJ4_init_da8c8
set_option maxRecDepth 20000 in
theorem gX6_chain_J4_init_da8c8 : GoodIn wsX6_chain (wsJ4_init_da8c8) := ggX6_chain_J4_init_da8c8
set_option maxRecDepth 20000 in
theorem ggX6_chain_X0_linkAt : GoodIn wsX6_chain wsX0_linkAt := goodIn_s seX6_chain _ [(4, 15), (1, 19), (1, 20), (15, 0), (15, 1), (15, 2)] (by rfl) gw_wsX0_linkAt
set_option maxRecDepth 20000 in
theorem gX6_chain_X0_linkAt : GoodIn wsX6_chain (wsV RX6 249 RX0 yX0_linkAt wsX0_linkAt) := goodIn_app (goodIn_s seX6_chain _ [(4, 12), (4, 13), (4, 14), (1, 17)] (by rfl) (by decide +kernel)) ggX6_chain_X0_linkAt
set_option maxRecDepth 20000 in
theorem ggX6_chain_J4_append_bf812 : GoodIn wsX6_chain wsJ4_append_bf812 := goodIn_s seX6_chain _ [(4, 19), (4, 20), (4, 21), (4, 22), (4, 23), (3, 19), (5, 0), (5, 1), (4, 2), (5, 2), (5, 3), (5, 4), (5, 5), (5, 6), (5, 7), (5, 8), (5, 9), (5, 10), (4, 3), (5, 11), (5, 12), (5, 13), (5, 14), (5, 15), (5, 16), (5, 17), (5, 18), (5, 19), (5, 20), (5, 21), (5, 22), (5, 23), (6, 0), (6, 1), (6, 2), (6, 3), (6, 4), (6, 5), (6, 6), (6, 7), (6, 8), (6, 9), (6, 10), (6, 11), (6, 12), (6, 13), (6, 14), (4, 1), (6, 15), (6, 16), (6, 17), (6, 18), (6, 19), (6, 20), (6, 21), (6, 22), (6, 23), (7, 0), (7, 1), (7, 2), (4, 0), (7, 3), (7, 4), (7, 5), (7, 6), (7, 7), (7, 8), (7, 9), (4, 6), (7, 10), (7, 11), (7, 12), (7, 13), (7, 14), (7, 15), (7, 16), (7, 17), (7, 18), (7, 19), (7, 20), (7, 21), (7, 22), (7, 23), (8, 0), (8, 1), (8, 2), (8, 3), (8, 4), (8, 5), (8, 6), (8, 7), (8, 8), (8, 9), (8, 10), (8, 11), (8, 12), (14, 0), (14, 1), (14, 2), (14, 3)] (by rfl) gw_wsJ4_append_bf812
set_option maxRecDepth 20000 in
theorem gX6_chain_J4_append_bf812 : GoodIn wsX6_chain (wsV RX6 240 RJ4 yJ4_append_bf812 wsJ4_append_bf812) := goodIn_app (goodIn_s seX6_chain _ [(4, 16), (4, 17), (4, 18), (1, 3)] (by rfl) (by decide +kernel)) ggX6_chain_J4_append_bf812
set_option maxRecDepth 20000 in
theorem ggX6_chain_J4_append_cf468 : GoodIn wsX6_chain wsJ4_append_cf468 := goodIn_s seX6_chain _ [(8, 16), (8, 17), (8, 18), (4, 22), (8, 19), (3, 19), (8, 20), (5, 1), (4, 2), (5, 6), (5, 7), (5, 8), (5, 9), (5, 10), (4, 3), (5, 11), (5, 12), (5, 13), (5, 14), (5, 15), (5, 16), (5, 17), (5, 18), (5, 19), (5, 20), (5, 21), (5, 22), (5, 23), (6, 0), (6, 1), (6, 2), (6, 3), (6, 4), (6, 5), (6, 6), (6, 7), (6, 8), (6, 9), (6, 10), (6, 11), (6, 12), (6, 13), (6, 14), (4, 1), (6, 15), (6, 16), (6, 17), (6, 18), (6, 19), (6, 20), (6, 21), (6, 22), (6, 23), (7, 0), (7, 1), (7, 2), (4, 0), (8, 21), (8, 22), (8, 23), (9, 0), (9, 1), (9, 2), (9, 3), (9, 4), (9, 5), (4, 4), (4, 5), (4, 6), (4, 7), (4, 8), (4, 9), (4, 10), (4, 11), (9, 6), (9, 7), (9, 8), (9, 9), (9, 10), (9, 11), (9, 12), (9, 13), (9, 14), (7, 15), (7, 16), (7, 17), (9, 15), (9, 16), (7, 20), (9, 17), (7, 22), (9, 18), (9, 19), (8, 1), (9, 20), (8, 8), (8, 9), (8, 10), (7, 11), (8, 11), (8, 12), (9, 21), (9, 22), (9, 23), (10, 0), (10, 1), (10, 2), (10, 3), (10, 4), (10, 5), (10, 6), (10, 7), (10, 8), (14, 0), (14, 1), (14, 2), (14, 3)] (by rfl) gw_wsJ4_append_cf468
set_option maxRecDepth 20000 in
theorem gX6_chain_J4_append_cf468 : GoodIn wsX6_chain (wsV RX6 116 RJ4 yJ4_append_cf468 wsJ4_append_cf468) := goodIn_app (goodIn_s seX6_chain _ [(8, 13), (8, 14), (8, 15), (1, 3)] (by rfl) (by decide +kernel)) ggX6_chain_J4_append_cf468
set_option maxRecDepth 20000 in
theorem ggX6_chain_J4_toString_0e30d : GoodIn wsX6_chain wsJ4_toString_0e30d := goodIn_s seX6_chain _ [(10, 12), (10, 13), (10, 14), (7, 20), (10, 15), (10, 16), (10, 17), (10, 18), (10, 19), (10, 20), (10, 21), (3, 22), (3, 23), (10, 22), (10, 23), (11, 0), (11, 1), (11, 2), (11, 3), (11, 4), (11, 5), (3, 19), (11, 6), (4, 2), (11, 7), (11, 8), (11, 9), (11, 10), (11, 11), (1, 3), (11, 12), (11, 13), (4, 22), (11, 14), (11, 15), (5, 1), (11, 16), (6, 23), (7, 0), (7, 1), (7, 2), (4, 0), (4, 3), (11, 17), (11, 18), (6, 7), (11, 19), (6, 9), (6, 10), (6, 11), (6, 12), (6, 13), (6, 14), (11, 20), (11, 21), (11, 22), (4, 1), (6, 15), (6, 16), (5, 23), (6, 17), (6, 18), (6, 19), (6, 20), (6, 21), (11, 23), (12, 0), (12, 1), (12, 2), (1, 2), (12, 3), (12, 4), (4, 6), (12, 5), (12, 6), (12, 7), (12, 8), (9, 12), (9, 13), (9, 14), (7, 15), (7, 16), (7, 17), (9, 15), (9, 16), (9, 17), (7, 22), (9, 18), (9, 19), (8, 1), (9, 20), (12, 9), (12, 10), (12, 11), (7, 11), (8, 11), (8, 12), (4, 8), (4, 9), (4, 10), (4, 11), (12, 12), (12, 13), (12, 14), (12, 15), (18, 0), (18, 1), (18, 2), (18, 3), (14, 0), (14, 1), (14, 2), (14, 3)] (by rfl) gw_wsJ4_toString_0e30d
set_option maxRecDepth 20000 in
theorem gX6_chain_J4_toString_0e30d : GoodIn wsX6_chain (wsV RX6 120 RJ4 yJ4_toString_0e30d wsJ4_toString_0e30d) := goodIn_app (goodIn_s seX6_chain _ [(10, 9), (10, 10), (10, 11), (1, 3)] (by rfl) (by decide +kernel)) ggX6_chain_J4_toString_0e30d
noncomputable def sgX6_differ : List (List Cond) := [[.code yX6_differ cX6_differ 3 (some .int)], wsX6_differ_r1, wsX6_differ_r2, wsX60, wsX20, wsX50, (vx_atS RX6 306 "java/lang/IndexOutOfBoundsException" ["java/lang/RuntimeException", "java/lang/Exception"]).filter goodWord]
theorem seX6_differ : sgX6_differ.flatten = wsX6_differ := by simp only [sgX6_differ, wsX6_differ, List.flatten_cons, List.flatten_nil, List.append_assoc, List.append_nil, List.cons_append, List.nil_append]
set_option maxRecDepth 20000 in
theorem ggX6_differ_X6_sourceOf : GoodIn wsX6_differ wsX6_sourceOf := goodIn_ca (goodIn_s seX6_differ _ [(1, 4), (1, 5), (1, 6), (1, 7), (1, 8), (1, 9), (3, 0), (3, 1), (3, 2), (3, 3), (3, 4), (3, 5), (3, 6), (3, 7), (3, 8), (3, 9), (3, 10), (3, 11), (3, 12), (3, 13)] (by rfl) (by decide +kernel)) (goodIn_sub (fun _ h => List.mem_cons_of_mem _ (List.mem_append_right _ h)) (by decide +kernel))
set_option maxRecDepth 20000 in
theorem gX6_differ_X6_sourceOf : GoodIn wsX6_differ (wsV RX6 156 RX6 yX6_sourceOf wsX6_sourceOf) := goodIn_app (goodIn_s seX6_differ _ [(1, 0), (1, 1), (1, 2), (1, 3)] (by rfl) (by decide +kernel)) ggX6_differ_X6_sourceOf
set_option maxRecDepth 20000 in
theorem ggX6_differ_X6_firstUnlike : GoodIn wsX6_differ wsX6_firstUnlike := goodIn_s seX6_differ _ [(1, 12), (1, 13), (1, 14), (1, 15), (1, 16), (1, 17), (1, 18), (1, 19), (1, 20), (1, 21), (1, 22), (1, 23), (2, 0), (2, 1), (2, 2), (2, 3), (2, 4), (2, 5), (2, 6), (2, 7), (2, 8), (2, 9), (2, 10), (2, 11), (2, 12), (2, 13), (2, 14), (2, 15), (2, 16), (2, 17), (2, 18), (2, 19), (2, 20), (4, 0), (4, 1), (5, 0), (5, 1), (5, 2), (5, 3), (5, 4), (5, 5)] (by rfl) gw_wsX6_firstUnlike
set_option maxRecDepth 20000 in
theorem gX6_differ_X6_firstUnlike : GoodIn wsX6_differ (va_wsS RX6 252 yX6_firstUnlike wsX6_firstUnlike) := goodIn_app (goodIn_s seX6_differ _ [(1, 10), (1, 11), (1, 3)] (by rfl) (by decide +kernel)) ggX6_differ_X6_firstUnlike
noncomputable def sgX6_known : List (List Cond) := [[.code yX6_known cX6_known 4 (some .int)], wsX6_known_r1, wsX6_known_r2, wsX6_known_r3, wsX6_known_r4, wsX60, wsX30, wsX00, wsX20, wsX50, (vx_atS RX6 306 "java/lang/IndexOutOfBoundsException" ["java/lang/RuntimeException", "java/lang/Exception"]).filter goodWord, (vx_atS RX6 317 "java/lang/IllegalArgumentException" ["java/lang/RuntimeException", "java/lang/Exception"]).filter goodWord]
theorem seX6_known : sgX6_known.flatten = wsX6_known := by simp only [sgX6_known, wsX6_known, List.flatten_cons, List.flatten_nil, List.append_assoc, List.append_nil, List.cons_append, List.nil_append]
set_option maxRecDepth 20000 in
theorem ggX6_known_X6_sourceOf : GoodIn wsX6_known wsX6_sourceOf := goodIn_ca (goodIn_s seX6_known _ [(1, 7), (1, 8), (1, 9), (1, 10), (1, 1), (1, 2), (5, 0), (5, 1), (5, 2), (5, 3), (5, 4), (5, 5), (5, 6), (5, 7), (5, 8), (5, 9), (5, 10), (5, 11), (5, 12), (5, 13)] (by rfl) (by decide +kernel)) (goodIn_sub (fun _ h => List.mem_cons_of_mem _ (List.mem_append_left _ (List.mem_append_right _ h))) (by decide +kernel))
set_option maxRecDepth 20000 in
theorem gX6_known_X6_sourceOf : GoodIn wsX6_known (wsV RX6 156 RX6 yX6_sourceOf wsX6_sourceOf) := goodIn_app (goodIn_s seX6_known _ [(1, 3), (1, 4), (1, 5), (1, 6)] (by rfl) (by decide +kernel)) ggX6_known_X6_sourceOf
set_option maxRecDepth 20000 in
theorem ggX6_known_X6_requireWithin : GoodIn wsX6_known wsX6_requireWithin := goodIn_ca (goodIn_s seX6_known _ [(1, 13), (1, 14), (1, 15)] (by rfl) (by decide +kernel)) (goodIn_sub (fun _ h => List.mem_cons_of_mem _ (List.mem_append_right _ h)) (by decide +kernel))
set_option maxRecDepth 20000 in
theorem gX6_known_X6_requireWithin : GoodIn wsX6_known (va_wsS RX6 66 yX6_requireWithin wsX6_requireWithin) := goodIn_app (goodIn_s seX6_known _ [(1, 11), (1, 12), (1, 6)] (by rfl) (by decide +kernel)) ggX6_known_X6_requireWithin
set_option maxRecDepth 20000 in
theorem ggX6_known_X3_seek : GoodIn wsX6_known wsX3_seek := goodIn_s seX6_known _ [(1, 20), (1, 21), (1, 22), (1, 23), (2, 0), (2, 1), (2, 2), (2, 3), (2, 4), (2, 5), (2, 6), (2, 7), (2, 8), (2, 9), (2, 10), (2, 11), (2, 12), (2, 13), (2, 14), (2, 15), (2, 16), (2, 17), (2, 18), (2, 19), (2, 20), (2, 21), (2, 22), (2, 23), (3, 0), (3, 1), (3, 2), (3, 3), (3, 4), (3, 5), (3, 6), (3, 7), (3, 8), (3, 9), (3, 10), (3, 11), (3, 12), (3, 13), (3, 14), (3, 15), (3, 16), (3, 17), (3, 18), (3, 19), (3, 20), (1, 19), (3, 21), (3, 22), (3, 23), (4, 0), (6, 0), (6, 1), (6, 2), (7, 0), (7, 1), (7, 2), (8, 0), (8, 1), (9, 0), (9, 1), (9, 2), (9, 3), (9, 4), (9, 5)] (by rfl) gw_wsX3_seek
set_option maxRecDepth 20000 in
theorem gX6_known_X3_seek : GoodIn wsX6_known (wsV RX6 220 RX3 yX3_seek wsX3_seek) := goodIn_app (goodIn_s seX6_known _ [(1, 16), (1, 17), (1, 18), (1, 19)] (by rfl) (by decide +kernel)) ggX6_known_X3_seek
set_option maxRecDepth 20000 in
theorem ggX6_known_X3_foundAt : GoodIn wsX6_known wsX3_foundAt := goodIn_s seX6_known _ [(4, 4), (1, 21), (3, 22), (6, 0), (6, 1), (6, 2)] (by rfl) gw_wsX3_foundAt
set_option maxRecDepth 20000 in
theorem gX6_known_X3_foundAt : GoodIn wsX6_known (wsV RX6 224 RX3 yX3_foundAt wsX3_foundAt) := goodIn_app (goodIn_s seX6_known _ [(4, 1), (4, 2), (4, 3), (1, 19)] (by rfl) (by decide +kernel)) ggX6_known_X3_foundAt
noncomputable def sgX6_held : List (List Cond) := [[.code yX6_held cX6_held 1 (some (.object "java/lang/String"))], wsX6_held_r1, wsX6_held_r2, wsX6_held_r3, wsX6_held_r4, wsX6_held_r5, wsX6_held_r6, wsX6_held_r7, wsX6_held_r8, wsX6_held_r9, wsX60, wsX10, wsJ40, wsX20, wsX50, wsJ00]
theorem seX6_held : sgX6_held.flatten = wsX6_held := by simp only [sgX6_held, wsX6_held, List.flatten_cons, List.flatten_nil, List.append_assoc, List.append_nil, List.cons_append, List.nil_append]
set_option maxRecDepth 20000 in
theorem ggX6_held_X6_spelled : GoodIn wsX6_held wsX6_spelled := goodIn_s seX6_held _ [(1, 4), (1, 5), (1, 6), (1, 7), (1, 8), (1, 9), (1, 10), (1, 11), (1, 12), (1, 13), (1, 14), (1, 15), (1, 16), (1, 17), (1, 18), (1, 19), (1, 20), (1, 21), (1, 22), (1, 23), (2, 0), (2, 1), (2, 2), (2, 3), (2, 4), (2, 5), (2, 6), (2, 7), (2, 8), (2, 9), (2, 10), (2, 11), (2, 12), (2, 13), (2, 14), (2, 15), (2, 16), (2, 17), (2, 18), (2, 19), (2, 20), (2, 21), (2, 22), (2, 23), (3, 0), (3, 1), (3, 2), (3, 3), (3, 4), (3, 5), (3, 6), (3, 7), (3, 8), (3, 9), (3, 10), (3, 11), (3, 12), (3, 13), (3, 14), (3, 15), (3, 16), (3, 17), (3, 18), (3, 19), (3, 20), (3, 21), (3, 22), (3, 23), (4, 0), (4, 1), (4, 2), (4, 3), (4, 4), (4, 5), (4, 6), (4, 7), (4, 8), (4, 9), (4, 10), (4, 11), (4, 12), (4, 13), (4, 14), (4, 15), (4, 16), (4, 17), (4, 18), (4, 19), (4, 20), (4, 21), (4, 22), (4, 23), (5, 0), (5, 1), (5, 2), (5, 3), (5, 4), (5, 5), (5, 6), (5, 7), (5, 8), (5, 9), (5, 10), (5, 11), (5, 12), (5, 13), (5, 14), (5, 15), (5, 16), (5, 17), (5, 18), (5, 19), (5, 20), (5, 21), (5, 22), (5, 23), (6, 0), (6, 1), (6, 2), (6, 3), (6, 4), (6, 5), (6, 6), (6, 7), (6, 8), (6, 9), (6, 10), (6, 11), (6, 12), (6, 13), (6, 14), (6, 15), (6, 16), (6, 17), (6, 18), (6, 19), (6, 20), (6, 21), (6, 22), (6, 23), (7, 0), (7, 1), (7, 2), (7, 3), (7, 4), (7, 5), (7, 6), (7, 7), (7, 8), (7, 9), (7, 10), (7, 11), (7, 12), (7, 13), (7, 14), (7, 15), (7, 16), (7, 17), (7, 18), (7, 19), (7, 20), (7, 21), (7, 22), (7, 23), (8, 0), (8, 1), (8, 2), (8, 3), (8, 4), (8, 5), (8, 6), (8, 7), (8, 8), (8, 9), (8, 10), (8, 11), (8, 12), (8, 13), (8, 14), (8, 15), (8, 16), (8, 17), (8, 18), (8, 19), (8, 20), (8, 21), (8, 22), (8, 23), (9, 0), (9, 1), (9, 2), (9, 3), (9, 4), (9, 5), (9, 6), (9, 7), (9, 8), (9, 9), (9, 10), (9, 11), (9, 12), (9, 13), (9, 14), (9, 15), (9, 16), (9, 17), (9, 18), (9, 19), (9, 20), (9, 21), (9, 22), (9, 23), (12, 0), (12, 1), (12, 2), (12, 3), (13, 0), (13, 1), (14, 0), (14, 1), (14, 2), (14, 3), (14, 4), (14, 5), (15, 0), (15, 1), (15, 2), (15, 3)] (by rfl) gw_wsX6_spelled
set_option maxRecDepth 20000 in
theorem gX6_held_X6_spelled : GoodIn wsX6_held (va_wsS RX6 216 yX6_spelled wsX6_spelled) := goodIn_app (goodIn_s seX6_held _ [(1, 1), (1, 2), (1, 3)] (by rfl) (by decide +kernel)) ggX6_held_X6_spelled
noncomputable def sgX6_travelled : List (List Cond) := [[.code yX6_travelled cX6_travelled 2 (some (.object "java/lang/String"))], wsX6_travelled_r1, wsX6_travelled_r2, wsX6_travelled_r3, wsX6_travelled_r4, wsX6_travelled_r5, wsX6_travelled_r6, wsX6_travelled_r7, wsX6_travelled_r8, wsX6_travelled_r9, wsX6_travelled_r10, wsX60, wsX10, wsJ40, wsX20, wsX50, wsJ00, (vx_atS RX6 317 "java/lang/IllegalArgumentException" ["java/lang/RuntimeException", "java/lang/Exception"]).filter goodWord]
theorem seX6_travelled : sgX6_travelled.flatten = wsX6_travelled := by simp only [sgX6_travelled, wsX6_travelled, List.flatten_cons, List.flatten_nil, List.append_assoc, List.append_nil, List.cons_append, List.nil_append]
set_option maxRecDepth 20000 in
theorem ggX6_travelled_X6_requireWithin : GoodIn wsX6_travelled wsX6_requireWithin := goodIn_ca (goodIn_s seX6_travelled _ [(1, 4), (1, 5), (1, 6)] (by rfl) (by decide +kernel)) (goodIn_sub (fun _ h => List.mem_cons_of_mem _ (List.mem_append_right _ h)) (by decide +kernel))
set_option maxRecDepth 20000 in
theorem gX6_travelled_X6_requireWithin : GoodIn wsX6_travelled (va_wsS RX6 66 yX6_requireWithin wsX6_requireWithin) := goodIn_app (goodIn_s seX6_travelled _ [(1, 1), (1, 2), (1, 3)] (by rfl) (by decide +kernel)) ggX6_travelled_X6_requireWithin
set_option maxRecDepth 20000 in
theorem ggX6_travelled_X6_spelled : GoodIn wsX6_travelled wsX6_spelled := goodIn_s seX6_travelled _ [(1, 9), (1, 10), (1, 11), (1, 12), (1, 13), (1, 14), (1, 15), (1, 16), (1, 17), (1, 18), (1, 19), (1, 20), (1, 21), (1, 22), (1, 23), (2, 0), (2, 1), (2, 2), (2, 3), (2, 4), (2, 5), (2, 6), (2, 7), (2, 8), (2, 9), (2, 10), (2, 11), (2, 12), (2, 13), (2, 14), (2, 15), (2, 16), (2, 17), (2, 18), (2, 19), (2, 20), (2, 21), (2, 22), (2, 23), (3, 0), (3, 1), (3, 2), (3, 3), (3, 4), (3, 5), (3, 6), (3, 7), (3, 8), (3, 9), (3, 10), (3, 11), (3, 12), (3, 13), (3, 14), (3, 15), (3, 16), (3, 17), (3, 18), (3, 19), (3, 20), (3, 21), (3, 22), (3, 23), (4, 0), (4, 1), (4, 2), (4, 3), (4, 4), (4, 5), (4, 6), (4, 7), (4, 8), (4, 9), (4, 10), (4, 11), (4, 12), (4, 13), (4, 14), (4, 15), (4, 16), (4, 17), (4, 18), (4, 19), (4, 20), (4, 21), (4, 22), (4, 23), (5, 0), (5, 1), (5, 2), (5, 3), (5, 4), (5, 5), (5, 6), (5, 7), (5, 8), (5, 9), (5, 10), (5, 11), (5, 12), (5, 13), (5, 14), (5, 15), (5, 16), (5, 17), (5, 18), (5, 19), (5, 20), (5, 21), (5, 22), (5, 23), (6, 0), (6, 1), (6, 2), (6, 3), (6, 4), (6, 5), (6, 6), (6, 7), (6, 8), (6, 9), (6, 10), (6, 11), (6, 12), (6, 13), (6, 14), (6, 15), (6, 16), (6, 17), (6, 18), (6, 19), (6, 20), (6, 21), (6, 22), (6, 23), (7, 0), (7, 1), (7, 2), (7, 3), (7, 4), (7, 5), (7, 6), (7, 7), (7, 8), (7, 9), (7, 10), (7, 11), (7, 12), (7, 13), (7, 14), (7, 15), (7, 16), (7, 17), (7, 18), (7, 19), (7, 20), (7, 21), (7, 22), (7, 23), (8, 0), (8, 1), (8, 2), (8, 3), (8, 4), (8, 5), (8, 6), (8, 7), (8, 8), (8, 9), (8, 10), (8, 11), (8, 12), (8, 13), (8, 14), (8, 15), (8, 16), (8, 17), (8, 18), (8, 19), (8, 20), (8, 21), (8, 22), (8, 23), (9, 0), (9, 1), (9, 2), (9, 3), (9, 4), (9, 5), (9, 6), (9, 7), (9, 8), (9, 9), (9, 10), (9, 11), (9, 12), (9, 13), (9, 14), (9, 15), (9, 16), (9, 17), (9, 18), (9, 19), (9, 20), (9, 21), (9, 22), (9, 23), (10, 0), (10, 1), (10, 2), (10, 3), (10, 4), (13, 0), (13, 1), (13, 2), (13, 3), (14, 0), (14, 1), (15, 0), (15, 1), (15, 2), (15, 3), (15, 4), (15, 5), (16, 0), (16, 1), (16, 2), (16, 3)] (by rfl) gw_wsX6_spelled
set_option maxRecDepth 20000 in
theorem gX6_travelled_X6_spelled : GoodIn wsX6_travelled (va_wsS RX6 216 yX6_spelled wsX6_spelled) := goodIn_app (goodIn_s seX6_travelled _ [(1, 7), (1, 8), (1, 3)] (by rfl) (by decide +kernel)) ggX6_travelled_X6_spelled
noncomputable def sgX6_house : List (List Cond) := [[.code yX6_house cX6_house 2 (some .int)], [.methodLink RX6 66 yX6_requireWithin, .static yX6_requireWithin, .initialized RX6, .code yX6_requireWithin cX6_requireWithin 3 none, .classLink RX6 313 "java/lang/IllegalArgumentException", .initialized "java/lang/IllegalArgumentException", .methodLink RX6 259 yX6_counted, .instanceMethod yX6_counted, .selects RX6 yX6_counted yX6_counted, .code yX6_counted cX6_counted 2 (some .int), .fieldLink RX6 328 "Sashwords" "actsDone" "I", .fieldLink RX6 331 "Sashwords" "actsRefused" "I", .fieldLink RX6 262 "Sashwords" "knocks" "I", .fieldLink RX6 203 "Sashwords" "rounds" "I"], wsX60, (vx_atS RX6 317 "java/lang/IllegalArgumentException" ["java/lang/RuntimeException", "java/lang/Exception"]).filter goodWord]
theorem seX6_house : sgX6_house.flatten = wsX6_house := by simp only [sgX6_house, wsX6_house, List.flatten_cons, List.flatten_nil, List.append_assoc, List.append_nil, List.cons_append, List.nil_append]
set_option maxRecDepth 20000 in
theorem ggX6_house_X6_requireWithin : GoodIn wsX6_house wsX6_requireWithin := goodIn_ca (goodIn_s seX6_house _ [(1, 3), (1, 4), (1, 5)] (by rfl) (by decide +kernel)) (goodIn_sub (fun _ h => List.mem_cons_of_mem _ (List.mem_append_right _ h)) (by decide +kernel))
set_option maxRecDepth 20000 in
theorem gX6_house_X6_requireWithin : GoodIn wsX6_house (va_wsS RX6 66 yX6_requireWithin wsX6_requireWithin) := goodIn_app (goodIn_s seX6_house _ [(1, 0), (1, 1), (1, 2)] (by rfl) (by decide +kernel)) ggX6_house_X6_requireWithin
set_option maxRecDepth 20000 in
theorem ggX6_house_X6_counted : GoodIn wsX6_house wsX6_counted := goodIn_s seX6_house _ [(1, 9), (1, 10), (1, 11), (1, 12), (1, 13), (2, 0), (2, 1), (2, 2), (2, 3), (2, 4), (2, 5), (2, 6), (2, 7), (2, 8), (2, 9), (2, 10), (2, 11), (2, 12), (2, 13)] (by rfl) gw_wsX6_counted
set_option maxRecDepth 20000 in
theorem gX6_house_X6_counted : GoodIn wsX6_house (wsV RX6 259 RX6 yX6_counted wsX6_counted) := goodIn_app (goodIn_s seX6_house _ [(1, 6), (1, 7), (1, 8), (1, 2)] (by rfl) (by decide +kernel)) ggX6_house_X6_counted
noncomputable def sgX6_isSound : List (List Cond) := [[.code yX6_isSound cX6_isSound 2 (some .boolean)], wsX6_isSound_r1, wsX6_isSound_r2, wsX6_isSound_r3, wsX6_isSound_r4, wsX6_isSound_r5, wsX6_isSound_r6, wsX6_isSound_r7, wsX6_isSound_r8, wsX60, wsX50, wsX20, wsX30, wsX00, wsX10]
theorem seX6_isSound : sgX6_isSound.flatten = wsX6_isSound := by simp only [sgX6_isSound, wsX6_isSound, List.flatten_cons, List.flatten_nil, List.append_assoc, List.append_nil, List.cons_append, List.nil_append]
set_option maxRecDepth 20000 in
theorem ggX6_isSound_X5_isOrdered : GoodIn wsX6_isSound wsX5_isOrdered := goodIn_s seX6_isSound _ [(1, 6), (1, 7), (1, 8), (1, 9), (1, 10), (10, 0), (10, 1), (10, 2), (10, 3), (10, 4), (10, 5)] (by rfl) gw_wsX5_isOrdered
set_option maxRecDepth 20000 in
theorem gX6_isSound_X5_isOrdered : GoodIn wsX6_isSound (wsV RX6 265 RX5 yX5_isOrdered wsX5_isOrdered) := goodIn_app (goodIn_s seX6_isSound _ [(1, 2), (1, 3), (1, 4), (1, 5)] (by rfl) (by decide +kernel)) ggX6_isSound_X5_isOrdered
set_option maxRecDepth 20000 in
theorem ggX6_isSound_X6_readsAlike : GoodIn wsX6_isSound wsX6_readsAlike := goodIn_s seX6_isSound _ [(1, 15), (1, 16), (1, 17), (1, 18), (1, 19), (1, 20), (1, 14), (1, 21), (1, 22), (1, 23), (2, 0), (2, 1), (2, 2), (2, 3), (2, 4), (2, 5), (2, 6), (2, 7), (2, 8), (2, 9), (2, 10), (2, 11), (2, 12), (2, 13), (2, 14), (2, 15), (1, 5), (2, 16), (1, 9), (1, 8), (2, 17), (2, 18), (2, 19), (2, 20), (2, 21), (2, 22), (2, 23), (3, 0), (3, 1), (3, 2), (3, 3), (3, 4), (3, 5), (3, 6), (3, 7), (3, 8), (3, 9), (3, 10), (3, 11), (3, 12), (3, 13), (3, 14), (3, 15), (3, 16), (3, 17), (1, 10), (1, 7), (3, 18), (3, 19), (3, 20), (3, 21), (3, 22), (3, 23), (4, 0), (4, 1), (4, 2), (4, 3), (4, 4), (4, 5), (4, 6), (4, 7), (4, 8), (4, 9), (4, 10), (4, 11), (4, 12), (4, 13), (4, 14), (4, 15), (9, 0), (9, 1), (9, 2), (9, 3), (9, 4), (9, 5), (9, 6), (9, 7), (9, 8), (9, 9), (9, 10), (9, 11), (9, 12), (9, 13), (10, 0), (10, 1), (10, 2), (10, 3), (10, 4), (10, 5), (11, 0), (11, 1)] (by rfl) gw_wsX6_readsAlike
set_option maxRecDepth 20000 in
theorem gX6_isSound_X6_readsAlike : GoodIn wsX6_isSound (wsV RX6 269 RX6 yX6_readsAlike wsX6_readsAlike) := goodIn_app (goodIn_s seX6_isSound _ [(1, 11), (1, 12), (1, 13), (1, 14)] (by rfl) (by decide +kernel)) ggX6_isSound_X6_readsAlike
set_option maxRecDepth 20000 in
theorem ggX6_isSound_X6_keptLiesAlike : GoodIn wsX6_isSound wsX6_keptLiesAlike := goodIn_s seX6_isSound _ [(4, 19), (1, 16), (4, 20), (4, 21), (4, 22), (4, 23), (5, 0), (5, 1), (2, 2), (5, 2), (5, 3), (2, 0), (2, 1), (2, 3), (2, 4), (5, 4), (2, 6), (2, 7), (2, 8), (2, 9), (2, 10), (2, 11), (2, 12), (2, 13), (2, 14), (2, 15), (1, 5), (2, 16), (1, 9), (1, 8), (2, 17), (2, 18), (2, 19), (2, 20), (2, 21), (2, 22), (2, 23), (3, 0), (3, 1), (3, 2), (3, 3), (3, 4), (3, 5), (3, 6), (3, 7), (3, 8), (3, 9), (3, 10), (3, 11), (5, 5), (5, 6), (5, 7), (5, 8), (5, 9), (5, 10), (5, 11), (5, 12), (5, 13), (5, 14), (5, 15), (5, 16), (5, 17), (5, 18), (5, 19), (5, 20), (5, 21), (5, 22), (5, 23), (6, 0), (6, 1), (6, 2), (6, 3), (6, 4), (6, 5), (6, 6), (6, 7), (6, 8), (6, 9), (6, 10), (6, 11), (6, 12), (6, 13), (6, 14), (6, 15), (9, 0), (9, 1), (9, 2), (9, 3), (9, 4), (9, 5), (9, 6), (9, 7), (9, 8), (9, 9), (9, 10), (9, 11), (9, 12), (9, 13), (12, 0), (12, 1), (12, 2), (11, 0), (11, 1), (10, 0), (10, 1), (10, 2), (10, 3), (10, 4), (10, 5), (13, 0), (13, 1), (13, 2)] (by rfl) gw_wsX6_keptLiesAlike
set_option maxRecDepth 20000 in
theorem gX6_isSound_X6_keptLiesAlike : GoodIn wsX6_isSound (wsV RX6 273 RX6 yX6_keptLiesAlike wsX6_keptLiesAlike) := goodIn_app (goodIn_s seX6_isSound _ [(4, 16), (4, 17), (4, 18), (1, 14)] (by rfl) (by decide +kernel)) ggX6_isSound_X6_keptLiesAlike
set_option maxRecDepth 20000 in
theorem ggX6_isSound_X6_builderIsSearchedRightly : GoodIn wsX6_isSound wsX6_builderIsSearchedRightly := goodIn_s seX6_isSound _ [(6, 19), (4, 20), (6, 20), (4, 21), (5, 5), (5, 6), (5, 7), (5, 8), (5, 9), (5, 10), (5, 11), (5, 12), (5, 13), (5, 14), (5, 15), (5, 16), (5, 17), (5, 18), (2, 10), (2, 11), (2, 12), (2, 2), (2, 13), (2, 4), (2, 14), (2, 15), (1, 5), (2, 16), (1, 9), (1, 8), (5, 19), (2, 18), (2, 19), (2, 20), (2, 21), (2, 22), (2, 23), (3, 0), (3, 1), (3, 2), (3, 3), (3, 4), (3, 5), (3, 6), (3, 7), (5, 20), (5, 21), (5, 22), (5, 23), (6, 0), (6, 1), (6, 2), (6, 3), (6, 4), (6, 5), (6, 6), (6, 7), (6, 8), (6, 9), (6, 10), (6, 11), (6, 21), (6, 22), (6, 23), (7, 0), (1, 14), (7, 1), (4, 14), (4, 15), (6, 12), (6, 13), (6, 14), (6, 15), (9, 0), (9, 1), (9, 2), (9, 3), (9, 4), (9, 5), (9, 6), (9, 7), (9, 8), (9, 9), (9, 10), (9, 11), (9, 12), (9, 13), (12, 0), (12, 1), (12, 2), (13, 0), (13, 1), (13, 2), (11, 0), (11, 1), (10, 0), (10, 1), (10, 2), (10, 3), (10, 4), (10, 5)] (by rfl) gw_wsX6_builderIsSearchedRightly
set_option maxRecDepth 20000 in
theorem gX6_isSound_X6_builderIsSearchedRightly : GoodIn wsX6_isSound (wsV RX6 276 RX6 yX6_builderIsSearchedRightly wsX6_builderIsSearchedRightly) := goodIn_app (goodIn_s seX6_isSound _ [(6, 16), (6, 17), (6, 18), (1, 14)] (by rfl) (by decide +kernel)) ggX6_isSound_X6_builderIsSearchedRightly
set_option maxRecDepth 20000 in
theorem ggX6_isSound_X6_builderChainIsRight : GoodIn wsX6_isSound wsX6_builderChainIsRight := goodIn_s seX6_isSound _ [(7, 5), (7, 6), (6, 20), (7, 7), (7, 8), (7, 9), (5, 15), (7, 10), (7, 11), (7, 12), (7, 13), (5, 13), (5, 14), (5, 16), (5, 17), (5, 18), (2, 10), (2, 11), (2, 12), (2, 2), (2, 13), (2, 4), (2, 14), (2, 15), (1, 5), (2, 16), (1, 9), (1, 8), (5, 19), (2, 18), (2, 19), (2, 20), (2, 21), (2, 22), (2, 23), (3, 0), (3, 1), (3, 2), (3, 3), (3, 4), (3, 5), (3, 6), (3, 7), (5, 20), (5, 21), (5, 22), (5, 23), (6, 0), (6, 1), (6, 2), (6, 3), (6, 21), (6, 22), (6, 23), (7, 0), (1, 14), (7, 1), (4, 14), (4, 15), (7, 14), (7, 15), (7, 16), (7, 17), (9, 0), (9, 1), (9, 2), (9, 3), (9, 4), (9, 5), (9, 6), (9, 7), (9, 8), (9, 9), (9, 10), (9, 11), (9, 12), (9, 13), (13, 0), (13, 1), (13, 2), (11, 0), (11, 1), (10, 0), (10, 1), (10, 2), (10, 3), (10, 4), (10, 5)] (by rfl) gw_wsX6_builderChainIsRight
set_option maxRecDepth 20000 in
theorem gX6_isSound_X6_builderChainIsRight : GoodIn wsX6_isSound (wsV RX6 279 RX6 yX6_builderChainIsRight wsX6_builderChainIsRight) := goodIn_app (goodIn_s seX6_isSound _ [(7, 2), (7, 3), (7, 4), (1, 14)] (by rfl) (by decide +kernel)) ggX6_isSound_X6_builderChainIsRight
set_option maxRecDepth 20000 in
theorem ggX6_isSound_X1_isWhole : GoodIn wsX6_isSound wsX1_isWhole := goodIn_s seX6_isSound _ [(7, 22), (7, 23), (8, 0), (8, 1), (8, 2), (2, 12), (6, 22), (2, 2), (2, 13), (2, 4), (7, 0), (1, 14), (7, 1), (4, 14), (2, 10), (2, 11), (2, 14), (2, 15), (1, 5), (2, 16), (1, 9), (1, 8), (4, 15), (2, 18), (2, 19), (2, 20), (2, 21), (2, 22), (2, 23), (3, 0), (3, 1), (3, 2), (3, 3), (3, 4), (3, 5), (3, 6), (3, 7), (14, 0), (14, 1), (14, 2), (14, 3), (11, 0), (11, 1), (10, 0), (10, 1), (10, 2), (10, 3), (10, 4), (10, 5)] (by rfl) gw_wsX1_isWhole
set_option maxRecDepth 20000 in
theorem gX6_isSound_X1_isWhole : GoodIn wsX6_isSound (wsV RX6 282 RX1 yX1_isWhole wsX1_isWhole) := goodIn_app (goodIn_s seX6_isSound _ [(7, 18), (7, 19), (7, 20), (7, 21)] (by rfl) (by decide +kernel)) ggX6_isSound_X1_isWhole
noncomputable def sgX6_digest : List (List Cond) := [[.code yX6_digest cX6_digest 4 (some .long)], wsX6_digest_r1, wsX6_digest_r2, wsX6_digest_r3, wsX6_digest_r4, wsX6_digest_r5, wsX6_digest_r6, wsX6_digest_r7, wsX6_digest_r8, wsX6_digest_r9, wsX60, wsX30, wsX10, wsX50, wsX20, wsX00]
theorem seX6_digest : sgX6_digest.flatten = wsX6_digest := by simp only [sgX6_digest, wsX6_digest, List.flatten_cons, List.flatten_nil, List.append_assoc, List.append_nil, List.cons_append, List.nil_append]
set_option maxRecDepth 20000 in
theorem ggX6_digest_X6_mixedWithWindow : GoodIn wsX6_digest wsX6_mixedWithWindow := goodIn_s seX6_digest _ [(1, 10), (1, 4), (1, 3), (1, 11), (1, 12), (1, 9), (1, 13), (1, 14), (1, 15), (1, 16), (1, 17), (1, 18), (1, 19), (1, 20), (1, 21), (1, 22), (1, 23), (2, 0), (2, 1), (2, 2), (2, 3), (2, 4), (2, 5), (2, 6), (2, 7), (2, 8), (2, 9), (2, 10), (2, 11), (2, 12), (2, 13), (2, 14), (2, 15), (2, 16), (2, 17), (2, 18), (2, 19), (2, 20), (2, 21), (2, 22), (2, 23), (3, 0), (3, 1), (3, 2), (3, 3), (3, 4), (3, 5), (3, 6), (3, 7), (3, 8), (3, 9), (3, 10), (3, 11), (3, 12), (3, 13), (3, 14), (3, 15), (3, 16), (3, 17), (3, 18), (3, 19), (3, 20), (3, 21), (3, 22), (3, 23), (4, 0), (4, 1), (4, 2), (4, 3), (4, 4), (4, 5), (4, 6), (4, 7), (4, 8), (4, 9), (4, 10), (4, 11), (4, 12), (4, 13), (4, 14), (4, 15), (13, 0), (13, 1), (13, 2), (13, 3), (13, 4), (13, 5), (10, 0), (10, 1), (10, 2), (10, 3), (10, 4), (10, 5), (10, 6), (10, 7), (10, 8), (10, 9), (10, 10), (10, 11), (10, 12), (10, 13), (14, 0), (14, 1), (15, 0), (15, 1), (15, 2), (11, 0), (11, 1), (11, 2)] (by rfl) gw_wsX6_mixedWithWindow
set_option maxRecDepth 20000 in
theorem gX6_digest_X6_mixedWithWindow : GoodIn wsX6_digest (wsV RX6 287 RX6 yX6_mixedWithWindow wsX6_mixedWithWindow) := goodIn_app (goodIn_s seX6_digest _ [(1, 6), (1, 7), (1, 8), (1, 9)] (by rfl) (by decide +kernel)) ggX6_digest_X6_mixedWithWindow
set_option maxRecDepth 20000 in
theorem ggX6_digest_X2_size : GoodIn wsX6_digest wsX2_size := goodIn_s seX6_digest _ [(1, 23), (2, 0), (14, 0), (14, 1)] (by rfl) gw_wsX2_size
set_option maxRecDepth 20000 in
theorem gX6_digest_X2_size : GoodIn wsX6_digest (wsV RX6 164 RX2 yX2_size wsX2_size) := goodIn_app (goodIn_s seX6_digest _ [(4, 16), (1, 21), (4, 17), (1, 22)] (by rfl) (by decide +kernel)) ggX6_digest_X2_size
set_option maxRecDepth 20000 in
theorem ggX6_digest_X6_mixed : GoodIn wsX6_digest wsX6_mixed := goodIn_s seX6_digest _ [(1, 13), (1, 14)] (by rfl) gw_wsX6_mixed
set_option maxRecDepth 20000 in
theorem gX6_digest_X6_mixed : GoodIn wsX6_digest (va_wsS RX6 291 yX6_mixed wsX6_mixed) := goodIn_app (goodIn_s seX6_digest _ [(1, 11), (1, 12), (1, 9)] (by rfl) (by decide +kernel)) ggX6_digest_X6_mixed
set_option maxRecDepth 20000 in
theorem ggX6_digest_X6_mixedWithText : GoodIn wsX6_digest wsX6_mixedWithText := goodIn_s seX6_digest _ [(1, 17), (1, 18), (1, 19), (1, 20), (1, 21), (1, 22), (1, 23), (2, 0), (2, 1), (2, 2), (2, 3), (2, 4), (2, 5), (2, 6), (2, 7), (2, 8), (2, 9), (2, 10), (2, 11), (2, 12), (2, 13), (2, 14), (2, 15), (2, 16), (2, 17), (2, 18), (2, 19), (2, 20), (2, 21), (1, 11), (1, 12), (1, 9), (1, 13), (1, 14), (14, 0), (14, 1), (13, 0), (13, 1), (13, 2), (13, 3), (13, 4), (13, 5)] (by rfl) gw_wsX6_mixedWithText
set_option maxRecDepth 20000 in
theorem gX6_digest_X6_mixedWithText : GoodIn wsX6_digest (va_wsS RX6 295 yX6_mixedWithText wsX6_mixedWithText) := goodIn_app (goodIn_s seX6_digest _ [(1, 15), (1, 16), (1, 9)] (by rfl) (by decide +kernel)) ggX6_digest_X6_mixedWithText
set_option maxRecDepth 20000 in
theorem ggX6_digest_X6_greatestBorder : GoodIn wsX6_digest wsX6_greatestBorder := goodIn_s seX6_digest _ [(3, 1), (3, 2), (3, 3), (3, 4), (3, 5), (3, 6), (3, 7), (3, 8), (3, 9), (1, 19), (1, 20), (1, 21), (1, 22), (1, 23), (2, 0), (2, 1), (2, 2), (2, 3), (2, 4), (2, 5), (2, 6), (3, 10), (2, 8), (2, 9), (2, 10), (2, 11), (2, 12), (2, 13), (2, 14), (2, 15), (2, 16), (2, 17), (2, 18), (2, 19), (2, 20), (2, 21), (3, 11), (3, 12), (3, 13), (3, 14), (3, 15), (3, 16), (3, 17), (3, 18), (1, 18), (3, 19), (10, 0), (10, 1), (10, 2), (10, 3), (10, 4), (10, 5), (10, 6), (10, 7), (10, 8), (10, 9), (10, 10), (10, 11), (10, 12), (10, 13), (15, 0), (15, 1), (15, 2), (14, 0), (14, 1), (13, 0), (13, 1), (13, 2), (13, 3), (13, 4), (13, 5)] (by rfl) gw_wsX6_greatestBorder
set_option maxRecDepth 20000 in
theorem gX6_digest_X6_greatestBorder : GoodIn wsX6_digest (wsV RX6 230 RX6 yX6_greatestBorder wsX6_greatestBorder) := goodIn_app (goodIn_s seX6_digest _ [(2, 22), (2, 23), (3, 0), (1, 9)] (by rfl) (by decide +kernel)) ggX6_digest_X6_greatestBorder
set_option maxRecDepth 20000 in
theorem ggX6_digest_X3_seek : GoodIn wsX6_digest wsX3_seek := goodIn_s seX6_digest _ [(4, 0), (4, 1), (4, 2), (4, 3), (3, 4), (3, 5), (3, 6), (3, 7), (3, 8), (3, 9), (1, 19), (1, 20), (1, 21), (1, 22), (1, 23), (2, 0), (2, 1), (2, 2), (2, 3), (2, 4), (2, 5), (2, 6), (3, 10), (2, 8), (2, 9), (2, 10), (2, 11), (2, 12), (2, 13), (2, 14), (2, 15), (2, 16), (2, 17), (2, 18), (2, 19), (2, 20), (2, 21), (3, 11), (3, 12), (3, 13), (3, 14), (3, 15), (3, 16), (3, 17), (3, 18), (4, 4), (4, 5), (4, 6), (4, 7), (3, 23), (4, 8), (4, 9), (4, 10), (4, 11), (11, 0), (11, 1), (11, 2), (15, 0), (15, 1), (15, 2), (14, 0), (14, 1), (13, 0), (13, 1), (13, 2), (13, 3), (13, 4), (13, 5)] (by rfl) gw_wsX3_seek
set_option maxRecDepth 20000 in
theorem gX6_digest_X3_seek : GoodIn wsX6_digest (wsV RX6 220 RX3 yX3_seek wsX3_seek) := goodIn_app (goodIn_s seX6_digest _ [(3, 20), (3, 21), (3, 22), (3, 23)] (by rfl) (by decide +kernel)) ggX6_digest_X3_seek
set_option maxRecDepth 20000 in
theorem ggX6_digest_X6_counted : GoodIn wsX6_digest wsX6_counted := goodIn_s seX6_digest _ [(4, 21), (4, 22), (4, 23), (5, 0), (5, 1), (10, 0), (10, 1), (10, 2), (10, 3), (10, 4), (10, 5), (10, 6), (10, 7), (10, 8), (10, 9), (10, 10), (10, 11), (10, 12), (10, 13)] (by rfl) gw_wsX6_counted
set_option maxRecDepth 20000 in
theorem gX6_digest_X6_counted : GoodIn wsX6_digest (wsV RX6 259 RX6 yX6_counted wsX6_counted) := goodIn_app (goodIn_s seX6_digest _ [(4, 18), (4, 19), (4, 20), (1, 9)] (by rfl) (by decide +kernel)) ggX6_digest_X6_counted
set_option maxRecDepth 20000 in
theorem ggX6_digest_X6_isSound : GoodIn wsX6_digest wsX6_isSound := goodIn_s seX6_digest _ [(5, 5), (1, 1), (1, 5), (5, 6), (5, 7), (5, 8), (2, 3), (5, 9), (5, 10), (2, 6), (2, 5), (5, 11), (5, 12), (5, 13), (5, 14), (1, 9), (5, 15), (5, 16), (5, 17), (5, 18), (5, 19), (5, 20), (5, 21), (5, 22), (5, 23), (6, 0), (6, 1), (1, 22), (6, 2), (2, 0), (6, 3), (6, 4), (6, 5), (6, 6), (6, 7), (1, 19), (1, 20), (1, 21), (1, 23), (2, 1), (2, 2), (2, 4), (6, 8), (2, 8), (2, 9), (2, 10), (2, 11), (2, 12), (2, 13), (2, 14), (2, 15), (2, 16), (2, 17), (2, 18), (2, 19), (2, 20), (2, 21), (6, 9), (6, 10), (6, 11), (6, 12), (6, 13), (6, 14), (6, 15), (6, 16), (6, 17), (6, 18), (6, 19), (6, 20), (6, 21), (6, 22), (6, 23), (7, 0), (7, 1), (7, 2), (7, 3), (7, 4), (7, 5), (7, 6), (7, 7), (7, 8), (7, 9), (7, 10), (7, 11), (7, 12), (7, 13), (7, 14), (1, 18), (2, 7), (7, 15), (7, 16), (7, 17), (7, 18), (1, 4), (1, 3), (7, 19), (7, 20), (7, 21), (7, 22), (7, 23), (8, 0), (8, 1), (3, 20), (3, 21), (3, 22), (3, 23), (4, 0), (4, 1), (4, 2), (4, 3), (3, 4), (3, 5), (3, 6), (3, 7), (3, 8), (3, 9), (3, 10), (3, 11), (3, 12), (3, 13), (3, 14), (3, 15), (3, 16), (3, 17), (3, 18), (4, 4), (4, 5), (4, 6), (4, 7), (4, 8), (4, 9), (4, 10), (4, 11), (4, 12), (4, 13), (4, 14), (4, 15), (8, 2), (8, 3), (8, 4), (8, 5), (1, 2), (4, 16), (4, 17), (8, 6), (8, 7), (8, 8), (8, 9), (8, 10), (8, 11), (8, 12), (3, 2), (8, 13), (8, 14), (8, 15), (8, 16), (8, 17), (8, 18), (8, 19), (8, 20), (8, 21), (8, 22), (8, 23), (9, 0), (9, 1), (9, 2), (9, 3), (9, 4), (9, 5), (9, 6), (9, 7), (9, 8), (10, 0), (10, 1), (10, 2), (10, 3), (10, 4), (10, 5), (10, 6), (10, 7), (10, 8), (10, 9), (10, 10), (10, 11), (10, 12), (10, 13), (13, 0), (13, 1), (13, 2), (13, 3), (13, 4), (13, 5), (14, 0), (14, 1), (11, 0), (11, 1), (11, 2), (15, 0), (15, 1), (15, 2), (12, 0), (12, 1), (12, 2), (12, 3)] (by rfl) gw_wsX6_isSound
set_option maxRecDepth 20000 in
theorem gX6_digest_X6_isSound : GoodIn wsX6_digest (wsV RX6 299 RX6 yX6_isSound wsX6_isSound) := goodIn_app (goodIn_s seX6_digest _ [(5, 2), (5, 3), (5, 4), (1, 9)] (by rfl) (by decide +kernel)) ggX6_digest_X6_isSound
noncomputable def sgX6_requireLetters : List (List Cond) := [[.code yX6_requireLetters cX6_requireLetters 2 none], [.constant RX6 322 (2147483647), .methodLink RX6 66 yX6_requireWithin, .static yX6_requireWithin, .initialized RX6, .code yX6_requireWithin cX6_requireWithin 3 none, .classLink RX6 313 "java/lang/IllegalArgumentException", .initialized "java/lang/IllegalArgumentException"], (vx_atS RX6 317 "java/lang/IllegalArgumentException" ["java/lang/RuntimeException", "java/lang/Exception"]).filter goodWord]
theorem seX6_requireLetters : sgX6_requireLetters.flatten = wsX6_requireLetters := by simp only [sgX6_requireLetters, wsX6_requireLetters, List.flatten_cons, List.flatten_nil, List.append_assoc, List.append_nil, List.cons_append, List.nil_append]
set_option maxRecDepth 20000 in
theorem ggX6_requireLetters_X6_requireWithin : GoodIn wsX6_requireLetters wsX6_requireWithin := goodIn_ca (goodIn_s seX6_requireLetters _ [(1, 4), (1, 5), (1, 6)] (by rfl) (by decide +kernel)) (goodIn_sub (fun _ h => List.mem_cons_of_mem _ (List.mem_append_right _ h)) (by decide +kernel))
set_option maxRecDepth 20000 in
theorem gX6_requireLetters_X6_requireWithin : GoodIn wsX6_requireLetters (va_wsS RX6 66 yX6_requireWithin wsX6_requireWithin) := goodIn_app (goodIn_s seX6_requireLetters _ [(1, 1), (1, 2), (1, 3)] (by rfl) (by decide +kernel)) ggX6_requireLetters_X6_requireWithin
noncomputable def sgX6_letIn : List (List Cond) := [[.code yX6_letIn cX6_letIn 5 (some .int)], wsX6_letIn_r1, wsX6_letIn_r2, wsX60, wsX20, wsX50, wsX10]
theorem seX6_letIn : sgX6_letIn.flatten = wsX6_letIn := by simp only [sgX6_letIn, wsX6_letIn, List.flatten_cons, List.flatten_nil, List.append_assoc, List.append_nil, List.cons_append, List.nil_append]
set_option maxRecDepth 20000 in
theorem ggX6_letIn_X2_size : GoodIn wsX6_letIn wsX2_size := goodIn_s seX6_letIn _ [(1, 6), (1, 7), (4, 0), (4, 1)] (by rfl) gw_wsX2_size
set_option maxRecDepth 20000 in
theorem gX6_letIn_X2_size_u165X2 : GoodIn wsX6_letIn (va_wsU RX6 165 RX2 "Sashwords$Text" ⟨"Sashwords$Text", "size", "()I"⟩ yX2_size wsX2_size) := goodIn_app (goodIn_s seX6_letIn _ [(1, 1), (1, 2), (1, 3), (1, 4), (1, 5)] (by rfl) (by decide +kernel)) ggX6_letIn_X2_size
set_option maxRecDepth 20000 in
theorem ggX6_letIn_X5_size : GoodIn wsX6_letIn wsX5_size := goodIn_s seX6_letIn _ [(1, 11), (1, 12), (1, 13), (5, 0), (5, 1), (5, 2), (5, 3), (5, 4), (5, 5)] (by rfl) gw_wsX5_size
set_option maxRecDepth 20000 in
theorem gX6_letIn_X5_size_u165X5 : GoodIn wsX6_letIn (va_wsU RX6 165 RX5 "Sashwords$Text" ⟨"Sashwords$Text", "size", "()I"⟩ yX5_size wsX5_size) := goodIn_app (goodIn_s seX6_letIn _ [(1, 1), (1, 2), (1, 8), (1, 9), (1, 10)] (by rfl) (by decide +kernel)) ggX6_letIn_X5_size
set_option maxRecDepth 20000 in
theorem ggX6_letIn_X2_at : GoodIn wsX6_letIn wsX2_at := goodIn_s seX6_letIn _ [(1, 18), (1, 7), (1, 19), (4, 0), (4, 1)] (by rfl) gw_wsX2_at
set_option maxRecDepth 20000 in
theorem gX6_letIn_X2_at_u334X2 : GoodIn wsX6_letIn (va_wsU RX6 334 RX2 "Sashwords$Text" ⟨"Sashwords$Text", "at", "(I)I"⟩ yX2_at wsX2_at) := goodIn_app (goodIn_s seX6_letIn _ [(1, 14), (1, 15), (1, 16), (1, 17), (1, 5)] (by rfl) (by decide +kernel)) ggX6_letIn_X2_at
set_option maxRecDepth 20000 in
theorem ggX6_letIn_X5_at : GoodIn wsX6_letIn wsX5_at := goodIn_s seX6_letIn _ [(1, 22), (1, 12), (1, 13), (1, 23), (2, 0), (2, 1), (1, 10), (2, 2), (2, 3), (2, 4), (5, 0), (5, 1), (5, 2), (5, 3), (5, 4), (5, 5)] (by rfl) gw_wsX5_at
set_option maxRecDepth 20000 in
theorem gX6_letIn_X5_at_u334X5 : GoodIn wsX6_letIn (va_wsU RX6 334 RX5 "Sashwords$Text" ⟨"Sashwords$Text", "at", "(I)I"⟩ yX5_at wsX5_at) := goodIn_app (goodIn_s seX6_letIn _ [(1, 14), (1, 15), (1, 20), (1, 21), (1, 10)] (by rfl) (by decide +kernel)) ggX6_letIn_X5_at
set_option maxRecDepth 20000 in
theorem ggX6_letIn_X1_takeIn : GoodIn wsX6_letIn wsX1_takeIn := goodIn_s seX6_letIn _ [(2, 9), (2, 10), (2, 11), (2, 12), (2, 13), (1, 4), (2, 14), (1, 5), (1, 6), (1, 7), (2, 15), (2, 16), (2, 17), (2, 18), (1, 19), (2, 19), (2, 20), (2, 21), (2, 22), (6, 0), (6, 1), (6, 2), (6, 3), (4, 0), (4, 1)] (by rfl) gw_wsX1_takeIn
set_option maxRecDepth 20000 in
theorem gX6_letIn_X1_takeIn : GoodIn wsX6_letIn (wsV RX6 189 RX1 yX1_takeIn wsX1_takeIn) := goodIn_app (goodIn_s seX6_letIn _ [(2, 5), (2, 6), (2, 7), (2, 8)] (by rfl) (by decide +kernel)) ggX6_letIn_X1_takeIn
noncomputable def sgX6_letOut : List (List Cond) := [[.code yX6_letOut cX6_letOut 4 none], wsX6_letOut_r1, wsX6_letOut_r2, wsX6_letOut_r3, wsX6_letOut_r4, wsX6_letOut_r5, wsX6_letOut_r6, wsX6_letOut_r7, wsX60, wsX10, wsX20, wsJ40]
theorem seX6_letOut : sgX6_letOut.flatten = wsX6_letOut := by simp only [sgX6_letOut, wsX6_letOut, List.flatten_cons, List.flatten_nil, List.append_assoc, List.append_nil, List.cons_append, List.nil_append]
set_option maxRecDepth 20000 in
theorem ggX6_letOut_X2_size : GoodIn wsX6_letOut wsX2_size := goodIn_s seX6_letOut _ [(1, 5), (1, 6), (10, 0), (10, 1)] (by rfl) gw_wsX2_size
set_option maxRecDepth 20000 in
theorem gX6_letOut_X2_size : GoodIn wsX6_letOut (wsV RX6 164 RX2 yX2_size wsX2_size) := goodIn_app (goodIn_s seX6_letOut _ [(1, 1), (1, 2), (1, 3), (1, 4)] (by rfl) (by decide +kernel)) ggX6_letOut_X2_size
set_option maxRecDepth 20000 in
theorem ggX6_letOut_X1_giveOut : GoodIn wsX6_letOut wsX1_giveOut := goodIn_s seX6_letOut _ [(1, 11), (1, 12), (1, 13), (1, 14), (1, 15), (1, 16), (1, 4), (1, 17), (1, 6), (1, 18), (1, 19), (1, 20), (1, 21), (1, 22), (1, 23), (2, 0), (2, 1), (2, 2), (2, 3), (2, 4), (2, 5), (2, 6), (2, 7), (2, 8), (2, 9), (2, 10), (9, 0), (9, 1), (9, 2), (9, 3), (10, 0), (10, 1)] (by rfl) gw_wsX1_giveOut
set_option maxRecDepth 20000 in
theorem gX6_letOut_X1_giveOut : GoodIn wsX6_letOut (wsV RX6 335 RX1 yX1_giveOut wsX1_giveOut) := goodIn_app (goodIn_s seX6_letOut _ [(1, 7), (1, 8), (1, 9), (1, 10)] (by rfl) (by decide +kernel)) ggX6_letOut_X1_giveOut
set_option maxRecDepth 20000 in
theorem ggX6_letOut_J4_append_cf468 : GoodIn wsX6_letOut wsJ4_append_cf468 := goodIn_s seX6_letOut _ [(2, 15), (2, 16), (2, 17), (2, 18), (2, 19), (2, 20), (2, 21), (2, 22), (2, 23), (3, 0), (3, 1), (3, 2), (3, 3), (3, 4), (3, 5), (3, 6), (3, 7), (3, 8), (3, 9), (3, 10), (3, 11), (3, 12), (3, 13), (3, 14), (3, 15), (3, 16), (1, 19), (1, 20), (1, 21), (3, 17), (3, 18), (3, 19), (3, 20), (3, 21), (3, 22), (3, 23), (4, 0), (4, 1), (4, 2), (4, 3), (4, 4), (4, 5), (4, 6), (4, 7), (4, 8), (4, 9), (4, 10), (4, 11), (4, 12), (4, 13), (4, 14), (4, 15), (4, 16), (4, 17), (4, 18), (4, 19), (4, 20), (4, 21), (4, 22), (4, 23), (5, 0), (5, 1), (5, 2), (5, 3), (5, 4), (5, 5), (5, 6), (5, 7), (5, 8), (5, 9), (5, 10), (5, 11), (5, 12), (5, 13), (5, 14), (5, 15), (5, 16), (5, 17), (5, 18), (5, 19), (5, 20), (5, 21), (5, 22), (5, 23), (6, 0), (6, 1), (6, 2), (6, 3), (6, 4), (6, 5), (6, 6), (6, 7), (6, 8), (6, 9), (6, 10), (6, 11), (6, 12), (6, 13), (6, 14), (6, 15), (6, 16), (6, 17), (6, 18), (6, 19), (6, 20), (6, 21), (6, 22), (6, 23), (7, 0), (7, 1), (7, 2), (7, 3), (7, 4), (11, 0), (11, 1), (11, 2), (11, 3)] (by rfl) gw_wsJ4_append_cf468
set_option maxRecDepth 20000 in
theorem gX6_letOut_J4_append_cf468 : GoodIn wsX6_letOut (wsV RX6 116 RJ4 yJ4_append_cf468 wsJ4_append_cf468) := goodIn_app (goodIn_s seX6_letOut _ [(2, 11), (2, 12), (2, 13), (2, 14)] (by rfl) (by decide +kernel)) ggX6_letOut_J4_append_cf468
noncomputable def sgX6_spelled : List (List Cond) := [[.code yX6_spelled cX6_spelled 3 (some (.object "java/lang/String"))], wsX6_spelled_r1, wsX6_spelled_r2, wsX6_spelled_r3, wsX6_spelled_r4, wsX6_spelled_r5, wsX6_spelled_r6, wsX6_spelled_r7, wsX6_spelled_r8, wsX6_spelled_r9, wsJ40, wsX20, wsX50, wsJ00]
theorem seX6_spelled : sgX6_spelled.flatten = wsX6_spelled := by simp only [sgX6_spelled, wsX6_spelled, List.flatten_cons, List.flatten_nil, List.append_assoc, List.append_nil, List.cons_append, List.nil_append]
set_option maxRecDepth 20000 in
theorem ggX6_spelled_J4_init_da8c8 : GoodIn wsX6_spelled wsJ4_init_da8c8 := goodIn_s seX6_spelled _ [(1, 5), (1, 6), (1, 7), (1, 8), (1, 9), (1, 10), (1, 11), (1, 12), (1, 13), (1, 14), (1, 15), (1, 16), (1, 17), (1, 18), (1, 19), (1, 20), (1, 21), (1, 22), (1, 23), (2, 0), (10, 0), (10, 1), (10, 2), (10, 3)] (by rfl) gw_wsJ4_init_da8c8
set_option maxRecDepth 20000 in
theorem gX6_spelled_J4_init_da8c8 : GoodIn wsX6_spelled (wsJ4_init_da8c8) := ggX6_spelled_J4_init_da8c8
set_option maxRecDepth 20000 in
theorem ggX6_spelled_X2_size : GoodIn wsX6_spelled wsX2_size := goodIn_s seX6_spelled _ [(2, 6), (2, 7), (11, 0), (11, 1)] (by rfl) gw_wsX2_size
set_option maxRecDepth 20000 in
theorem gX6_spelled_X2_size_u165X2 : GoodIn wsX6_spelled (va_wsU RX6 165 RX2 "Sashwords$Text" ⟨"Sashwords$Text", "size", "()I"⟩ yX2_size wsX2_size) := goodIn_app (goodIn_s seX6_spelled _ [(2, 1), (2, 2), (2, 3), (2, 4), (2, 5)] (by rfl) (by decide +kernel)) ggX6_spelled_X2_size
set_option maxRecDepth 20000 in
theorem ggX6_spelled_X5_size : GoodIn wsX6_spelled wsX5_size := goodIn_s seX6_spelled _ [(2, 11), (2, 12), (2, 13), (12, 0), (12, 1), (12, 2), (12, 3), (12, 4), (12, 5)] (by rfl) gw_wsX5_size
set_option maxRecDepth 20000 in
theorem gX6_spelled_X5_size_u165X5 : GoodIn wsX6_spelled (va_wsU RX6 165 RX5 "Sashwords$Text" ⟨"Sashwords$Text", "size", "()I"⟩ yX5_size wsX5_size) := goodIn_app (goodIn_s seX6_spelled _ [(2, 1), (2, 2), (2, 8), (2, 9), (2, 10)] (by rfl) (by decide +kernel)) ggX6_spelled_X5_size
set_option maxRecDepth 20000 in
theorem ggX6_spelled_X2_at : GoodIn wsX6_spelled wsX2_at := goodIn_s seX6_spelled _ [(2, 18), (2, 7), (2, 19), (11, 0), (11, 1)] (by rfl) gw_wsX2_at
set_option maxRecDepth 20000 in
theorem gX6_spelled_X2_at_u334X2 : GoodIn wsX6_spelled (va_wsU RX6 334 RX2 "Sashwords$Text" ⟨"Sashwords$Text", "at", "(I)I"⟩ yX2_at wsX2_at) := goodIn_app (goodIn_s seX6_spelled _ [(2, 14), (2, 15), (2, 16), (2, 17), (2, 5)] (by rfl) (by decide +kernel)) ggX6_spelled_X2_at
set_option maxRecDepth 20000 in
theorem ggX6_spelled_X5_at : GoodIn wsX6_spelled wsX5_at := goodIn_s seX6_spelled _ [(2, 22), (2, 12), (2, 13), (2, 23), (3, 0), (3, 1), (2, 10), (3, 2), (3, 3), (3, 4), (12, 0), (12, 1), (12, 2), (12, 3), (12, 4), (12, 5)] (by rfl) gw_wsX5_at
set_option maxRecDepth 20000 in
theorem gX6_spelled_X5_at_u334X5 : GoodIn wsX6_spelled (va_wsU RX6 334 RX5 "Sashwords$Text" ⟨"Sashwords$Text", "at", "(I)I"⟩ yX5_at wsX5_at) := goodIn_app (goodIn_s seX6_spelled _ [(2, 14), (2, 15), (2, 20), (2, 21), (2, 10)] (by rfl) (by decide +kernel)) ggX6_spelled_X5_at
set_option maxRecDepth 20000 in
theorem ggX6_spelled_J4_append_cf468 : GoodIn wsX6_spelled wsJ4_append_cf468 := goodIn_s seX6_spelled _ [(3, 8), (3, 9), (3, 10), (3, 11), (3, 12), (1, 8), (3, 13), (3, 14), (1, 15), (3, 15), (3, 16), (3, 17), (3, 18), (3, 19), (1, 16), (3, 20), (3, 21), (3, 22), (3, 23), (4, 0), (4, 1), (4, 2), (4, 3), (4, 4), (4, 5), (4, 6), (4, 7), (4, 8), (4, 9), (4, 10), (4, 11), (4, 12), (4, 13), (4, 14), (4, 15), (4, 16), (4, 17), (4, 18), (4, 19), (4, 20), (4, 21), (4, 22), (4, 23), (1, 14), (5, 0), (5, 1), (5, 2), (5, 3), (5, 4), (5, 5), (5, 6), (5, 7), (5, 8), (5, 9), (5, 10), (5, 11), (1, 13), (5, 12), (5, 13), (5, 14), (5, 15), (5, 16), (5, 17), (5, 18), (5, 19), (5, 20), (1, 17), (1, 18), (1, 19), (1, 20), (1, 21), (1, 22), (1, 23), (2, 0), (5, 21), (5, 22), (5, 23), (6, 0), (6, 1), (6, 2), (6, 3), (6, 4), (6, 5), (6, 6), (6, 7), (6, 8), (6, 9), (6, 10), (6, 11), (6, 12), (6, 13), (6, 14), (6, 15), (6, 16), (6, 17), (6, 18), (6, 19), (6, 20), (6, 21), (6, 22), (6, 23), (7, 0), (7, 1), (7, 2), (7, 3), (7, 4), (7, 5), (7, 6), (7, 7), (7, 8), (7, 9), (7, 10), (7, 11), (10, 0), (10, 1), (10, 2), (10, 3)] (by rfl) gw_wsJ4_append_cf468
set_option maxRecDepth 20000 in
theorem gX6_spelled_J4_append_cf468 : GoodIn wsX6_spelled (wsV RX6 116 RJ4 yJ4_append_cf468 wsJ4_append_cf468) := goodIn_app (goodIn_s seX6_spelled _ [(3, 5), (3, 6), (3, 7), (1, 2)] (by rfl) (by decide +kernel)) ggX6_spelled_J4_append_cf468
set_option maxRecDepth 20000 in
theorem ggX6_spelled_J4_toString_0e30d : GoodIn wsX6_spelled wsJ4_toString_0e30d := goodIn_s seX6_spelled _ [(7, 15), (7, 16), (7, 17), (6, 11), (7, 18), (7, 19), (7, 20), (7, 21), (7, 22), (7, 23), (8, 0), (1, 11), (1, 12), (8, 1), (8, 2), (8, 3), (8, 4), (8, 5), (8, 6), (8, 7), (8, 8), (1, 8), (8, 9), (1, 15), (8, 10), (8, 11), (8, 12), (8, 13), (8, 14), (1, 2), (8, 15), (8, 16), (3, 11), (8, 17), (8, 18), (3, 14), (8, 19), (5, 8), (5, 9), (5, 10), (5, 11), (1, 13), (1, 16), (8, 20), (8, 21), (4, 16), (8, 22), (4, 18), (4, 19), (4, 20), (4, 21), (4, 22), (4, 23), (8, 23), (9, 0), (9, 1), (1, 14), (5, 0), (5, 1), (4, 8), (5, 2), (5, 3), (5, 4), (5, 5), (5, 6), (9, 2), (9, 3), (9, 4), (9, 5), (1, 1), (9, 6), (9, 7), (1, 19), (9, 8), (9, 9), (9, 10), (9, 11), (6, 3), (6, 4), (6, 5), (6, 6), (6, 7), (6, 8), (6, 9), (6, 10), (6, 12), (6, 13), (6, 14), (6, 15), (6, 16), (6, 17), (9, 12), (9, 13), (9, 14), (6, 21), (6, 22), (6, 23), (1, 21), (1, 22), (1, 23), (2, 0), (9, 15), (9, 16), (9, 17), (9, 18), (13, 0), (13, 1), (13, 2), (13, 3), (10, 0), (10, 1), (10, 2), (10, 3)] (by rfl) gw_wsJ4_toString_0e30d
set_option maxRecDepth 20000 in
theorem gX6_spelled_J4_toString_0e30d : GoodIn wsX6_spelled (wsV RX6 120 RJ4 yJ4_toString_0e30d wsJ4_toString_0e30d) := goodIn_app (goodIn_s seX6_spelled _ [(7, 12), (7, 13), (7, 14), (1, 2)] (by rfl) (by decide +kernel)) ggX6_spelled_J4_toString_0e30d
noncomputable def sgX6_copyText : List (List Cond) := [[.code yX6_copyText cX6_copyText 5 none], wsX6_copyText_r1, wsX6_copyText_r2, wsX6_copyText_r3, wsX50, wsX60, wsX20]
theorem seX6_copyText : sgX6_copyText.flatten = wsX6_copyText := by simp only [sgX6_copyText, wsX6_copyText, List.flatten_cons, List.flatten_nil, List.append_assoc, List.append_nil, List.cons_append, List.nil_append]
set_option maxRecDepth 20000 in
theorem ggX6_copyText_X2_clear : GoodIn wsX6_copyText wsX2_clear := goodIn_s seX6_copyText _ [(1, 5), (1, 6), (6, 0), (6, 1)] (by rfl) gw_wsX2_clear
set_option maxRecDepth 20000 in
theorem gX6_copyText_X2_clear : GoodIn wsX6_copyText (wsV RX6 338 RX2 yX2_clear wsX2_clear) := goodIn_app (goodIn_s seX6_copyText _ [(1, 1), (1, 2), (1, 3), (1, 4)] (by rfl) (by decide +kernel)) ggX6_copyText_X2_clear
set_option maxRecDepth 20000 in
theorem ggX6_copyText_X2_append : GoodIn wsX6_copyText wsX2_append := goodIn_s seX6_copyText _ [(1, 10), (1, 11), (1, 12), (1, 13), (1, 14), (1, 4), (1, 15), (1, 6), (1, 16), (1, 17), (1, 18), (1, 19), (1, 20), (1, 21), (1, 22), (1, 23), (2, 0), (2, 1), (2, 2), (2, 3), (2, 4), (2, 5), (2, 6), (2, 7), (2, 8), (2, 9), (2, 10), (2, 11), (2, 12), (2, 13), (2, 14), (2, 15), (2, 16), (6, 0), (6, 1), (4, 0), (4, 1), (4, 2), (4, 3), (4, 4), (4, 5)] (by rfl) gw_wsX2_append
set_option maxRecDepth 20000 in
theorem gX6_copyText_X2_append : GoodIn wsX6_copyText (wsV RX6 171 RX2 yX2_append wsX2_append) := goodIn_app (goodIn_s seX6_copyText _ [(1, 7), (1, 8), (1, 9), (1, 4)] (by rfl) (by decide +kernel)) ggX6_copyText_X2_append
set_option maxRecDepth 20000 in
theorem ggX6_copyText_X5_atPlace : GoodIn wsX6_copyText wsX5_atPlace := goodIn_s seX6_copyText _ [(2, 10), (1, 20), (2, 11), (2, 12), (4, 0), (4, 1), (4, 2), (4, 3), (4, 4), (4, 5)] (by rfl) gw_wsX5_atPlace
set_option maxRecDepth 20000 in
theorem gX6_copyText_X5_atPlace : GoodIn wsX6_copyText (wsV RX6 209 RX5 yX5_atPlace wsX5_atPlace) := goodIn_app (goodIn_s seX6_copyText _ [(2, 17), (2, 8), (2, 9), (1, 18)] (by rfl) (by decide +kernel)) ggX6_copyText_X5_atPlace
set_option maxRecDepth 20000 in
theorem ggX6_copyText_X2_add : GoodIn wsX6_copyText wsX2_add := goodIn_s seX6_copyText _ [(2, 16), (1, 6), (2, 3), (6, 0), (6, 1)] (by rfl) gw_wsX2_add
set_option maxRecDepth 20000 in
theorem gX6_copyText_X2_add : GoodIn wsX6_copyText (wsV RX6 341 RX2 yX2_add wsX2_add) := goodIn_app (goodIn_s seX6_copyText _ [(2, 18), (2, 14), (2, 15), (1, 4)] (by rfl) (by decide +kernel)) ggX6_copyText_X2_add
set_option maxRecDepth 20000 in
theorem ggX6_copyText_X5_becomeLike : GoodIn wsX6_copyText wsX5_becomeLike := goodIn_s seX6_copyText _ [(2, 22), (2, 12), (2, 11), (2, 23), (1, 20), (1, 21), (3, 0), (4, 0), (4, 1), (4, 2), (4, 3), (4, 4), (4, 5)] (by rfl) gw_wsX5_becomeLike
set_option maxRecDepth 20000 in
theorem gX6_copyText_X5_becomeLike : GoodIn wsX6_copyText (wsV RX6 85 RX5 yX5_becomeLike wsX5_becomeLike) := goodIn_app (goodIn_s seX6_copyText _ [(2, 19), (2, 20), (2, 21), (1, 18)] (by rfl) (by decide +kernel)) ggX6_copyText_X5_becomeLike
set_option maxRecDepth 20000 in
theorem ggX6_copyText_X5_size : GoodIn wsX6_copyText wsX5_size := goodIn_s seX6_copyText _ [(1, 19), (1, 20), (1, 21), (4, 0), (4, 1), (4, 2), (4, 3), (4, 4), (4, 5)] (by rfl) gw_wsX5_size
set_option maxRecDepth 20000 in
theorem gX6_copyText_X5_size : GoodIn wsX6_copyText (wsV RX6 73 RX5 yX5_size wsX5_size) := goodIn_app (goodIn_s seX6_copyText _ [(3, 1), (1, 17), (3, 2), (1, 18)] (by rfl) (by decide +kernel)) ggX6_copyText_X5_size
set_option maxRecDepth 20000 in
theorem ggX6_copyText_X5_readSign : GoodIn wsX6_copyText wsX5_readSign := goodIn_s seX6_copyText _ [(3, 6), (1, 21), (3, 7), (2, 5), (3, 8), (1, 18), (2, 6), (1, 20), (2, 7), (2, 8), (2, 9), (2, 10), (2, 11), (2, 12), (3, 9), (1, 17), (3, 2), (1, 19), (4, 0), (4, 1), (4, 2), (4, 3), (4, 4), (4, 5)] (by rfl) gw_wsX5_readSign
set_option maxRecDepth 20000 in
theorem gX6_copyText_X5_readSign : GoodIn wsX6_copyText (wsV RX6 110 RX5 yX5_readSign wsX5_readSign) := goodIn_app (goodIn_s seX6_copyText _ [(3, 3), (3, 4), (3, 5), (1, 18)] (by rfl) (by decide +kernel)) ggX6_copyText_X5_readSign
set_option maxRecDepth 20000 in
theorem ggX6_copyText_X5_becomePart : GoodIn wsX6_copyText wsX5_becomePart := goodIn_s seX6_copyText _ [(3, 13), (1, 21), (2, 12), (2, 11), (2, 23), (1, 20), (3, 0), (4, 0), (4, 1), (4, 2), (4, 3), (4, 4), (4, 5)] (by rfl) gw_wsX5_becomePart
set_option maxRecDepth 20000 in
theorem gX6_copyText_X5_becomePart : GoodIn wsX6_copyText (wsV RX6 95 RX5 yX5_becomePart wsX5_becomePart) := goodIn_app (goodIn_s seX6_copyText _ [(3, 10), (3, 11), (3, 12), (1, 18)] (by rfl) (by decide +kernel)) ggX6_copyText_X5_becomePart
noncomputable def sgX6_firstUnlike : List (List Cond) := [[.code yX6_firstUnlike cX6_firstUnlike 4 (some .int)], wsX6_firstUnlike_r1, wsX6_firstUnlike_r2, wsX20, wsX50]
theorem seX6_firstUnlike : sgX6_firstUnlike.flatten = wsX6_firstUnlike := by simp only [sgX6_firstUnlike, wsX6_firstUnlike, List.flatten_cons, List.flatten_nil, List.append_assoc, List.append_nil, List.cons_append, List.nil_append]
set_option maxRecDepth 20000 in
theorem ggX6_firstUnlike_X2_size : GoodIn wsX6_firstUnlike wsX2_size := goodIn_s seX6_firstUnlike _ [(1, 9), (1, 10), (3, 0), (3, 1)] (by rfl) gw_wsX2_size
set_option maxRecDepth 20000 in
theorem gX6_firstUnlike_X2_size_u165X2 : GoodIn wsX6_firstUnlike (va_wsU RX6 165 RX2 "Sashwords$Text" ⟨"Sashwords$Text", "size", "()I"⟩ yX2_size wsX2_size) := goodIn_app (goodIn_s seX6_firstUnlike _ [(1, 4), (1, 5), (1, 6), (1, 7), (1, 8)] (by rfl) (by decide +kernel)) ggX6_firstUnlike_X2_size
set_option maxRecDepth 20000 in
theorem ggX6_firstUnlike_X5_size : GoodIn wsX6_firstUnlike wsX5_size := goodIn_s seX6_firstUnlike _ [(1, 14), (1, 15), (1, 16), (4, 0), (4, 1), (4, 2), (4, 3), (4, 4), (4, 5)] (by rfl) gw_wsX5_size
set_option maxRecDepth 20000 in
theorem gX6_firstUnlike_X5_size_u165X5 : GoodIn wsX6_firstUnlike (va_wsU RX6 165 RX5 "Sashwords$Text" ⟨"Sashwords$Text", "size", "()I"⟩ yX5_size wsX5_size) := goodIn_app (goodIn_s seX6_firstUnlike _ [(1, 4), (1, 5), (1, 11), (1, 12), (1, 13)] (by rfl) (by decide +kernel)) ggX6_firstUnlike_X5_size
set_option maxRecDepth 20000 in
theorem ggX6_firstUnlike_X2_at : GoodIn wsX6_firstUnlike wsX2_at := goodIn_s seX6_firstUnlike _ [(1, 21), (1, 10), (1, 22), (3, 0), (3, 1)] (by rfl) gw_wsX2_at
set_option maxRecDepth 20000 in
theorem gX6_firstUnlike_X2_at_u334X2 : GoodIn wsX6_firstUnlike (va_wsU RX6 334 RX2 "Sashwords$Text" ⟨"Sashwords$Text", "at", "(I)I"⟩ yX2_at wsX2_at) := goodIn_app (goodIn_s seX6_firstUnlike _ [(1, 17), (1, 18), (1, 19), (1, 20), (1, 8)] (by rfl) (by decide +kernel)) ggX6_firstUnlike_X2_at
set_option maxRecDepth 20000 in
theorem ggX6_firstUnlike_X5_at : GoodIn wsX6_firstUnlike wsX5_at := goodIn_s seX6_firstUnlike _ [(2, 1), (1, 15), (1, 16), (2, 2), (2, 3), (2, 4), (1, 13), (2, 5), (2, 6), (2, 7), (4, 0), (4, 1), (4, 2), (4, 3), (4, 4), (4, 5)] (by rfl) gw_wsX5_at
set_option maxRecDepth 20000 in
theorem gX6_firstUnlike_X5_at_u334X5 : GoodIn wsX6_firstUnlike (va_wsU RX6 334 RX5 "Sashwords$Text" ⟨"Sashwords$Text", "at", "(I)I"⟩ yX5_at wsX5_at) := goodIn_app (goodIn_s seX6_firstUnlike _ [(1, 17), (1, 18), (1, 23), (2, 0), (1, 13)] (by rfl) (by decide +kernel)) ggX6_firstUnlike_X5_at
noncomputable def sgX6_greatestBorder : List (List Cond) := [[.code yX6_greatestBorder cX6_greatestBorder 2 (some .int)], wsX6_greatestBorder_r1, wsX6_greatestBorder_r2, wsX60, wsX00, wsX20, wsX50]
theorem seX6_greatestBorder : sgX6_greatestBorder.flatten = wsX6_greatestBorder := by simp only [sgX6_greatestBorder, wsX6_greatestBorder, List.flatten_cons, List.flatten_nil, List.append_assoc, List.append_nil, List.cons_append, List.nil_append]
set_option maxRecDepth 20000 in
theorem ggX6_greatestBorder_X0_measure : GoodIn wsX6_greatestBorder wsX0_measure := goodIn_s seX6_greatestBorder _ [(1, 5), (1, 6), (1, 7), (1, 8), (1, 9), (1, 10), (1, 11), (1, 12), (1, 13), (1, 14), (1, 15), (1, 16), (1, 17), (1, 18), (1, 19), (1, 20), (1, 21), (1, 22), (1, 23), (2, 0), (2, 1), (2, 2), (2, 3), (2, 4), (2, 5), (2, 6), (2, 7), (2, 8), (2, 9), (2, 10), (2, 11), (2, 12), (2, 13), (1, 4), (2, 14), (2, 15), (2, 16), (2, 17), (2, 18), (4, 0), (4, 1), (4, 2), (5, 0), (5, 1), (6, 0), (6, 1), (6, 2), (6, 3), (6, 4), (6, 5)] (by rfl) gw_wsX0_measure
set_option maxRecDepth 20000 in
theorem gX6_greatestBorder_X0_measure : GoodIn wsX6_greatestBorder (wsV RX6 234 RX0 yX0_measure wsX0_measure) := goodIn_app (goodIn_s seX6_greatestBorder _ [(1, 1), (1, 2), (1, 3), (1, 4)] (by rfl) (by decide +kernel)) ggX6_greatestBorder_X0_measure
set_option maxRecDepth 20000 in
theorem ggX6_greatestBorder_X2_size : GoodIn wsX6_greatestBorder wsX2_size := goodIn_s seX6_greatestBorder _ [(1, 12), (1, 13), (5, 0), (5, 1)] (by rfl) gw_wsX2_size
set_option maxRecDepth 20000 in
theorem gX6_greatestBorder_X2_size_u165X2 : GoodIn wsX6_greatestBorder (va_wsU RX6 165 RX2 "Sashwords$Text" ⟨"Sashwords$Text", "size", "()I"⟩ yX2_size wsX2_size) := goodIn_app (goodIn_s seX6_greatestBorder _ [(2, 19), (1, 8), (1, 9), (1, 10), (1, 11)] (by rfl) (by decide +kernel)) ggX6_greatestBorder_X2_size
set_option maxRecDepth 20000 in
theorem ggX6_greatestBorder_X5_size : GoodIn wsX6_greatestBorder wsX5_size := goodIn_s seX6_greatestBorder _ [(1, 17), (1, 18), (1, 19), (6, 0), (6, 1), (6, 2), (6, 3), (6, 4), (6, 5)] (by rfl) gw_wsX5_size
set_option maxRecDepth 20000 in
theorem gX6_greatestBorder_X5_size_u165X5 : GoodIn wsX6_greatestBorder (va_wsU RX6 165 RX5 "Sashwords$Text" ⟨"Sashwords$Text", "size", "()I"⟩ yX5_size wsX5_size) := goodIn_app (goodIn_s seX6_greatestBorder _ [(2, 19), (1, 8), (1, 14), (1, 15), (1, 16)] (by rfl) (by decide +kernel)) ggX6_greatestBorder_X5_size
set_option maxRecDepth 20000 in
theorem ggX6_greatestBorder_X0_greatestOf : GoodIn wsX6_greatestBorder wsX0_greatestOf := goodIn_s seX6_greatestBorder _ [(2, 18), (1, 6), (4, 0), (4, 1), (4, 2)] (by rfl) gw_wsX0_greatestOf
set_option maxRecDepth 20000 in
theorem gX6_greatestBorder_X0_greatestOf : GoodIn wsX6_greatestBorder (wsV RX6 237 RX0 yX0_greatestOf wsX0_greatestOf) := goodIn_app (goodIn_s seX6_greatestBorder _ [(2, 20), (2, 16), (2, 17), (1, 4)] (by rfl) (by decide +kernel)) ggX6_greatestBorder_X0_greatestOf
noncomputable def sgX6_readsAlike : List (List Cond) := [[.code yX6_readsAlike cX6_readsAlike 3 (some .boolean)], wsX6_readsAlike_r1, wsX6_readsAlike_r2, wsX6_readsAlike_r3, wsX6_readsAlike_r4, wsX60, wsX50, wsX20]
theorem seX6_readsAlike : sgX6_readsAlike.flatten = wsX6_readsAlike := by simp only [sgX6_readsAlike, wsX6_readsAlike, List.flatten_cons, List.flatten_nil, List.append_assoc, List.append_nil, List.cons_append, List.nil_append]
set_option maxRecDepth 20000 in
theorem ggX6_readsAlike_X6_copyText : GoodIn wsX6_readsAlike wsX6_copyText := goodIn_s seX6_readsAlike _ [(1, 6), (1, 7), (1, 8), (1, 9), (1, 10), (1, 11), (1, 12), (1, 13), (1, 14), (1, 15), (1, 16), (1, 17), (1, 18), (1, 19), (1, 20), (1, 21), (1, 22), (1, 23), (2, 0), (2, 1), (2, 2), (2, 3), (2, 4), (2, 5), (2, 6), (2, 7), (2, 8), (2, 9), (2, 10), (2, 11), (2, 12), (2, 13), (2, 14), (2, 15), (2, 16), (2, 17), (2, 18), (2, 19), (2, 20), (2, 21), (2, 22), (2, 23), (3, 0), (3, 1), (3, 2), (3, 3), (3, 4), (3, 5), (3, 6), (3, 7), (3, 8), (3, 9), (3, 10), (3, 11), (3, 12), (3, 13), (3, 14), (3, 15), (3, 16), (3, 17), (3, 18), (3, 19), (3, 20), (6, 0), (6, 1), (6, 2), (6, 3), (6, 4), (6, 5), (5, 0), (5, 1), (5, 2), (5, 3), (5, 4), (5, 5), (5, 6), (5, 7), (5, 8), (5, 9), (5, 10), (5, 11), (5, 12), (5, 13), (7, 0), (7, 1)] (by rfl) gw_wsX6_copyText
set_option maxRecDepth 20000 in
theorem gX6_readsAlike_X6_copyText : GoodIn wsX6_readsAlike (wsV RX6 212 RX6 yX6_copyText wsX6_copyText) := goodIn_app (goodIn_s seX6_readsAlike _ [(1, 2), (1, 3), (1, 4), (1, 5)] (by rfl) (by decide +kernel)) ggX6_readsAlike_X6_copyText
set_option maxRecDepth 20000 in
theorem ggX6_readsAlike_X6_firstUnlike : GoodIn wsX6_readsAlike wsX6_firstUnlike := goodIn_s seX6_readsAlike _ [(3, 23), (4, 0), (4, 1), (4, 2), (4, 3), (4, 4), (1, 19), (1, 20), (1, 21), (1, 11), (1, 22), (1, 13), (1, 23), (2, 0), (2, 1), (2, 2), (2, 3), (2, 4), (4, 5), (2, 6), (2, 7), (2, 8), (2, 9), (2, 10), (2, 11), (2, 12), (2, 13), (2, 14), (2, 15), (2, 16), (2, 17), (2, 18), (2, 19), (7, 0), (7, 1), (6, 0), (6, 1), (6, 2), (6, 3), (6, 4), (6, 5)] (by rfl) gw_wsX6_firstUnlike
set_option maxRecDepth 20000 in
theorem gX6_readsAlike_X6_firstUnlike : GoodIn wsX6_readsAlike (va_wsS RX6 252 yX6_firstUnlike wsX6_firstUnlike) := goodIn_app (goodIn_s seX6_readsAlike _ [(3, 21), (3, 22), (1, 5)] (by rfl) (by decide +kernel)) ggX6_readsAlike_X6_firstUnlike
noncomputable def sgX6_keptLiesAlike : List (List Cond) := [[.code yX6_keptLiesAlike cX6_keptLiesAlike 3 (some .boolean)], wsX6_keptLiesAlike_r1, wsX6_keptLiesAlike_r2, wsX6_keptLiesAlike_r3, wsX6_keptLiesAlike_r4, wsX60, wsX30, wsX20, wsX50, wsX00]
theorem seX6_keptLiesAlike : sgX6_keptLiesAlike.flatten = wsX6_keptLiesAlike := by simp only [sgX6_keptLiesAlike, wsX6_keptLiesAlike, List.flatten_cons, List.flatten_nil, List.append_assoc, List.append_nil, List.cons_append, List.nil_append]
set_option maxRecDepth 20000 in
theorem ggX6_keptLiesAlike_X2_becomeText : GoodIn wsX6_keptLiesAlike wsX2_becomeText := goodIn_s seX6_keptLiesAlike _ [(1, 8), (1, 9), (1, 10), (1, 11), (1, 7), (1, 12), (1, 13), (1, 14), (1, 15), (1, 16), (1, 17), (1, 18), (1, 19), (1, 20), (1, 21), (1, 22), (1, 23), (2, 0), (2, 1), (2, 2), (2, 3), (2, 4), (2, 5), (2, 6), (2, 7), (2, 8), (2, 9), (2, 10), (2, 11), (2, 12), (2, 13), (2, 14), (2, 15), (2, 16), (2, 17), (2, 18), (2, 19), (2, 20), (2, 21), (2, 22), (2, 23), (7, 0), (7, 1), (8, 0), (8, 1), (8, 2), (8, 3), (8, 4), (8, 5)] (by rfl) gw_wsX2_becomeText
set_option maxRecDepth 20000 in
theorem gX6_keptLiesAlike_X2_becomeText : GoodIn wsX6_keptLiesAlike (wsV RX6 160 RX2 yX2_becomeText wsX2_becomeText) := goodIn_app (goodIn_s seX6_keptLiesAlike _ [(1, 4), (1, 5), (1, 6), (1, 7)] (by rfl) (by decide +kernel)) ggX6_keptLiesAlike_X2_becomeText
set_option maxRecDepth 20000 in
theorem ggX6_keptLiesAlike_X3_seek : GoodIn wsX6_keptLiesAlike wsX3_seek := goodIn_s seX6_keptLiesAlike _ [(3, 4), (3, 5), (3, 6), (3, 7), (3, 8), (3, 9), (3, 10), (3, 11), (3, 12), (3, 13), (1, 19), (1, 20), (1, 21), (1, 7), (1, 22), (1, 13), (1, 23), (2, 0), (2, 1), (2, 2), (2, 3), (2, 4), (3, 14), (2, 6), (2, 7), (2, 8), (2, 9), (2, 10), (2, 11), (2, 12), (2, 13), (2, 14), (2, 15), (2, 16), (2, 17), (2, 18), (2, 19), (3, 15), (3, 16), (3, 17), (3, 18), (3, 19), (3, 20), (3, 21), (3, 22), (3, 23), (4, 0), (4, 1), (4, 2), (3, 3), (4, 3), (4, 4), (4, 5), (4, 6), (6, 0), (6, 1), (6, 2), (9, 0), (9, 1), (9, 2), (7, 0), (7, 1), (8, 0), (8, 1), (8, 2), (8, 3), (8, 4), (8, 5)] (by rfl) gw_wsX3_seek
set_option maxRecDepth 20000 in
theorem gX6_keptLiesAlike_X3_seek : GoodIn wsX6_keptLiesAlike (wsV RX6 220 RX3 yX3_seek wsX3_seek) := goodIn_app (goodIn_s seX6_keptLiesAlike _ [(3, 0), (3, 1), (3, 2), (3, 3)] (by rfl) (by decide +kernel)) ggX6_keptLiesAlike_X3_seek
set_option maxRecDepth 20000 in
theorem ggX6_keptLiesAlike_X3_foundAt : GoodIn wsX6_keptLiesAlike wsX3_foundAt := goodIn_s seX6_keptLiesAlike _ [(4, 10), (3, 5), (4, 4), (6, 0), (6, 1), (6, 2)] (by rfl) gw_wsX3_foundAt
set_option maxRecDepth 20000 in
theorem gX6_keptLiesAlike_X3_foundAt : GoodIn wsX6_keptLiesAlike (wsV RX6 224 RX3 yX3_foundAt wsX3_foundAt) := goodIn_app (goodIn_s seX6_keptLiesAlike _ [(4, 7), (4, 8), (4, 9), (3, 3)] (by rfl) (by decide +kernel)) ggX6_keptLiesAlike_X3_foundAt
noncomputable def sgX6_builderIsSearchedRightly : List (List Cond) := [[.code yX6_builderIsSearchedRightly cX6_builderIsSearchedRightly 3 (some .boolean)], wsX6_builderIsSearchedRightly_r1, wsX6_builderIsSearchedRightly_r2, wsX6_builderIsSearchedRightly_r3, wsX60, wsX30, wsX00, wsX20, wsX50]
theorem seX6_builderIsSearchedRightly : sgX6_builderIsSearchedRightly.flatten = wsX6_builderIsSearchedRightly := by simp only [sgX6_builderIsSearchedRightly, wsX6_builderIsSearchedRightly, List.flatten_cons, List.flatten_nil, List.append_assoc, List.append_nil, List.cons_append, List.nil_append]
set_option maxRecDepth 20000 in
theorem ggX6_builderIsSearchedRightly_X3_seek : GoodIn wsX6_builderIsSearchedRightly wsX3_seek := goodIn_s seX6_builderIsSearchedRightly _ [(1, 7), (1, 8), (1, 9), (1, 10), (1, 11), (1, 12), (1, 13), (1, 14), (1, 15), (1, 16), (1, 17), (1, 18), (1, 19), (1, 20), (1, 21), (1, 22), (1, 23), (2, 0), (2, 1), (2, 2), (2, 3), (2, 4), (2, 5), (2, 6), (2, 7), (2, 8), (2, 9), (2, 10), (2, 11), (2, 12), (2, 13), (2, 14), (2, 15), (2, 16), (2, 17), (2, 18), (2, 19), (2, 20), (2, 21), (2, 22), (2, 23), (3, 0), (3, 1), (3, 2), (3, 3), (3, 4), (3, 5), (3, 6), (3, 7), (1, 6), (3, 8), (3, 9), (3, 10), (3, 11), (5, 0), (5, 1), (5, 2), (6, 0), (6, 1), (6, 2), (7, 0), (7, 1), (8, 0), (8, 1), (8, 2), (8, 3), (8, 4), (8, 5)] (by rfl) gw_wsX3_seek
set_option maxRecDepth 20000 in
theorem gX6_builderIsSearchedRightly_X3_seek : GoodIn wsX6_builderIsSearchedRightly (wsV RX6 220 RX3 yX3_seek wsX3_seek) := goodIn_app (goodIn_s seX6_builderIsSearchedRightly _ [(1, 3), (1, 4), (1, 5), (1, 6)] (by rfl) (by decide +kernel)) ggX6_builderIsSearchedRightly_X3_seek
set_option maxRecDepth 20000 in
theorem ggX6_builderIsSearchedRightly_X2_size : GoodIn wsX6_builderIsSearchedRightly wsX2_size := goodIn_s seX6_builderIsSearchedRightly _ [(1, 21), (1, 22), (7, 0), (7, 1)] (by rfl) gw_wsX2_size
set_option maxRecDepth 20000 in
theorem gX6_builderIsSearchedRightly_X2_size : GoodIn wsX6_builderIsSearchedRightly (wsV RX6 164 RX2 yX2_size wsX2_size) := goodIn_app (goodIn_s seX6_builderIsSearchedRightly _ [(3, 12), (1, 19), (3, 13), (1, 20)] (by rfl) (by decide +kernel)) ggX6_builderIsSearchedRightly_X2_size
set_option maxRecDepth 20000 in
theorem ggX6_builderIsSearchedRightly_X6_matches : GoodIn wsX6_builderIsSearchedRightly wsX6_matches := goodIn_s seX6_builderIsSearchedRightly _ [(3, 17), (3, 18), (1, 17), (1, 18), (1, 19), (1, 20), (1, 21), (1, 22), (1, 23), (2, 0), (2, 1), (2, 2), (2, 3), (2, 4), (3, 19), (2, 6), (2, 7), (2, 8), (2, 9), (2, 10), (2, 11), (2, 12), (2, 13), (2, 14), (2, 15), (2, 16), (2, 17), (2, 18), (2, 19), (7, 0), (7, 1), (8, 0), (8, 1), (8, 2), (8, 3), (8, 4), (8, 5)] (by rfl) gw_wsX6_matches
set_option maxRecDepth 20000 in
theorem gX6_builderIsSearchedRightly_X6_matches : GoodIn wsX6_builderIsSearchedRightly (va_wsS RX6 349 yX6_matches wsX6_matches) := goodIn_app (goodIn_s seX6_builderIsSearchedRightly _ [(3, 14), (3, 15), (3, 16)] (by rfl) (by decide +kernel)) ggX6_builderIsSearchedRightly_X6_matches
set_option maxRecDepth 20000 in
theorem ggX6_builderIsSearchedRightly_X3_foundAt : GoodIn wsX6_builderIsSearchedRightly wsX3_foundAt := goodIn_s seX6_builderIsSearchedRightly _ [(3, 23), (1, 8), (3, 9), (5, 0), (5, 1), (5, 2)] (by rfl) gw_wsX3_foundAt
set_option maxRecDepth 20000 in
theorem gX6_builderIsSearchedRightly_X3_foundAt : GoodIn wsX6_builderIsSearchedRightly (wsV RX6 224 RX3 yX3_foundAt wsX3_foundAt) := goodIn_app (goodIn_s seX6_builderIsSearchedRightly _ [(3, 20), (3, 21), (3, 22), (1, 6)] (by rfl) (by decide +kernel)) ggX6_builderIsSearchedRightly_X3_foundAt
noncomputable def sgX6_builderChainIsRight : List (List Cond) := [[.code yX6_builderChainIsRight cX6_builderChainIsRight 3 (some .boolean)], wsX6_builderChainIsRight_r1, wsX6_builderChainIsRight_r2, wsX6_builderChainIsRight_r3, wsX60, wsX00, wsX20, wsX50]
theorem seX6_builderChainIsRight : sgX6_builderChainIsRight.flatten = wsX6_builderChainIsRight := by simp only [sgX6_builderChainIsRight, wsX6_builderChainIsRight, List.flatten_cons, List.flatten_nil, List.append_assoc, List.append_nil, List.cons_append, List.nil_append]
set_option maxRecDepth 20000 in
theorem ggX6_builderChainIsRight_X0_measureChain : GoodIn wsX6_builderChainIsRight wsX0_measureChain := goodIn_s seX6_builderChainIsRight _ [(1, 6), (1, 7), (1, 8), (1, 9), (1, 10), (1, 11), (1, 5), (1, 12), (1, 13), (1, 14), (1, 15), (1, 16), (1, 17), (1, 18), (1, 19), (1, 20), (1, 21), (1, 22), (1, 23), (2, 0), (2, 1), (2, 2), (2, 3), (2, 4), (2, 5), (2, 6), (2, 7), (2, 8), (2, 9), (2, 10), (2, 11), (2, 12), (2, 13), (2, 14), (2, 15), (2, 16), (2, 17), (2, 18), (2, 19), (2, 20), (2, 21), (2, 22), (2, 23), (3, 0), (3, 1), (5, 0), (5, 1), (5, 2), (6, 0), (6, 1), (7, 0), (7, 1), (7, 2), (7, 3), (7, 4), (7, 5)] (by rfl) gw_wsX0_measureChain
set_option maxRecDepth 20000 in
theorem gX6_builderChainIsRight_X0_measureChain : GoodIn wsX6_builderChainIsRight (wsV RX6 243 RX0 yX0_measureChain wsX0_measureChain) := goodIn_app (goodIn_s seX6_builderChainIsRight _ [(1, 2), (1, 3), (1, 4), (1, 5)] (by rfl) (by decide +kernel)) ggX6_builderChainIsRight_X0_measureChain
set_option maxRecDepth 20000 in
theorem ggX6_builderChainIsRight_X2_size : GoodIn wsX6_builderChainIsRight wsX2_size := goodIn_s seX6_builderChainIsRight _ [(1, 19), (1, 20), (6, 0), (6, 1)] (by rfl) gw_wsX2_size
set_option maxRecDepth 20000 in
theorem gX6_builderChainIsRight_X2_size : GoodIn wsX6_builderChainIsRight (wsV RX6 164 RX2 yX2_size wsX2_size) := goodIn_app (goodIn_s seX6_builderChainIsRight _ [(3, 2), (1, 17), (3, 3), (1, 18)] (by rfl) (by decide +kernel)) ggX6_builderChainIsRight_X2_size
set_option maxRecDepth 20000 in
theorem ggX6_builderChainIsRight_X6_matches : GoodIn wsX6_builderChainIsRight wsX6_matches := goodIn_s seX6_builderChainIsRight _ [(3, 7), (3, 8), (1, 15), (1, 16), (1, 17), (1, 18), (1, 19), (1, 20), (1, 21), (1, 22), (1, 23), (2, 0), (2, 1), (2, 2), (3, 9), (2, 4), (2, 5), (2, 6), (2, 7), (2, 8), (2, 9), (2, 10), (2, 11), (2, 12), (2, 13), (2, 14), (2, 15), (2, 16), (2, 17), (6, 0), (6, 1), (7, 0), (7, 1), (7, 2), (7, 3), (7, 4), (7, 5)] (by rfl) gw_wsX6_matches
set_option maxRecDepth 20000 in
theorem gX6_builderChainIsRight_X6_matches : GoodIn wsX6_builderChainIsRight (va_wsS RX6 349 yX6_matches wsX6_matches) := goodIn_app (goodIn_s seX6_builderChainIsRight _ [(3, 4), (3, 5), (3, 6)] (by rfl) (by decide +kernel)) ggX6_builderChainIsRight_X6_matches
set_option maxRecDepth 20000 in
theorem ggX6_builderChainIsRight_X0_linkAt : GoodIn wsX6_builderChainIsRight wsX0_linkAt := goodIn_s seX6_builderChainIsRight _ [(3, 13), (1, 7), (1, 8), (5, 0), (5, 1), (5, 2)] (by rfl) gw_wsX0_linkAt
set_option maxRecDepth 20000 in
theorem gX6_builderChainIsRight_X0_linkAt : GoodIn wsX6_builderChainIsRight (wsV RX6 249 RX0 yX0_linkAt wsX0_linkAt) := goodIn_app (goodIn_s seX6_builderChainIsRight _ [(3, 10), (3, 11), (3, 12), (1, 5)] (by rfl) (by decide +kernel)) ggX6_builderChainIsRight_X0_linkAt
noncomputable def sgX6_matches : List (List Cond) := [[.code yX6_matches cX6_matches 6 (some .boolean)], wsX6_matches_r1, wsX6_matches_r2, wsX20, wsX50]
theorem seX6_matches : sgX6_matches.flatten = wsX6_matches := by simp only [sgX6_matches, wsX6_matches, List.flatten_cons, List.flatten_nil, List.append_assoc, List.append_nil, List.cons_append, List.nil_append]
set_option maxRecDepth 20000 in
theorem ggX6_matches_X2_size : GoodIn wsX6_matches wsX2_size := goodIn_s seX6_matches _ [(1, 5), (1, 6), (3, 0), (3, 1)] (by rfl) gw_wsX2_size
set_option maxRecDepth 20000 in
theorem gX6_matches_X2_size_u165X2 : GoodIn wsX6_matches (va_wsU RX6 165 RX2 "Sashwords$Text" ⟨"Sashwords$Text", "size", "()I"⟩ yX2_size wsX2_size) := goodIn_app (goodIn_s seX6_matches _ [(1, 0), (1, 1), (1, 2), (1, 3), (1, 4)] (by rfl) (by decide +kernel)) ggX6_matches_X2_size
set_option maxRecDepth 20000 in
theorem ggX6_matches_X5_size : GoodIn wsX6_matches wsX5_size := goodIn_s seX6_matches _ [(1, 10), (1, 11), (1, 12), (4, 0), (4, 1), (4, 2), (4, 3), (4, 4), (4, 5)] (by rfl) gw_wsX5_size
set_option maxRecDepth 20000 in
theorem gX6_matches_X5_size_u165X5 : GoodIn wsX6_matches (va_wsU RX6 165 RX5 "Sashwords$Text" ⟨"Sashwords$Text", "size", "()I"⟩ yX5_size wsX5_size) := goodIn_app (goodIn_s seX6_matches _ [(1, 0), (1, 1), (1, 7), (1, 8), (1, 9)] (by rfl) (by decide +kernel)) ggX6_matches_X5_size
set_option maxRecDepth 20000 in
theorem ggX6_matches_X2_at : GoodIn wsX6_matches wsX2_at := goodIn_s seX6_matches _ [(1, 17), (1, 6), (1, 18), (3, 0), (3, 1)] (by rfl) gw_wsX2_at
set_option maxRecDepth 20000 in
theorem gX6_matches_X2_at_u334X2 : GoodIn wsX6_matches (va_wsU RX6 334 RX2 "Sashwords$Text" ⟨"Sashwords$Text", "at", "(I)I"⟩ yX2_at wsX2_at) := goodIn_app (goodIn_s seX6_matches _ [(1, 13), (1, 14), (1, 15), (1, 16), (1, 4)] (by rfl) (by decide +kernel)) ggX6_matches_X2_at
set_option maxRecDepth 20000 in
theorem ggX6_matches_X5_at : GoodIn wsX6_matches wsX5_at := goodIn_s seX6_matches _ [(1, 21), (1, 11), (1, 12), (1, 22), (1, 23), (2, 0), (1, 9), (2, 1), (2, 2), (2, 3), (4, 0), (4, 1), (4, 2), (4, 3), (4, 4), (4, 5)] (by rfl) gw_wsX5_at
set_option maxRecDepth 20000 in
theorem gX6_matches_X5_at_u334X5 : GoodIn wsX6_matches (va_wsU RX6 334 RX5 "Sashwords$Text" ⟨"Sashwords$Text", "at", "(I)I"⟩ yX5_at wsX5_at) := goodIn_app (goodIn_s seX6_matches _ [(1, 13), (1, 14), (1, 19), (1, 20), (1, 9)] (by rfl) (by decide +kernel)) ggX6_matches_X5_at
noncomputable def sgX6_mixedWithText : List (List Cond) := [[.code yX6_mixedWithText cX6_mixedWithText 6 (some .long)], wsX6_mixedWithText_r1, wsX6_mixedWithText_r2, wsX20, wsX50]
theorem seX6_mixedWithText : sgX6_mixedWithText.flatten = wsX6_mixedWithText := by simp only [sgX6_mixedWithText, wsX6_mixedWithText, List.flatten_cons, List.flatten_nil, List.append_assoc, List.append_nil, List.cons_append, List.nil_append]
set_option maxRecDepth 20000 in
theorem ggX6_mixedWithText_X2_size : GoodIn wsX6_mixedWithText wsX2_size := goodIn_s seX6_mixedWithText _ [(1, 5), (1, 6), (3, 0), (3, 1)] (by rfl) gw_wsX2_size
set_option maxRecDepth 20000 in
theorem gX6_mixedWithText_X2_size_u165X2 : GoodIn wsX6_mixedWithText (va_wsU RX6 165 RX2 "Sashwords$Text" ⟨"Sashwords$Text", "size", "()I"⟩ yX2_size wsX2_size) := goodIn_app (goodIn_s seX6_mixedWithText _ [(1, 0), (1, 1), (1, 2), (1, 3), (1, 4)] (by rfl) (by decide +kernel)) ggX6_mixedWithText_X2_size
set_option maxRecDepth 20000 in
theorem ggX6_mixedWithText_X5_size : GoodIn wsX6_mixedWithText wsX5_size := goodIn_s seX6_mixedWithText _ [(1, 10), (1, 11), (1, 12), (4, 0), (4, 1), (4, 2), (4, 3), (4, 4), (4, 5)] (by rfl) gw_wsX5_size
set_option maxRecDepth 20000 in
theorem gX6_mixedWithText_X5_size_u165X5 : GoodIn wsX6_mixedWithText (va_wsU RX6 165 RX5 "Sashwords$Text" ⟨"Sashwords$Text", "size", "()I"⟩ yX5_size wsX5_size) := goodIn_app (goodIn_s seX6_mixedWithText _ [(1, 0), (1, 1), (1, 7), (1, 8), (1, 9)] (by rfl) (by decide +kernel)) ggX6_mixedWithText_X5_size
set_option maxRecDepth 20000 in
theorem ggX6_mixedWithText_X2_at : GoodIn wsX6_mixedWithText wsX2_at := goodIn_s seX6_mixedWithText _ [(1, 17), (1, 6), (1, 18), (3, 0), (3, 1)] (by rfl) gw_wsX2_at
set_option maxRecDepth 20000 in
theorem gX6_mixedWithText_X2_at_u334X2 : GoodIn wsX6_mixedWithText (va_wsU RX6 334 RX2 "Sashwords$Text" ⟨"Sashwords$Text", "at", "(I)I"⟩ yX2_at wsX2_at) := goodIn_app (goodIn_s seX6_mixedWithText _ [(1, 13), (1, 14), (1, 15), (1, 16), (1, 4)] (by rfl) (by decide +kernel)) ggX6_mixedWithText_X2_at
set_option maxRecDepth 20000 in
theorem ggX6_mixedWithText_X5_at : GoodIn wsX6_mixedWithText wsX5_at := goodIn_s seX6_mixedWithText _ [(1, 21), (1, 11), (1, 12), (1, 22), (1, 23), (2, 0), (1, 9), (2, 1), (2, 2), (2, 3), (4, 0), (4, 1), (4, 2), (4, 3), (4, 4), (4, 5)] (by rfl) gw_wsX5_at
set_option maxRecDepth 20000 in
theorem gX6_mixedWithText_X5_at_u334X5 : GoodIn wsX6_mixedWithText (va_wsU RX6 334 RX5 "Sashwords$Text" ⟨"Sashwords$Text", "at", "(I)I"⟩ yX5_at wsX5_at) := goodIn_app (goodIn_s seX6_mixedWithText _ [(1, 13), (1, 14), (1, 19), (1, 20), (1, 9)] (by rfl) (by decide +kernel)) ggX6_mixedWithText_X5_at
set_option maxRecDepth 20000 in
theorem ggX6_mixedWithText_X6_mixed : GoodIn wsX6_mixedWithText wsX6_mixed := goodIn_s seX6_mixedWithText _ [(2, 7), (2, 8)] (by rfl) gw_wsX6_mixed
set_option maxRecDepth 20000 in
theorem gX6_mixedWithText_X6_mixed : GoodIn wsX6_mixedWithText (va_wsS RX6 291 yX6_mixed wsX6_mixed) := goodIn_app (goodIn_s seX6_mixedWithText _ [(2, 4), (2, 5), (2, 6)] (by rfl) (by decide +kernel)) ggX6_mixedWithText_X6_mixed
noncomputable def sgX6_mixedWithWindow : List (List Cond) := [[.code yX6_mixedWithWindow cX6_mixedWithWindow 6 (some .long)], wsX6_mixedWithWindow_r1, wsX6_mixedWithWindow_r2, wsX6_mixedWithWindow_r3, wsX6_mixedWithWindow_r4, wsX50, wsX60, wsX20, wsX00, wsX30]
theorem seX6_mixedWithWindow : sgX6_mixedWithWindow.flatten = wsX6_mixedWithWindow := by simp only [sgX6_mixedWithWindow, wsX6_mixedWithWindow, List.flatten_cons, List.flatten_nil, List.append_assoc, List.append_nil, List.cons_append, List.nil_append]
set_option maxRecDepth 20000 in
theorem ggX6_mixedWithWindow_X6_mixed : GoodIn wsX6_mixedWithWindow wsX6_mixed := goodIn_s seX6_mixedWithWindow _ [(1, 5), (1, 6)] (by rfl) gw_wsX6_mixed
set_option maxRecDepth 20000 in
theorem gX6_mixedWithWindow_X6_mixed : GoodIn wsX6_mixedWithWindow (va_wsS RX6 291 yX6_mixed wsX6_mixed) := goodIn_app (goodIn_s seX6_mixedWithWindow _ [(1, 2), (1, 3), (1, 4)] (by rfl) (by decide +kernel)) ggX6_mixedWithWindow_X6_mixed
set_option maxRecDepth 20000 in
theorem ggX6_mixedWithWindow_X6_mixedWithText : GoodIn wsX6_mixedWithWindow wsX6_mixedWithText := goodIn_s seX6_mixedWithWindow _ [(1, 9), (1, 10), (1, 11), (1, 12), (1, 13), (1, 14), (1, 15), (1, 16), (1, 17), (1, 18), (1, 19), (1, 20), (1, 21), (1, 22), (1, 23), (2, 0), (2, 1), (2, 2), (2, 3), (2, 4), (2, 5), (2, 6), (2, 7), (2, 8), (2, 9), (2, 10), (2, 11), (2, 12), (2, 13), (1, 2), (1, 3), (1, 4), (1, 5), (1, 6), (7, 0), (7, 1), (5, 0), (5, 1), (5, 2), (5, 3), (5, 4), (5, 5)] (by rfl) gw_wsX6_mixedWithText
set_option maxRecDepth 20000 in
theorem gX6_mixedWithWindow_X6_mixedWithText : GoodIn wsX6_mixedWithWindow (va_wsS RX6 295 yX6_mixedWithText wsX6_mixedWithText) := goodIn_app (goodIn_s seX6_mixedWithWindow _ [(1, 7), (1, 8), (1, 4)] (by rfl) (by decide +kernel)) ggX6_mixedWithWindow_X6_mixedWithText
set_option maxRecDepth 20000 in
theorem ggX6_mixedWithWindow_X6_greatestBorder : GoodIn wsX6_mixedWithWindow wsX6_greatestBorder := goodIn_s seX6_mixedWithWindow _ [(2, 17), (2, 18), (2, 19), (2, 20), (2, 21), (2, 22), (2, 23), (3, 0), (3, 1), (1, 11), (1, 12), (1, 13), (1, 14), (1, 15), (1, 16), (1, 17), (1, 18), (1, 19), (1, 20), (1, 21), (1, 22), (3, 2), (2, 0), (2, 1), (2, 2), (2, 3), (2, 4), (2, 5), (2, 6), (2, 7), (2, 8), (2, 9), (2, 10), (2, 11), (2, 12), (2, 13), (3, 3), (3, 4), (3, 5), (3, 6), (3, 7), (3, 8), (3, 9), (3, 10), (1, 10), (3, 11), (6, 0), (6, 1), (6, 2), (6, 3), (6, 4), (6, 5), (6, 6), (6, 7), (6, 8), (6, 9), (6, 10), (6, 11), (6, 12), (6, 13), (8, 0), (8, 1), (8, 2), (7, 0), (7, 1), (5, 0), (5, 1), (5, 2), (5, 3), (5, 4), (5, 5)] (by rfl) gw_wsX6_greatestBorder
set_option maxRecDepth 20000 in
theorem gX6_mixedWithWindow_X6_greatestBorder : GoodIn wsX6_mixedWithWindow (wsV RX6 230 RX6 yX6_greatestBorder wsX6_greatestBorder) := goodIn_app (goodIn_s seX6_mixedWithWindow _ [(2, 14), (2, 15), (2, 16), (1, 4)] (by rfl) (by decide +kernel)) ggX6_mixedWithWindow_X6_greatestBorder
set_option maxRecDepth 20000 in
theorem ggX6_mixedWithWindow_X3_seek : GoodIn wsX6_mixedWithWindow wsX3_seek := goodIn_s seX6_mixedWithWindow _ [(3, 16), (3, 17), (3, 18), (3, 19), (2, 20), (2, 21), (2, 22), (2, 23), (3, 0), (3, 1), (1, 11), (1, 12), (1, 13), (1, 14), (1, 15), (1, 16), (1, 17), (1, 18), (1, 19), (1, 20), (1, 21), (1, 22), (3, 2), (2, 0), (2, 1), (2, 2), (2, 3), (2, 4), (2, 5), (2, 6), (2, 7), (2, 8), (2, 9), (2, 10), (2, 11), (2, 12), (2, 13), (3, 3), (3, 4), (3, 5), (3, 6), (3, 7), (3, 8), (3, 9), (3, 10), (3, 20), (3, 21), (3, 22), (3, 23), (3, 15), (4, 0), (4, 1), (4, 2), (4, 3), (9, 0), (9, 1), (9, 2), (8, 0), (8, 1), (8, 2), (7, 0), (7, 1), (5, 0), (5, 1), (5, 2), (5, 3), (5, 4), (5, 5)] (by rfl) gw_wsX3_seek
set_option maxRecDepth 20000 in
theorem gX6_mixedWithWindow_X3_seek : GoodIn wsX6_mixedWithWindow (wsV RX6 220 RX3 yX3_seek wsX3_seek) := goodIn_app (goodIn_s seX6_mixedWithWindow _ [(3, 12), (3, 13), (3, 14), (3, 15)] (by rfl) (by decide +kernel)) ggX6_mixedWithWindow_X3_seek
set_option maxRecDepth 20000 in
theorem ggX6_mixedWithWindow_X3_foundAt : GoodIn wsX6_mixedWithWindow wsX3_foundAt := goodIn_s seX6_mixedWithWindow _ [(4, 7), (3, 17), (4, 1), (9, 0), (9, 1), (9, 2)] (by rfl) gw_wsX3_foundAt
set_option maxRecDepth 20000 in
theorem gX6_mixedWithWindow_X3_foundAt : GoodIn wsX6_mixedWithWindow (wsV RX6 224 RX3 yX3_foundAt wsX3_foundAt) := goodIn_app (goodIn_s seX6_mixedWithWindow _ [(4, 4), (4, 5), (4, 6), (3, 15)] (by rfl) (by decide +kernel)) ggX6_mixedWithWindow_X3_foundAt
