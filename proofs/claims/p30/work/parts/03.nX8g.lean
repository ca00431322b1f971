noncomputable def sgX8_init : List (List Cond) := [[.code yX8_init cX8_init 2 none], [.methodLink RX8 1 objectInit, .instanceMethod objectInit, .code objectInit ⟨#[0xb1]⟩ 1 none, .arrayClass .int, .fieldLink RX8 7 "SashwordsModel" "tape" "[I", .classLink RX8 13 "[I", .fieldLink RX8 14 "SashwordsModel" "windows" "[[I", .fieldLink RX8 18 "SashwordsModel" "built" "[I", .fieldLink RX8 21 "SashwordsModel" "kept" "[I", .fieldLink RX8 24 "SashwordsModel" "sent" "[I", .fieldLink RX8 27 "SashwordsModel" "size" "I", .fieldLink RX8 31 "SashwordsModel" "tallies" "[I", .methodLink RX8 34 yX8_fresh, .instanceMethod yX8_fresh, .selects RX8 yX8_fresh yX8_fresh, .initialized RX8, .code yX8_fresh cX8_fresh 3 (some (.array .int)), .fieldLink RX8 45 "SashwordsModel" "end" "I", .methodLink RX8 48 arraycopyName, .native arraycopyName, .static arraycopyName, .initialized "java/lang/System"], wsX80]
theorem seX8_init : sgX8_init.flatten = wsX8_init := by simp only [sgX8_init, wsX8_init, List.flatten_cons, List.flatten_nil, List.append_assoc, List.append_nil, List.cons_append, List.nil_append]
set_option maxRecDepth 20000 in
theorem ggX8_init_X8_fresh : GoodIn wsX8_init wsX8_fresh := goodIn_s seX8_init _ [pq_1_16, pq_1_17, pq_1_4, pq_1_3, pq_1_18, pq_1_19, pq_1_20, pq_1_21, pq_2_0, pq_2_1, pq_2_2, pq_2_3, pq_2_4, pq_2_5, pq_2_6, pq_2_7, pq_2_8, pq_2_9, pq_2_10] (by rfl) gw_wsX8_fresh
set_option maxRecDepth 20000 in
theorem gX8_init_X8_fresh : GoodIn wsX8_init (wsV RX8 34 RX8 yX8_fresh wsX8_fresh) := goodIn_app (goodIn_s seX8_init _ [pq_1_12, pq_1_13, pq_1_14, pq_1_15] (by rfl) (by decide +kernel)) ggX8_init_X8_fresh
noncomputable def sgX8_isNoWindow : List (List Cond) := [[.code yX8_isNoWindow cX8_isNoWindow 1 (some .boolean)], [.methodLink RX8 41 yX8_isNo, .static yX8_isNo, .initialized RX8, .code yX8_isNo cX8_isNo 3 (some .boolean)]]
theorem seX8_isNoWindow : sgX8_isNoWindow.flatten = wsX8_isNoWindow := by simp only [sgX8_isNoWindow, wsX8_isNoWindow, List.flatten_cons, List.flatten_nil, List.append_assoc, List.append_nil, List.cons_append, List.nil_append]
set_option maxRecDepth 20000 in
theorem ggX8_isNoWindow_X8_isNo : GoodIn wsX8_isNoWindow wsX8_isNo := goodIn_s seX8_isNoWindow _ [pq_1_3] (by rfl) gw_wsX8_isNo
set_option maxRecDepth 20000 in
theorem gX8_isNoWindow_X8_isNo : GoodIn wsX8_isNoWindow (va_wsS RX8 41 yX8_isNo wsX8_isNo) := goodIn_app (goodIn_s seX8_isNoWindow _ [pq_1_0, pq_1_1, pq_1_2] (by rfl) (by decide +kernel)) ggX8_isNoWindow_X8_isNo
noncomputable def sgX8_isNoSource : List (List Cond) := [[.code yX8_isNoSource cX8_isNoSource 1 (some .boolean)], [.methodLink RX8 41 yX8_isNo, .static yX8_isNo, .initialized RX8, .code yX8_isNo cX8_isNo 3 (some .boolean)]]
theorem seX8_isNoSource : sgX8_isNoSource.flatten = wsX8_isNoSource := by simp only [sgX8_isNoSource, wsX8_isNoSource, List.flatten_cons, List.flatten_nil, List.append_assoc, List.append_nil, List.cons_append, List.nil_append]
set_option maxRecDepth 20000 in
theorem ggX8_isNoSource_X8_isNo : GoodIn wsX8_isNoSource wsX8_isNo := goodIn_s seX8_isNoSource _ [pq_1_3] (by rfl) gw_wsX8_isNo
set_option maxRecDepth 20000 in
theorem gX8_isNoSource_X8_isNo : GoodIn wsX8_isNoSource (va_wsS RX8 41 yX8_isNo wsX8_isNo) := goodIn_app (goodIn_s seX8_isNoSource _ [pq_1_0, pq_1_1, pq_1_2] (by rfl) (by decide +kernel)) ggX8_isNoSource_X8_isNo
noncomputable def sgX8_text : List (List Cond) := [[.code yX8_text cX8_text 4 (some (.array .int))], [.arrayClass .int, .fieldLink RX8 7 "SashwordsModel" "tape" "[I", .methodLink RX8 54 yX8_length, .static yX8_length, .initialized RX8, .code yX8_length cX8_length 1 (some .int)], wsX80]
theorem seX8_text : sgX8_text.flatten = wsX8_text := by simp only [sgX8_text, wsX8_text, List.flatten_cons, List.flatten_nil, List.append_assoc, List.append_nil, List.cons_append, List.nil_append]
set_option maxRecDepth 20000 in
theorem ggX8_text_X8_length : GoodIn wsX8_text wsX8_length := goodIn_s seX8_text _ [pq_1_5] (by rfl) gw_wsX8_length
set_option maxRecDepth 20000 in
theorem gX8_text_X8_length : GoodIn wsX8_text (va_wsS RX8 54 yX8_length wsX8_length) := goodIn_app (goodIn_s seX8_text _ [pq_1_2, pq_1_3, pq_1_4] (by rfl) (by decide +kernel)) ggX8_text_X8_length
noncomputable def sgX8_textOf : List (List Cond) := [[.code yX8_textOf cX8_textOf 2 (some (.array .int))], [.fieldLink RX8 18 "SashwordsModel" "built" "[I", .fieldLink RX8 21 "SashwordsModel" "kept" "[I", .fieldLink RX8 14 "SashwordsModel" "windows" "[[I", .methodLink RX8 58 yX8_text, .instanceMethod yX8_text, .selects RX8 yX8_text yX8_text, .initialized RX8, .code yX8_text cX8_text 4 (some (.array .int)), .arrayClass .int, .fieldLink RX8 7 "SashwordsModel" "tape" "[I", .methodLink RX8 54 yX8_length, .static yX8_length, .code yX8_length cX8_length 1 (some .int)], wsX80]
theorem seX8_textOf : sgX8_textOf.flatten = wsX8_textOf := by simp only [sgX8_textOf, wsX8_textOf, List.flatten_cons, List.flatten_nil, List.append_assoc, List.append_nil, List.cons_append, List.nil_append]
set_option maxRecDepth 20000 in
theorem ggX8_textOf_X8_text : GoodIn wsX8_textOf wsX8_text := goodIn_s seX8_textOf _ [pq_1_7, pq_1_8, pq_1_9, pq_1_10, pq_1_11, pq_1_6, pq_1_12, pq_2_0, pq_2_1, pq_2_2, pq_2_3, pq_2_4, pq_2_5, pq_2_6, pq_2_7, pq_2_8, pq_2_9, pq_2_10] (by rfl) gw_wsX8_text
set_option maxRecDepth 20000 in
theorem gX8_textOf_X8_text : GoodIn wsX8_textOf (wsV RX8 58 RX8 yX8_text wsX8_text) := goodIn_app (goodIn_s seX8_textOf _ [pq_1_3, pq_1_4, pq_1_5, pq_1_6] (by rfl) (by decide +kernel)) ggX8_textOf_X8_text
noncomputable def sgX8_became : List (List Cond) := [[.code yX8_became cX8_became 7 (some .int)], [.fieldLink RX8 14 "SashwordsModel" "windows" "[[I", .arrayClass .int, .methodLink RX8 62 yX8_done, .instanceMethod yX8_done, .selects RX8 yX8_done yX8_done, .initialized RX8, .code yX8_done cX8_done 2 (some .int), .fieldLink RX8 31 "SashwordsModel" "tallies" "[I"], wsX80]
theorem seX8_became : sgX8_became.flatten = wsX8_became := by simp only [sgX8_became, wsX8_became, List.flatten_cons, List.flatten_nil, List.append_assoc, List.append_nil, List.cons_append, List.nil_append]
set_option maxRecDepth 20000 in
theorem ggX8_became_X8_done : GoodIn wsX8_became wsX8_done := goodIn_s seX8_became _ [pq_1_6, pq_1_7, pq_2_0, pq_2_1, pq_2_2, pq_2_3, pq_2_4, pq_2_5, pq_2_6, pq_2_7, pq_2_8, pq_2_9, pq_2_10] (by rfl) gw_wsX8_done
set_option maxRecDepth 20000 in
theorem gX8_became_X8_done : GoodIn wsX8_became (wsV RX8 62 RX8 yX8_done wsX8_done) := goodIn_app (goodIn_s seX8_became _ [pq_1_2, pq_1_3, pq_1_4, pq_1_5] (by rfl) (by decide +kernel)) ggX8_became_X8_done
noncomputable def sgX8_told : List (List Cond) := [[.code yX8_told cX8_told 5 (some (.object "java/lang/String"))], wsX8_told_r1, wsX8_told_r2, wsX8_told_r3, wsX8_told_r4, wsX8_told_r5, wsX8_told_r6, wsX8_told_r7, wsX8_told_r8, wsJ40, wsJ00]
theorem seX8_told : sgX8_told.flatten = wsX8_told := by simp only [sgX8_told, wsX8_told, List.flatten_cons, List.flatten_nil, List.append_assoc, List.append_nil, List.cons_append, List.nil_append]
set_option maxRecDepth 20000 in
theorem ggX8_told_J4_init_da8c8 : GoodIn wsX8_told wsJ4_init_da8c8 := goodIn_s seX8_told _ [pq_1_5, pq_1_6, pq_1_7, pq_1_8, pq_1_9, pq_1_10, pq_1_11, pq_1_12, pq_1_13, pq_1_14, pq_1_15, pq_1_16, pq_1_17, pq_1_18, pq_1_19, pq_1_20, pq_1_21, pq_1_22, pq_1_23, pq_2_0, pq_9_0, pq_9_1, pq_9_2, pq_9_3] (by rfl) gw_wsJ4_init_da8c8
set_option maxRecDepth 20000 in
theorem gX8_told_J4_init_da8c8 : GoodIn wsX8_told (wsJ4_init_da8c8) := ggX8_told_J4_init_da8c8
set_option maxRecDepth 20000 in
theorem ggX8_told_J4_append_cf468 : GoodIn wsX8_told wsJ4_append_cf468 := goodIn_s seX8_told _ [pq_2_4, pq_2_5, pq_2_6, pq_2_7, pq_2_8, pq_1_8, pq_2_9, pq_2_10, pq_1_15, pq_2_11, pq_2_12, pq_2_13, pq_2_14, pq_2_15, pq_1_16, pq_2_16, pq_2_17, pq_2_18, pq_2_19, pq_2_20, pq_2_21, pq_2_22, pq_2_23, pq_3_0, pq_3_1, pq_3_2, pq_3_3, pq_3_4, pq_3_5, pq_3_6, pq_3_7, pq_3_8, pq_3_9, pq_3_10, pq_3_11, pq_3_12, pq_3_13, pq_3_14, pq_3_15, pq_3_16, pq_3_17, pq_3_18, pq_3_19, pq_1_14, pq_3_20, pq_3_21, pq_3_22, pq_3_23, pq_4_0, pq_4_1, pq_4_2, pq_4_3, pq_4_4, pq_4_5, pq_4_6, pq_4_7, pq_1_13, pq_4_8, pq_4_9, pq_4_10, pq_4_11, pq_4_12, pq_4_13, pq_4_14, pq_4_15, pq_4_16, pq_1_17, pq_1_18, pq_1_19, pq_1_20, pq_1_21, pq_1_22, pq_1_23, pq_2_0, pq_4_17, pq_4_18, pq_4_19, pq_4_20, pq_4_21, pq_4_22, pq_4_23, pq_5_0, pq_5_1, pq_5_2, pq_5_3, pq_5_4, pq_5_5, pq_5_6, pq_5_7, pq_5_8, pq_5_9, pq_5_10, pq_5_11, pq_5_12, pq_5_13, pq_5_14, pq_5_15, pq_5_16, pq_5_17, pq_5_18, pq_5_19, pq_5_20, pq_5_21, pq_5_22, pq_5_23, pq_6_0, pq_6_1, pq_6_2, pq_6_3, pq_6_4, pq_6_5, pq_6_6, pq_6_7, pq_9_0, pq_9_1, pq_9_2, pq_9_3] (by rfl) gw_wsJ4_append_cf468
set_option maxRecDepth 20000 in
theorem gX8_told_J4_append_cf468 : GoodIn wsX8_told (wsV RX8 69 RJ4 yJ4_append_cf468 wsJ4_append_cf468) := goodIn_app (goodIn_s seX8_told _ [pq_2_1, pq_2_2, pq_2_3, pq_1_2] (by rfl) (by decide +kernel)) ggX8_told_J4_append_cf468
set_option maxRecDepth 20000 in
theorem ggX8_told_J4_toString_0e30d : GoodIn wsX8_told wsJ4_toString_0e30d := goodIn_s seX8_told _ [pq_6_11, pq_6_12, pq_6_13, pq_5_7, pq_6_14, pq_6_15, pq_6_16, pq_6_17, pq_6_18, pq_6_19, pq_6_20, pq_1_11, pq_1_12, pq_6_21, pq_6_22, pq_6_23, pq_7_0, pq_7_1, pq_7_2, pq_7_3, pq_7_4, pq_1_8, pq_7_5, pq_1_15, pq_7_6, pq_7_7, pq_7_8, pq_7_9, pq_7_10, pq_1_2, pq_7_11, pq_7_12, pq_2_7, pq_7_13, pq_7_14, pq_2_10, pq_7_15, pq_4_4, pq_4_5, pq_4_6, pq_4_7, pq_1_13, pq_1_16, pq_7_16, pq_7_17, pq_3_12, pq_7_18, pq_3_14, pq_3_15, pq_3_16, pq_3_17, pq_3_18, pq_3_19, pq_7_19, pq_7_20, pq_7_21, pq_1_14, pq_3_20, pq_3_21, pq_3_4, pq_3_22, pq_3_23, pq_4_0, pq_4_1, pq_4_2, pq_7_22, pq_7_23, pq_8_0, pq_8_1, pq_1_1, pq_8_2, pq_8_3, pq_1_19, pq_8_4, pq_8_5, pq_8_6, pq_8_7, pq_4_23, pq_5_0, pq_5_1, pq_5_2, pq_5_3, pq_5_4, pq_5_5, pq_5_6, pq_5_8, pq_5_9, pq_5_10, pq_5_11, pq_5_12, pq_5_13, pq_8_8, pq_8_9, pq_8_10, pq_5_17, pq_5_18, pq_5_19, pq_1_21, pq_1_22, pq_1_23, pq_2_0, pq_8_11, pq_8_12, pq_8_13, pq_8_14, pq_10_0, pq_10_1, pq_10_2, pq_10_3, pq_9_0, pq_9_1, pq_9_2, pq_9_3] (by rfl) gw_wsJ4_toString_0e30d
set_option maxRecDepth 20000 in
theorem gX8_told_J4_toString_0e30d : GoodIn wsX8_told (wsV RX8 73 RJ4 yJ4_toString_0e30d wsJ4_toString_0e30d) := goodIn_app (goodIn_s seX8_told _ [pq_6_8, pq_6_9, pq_6_10, pq_1_2] (by rfl) (by decide +kernel)) ggX8_told_J4_toString_0e30d
noncomputable def sgX8_allocate : List (List Cond) := [[.code yX8_allocate cX8_allocate 3 (some .int)], wsX8_allocate_r1, wsX8_allocate_r2, wsX80]
theorem seX8_allocate : sgX8_allocate.flatten = wsX8_allocate := by simp only [sgX8_allocate, wsX8_allocate, List.flatten_cons, List.flatten_nil, List.append_assoc, List.append_nil, List.cons_append, List.nil_append]
set_option maxRecDepth 20000 in
theorem ggX8_allocate_X8_isNoWindow : GoodIn wsX8_allocate wsX8_isNoWindow := goodIn_s seX8_allocate _ [pq_1_4, pq_1_5, pq_1_6, pq_1_3, pq_1_7] (by rfl) gw_wsX8_isNoWindow
set_option maxRecDepth 20000 in
theorem gX8_allocate_X8_isNoWindow : GoodIn wsX8_allocate (va_wsS RX8 77 yX8_isNoWindow wsX8_isNoWindow) := goodIn_app (goodIn_s seX8_allocate _ [pq_1_1, pq_1_2, pq_1_3] (by rfl) (by decide +kernel)) ggX8_allocate_X8_isNoWindow
set_option maxRecDepth 20000 in
theorem ggX8_allocate_X8_isNo : GoodIn wsX8_allocate wsX8_isNo := goodIn_s seX8_allocate _ [pq_1_7] (by rfl) gw_wsX8_isNo
set_option maxRecDepth 20000 in
theorem gX8_allocate_X8_isNo : GoodIn wsX8_allocate (va_wsS RX8 41 yX8_isNo wsX8_isNo) := goodIn_app (goodIn_s seX8_allocate _ [pq_1_5, pq_1_6, pq_1_3] (by rfl) (by decide +kernel)) ggX8_allocate_X8_isNo
set_option maxRecDepth 20000 in
theorem ggX8_allocate_X8_isThrown : GoodIn wsX8_allocate wsX8_isThrown := goodIn_s seX8_allocate _ [pq_1_11, pq_1_12, pq_3_0, pq_3_1, pq_3_2, pq_3_3, pq_3_4, pq_3_5, pq_3_6, pq_3_7, pq_3_8, pq_3_9, pq_3_10] (by rfl) gw_wsX8_isThrown
set_option maxRecDepth 20000 in
theorem gX8_allocate_X8_isThrown : GoodIn wsX8_allocate (wsV RX8 81 RX8 yX8_isThrown wsX8_isThrown) := goodIn_app (goodIn_s seX8_allocate _ [pq_1_8, pq_1_9, pq_1_10, pq_1_3] (by rfl) (by decide +kernel)) ggX8_allocate_X8_isThrown
set_option maxRecDepth 20000 in
theorem ggX8_allocate_X8_fresh : GoodIn wsX8_allocate wsX8_fresh := goodIn_s seX8_allocate _ [pq_1_16, pq_1_17, pq_1_18, pq_1_19, pq_1_20, pq_1_21, pq_1_22, pq_1_23, pq_3_0, pq_3_1, pq_3_2, pq_3_3, pq_3_4, pq_3_5, pq_3_6, pq_3_7, pq_3_8, pq_3_9, pq_3_10] (by rfl) gw_wsX8_fresh
set_option maxRecDepth 20000 in
theorem gX8_allocate_X8_fresh : GoodIn wsX8_allocate (wsV RX8 34 RX8 yX8_fresh wsX8_fresh) := goodIn_app (goodIn_s seX8_allocate _ [pq_1_13, pq_1_14, pq_1_15, pq_1_3] (by rfl) (by decide +kernel)) ggX8_allocate_X8_fresh
set_option maxRecDepth 20000 in
theorem ggX8_allocate_X8_done : GoodIn wsX8_allocate wsX8_done := goodIn_s seX8_allocate _ [pq_2_3, pq_2_4, pq_3_0, pq_3_1, pq_3_2, pq_3_3, pq_3_4, pq_3_5, pq_3_6, pq_3_7, pq_3_8, pq_3_9, pq_3_10] (by rfl) gw_wsX8_done
set_option maxRecDepth 20000 in
theorem gX8_allocate_X8_done : GoodIn wsX8_allocate (wsV RX8 62 RX8 yX8_done wsX8_done) := goodIn_app (goodIn_s seX8_allocate _ [pq_2_0, pq_2_1, pq_2_2, pq_1_3] (by rfl) (by decide +kernel)) ggX8_allocate_X8_done
noncomputable def sgX8_slice : List (List Cond) := [[.code yX8_slice cX8_slice 4 (some .int)], wsX8_slice_r1, wsX8_slice_r2, wsX80]
theorem seX8_slice : sgX8_slice.flatten = wsX8_slice := by simp only [sgX8_slice, wsX8_slice, List.flatten_cons, List.flatten_nil, List.append_assoc, List.append_nil, List.cons_append, List.nil_append]
set_option maxRecDepth 20000 in
theorem ggX8_slice_X8_isNoWindow : GoodIn wsX8_slice wsX8_isNoWindow := goodIn_s seX8_slice _ [pq_1_4, pq_1_5, pq_1_6, pq_1_3, pq_1_7] (by rfl) gw_wsX8_isNoWindow
set_option maxRecDepth 20000 in
theorem gX8_slice_X8_isNoWindow : GoodIn wsX8_slice (va_wsS RX8 77 yX8_isNoWindow wsX8_isNoWindow) := goodIn_app (goodIn_s seX8_slice _ [pq_1_1, pq_1_2, pq_1_3] (by rfl) (by decide +kernel)) ggX8_slice_X8_isNoWindow
set_option maxRecDepth 20000 in
theorem ggX8_slice_X8_isThrown : GoodIn wsX8_slice wsX8_isThrown := goodIn_s seX8_slice _ [pq_1_11, pq_1_12, pq_3_0, pq_3_1, pq_3_2, pq_3_3, pq_3_4, pq_3_5, pq_3_6, pq_3_7, pq_3_8, pq_3_9, pq_3_10] (by rfl) gw_wsX8_isThrown
set_option maxRecDepth 20000 in
theorem gX8_slice_X8_isThrown : GoodIn wsX8_slice (wsV RX8 81 RX8 yX8_isThrown wsX8_isThrown) := goodIn_app (goodIn_s seX8_slice _ [pq_1_8, pq_1_9, pq_1_10, pq_1_3] (by rfl) (by decide +kernel)) ggX8_slice_X8_isThrown
set_option maxRecDepth 20000 in
theorem ggX8_slice_X8_length : GoodIn wsX8_slice wsX8_length := goodIn_s seX8_slice _ [pq_1_15] (by rfl) gw_wsX8_length
set_option maxRecDepth 20000 in
theorem gX8_slice_X8_length : GoodIn wsX8_slice (va_wsS RX8 54 yX8_length wsX8_length) := goodIn_app (goodIn_s seX8_slice _ [pq_1_13, pq_1_14, pq_1_3] (by rfl) (by decide +kernel)) ggX8_slice_X8_length
set_option maxRecDepth 20000 in
theorem ggX8_slice_X8_became : GoodIn wsX8_slice wsX8_became := goodIn_s seX8_slice _ [pq_1_19, pq_1_0, pq_1_20, pq_1_21, pq_1_22, pq_1_23, pq_1_3, pq_2_0, pq_2_1, pq_3_0, pq_3_1, pq_3_2, pq_3_3, pq_3_4, pq_3_5, pq_3_6, pq_3_7, pq_3_8, pq_3_9, pq_3_10] (by rfl) gw_wsX8_became
set_option maxRecDepth 20000 in
theorem gX8_slice_X8_became : GoodIn wsX8_slice (wsV RX8 85 RX8 yX8_became wsX8_became) := goodIn_app (goodIn_s seX8_slice _ [pq_1_16, pq_1_17, pq_1_18, pq_1_3] (by rfl) (by decide +kernel)) ggX8_slice_X8_became
noncomputable def sgX8_duplicate : List (List Cond) := [[.code yX8_duplicate cX8_duplicate 4 (some .int)], [.fieldLink RX8 14 "SashwordsModel" "windows" "[[I", .methodLink RX8 77 yX8_isNoWindow, .static yX8_isNoWindow, .initialized RX8, .code yX8_isNoWindow cX8_isNoWindow 1 (some .boolean), .methodLink RX8 41 yX8_isNo, .static yX8_isNo, .code yX8_isNo cX8_isNo 3 (some .boolean), .methodLink RX8 81 yX8_isThrown, .instanceMethod yX8_isThrown, .selects RX8 yX8_isThrown yX8_isThrown, .code yX8_isThrown cX8_isThrown 3 (some .boolean), .fieldLink RX8 38 "SashwordsModel" "thrown" "I", .methodLink RX8 85 yX8_became, .instanceMethod yX8_became, .selects RX8 yX8_became yX8_became, .code yX8_became cX8_became 7 (some .int), .arrayClass .int, .methodLink RX8 62 yX8_done, .instanceMethod yX8_done, .selects RX8 yX8_done yX8_done, .code yX8_done cX8_done 2 (some .int), .fieldLink RX8 31 "SashwordsModel" "tallies" "[I"], wsX80]
theorem seX8_duplicate : sgX8_duplicate.flatten = wsX8_duplicate := by simp only [sgX8_duplicate, wsX8_duplicate, List.flatten_cons, List.flatten_nil, List.append_assoc, List.append_nil, List.cons_append, List.nil_append]
set_option maxRecDepth 20000 in
theorem ggX8_duplicate_X8_isNoWindow : GoodIn wsX8_duplicate wsX8_isNoWindow := goodIn_s seX8_duplicate _ [pq_1_4, pq_1_5, pq_1_6, pq_1_3, pq_1_7] (by rfl) gw_wsX8_isNoWindow
set_option maxRecDepth 20000 in
theorem gX8_duplicate_X8_isNoWindow : GoodIn wsX8_duplicate (va_wsS RX8 77 yX8_isNoWindow wsX8_isNoWindow) := goodIn_app (goodIn_s seX8_duplicate _ [pq_1_1, pq_1_2, pq_1_3] (by rfl) (by decide +kernel)) ggX8_duplicate_X8_isNoWindow
set_option maxRecDepth 20000 in
theorem ggX8_duplicate_X8_isThrown : GoodIn wsX8_duplicate wsX8_isThrown := goodIn_s seX8_duplicate _ [pq_1_11, pq_1_12, pq_2_0, pq_2_1, pq_2_2, pq_2_3, pq_2_4, pq_2_5, pq_2_6, pq_2_7, pq_2_8, pq_2_9, pq_2_10] (by rfl) gw_wsX8_isThrown
set_option maxRecDepth 20000 in
theorem gX8_duplicate_X8_isThrown : GoodIn wsX8_duplicate (wsV RX8 81 RX8 yX8_isThrown wsX8_isThrown) := goodIn_app (goodIn_s seX8_duplicate _ [pq_1_8, pq_1_9, pq_1_10, pq_1_3] (by rfl) (by decide +kernel)) ggX8_duplicate_X8_isThrown
set_option maxRecDepth 20000 in
theorem ggX8_duplicate_X8_became : GoodIn wsX8_duplicate wsX8_became := goodIn_s seX8_duplicate _ [pq_1_16, pq_1_0, pq_1_17, pq_1_18, pq_1_19, pq_1_20, pq_1_3, pq_1_21, pq_1_22, pq_2_0, pq_2_1, pq_2_2, pq_2_3, pq_2_4, pq_2_5, pq_2_6, pq_2_7, pq_2_8, pq_2_9, pq_2_10] (by rfl) gw_wsX8_became
set_option maxRecDepth 20000 in
theorem gX8_duplicate_X8_became : GoodIn wsX8_duplicate (wsV RX8 85 RX8 yX8_became wsX8_became) := goodIn_app (goodIn_s seX8_duplicate _ [pq_1_13, pq_1_14, pq_1_15, pq_1_3] (by rfl) (by decide +kernel)) ggX8_duplicate_X8_became
noncomputable def sgX8_part : List (List Cond) := [[.code yX8_part cX8_part 6 (some .int)], wsX8_part_r1, wsX8_part_r2, wsX80]
theorem seX8_part : sgX8_part.flatten = wsX8_part := by simp only [sgX8_part, wsX8_part, List.flatten_cons, List.flatten_nil, List.append_assoc, List.append_nil, List.cons_append, List.nil_append]
set_option maxRecDepth 20000 in
theorem ggX8_part_X8_isNoWindow : GoodIn wsX8_part wsX8_isNoWindow := goodIn_s seX8_part _ [pq_1_4, pq_1_5, pq_1_6, pq_1_3, pq_1_7] (by rfl) gw_wsX8_isNoWindow
set_option maxRecDepth 20000 in
theorem gX8_part_X8_isNoWindow : GoodIn wsX8_part (va_wsS RX8 77 yX8_isNoWindow wsX8_isNoWindow) := goodIn_app (goodIn_s seX8_part _ [pq_1_1, pq_1_2, pq_1_3] (by rfl) (by decide +kernel)) ggX8_part_X8_isNoWindow
set_option maxRecDepth 20000 in
theorem ggX8_part_X8_isThrown : GoodIn wsX8_part wsX8_isThrown := goodIn_s seX8_part _ [pq_1_11, pq_1_12, pq_3_0, pq_3_1, pq_3_2, pq_3_3, pq_3_4, pq_3_5, pq_3_6, pq_3_7, pq_3_8, pq_3_9, pq_3_10] (by rfl) gw_wsX8_isThrown
set_option maxRecDepth 20000 in
theorem gX8_part_X8_isThrown : GoodIn wsX8_part (wsV RX8 81 RX8 yX8_isThrown wsX8_isThrown) := goodIn_app (goodIn_s seX8_part _ [pq_1_8, pq_1_9, pq_1_10, pq_1_3] (by rfl) (by decide +kernel)) ggX8_part_X8_isThrown
set_option maxRecDepth 20000 in
theorem ggX8_part_X8_length : GoodIn wsX8_part wsX8_length := goodIn_s seX8_part _ [pq_1_15] (by rfl) gw_wsX8_length
set_option maxRecDepth 20000 in
theorem gX8_part_X8_length : GoodIn wsX8_part (va_wsS RX8 54 yX8_length wsX8_length) := goodIn_app (goodIn_s seX8_part _ [pq_1_13, pq_1_14, pq_1_3] (by rfl) (by decide +kernel)) ggX8_part_X8_length
set_option maxRecDepth 20000 in
theorem ggX8_part_X8_refused : GoodIn wsX8_part wsX8_refused := goodIn_s seX8_part _ [pq_1_19, pq_1_20, pq_3_0, pq_3_1, pq_3_2, pq_3_3, pq_3_4, pq_3_5, pq_3_6, pq_3_7, pq_3_8, pq_3_9, pq_3_10] (by rfl) gw_wsX8_refused
set_option maxRecDepth 20000 in
theorem gX8_part_X8_refused : GoodIn wsX8_part (wsV RX8 89 RX8 yX8_refused wsX8_refused) := goodIn_app (goodIn_s seX8_part _ [pq_1_16, pq_1_17, pq_1_18, pq_1_3] (by rfl) (by decide +kernel)) ggX8_part_X8_refused
set_option maxRecDepth 20000 in
theorem ggX8_part_X8_became : GoodIn wsX8_part wsX8_became := goodIn_s seX8_part _ [pq_2_0, pq_1_0, pq_2_1, pq_2_2, pq_2_3, pq_2_4, pq_1_3, pq_2_5, pq_1_20, pq_3_0, pq_3_1, pq_3_2, pq_3_3, pq_3_4, pq_3_5, pq_3_6, pq_3_7, pq_3_8, pq_3_9, pq_3_10] (by rfl) gw_wsX8_became
set_option maxRecDepth 20000 in
theorem gX8_part_X8_became : GoodIn wsX8_part (wsV RX8 85 RX8 yX8_became wsX8_became) := goodIn_app (goodIn_s seX8_part _ [pq_1_21, pq_1_22, pq_1_23, pq_1_3] (by rfl) (by decide +kernel)) ggX8_part_X8_became
noncomputable def sgX8_put : List (List Cond) := [[.code yX8_put cX8_put 4 (some .int)], wsX8_put_r1, wsX8_put_r2, wsX80]
theorem seX8_put : sgX8_put.flatten = wsX8_put := by simp only [sgX8_put, wsX8_put, List.flatten_cons, List.flatten_nil, List.append_assoc, List.append_nil, List.cons_append, List.nil_append]
set_option maxRecDepth 20000 in
theorem ggX8_put_X8_isNoWindow : GoodIn wsX8_put wsX8_isNoWindow := goodIn_s seX8_put _ [pq_1_4, pq_1_5, pq_1_6, pq_1_3, pq_1_7] (by rfl) gw_wsX8_isNoWindow
set_option maxRecDepth 20000 in
theorem gX8_put_X8_isNoWindow : GoodIn wsX8_put (va_wsS RX8 77 yX8_isNoWindow wsX8_isNoWindow) := goodIn_app (goodIn_s seX8_put _ [pq_1_1, pq_1_2, pq_1_3] (by rfl) (by decide +kernel)) ggX8_put_X8_isNoWindow
set_option maxRecDepth 20000 in
theorem ggX8_put_X8_isNo : GoodIn wsX8_put wsX8_isNo := goodIn_s seX8_put _ [pq_1_7] (by rfl) gw_wsX8_isNo
set_option maxRecDepth 20000 in
theorem gX8_put_X8_isNo : GoodIn wsX8_put (va_wsS RX8 41 yX8_isNo wsX8_isNo) := goodIn_app (goodIn_s seX8_put _ [pq_1_5, pq_1_6, pq_1_3] (by rfl) (by decide +kernel)) ggX8_put_X8_isNo
set_option maxRecDepth 20000 in
theorem ggX8_put_X8_isThrown : GoodIn wsX8_put wsX8_isThrown := goodIn_s seX8_put _ [pq_1_11, pq_1_12, pq_3_0, pq_3_1, pq_3_2, pq_3_3, pq_3_4, pq_3_5, pq_3_6, pq_3_7, pq_3_8, pq_3_9, pq_3_10] (by rfl) gw_wsX8_isThrown
set_option maxRecDepth 20000 in
theorem gX8_put_X8_isThrown : GoodIn wsX8_put (wsV RX8 81 RX8 yX8_isThrown wsX8_isThrown) := goodIn_app (goodIn_s seX8_put _ [pq_1_8, pq_1_9, pq_1_10, pq_1_3] (by rfl) (by decide +kernel)) ggX8_put_X8_isThrown
set_option maxRecDepth 20000 in
theorem ggX8_put_X8_length : GoodIn wsX8_put wsX8_length := goodIn_s seX8_put _ [pq_1_15] (by rfl) gw_wsX8_length
set_option maxRecDepth 20000 in
theorem gX8_put_X8_length : GoodIn wsX8_put (va_wsS RX8 54 yX8_length wsX8_length) := goodIn_app (goodIn_s seX8_put _ [pq_1_13, pq_1_14, pq_1_3] (by rfl) (by decide +kernel)) ggX8_put_X8_length
set_option maxRecDepth 20000 in
theorem ggX8_put_X8_refused : GoodIn wsX8_put wsX8_refused := goodIn_s seX8_put _ [pq_1_19, pq_1_20, pq_3_0, pq_3_1, pq_3_2, pq_3_3, pq_3_4, pq_3_5, pq_3_6, pq_3_7, pq_3_8, pq_3_9, pq_3_10] (by rfl) gw_wsX8_refused
set_option maxRecDepth 20000 in
theorem gX8_put_X8_refused : GoodIn wsX8_put (wsV RX8 89 RX8 yX8_refused wsX8_refused) := goodIn_app (goodIn_s seX8_put _ [pq_1_16, pq_1_17, pq_1_18, pq_1_3] (by rfl) (by decide +kernel)) ggX8_put_X8_refused
set_option maxRecDepth 20000 in
theorem ggX8_put_X8_write : GoodIn wsX8_put wsX8_write := goodIn_s seX8_put _ [pq_2_0, pq_2_1, pq_3_0, pq_3_1, pq_3_2, pq_3_3, pq_3_4, pq_3_5, pq_3_6, pq_3_7, pq_3_8, pq_3_9, pq_3_10] (by rfl) gw_wsX8_write
set_option maxRecDepth 20000 in
theorem gX8_put_X8_write : GoodIn wsX8_put (wsV RX8 93 RX8 yX8_write wsX8_write) := goodIn_app (goodIn_s seX8_put _ [pq_1_21, pq_1_22, pq_1_23, pq_1_3] (by rfl) (by decide +kernel)) ggX8_put_X8_write
set_option maxRecDepth 20000 in
theorem ggX8_put_X8_done : GoodIn wsX8_put wsX8_done := goodIn_s seX8_put _ [pq_2_5, pq_1_20, pq_3_0, pq_3_1, pq_3_2, pq_3_3, pq_3_4, pq_3_5, pq_3_6, pq_3_7, pq_3_8, pq_3_9, pq_3_10] (by rfl) gw_wsX8_done
set_option maxRecDepth 20000 in
theorem gX8_put_X8_done : GoodIn wsX8_put (wsV RX8 62 RX8 yX8_done wsX8_done) := goodIn_app (goodIn_s seX8_put _ [pq_2_2, pq_2_3, pq_2_4, pq_1_3] (by rfl) (by decide +kernel)) ggX8_put_X8_done
noncomputable def sgX8_run : List (List Cond) := [[.code yX8_run cX8_run 8 (some .int)], wsX8_run_r1, wsX8_run_r2, wsX80]
theorem seX8_run : sgX8_run.flatten = wsX8_run := by simp only [sgX8_run, wsX8_run, List.flatten_cons, List.flatten_nil, List.append_assoc, List.append_nil, List.cons_append, List.nil_append]
set_option maxRecDepth 20000 in
theorem ggX8_run_X8_isNoWindow : GoodIn wsX8_run wsX8_isNoWindow := goodIn_s seX8_run _ [pq_1_8, pq_1_9, pq_1_10, pq_1_7, pq_1_11] (by rfl) gw_wsX8_isNoWindow
set_option maxRecDepth 20000 in
theorem gX8_run_X8_isNoWindow : GoodIn wsX8_run (va_wsS RX8 77 yX8_isNoWindow wsX8_isNoWindow) := goodIn_app (goodIn_s seX8_run _ [pq_1_5, pq_1_6, pq_1_7] (by rfl) (by decide +kernel)) ggX8_run_X8_isNoWindow
set_option maxRecDepth 20000 in
theorem ggX8_run_X8_isNo : GoodIn wsX8_run wsX8_isNo := goodIn_s seX8_run _ [pq_1_11] (by rfl) gw_wsX8_isNo
set_option maxRecDepth 20000 in
theorem gX8_run_X8_isNo : GoodIn wsX8_run (va_wsS RX8 41 yX8_isNo wsX8_isNo) := goodIn_app (goodIn_s seX8_run _ [pq_1_9, pq_1_10, pq_1_7] (by rfl) (by decide +kernel)) ggX8_run_X8_isNo
set_option maxRecDepth 20000 in
theorem ggX8_run_X8_isThrown : GoodIn wsX8_run wsX8_isThrown := goodIn_s seX8_run _ [pq_1_15, pq_1_16, pq_3_0, pq_3_1, pq_3_2, pq_3_3, pq_3_4, pq_3_5, pq_3_6, pq_3_7, pq_3_8, pq_3_9, pq_3_10] (by rfl) gw_wsX8_isThrown
set_option maxRecDepth 20000 in
theorem gX8_run_X8_isThrown : GoodIn wsX8_run (wsV RX8 81 RX8 yX8_isThrown wsX8_isThrown) := goodIn_app (goodIn_s seX8_run _ [pq_1_12, pq_1_13, pq_1_14, pq_1_7] (by rfl) (by decide +kernel)) ggX8_run_X8_isThrown
set_option maxRecDepth 20000 in
theorem ggX8_run_X8_length : GoodIn wsX8_run wsX8_length := goodIn_s seX8_run _ [pq_1_19] (by rfl) gw_wsX8_length
set_option maxRecDepth 20000 in
theorem gX8_run_X8_length : GoodIn wsX8_run (va_wsS RX8 54 yX8_length wsX8_length) := goodIn_app (goodIn_s seX8_run _ [pq_1_17, pq_1_18, pq_1_7] (by rfl) (by decide +kernel)) ggX8_run_X8_length
set_option maxRecDepth 20000 in
theorem ggX8_run_X8_write : GoodIn wsX8_run wsX8_write := goodIn_s seX8_run _ [pq_1_23, pq_2_0, pq_3_0, pq_3_1, pq_3_2, pq_3_3, pq_3_4, pq_3_5, pq_3_6, pq_3_7, pq_3_8, pq_3_9, pq_3_10] (by rfl) gw_wsX8_write
set_option maxRecDepth 20000 in
theorem gX8_run_X8_write : GoodIn wsX8_run (wsV RX8 93 RX8 yX8_write wsX8_write) := goodIn_app (goodIn_s seX8_run _ [pq_1_20, pq_1_21, pq_1_22, pq_1_7] (by rfl) (by decide +kernel)) ggX8_run_X8_write
set_option maxRecDepth 20000 in
theorem ggX8_run_X8_done : GoodIn wsX8_run wsX8_done := goodIn_s seX8_run _ [pq_2_4, pq_2_5, pq_3_0, pq_3_1, pq_3_2, pq_3_3, pq_3_4, pq_3_5, pq_3_6, pq_3_7, pq_3_8, pq_3_9, pq_3_10] (by rfl) gw_wsX8_done
set_option maxRecDepth 20000 in
theorem gX8_run_X8_done : GoodIn wsX8_run (wsV RX8 62 RX8 yX8_done wsX8_done) := goodIn_app (goodIn_s seX8_run _ [pq_2_1, pq_2_2, pq_2_3, pq_1_7] (by rfl) (by decide +kernel)) ggX8_run_X8_done
noncomputable def sgX8_write_ : List (List Cond) := [[.code yX8_write_ cX8_write_ 7 (some .int)], wsX8_write__r1, wsX8_write__r2, wsX80]
theorem seX8_write_ : sgX8_write_.flatten = wsX8_write_ := by simp only [sgX8_write_, wsX8_write_, List.flatten_cons, List.flatten_nil, List.append_assoc, List.append_nil, List.cons_append, List.nil_append]
set_option maxRecDepth 20000 in
theorem ggX8_write__X8_isNoWindow : GoodIn wsX8_write_ wsX8_isNoWindow := goodIn_s seX8_write_ _ [pq_1_8, pq_1_9, pq_1_10, pq_1_7, pq_1_11] (by rfl) gw_wsX8_isNoWindow
set_option maxRecDepth 20000 in
theorem gX8_write__X8_isNoWindow : GoodIn wsX8_write_ (va_wsS RX8 77 yX8_isNoWindow wsX8_isNoWindow) := goodIn_app (goodIn_s seX8_write_ _ [pq_1_5, pq_1_6, pq_1_7] (by rfl) (by decide +kernel)) ggX8_write__X8_isNoWindow
set_option maxRecDepth 20000 in
theorem ggX8_write__X8_isNo : GoodIn wsX8_write_ wsX8_isNo := goodIn_s seX8_write_ _ [pq_1_11] (by rfl) gw_wsX8_isNo
set_option maxRecDepth 20000 in
theorem gX8_write__X8_isNo : GoodIn wsX8_write_ (va_wsS RX8 41 yX8_isNo wsX8_isNo) := goodIn_app (goodIn_s seX8_write_ _ [pq_1_9, pq_1_10, pq_1_7] (by rfl) (by decide +kernel)) ggX8_write__X8_isNo
set_option maxRecDepth 20000 in
theorem ggX8_write__X8_isThrown : GoodIn wsX8_write_ wsX8_isThrown := goodIn_s seX8_write_ _ [pq_1_15, pq_1_16, pq_3_0, pq_3_1, pq_3_2, pq_3_3, pq_3_4, pq_3_5, pq_3_6, pq_3_7, pq_3_8, pq_3_9, pq_3_10] (by rfl) gw_wsX8_isThrown
set_option maxRecDepth 20000 in
theorem gX8_write__X8_isThrown : GoodIn wsX8_write_ (wsV RX8 81 RX8 yX8_isThrown wsX8_isThrown) := goodIn_app (goodIn_s seX8_write_ _ [pq_1_12, pq_1_13, pq_1_14, pq_1_7] (by rfl) (by decide +kernel)) ggX8_write__X8_isThrown
set_option maxRecDepth 20000 in
theorem ggX8_write__X8_length : GoodIn wsX8_write_ wsX8_length := goodIn_s seX8_write_ _ [pq_1_19] (by rfl) gw_wsX8_length
set_option maxRecDepth 20000 in
theorem gX8_write__X8_length : GoodIn wsX8_write_ (va_wsS RX8 54 yX8_length wsX8_length) := goodIn_app (goodIn_s seX8_write_ _ [pq_1_17, pq_1_18, pq_1_7] (by rfl) (by decide +kernel)) ggX8_write__X8_length
set_option maxRecDepth 20000 in
theorem ggX8_write__X8_letter : GoodIn wsX8_write_ wsX8_letter := goodIn_s seX8_write_ _ [pq_1_22] (by rfl) gw_wsX8_letter
set_option maxRecDepth 20000 in
theorem gX8_write__X8_letter : GoodIn wsX8_write_ (va_wsS RX8 103 yX8_letter wsX8_letter) := goodIn_app (goodIn_s seX8_write_ _ [pq_1_20, pq_1_21, pq_1_7] (by rfl) (by decide +kernel)) ggX8_write__X8_letter
set_option maxRecDepth 20000 in
theorem ggX8_write__X8_write : GoodIn wsX8_write_ wsX8_write := goodIn_s seX8_write_ _ [pq_2_2, pq_2_3, pq_3_0, pq_3_1, pq_3_2, pq_3_3, pq_3_4, pq_3_5, pq_3_6, pq_3_7, pq_3_8, pq_3_9, pq_3_10] (by rfl) gw_wsX8_write
set_option maxRecDepth 20000 in
theorem gX8_write__X8_write : GoodIn wsX8_write_ (wsV RX8 93 RX8 yX8_write wsX8_write) := goodIn_app (goodIn_s seX8_write_ _ [pq_1_23, pq_2_0, pq_2_1, pq_1_7] (by rfl) (by decide +kernel)) ggX8_write__X8_write
set_option maxRecDepth 20000 in
theorem ggX8_write__X8_done : GoodIn wsX8_write_ wsX8_done := goodIn_s seX8_write_ _ [pq_2_7, pq_2_8, pq_3_0, pq_3_1, pq_3_2, pq_3_3, pq_3_4, pq_3_5, pq_3_6, pq_3_7, pq_3_8, pq_3_9, pq_3_10] (by rfl) gw_wsX8_done
set_option maxRecDepth 20000 in
theorem gX8_write__X8_done : GoodIn wsX8_write_ (wsV RX8 62 RX8 yX8_done wsX8_done) := goodIn_app (goodIn_s seX8_write_ _ [pq_2_4, pq_2_5, pq_2_6, pq_1_7] (by rfl) (by decide +kernel)) ggX8_write__X8_done
noncomputable def sgX8_get : List (List Cond) := [[.code yX8_get cX8_get 2 (some .int)], wsX8_get_r1, wsX8_get_r2, wsX80]
theorem seX8_get : sgX8_get.flatten = wsX8_get := by simp only [sgX8_get, wsX8_get, List.flatten_cons, List.flatten_nil, List.append_assoc, List.append_nil, List.cons_append, List.nil_append]
set_option maxRecDepth 20000 in
theorem ggX8_get_X8_isNoWindow : GoodIn wsX8_get wsX8_isNoWindow := goodIn_s seX8_get _ [pq_1_4, pq_1_5, pq_1_6, pq_1_3, pq_1_7] (by rfl) gw_wsX8_isNoWindow
set_option maxRecDepth 20000 in
theorem gX8_get_X8_isNoWindow : GoodIn wsX8_get (va_wsS RX8 77 yX8_isNoWindow wsX8_isNoWindow) := goodIn_app (goodIn_s seX8_get _ [pq_1_1, pq_1_2, pq_1_3] (by rfl) (by decide +kernel)) ggX8_get_X8_isNoWindow
set_option maxRecDepth 20000 in
theorem ggX8_get_X8_isThrown : GoodIn wsX8_get wsX8_isThrown := goodIn_s seX8_get _ [pq_1_11, pq_1_12, pq_3_0, pq_3_1, pq_3_2, pq_3_3, pq_3_4, pq_3_5, pq_3_6, pq_3_7, pq_3_8, pq_3_9, pq_3_10] (by rfl) gw_wsX8_isThrown
set_option maxRecDepth 20000 in
theorem gX8_get_X8_isThrown : GoodIn wsX8_get (wsV RX8 81 RX8 yX8_isThrown wsX8_isThrown) := goodIn_app (goodIn_s seX8_get _ [pq_1_8, pq_1_9, pq_1_10, pq_1_3] (by rfl) (by decide +kernel)) ggX8_get_X8_isThrown
set_option maxRecDepth 20000 in
theorem ggX8_get_X8_length : GoodIn wsX8_get wsX8_length := goodIn_s seX8_get _ [pq_1_15] (by rfl) gw_wsX8_length
set_option maxRecDepth 20000 in
theorem gX8_get_X8_length : GoodIn wsX8_get (va_wsS RX8 54 yX8_length wsX8_length) := goodIn_app (goodIn_s seX8_get _ [pq_1_13, pq_1_14, pq_1_3] (by rfl) (by decide +kernel)) ggX8_get_X8_length
set_option maxRecDepth 20000 in
theorem ggX8_get_X8_refused : GoodIn wsX8_get wsX8_refused := goodIn_s seX8_get _ [pq_1_19, pq_1_20, pq_3_0, pq_3_1, pq_3_2, pq_3_3, pq_3_4, pq_3_5, pq_3_6, pq_3_7, pq_3_8, pq_3_9, pq_3_10] (by rfl) gw_wsX8_refused
set_option maxRecDepth 20000 in
theorem gX8_get_X8_refused : GoodIn wsX8_get (wsV RX8 89 RX8 yX8_refused wsX8_refused) := goodIn_app (goodIn_s seX8_get _ [pq_1_16, pq_1_17, pq_1_18, pq_1_3] (by rfl) (by decide +kernel)) ggX8_get_X8_refused
set_option maxRecDepth 20000 in
theorem ggX8_get_X8_read : GoodIn wsX8_get wsX8_read := goodIn_s seX8_get _ [pq_2_0, pq_2_1, pq_3_0, pq_3_1, pq_3_2, pq_3_3, pq_3_4, pq_3_5, pq_3_6, pq_3_7, pq_3_8, pq_3_9, pq_3_10] (by rfl) gw_wsX8_read
set_option maxRecDepth 20000 in
theorem gX8_get_X8_read : GoodIn wsX8_get (wsV RX8 106 RX8 yX8_read wsX8_read) := goodIn_app (goodIn_s seX8_get _ [pq_1_21, pq_1_22, pq_1_23, pq_1_3] (by rfl) (by decide +kernel)) ggX8_get_X8_read
set_option maxRecDepth 20000 in
theorem ggX8_get_X8_done : GoodIn wsX8_get wsX8_done := goodIn_s seX8_get _ [pq_2_5, pq_1_20, pq_3_0, pq_3_1, pq_3_2, pq_3_3, pq_3_4, pq_3_5, pq_3_6, pq_3_7, pq_3_8, pq_3_9, pq_3_10] (by rfl) gw_wsX8_done
set_option maxRecDepth 20000 in
theorem gX8_get_X8_done : GoodIn wsX8_get (wsV RX8 62 RX8 yX8_done wsX8_done) := goodIn_app (goodIn_s seX8_get _ [pq_2_2, pq_2_3, pq_2_4, pq_1_3] (by rfl) (by decide +kernel)) ggX8_get_X8_done
noncomputable def sgX8_read_ : List (List Cond) := [[.code yX8_read_ cX8_read_ 6 (some (.object "java/lang/String"))], wsX8_read__r1, wsX8_read__r2, wsX8_read__r3, wsX8_read__r4, wsX8_read__r5, wsX8_read__r6, wsX8_read__r7, wsX8_read__r8, wsX8_read__r9, wsX80, wsJ40, wsJ00]
theorem seX8_read_ : sgX8_read_.flatten = wsX8_read_ := by simp only [sgX8_read_, wsX8_read_, List.flatten_cons, List.flatten_nil, List.append_assoc, List.append_nil, List.cons_append, List.nil_append]
set_option maxRecDepth 20000 in
theorem ggX8_read__X8_isNoWindow : GoodIn wsX8_read_ wsX8_isNoWindow := goodIn_s seX8_read_ _ [pq_1_8, pq_1_9, pq_1_10, pq_1_7, pq_1_11] (by rfl) gw_wsX8_isNoWindow
set_option maxRecDepth 20000 in
theorem gX8_read__X8_isNoWindow : GoodIn wsX8_read_ (va_wsS RX8 77 yX8_isNoWindow wsX8_isNoWindow) := goodIn_app (goodIn_s seX8_read_ _ [pq_1_5, pq_1_6, pq_1_7] (by rfl) (by decide +kernel)) ggX8_read__X8_isNoWindow
set_option maxRecDepth 20000 in
theorem ggX8_read__X8_isNo : GoodIn wsX8_read_ wsX8_isNo := goodIn_s seX8_read_ _ [pq_1_11] (by rfl) gw_wsX8_isNo
set_option maxRecDepth 20000 in
theorem gX8_read__X8_isNo : GoodIn wsX8_read_ (va_wsS RX8 41 yX8_isNo wsX8_isNo) := goodIn_app (goodIn_s seX8_read_ _ [pq_1_9, pq_1_10, pq_1_7] (by rfl) (by decide +kernel)) ggX8_read__X8_isNo
set_option maxRecDepth 20000 in
theorem ggX8_read__X8_isThrown : GoodIn wsX8_read_ wsX8_isThrown := goodIn_s seX8_read_ _ [pq_1_15, pq_1_16, pq_10_0, pq_10_1, pq_10_2, pq_10_3, pq_10_4, pq_10_5, pq_10_6, pq_10_7, pq_10_8, pq_10_9, pq_10_10] (by rfl) gw_wsX8_isThrown
set_option maxRecDepth 20000 in
theorem gX8_read__X8_isThrown : GoodIn wsX8_read_ (wsV RX8 81 RX8 yX8_isThrown wsX8_isThrown) := goodIn_app (goodIn_s seX8_read_ _ [pq_1_12, pq_1_13, pq_1_14, pq_1_7] (by rfl) (by decide +kernel)) ggX8_read__X8_isThrown
set_option maxRecDepth 20000 in
theorem ggX8_read__X8_text : GoodIn wsX8_read_ wsX8_text := goodIn_s seX8_read_ _ [pq_1_20, pq_1_21, pq_1_22, pq_1_23, pq_2_0, pq_1_7, pq_2_1, pq_10_0, pq_10_1, pq_10_2, pq_10_3, pq_10_4, pq_10_5, pq_10_6, pq_10_7, pq_10_8, pq_10_9, pq_10_10] (by rfl) gw_wsX8_text
set_option maxRecDepth 20000 in
theorem gX8_read__X8_text : GoodIn wsX8_read_ (wsV RX8 58 RX8 yX8_text wsX8_text) := goodIn_app (goodIn_s seX8_read_ _ [pq_1_17, pq_1_18, pq_1_19, pq_1_7] (by rfl) (by decide +kernel)) ggX8_read__X8_text
set_option maxRecDepth 20000 in
theorem ggX8_read__X8_done : GoodIn wsX8_read_ wsX8_done := goodIn_s seX8_read_ _ [pq_2_5, pq_2_6, pq_10_0, pq_10_1, pq_10_2, pq_10_3, pq_10_4, pq_10_5, pq_10_6, pq_10_7, pq_10_8, pq_10_9, pq_10_10] (by rfl) gw_wsX8_done
set_option maxRecDepth 20000 in
theorem gX8_read__X8_done : GoodIn wsX8_read_ (wsV RX8 62 RX8 yX8_done wsX8_done) := goodIn_app (goodIn_s seX8_read_ _ [pq_2_2, pq_2_3, pq_2_4, pq_1_7] (by rfl) (by decide +kernel)) ggX8_read__X8_done
set_option maxRecDepth 20000 in
theorem ggX8_read__X8_told : GoodIn wsX8_read_ wsX8_told := goodIn_s seX8_read_ _ [pq_2_9, pq_2_10, pq_2_11, pq_2_12, pq_2_13, pq_2_14, pq_2_15, pq_2_16, pq_2_17, pq_2_18, pq_2_19, pq_2_20, pq_2_21, pq_2_22, pq_2_23, pq_3_0, pq_3_1, pq_3_2, pq_3_3, pq_3_4, pq_3_5, pq_3_6, pq_3_7, pq_3_8, pq_3_9, pq_3_10, pq_3_11, pq_3_12, pq_3_13, pq_3_14, pq_3_15, pq_3_16, pq_3_17, pq_3_18, pq_3_19, pq_3_20, pq_3_21, pq_3_22, pq_3_23, pq_4_0, pq_4_1, pq_4_2, pq_4_3, pq_4_4, pq_4_5, pq_4_6, pq_4_7, pq_4_8, pq_4_9, pq_4_10, pq_4_11, pq_4_12, pq_4_13, pq_1_3, pq_4_14, pq_4_15, pq_4_16, pq_4_17, pq_4_18, pq_4_19, pq_4_20, pq_4_21, pq_4_22, pq_4_23, pq_5_0, pq_5_1, pq_5_2, pq_5_3, pq_5_4, pq_5_5, pq_1_2, pq_1_4, pq_5_6, pq_5_7, pq_5_8, pq_5_9, pq_5_10, pq_5_11, pq_5_12, pq_5_13, pq_5_14, pq_5_15, pq_5_16, pq_5_17, pq_5_18, pq_5_19, pq_5_20, pq_5_21, pq_5_22, pq_5_23, pq_6_0, pq_6_1, pq_6_2, pq_6_3, pq_6_4, pq_6_5, pq_6_6, pq_6_7, pq_6_8, pq_6_9, pq_6_10, pq_6_11, pq_6_12, pq_6_13, pq_6_14, pq_6_15, pq_6_16, pq_6_17, pq_6_18, pq_6_19, pq_6_20, pq_6_21, pq_6_22, pq_6_23, pq_7_0, pq_7_1, pq_7_2, pq_7_3, pq_7_4, pq_7_5, pq_7_6, pq_7_7, pq_7_8, pq_7_9, pq_7_10, pq_7_11, pq_7_12, pq_7_13, pq_7_14, pq_7_15, pq_7_16, pq_7_17, pq_7_18, pq_7_19, pq_7_20, pq_7_21, pq_7_22, pq_7_23, pq_8_0, pq_8_1, pq_8_2, pq_8_3, pq_8_4, pq_8_5, pq_8_6, pq_8_7, pq_8_8, pq_8_9, pq_8_10, pq_8_11, pq_8_12, pq_8_13, pq_8_14, pq_8_15, pq_8_16, pq_8_17, pq_8_18, pq_8_19, pq_8_20, pq_8_21, pq_8_22, pq_8_23, pq_9_0, pq_9_1, pq_9_2, pq_9_3, pq_9_4, pq_9_5, pq_9_6, pq_9_7, pq_9_8, pq_9_9, pq_9_10, pq_9_11, pq_9_12, pq_9_13, pq_9_14, pq_9_15, pq_9_16, pq_9_17, pq_9_18, pq_9_19, pq_9_20, pq_9_21, pq_11_0, pq_11_1, pq_11_2, pq_11_3, pq_12_0, pq_12_1, pq_12_2, pq_12_3] (by rfl) gw_wsX8_told
set_option maxRecDepth 20000 in
theorem gX8_read__X8_told : GoodIn wsX8_read_ (va_wsS RX8 111 yX8_told wsX8_told) := goodIn_app (goodIn_s seX8_read_ _ [pq_2_7, pq_2_8, pq_1_7] (by rfl) (by decide +kernel)) ggX8_read__X8_told
noncomputable def sgX8_pour : List (List Cond) := [[.code yX8_pour cX8_pour 6 (some .int)], wsX8_pour_r1, wsX8_pour_r2, wsX80]
theorem seX8_pour : sgX8_pour.flatten = wsX8_pour := by simp only [sgX8_pour, wsX8_pour, List.flatten_cons, List.flatten_nil, List.append_assoc, List.append_nil, List.cons_append, List.nil_append]
set_option maxRecDepth 20000 in
theorem ggX8_pour_X8_isNoWindow : GoodIn wsX8_pour wsX8_isNoWindow := goodIn_s seX8_pour _ [pq_1_8, pq_1_9, pq_1_10, pq_1_7, pq_1_11] (by rfl) gw_wsX8_isNoWindow
set_option maxRecDepth 20000 in
theorem gX8_pour_X8_isNoWindow : GoodIn wsX8_pour (va_wsS RX8 77 yX8_isNoWindow wsX8_isNoWindow) := goodIn_app (goodIn_s seX8_pour _ [pq_1_5, pq_1_6, pq_1_7] (by rfl) (by decide +kernel)) ggX8_pour_X8_isNoWindow
set_option maxRecDepth 20000 in
theorem ggX8_pour_X8_isNo : GoodIn wsX8_pour wsX8_isNo := goodIn_s seX8_pour _ [pq_1_11] (by rfl) gw_wsX8_isNo
set_option maxRecDepth 20000 in
theorem gX8_pour_X8_isNo : GoodIn wsX8_pour (va_wsS RX8 41 yX8_isNo wsX8_isNo) := goodIn_app (goodIn_s seX8_pour _ [pq_1_9, pq_1_10, pq_1_7] (by rfl) (by decide +kernel)) ggX8_pour_X8_isNo
set_option maxRecDepth 20000 in
theorem ggX8_pour_X8_isThrown : GoodIn wsX8_pour wsX8_isThrown := goodIn_s seX8_pour _ [pq_1_15, pq_1_16, pq_3_0, pq_3_1, pq_3_2, pq_3_3, pq_3_4, pq_3_5, pq_3_6, pq_3_7, pq_3_8, pq_3_9, pq_3_10] (by rfl) gw_wsX8_isThrown
set_option maxRecDepth 20000 in
theorem gX8_pour_X8_isThrown : GoodIn wsX8_pour (wsV RX8 81 RX8 yX8_isThrown wsX8_isThrown) := goodIn_app (goodIn_s seX8_pour _ [pq_1_12, pq_1_13, pq_1_14, pq_1_7] (by rfl) (by decide +kernel)) ggX8_pour_X8_isThrown
set_option maxRecDepth 20000 in
theorem ggX8_pour_X8_length : GoodIn wsX8_pour wsX8_length := goodIn_s seX8_pour _ [pq_1_19] (by rfl) gw_wsX8_length
set_option maxRecDepth 20000 in
theorem gX8_pour_X8_length : GoodIn wsX8_pour (va_wsS RX8 54 yX8_length wsX8_length) := goodIn_app (goodIn_s seX8_pour _ [pq_1_17, pq_1_18, pq_1_7] (by rfl) (by decide +kernel)) ggX8_pour_X8_length
set_option maxRecDepth 20000 in
theorem ggX8_pour_X8_read : GoodIn wsX8_pour wsX8_read := goodIn_s seX8_pour _ [pq_1_23, pq_2_0, pq_3_0, pq_3_1, pq_3_2, pq_3_3, pq_3_4, pq_3_5, pq_3_6, pq_3_7, pq_3_8, pq_3_9, pq_3_10] (by rfl) gw_wsX8_read
set_option maxRecDepth 20000 in
theorem gX8_pour_X8_read : GoodIn wsX8_pour (wsV RX8 106 RX8 yX8_read wsX8_read) := goodIn_app (goodIn_s seX8_pour _ [pq_1_20, pq_1_21, pq_1_22, pq_1_7] (by rfl) (by decide +kernel)) ggX8_pour_X8_read
set_option maxRecDepth 20000 in
theorem ggX8_pour_X8_write : GoodIn wsX8_pour wsX8_write := goodIn_s seX8_pour _ [pq_2_4, pq_2_0, pq_3_0, pq_3_1, pq_3_2, pq_3_3, pq_3_4, pq_3_5, pq_3_6, pq_3_7, pq_3_8, pq_3_9, pq_3_10] (by rfl) gw_wsX8_write
set_option maxRecDepth 20000 in
theorem gX8_pour_X8_write : GoodIn wsX8_pour (wsV RX8 93 RX8 yX8_write wsX8_write) := goodIn_app (goodIn_s seX8_pour _ [pq_2_1, pq_2_2, pq_2_3, pq_1_7] (by rfl) (by decide +kernel)) ggX8_pour_X8_write
set_option maxRecDepth 20000 in
theorem ggX8_pour_X8_done : GoodIn wsX8_pour wsX8_done := goodIn_s seX8_pour _ [pq_2_8, pq_2_9, pq_3_0, pq_3_1, pq_3_2, pq_3_3, pq_3_4, pq_3_5, pq_3_6, pq_3_7, pq_3_8, pq_3_9, pq_3_10] (by rfl) gw_wsX8_done
set_option maxRecDepth 20000 in
theorem gX8_pour_X8_done : GoodIn wsX8_pour (wsV RX8 62 RX8 yX8_done wsX8_done) := goodIn_app (goodIn_s seX8_pour _ [pq_2_5, pq_2_6, pq_2_7, pq_1_7] (by rfl) (by decide +kernel)) ggX8_pour_X8_done
noncomputable def sgX8_mark : List (List Cond) := [[.code yX8_mark cX8_mark 3 (some .int)], [.fieldLink RX8 14 "SashwordsModel" "windows" "[[I", .methodLink RX8 77 yX8_isNoWindow, .static yX8_isNoWindow, .initialized RX8, .code yX8_isNoWindow cX8_isNoWindow 1 (some .boolean), .methodLink RX8 41 yX8_isNo, .static yX8_isNo, .code yX8_isNo cX8_isNo 3 (some .boolean), .methodLink RX8 81 yX8_isThrown, .instanceMethod yX8_isThrown, .selects RX8 yX8_isThrown yX8_isThrown, .code yX8_isThrown cX8_isThrown 3 (some .boolean), .fieldLink RX8 38 "SashwordsModel" "thrown" "I", .methodLink RX8 62 yX8_done, .instanceMethod yX8_done, .selects RX8 yX8_done yX8_done, .code yX8_done cX8_done 2 (some .int), .fieldLink RX8 31 "SashwordsModel" "tallies" "[I"], wsX80]
theorem seX8_mark : sgX8_mark.flatten = wsX8_mark := by simp only [sgX8_mark, wsX8_mark, List.flatten_cons, List.flatten_nil, List.append_assoc, List.append_nil, List.cons_append, List.nil_append]
set_option maxRecDepth 20000 in
theorem ggX8_mark_X8_isNoWindow : GoodIn wsX8_mark wsX8_isNoWindow := goodIn_s seX8_mark _ [pq_1_4, pq_1_5, pq_1_6, pq_1_3, pq_1_7] (by rfl) gw_wsX8_isNoWindow
set_option maxRecDepth 20000 in
theorem gX8_mark_X8_isNoWindow : GoodIn wsX8_mark (va_wsS RX8 77 yX8_isNoWindow wsX8_isNoWindow) := goodIn_app (goodIn_s seX8_mark _ [pq_1_1, pq_1_2, pq_1_3] (by rfl) (by decide +kernel)) ggX8_mark_X8_isNoWindow
set_option maxRecDepth 20000 in
theorem ggX8_mark_X8_isThrown : GoodIn wsX8_mark wsX8_isThrown := goodIn_s seX8_mark _ [pq_1_11, pq_1_12, pq_2_0, pq_2_1, pq_2_2, pq_2_3, pq_2_4, pq_2_5, pq_2_6, pq_2_7, pq_2_8, pq_2_9, pq_2_10] (by rfl) gw_wsX8_isThrown
set_option maxRecDepth 20000 in
theorem gX8_mark_X8_isThrown : GoodIn wsX8_mark (wsV RX8 81 RX8 yX8_isThrown wsX8_isThrown) := goodIn_app (goodIn_s seX8_mark _ [pq_1_8, pq_1_9, pq_1_10, pq_1_3] (by rfl) (by decide +kernel)) ggX8_mark_X8_isThrown
set_option maxRecDepth 20000 in
theorem ggX8_mark_X8_done : GoodIn wsX8_mark wsX8_done := goodIn_s seX8_mark _ [pq_1_16, pq_1_17, pq_2_0, pq_2_1, pq_2_2, pq_2_3, pq_2_4, pq_2_5, pq_2_6, pq_2_7, pq_2_8, pq_2_9, pq_2_10] (by rfl) gw_wsX8_done
set_option maxRecDepth 20000 in
theorem gX8_mark_X8_done : GoodIn wsX8_mark (wsV RX8 62 RX8 yX8_done wsX8_done) := goodIn_app (goodIn_s seX8_mark _ [pq_1_13, pq_1_14, pq_1_15, pq_1_3] (by rfl) (by decide +kernel)) ggX8_mark_X8_done
noncomputable def sgX8_reset : List (List Cond) := [[.code yX8_reset cX8_reset 3 (some .int)], [.fieldLink RX8 14 "SashwordsModel" "windows" "[[I", .methodLink RX8 77 yX8_isNoWindow, .static yX8_isNoWindow, .initialized RX8, .code yX8_isNoWindow cX8_isNoWindow 1 (some .boolean), .methodLink RX8 41 yX8_isNo, .static yX8_isNo, .code yX8_isNo cX8_isNo 3 (some .boolean), .methodLink RX8 81 yX8_isThrown, .instanceMethod yX8_isThrown, .selects RX8 yX8_isThrown yX8_isThrown, .code yX8_isThrown cX8_isThrown 3 (some .boolean), .fieldLink RX8 38 "SashwordsModel" "thrown" "I", .methodLink RX8 89 yX8_refused, .instanceMethod yX8_refused, .selects RX8 yX8_refused yX8_refused, .code yX8_refused cX8_refused 1 (some .int), .fieldLink RX8 31 "SashwordsModel" "tallies" "[I", .methodLink RX8 62 yX8_done, .instanceMethod yX8_done, .selects RX8 yX8_done yX8_done, .code yX8_done cX8_done 2 (some .int)], wsX80]
theorem seX8_reset : sgX8_reset.flatten = wsX8_reset := by simp only [sgX8_reset, wsX8_reset, List.flatten_cons, List.flatten_nil, List.append_assoc, List.append_nil, List.cons_append, List.nil_append]
set_option maxRecDepth 20000 in
theorem ggX8_reset_X8_isNoWindow : GoodIn wsX8_reset wsX8_isNoWindow := goodIn_s seX8_reset _ [pq_1_4, pq_1_5, pq_1_6, pq_1_3, pq_1_7] (by rfl) gw_wsX8_isNoWindow
set_option maxRecDepth 20000 in
theorem gX8_reset_X8_isNoWindow : GoodIn wsX8_reset (va_wsS RX8 77 yX8_isNoWindow wsX8_isNoWindow) := goodIn_app (goodIn_s seX8_reset _ [pq_1_1, pq_1_2, pq_1_3] (by rfl) (by decide +kernel)) ggX8_reset_X8_isNoWindow
set_option maxRecDepth 20000 in
theorem ggX8_reset_X8_isThrown : GoodIn wsX8_reset wsX8_isThrown := goodIn_s seX8_reset _ [pq_1_11, pq_1_12, pq_2_0, pq_2_1, pq_2_2, pq_2_3, pq_2_4, pq_2_5, pq_2_6, pq_2_7, pq_2_8, pq_2_9, pq_2_10] (by rfl) gw_wsX8_isThrown
set_option maxRecDepth 20000 in
theorem gX8_reset_X8_isThrown : GoodIn wsX8_reset (wsV RX8 81 RX8 yX8_isThrown wsX8_isThrown) := goodIn_app (goodIn_s seX8_reset _ [pq_1_8, pq_1_9, pq_1_10, pq_1_3] (by rfl) (by decide +kernel)) ggX8_reset_X8_isThrown
set_option maxRecDepth 20000 in
theorem ggX8_reset_X8_refused : GoodIn wsX8_reset wsX8_refused := goodIn_s seX8_reset _ [pq_1_16, pq_1_17, pq_2_0, pq_2_1, pq_2_2, pq_2_3, pq_2_4, pq_2_5, pq_2_6, pq_2_7, pq_2_8, pq_2_9, pq_2_10] (by rfl) gw_wsX8_refused
set_option maxRecDepth 20000 in
theorem gX8_reset_X8_refused : GoodIn wsX8_reset (wsV RX8 89 RX8 yX8_refused wsX8_refused) := goodIn_app (goodIn_s seX8_reset _ [pq_1_13, pq_1_14, pq_1_15, pq_1_3] (by rfl) (by decide +kernel)) ggX8_reset_X8_refused
set_option maxRecDepth 20000 in
theorem ggX8_reset_X8_done : GoodIn wsX8_reset wsX8_done := goodIn_s seX8_reset _ [pq_1_21, pq_1_17, pq_2_0, pq_2_1, pq_2_2, pq_2_3, pq_2_4, pq_2_5, pq_2_6, pq_2_7, pq_2_8, pq_2_9, pq_2_10] (by rfl) gw_wsX8_done
set_option maxRecDepth 20000 in
theorem gX8_reset_X8_done : GoodIn wsX8_reset (wsV RX8 62 RX8 yX8_done wsX8_done) := goodIn_app (goodIn_s seX8_reset _ [pq_1_18, pq_1_19, pq_1_20, pq_1_3] (by rfl) (by decide +kernel)) ggX8_reset_X8_done
noncomputable def sgX8_rewind : List (List Cond) := [[.code yX8_rewind cX8_rewind 3 (some .int)], [.fieldLink RX8 14 "SashwordsModel" "windows" "[[I", .methodLink RX8 77 yX8_isNoWindow, .static yX8_isNoWindow, .initialized RX8, .code yX8_isNoWindow cX8_isNoWindow 1 (some .boolean), .methodLink RX8 41 yX8_isNo, .static yX8_isNo, .code yX8_isNo cX8_isNo 3 (some .boolean), .methodLink RX8 81 yX8_isThrown, .instanceMethod yX8_isThrown, .selects RX8 yX8_isThrown yX8_isThrown, .code yX8_isThrown cX8_isThrown 3 (some .boolean), .fieldLink RX8 38 "SashwordsModel" "thrown" "I", .methodLink RX8 115 yX8_place, .static yX8_place, .code yX8_place cX8_place 4 none, .methodLink RX8 54 yX8_length, .static yX8_length, .code yX8_length cX8_length 1 (some .int), .methodLink RX8 62 yX8_done, .instanceMethod yX8_done, .selects RX8 yX8_done yX8_done, .code yX8_done cX8_done 2 (some .int), .fieldLink RX8 31 "SashwordsModel" "tallies" "[I"], wsX80]
theorem seX8_rewind : sgX8_rewind.flatten = wsX8_rewind := by simp only [sgX8_rewind, wsX8_rewind, List.flatten_cons, List.flatten_nil, List.append_assoc, List.append_nil, List.cons_append, List.nil_append]
set_option maxRecDepth 20000 in
theorem ggX8_rewind_X8_isNoWindow : GoodIn wsX8_rewind wsX8_isNoWindow := goodIn_s seX8_rewind _ [pq_1_4, pq_1_5, pq_1_6, pq_1_3, pq_1_7] (by rfl) gw_wsX8_isNoWindow
set_option maxRecDepth 20000 in
theorem gX8_rewind_X8_isNoWindow : GoodIn wsX8_rewind (va_wsS RX8 77 yX8_isNoWindow wsX8_isNoWindow) := goodIn_app (goodIn_s seX8_rewind _ [pq_1_1, pq_1_2, pq_1_3] (by rfl) (by decide +kernel)) ggX8_rewind_X8_isNoWindow
set_option maxRecDepth 20000 in
theorem ggX8_rewind_X8_isThrown : GoodIn wsX8_rewind wsX8_isThrown := goodIn_s seX8_rewind _ [pq_1_11, pq_1_12, pq_2_0, pq_2_1, pq_2_2, pq_2_3, pq_2_4, pq_2_5, pq_2_6, pq_2_7, pq_2_8, pq_2_9, pq_2_10] (by rfl) gw_wsX8_isThrown
set_option maxRecDepth 20000 in
theorem gX8_rewind_X8_isThrown : GoodIn wsX8_rewind (wsV RX8 81 RX8 yX8_isThrown wsX8_isThrown) := goodIn_app (goodIn_s seX8_rewind _ [pq_1_8, pq_1_9, pq_1_10, pq_1_3] (by rfl) (by decide +kernel)) ggX8_rewind_X8_isThrown
set_option maxRecDepth 20000 in
theorem ggX8_rewind_X8_place : GoodIn wsX8_rewind wsX8_place := goodIn_s seX8_rewind _ [pq_1_15] (by rfl) gw_wsX8_place
set_option maxRecDepth 20000 in
theorem gX8_rewind_X8_place : GoodIn wsX8_rewind (va_wsS RX8 115 yX8_place wsX8_place) := goodIn_app (goodIn_s seX8_rewind _ [pq_1_13, pq_1_14, pq_1_3] (by rfl) (by decide +kernel)) ggX8_rewind_X8_place
set_option maxRecDepth 20000 in
theorem ggX8_rewind_X8_length : GoodIn wsX8_rewind wsX8_length := goodIn_s seX8_rewind _ [pq_1_18] (by rfl) gw_wsX8_length
set_option maxRecDepth 20000 in
theorem gX8_rewind_X8_length : GoodIn wsX8_rewind (va_wsS RX8 54 yX8_length wsX8_length) := goodIn_app (goodIn_s seX8_rewind _ [pq_1_16, pq_1_17, pq_1_3] (by rfl) (by decide +kernel)) ggX8_rewind_X8_length
set_option maxRecDepth 20000 in
theorem ggX8_rewind_X8_done : GoodIn wsX8_rewind wsX8_done := goodIn_s seX8_rewind _ [pq_1_22, pq_1_23, pq_2_0, pq_2_1, pq_2_2, pq_2_3, pq_2_4, pq_2_5, pq_2_6, pq_2_7, pq_2_8, pq_2_9, pq_2_10] (by rfl) gw_wsX8_done
set_option maxRecDepth 20000 in
theorem gX8_rewind_X8_done : GoodIn wsX8_rewind (wsV RX8 62 RX8 yX8_done wsX8_done) := goodIn_app (goodIn_s seX8_rewind _ [pq_1_19, pq_1_20, pq_1_21, pq_1_3] (by rfl) (by decide +kernel)) ggX8_rewind_X8_done
noncomputable def sgX8_flip : List (List Cond) := [[.code yX8_flip cX8_flip 3 (some .int)], [.fieldLink RX8 14 "SashwordsModel" "windows" "[[I", .methodLink RX8 77 yX8_isNoWindow, .static yX8_isNoWindow, .initialized RX8, .code yX8_isNoWindow cX8_isNoWindow 1 (some .boolean), .methodLink RX8 41 yX8_isNo, .static yX8_isNo, .code yX8_isNo cX8_isNo 3 (some .boolean), .methodLink RX8 81 yX8_isThrown, .instanceMethod yX8_isThrown, .selects RX8 yX8_isThrown yX8_isThrown, .code yX8_isThrown cX8_isThrown 3 (some .boolean), .fieldLink RX8 38 "SashwordsModel" "thrown" "I", .methodLink RX8 115 yX8_place, .static yX8_place, .code yX8_place cX8_place 4 none, .methodLink RX8 54 yX8_length, .static yX8_length, .code yX8_length cX8_length 1 (some .int), .methodLink RX8 62 yX8_done, .instanceMethod yX8_done, .selects RX8 yX8_done yX8_done, .code yX8_done cX8_done 2 (some .int), .fieldLink RX8 31 "SashwordsModel" "tallies" "[I"], wsX80]
theorem seX8_flip : sgX8_flip.flatten = wsX8_flip := by simp only [sgX8_flip, wsX8_flip, List.flatten_cons, List.flatten_nil, List.append_assoc, List.append_nil, List.cons_append, List.nil_append]
set_option maxRecDepth 20000 in
theorem ggX8_flip_X8_isNoWindow : GoodIn wsX8_flip wsX8_isNoWindow := goodIn_s seX8_flip _ [pq_1_4, pq_1_5, pq_1_6, pq_1_3, pq_1_7] (by rfl) gw_wsX8_isNoWindow
set_option maxRecDepth 20000 in
theorem gX8_flip_X8_isNoWindow : GoodIn wsX8_flip (va_wsS RX8 77 yX8_isNoWindow wsX8_isNoWindow) := goodIn_app (goodIn_s seX8_flip _ [pq_1_1, pq_1_2, pq_1_3] (by rfl) (by decide +kernel)) ggX8_flip_X8_isNoWindow
set_option maxRecDepth 20000 in
theorem ggX8_flip_X8_isThrown : GoodIn wsX8_flip wsX8_isThrown := goodIn_s seX8_flip _ [pq_1_11, pq_1_12, pq_2_0, pq_2_1, pq_2_2, pq_2_3, pq_2_4, pq_2_5, pq_2_6, pq_2_7, pq_2_8, pq_2_9, pq_2_10] (by rfl) gw_wsX8_isThrown
set_option maxRecDepth 20000 in
theorem gX8_flip_X8_isThrown : GoodIn wsX8_flip (wsV RX8 81 RX8 yX8_isThrown wsX8_isThrown) := goodIn_app (goodIn_s seX8_flip _ [pq_1_8, pq_1_9, pq_1_10, pq_1_3] (by rfl) (by decide +kernel)) ggX8_flip_X8_isThrown
set_option maxRecDepth 20000 in
theorem ggX8_flip_X8_place : GoodIn wsX8_flip wsX8_place := goodIn_s seX8_flip _ [pq_1_15] (by rfl) gw_wsX8_place
set_option maxRecDepth 20000 in
theorem gX8_flip_X8_place : GoodIn wsX8_flip (va_wsS RX8 115 yX8_place wsX8_place) := goodIn_app (goodIn_s seX8_flip _ [pq_1_13, pq_1_14, pq_1_3] (by rfl) (by decide +kernel)) ggX8_flip_X8_place
set_option maxRecDepth 20000 in
theorem ggX8_flip_X8_length : GoodIn wsX8_flip wsX8_length := goodIn_s seX8_flip _ [pq_1_18] (by rfl) gw_wsX8_length
set_option maxRecDepth 20000 in
theorem gX8_flip_X8_length : GoodIn wsX8_flip (va_wsS RX8 54 yX8_length wsX8_length) := goodIn_app (goodIn_s seX8_flip _ [pq_1_16, pq_1_17, pq_1_3] (by rfl) (by decide +kernel)) ggX8_flip_X8_length
set_option maxRecDepth 20000 in
theorem ggX8_flip_X8_done : GoodIn wsX8_flip wsX8_done := goodIn_s seX8_flip _ [pq_1_22, pq_1_23, pq_2_0, pq_2_1, pq_2_2, pq_2_3, pq_2_4, pq_2_5, pq_2_6, pq_2_7, pq_2_8, pq_2_9, pq_2_10] (by rfl) gw_wsX8_done
set_option maxRecDepth 20000 in
theorem gX8_flip_X8_done : GoodIn wsX8_flip (wsV RX8 62 RX8 yX8_done wsX8_done) := goodIn_app (goodIn_s seX8_flip _ [pq_1_19, pq_1_20, pq_1_21, pq_1_3] (by rfl) (by decide +kernel)) ggX8_flip_X8_done
noncomputable def sgX8_compact : List (List Cond) := [[.code yX8_compact cX8_compact 5 (some .int)], wsX8_compact_r1, wsX8_compact_r2, wsX80]
theorem seX8_compact : sgX8_compact.flatten = wsX8_compact := by simp only [sgX8_compact, wsX8_compact, List.flatten_cons, List.flatten_nil, List.append_assoc, List.append_nil, List.cons_append, List.nil_append]
set_option maxRecDepth 20000 in
theorem ggX8_compact_X8_isNoWindow : GoodIn wsX8_compact wsX8_isNoWindow := goodIn_s seX8_compact _ [pq_1_5, pq_1_6, pq_1_7, pq_1_4, pq_1_8] (by rfl) gw_wsX8_isNoWindow
set_option maxRecDepth 20000 in
theorem gX8_compact_X8_isNoWindow : GoodIn wsX8_compact (va_wsS RX8 77 yX8_isNoWindow wsX8_isNoWindow) := goodIn_app (goodIn_s seX8_compact _ [pq_1_2, pq_1_3, pq_1_4] (by rfl) (by decide +kernel)) ggX8_compact_X8_isNoWindow
set_option maxRecDepth 20000 in
theorem ggX8_compact_X8_isThrown : GoodIn wsX8_compact wsX8_isThrown := goodIn_s seX8_compact _ [pq_1_12, pq_1_13, pq_3_0, pq_3_1, pq_3_2, pq_3_3, pq_3_4, pq_3_5, pq_3_6, pq_3_7, pq_3_8, pq_3_9, pq_3_10] (by rfl) gw_wsX8_isThrown
set_option maxRecDepth 20000 in
theorem gX8_compact_X8_isThrown : GoodIn wsX8_compact (wsV RX8 81 RX8 yX8_isThrown wsX8_isThrown) := goodIn_app (goodIn_s seX8_compact _ [pq_1_9, pq_1_10, pq_1_11, pq_1_4] (by rfl) (by decide +kernel)) ggX8_compact_X8_isThrown
set_option maxRecDepth 20000 in
theorem ggX8_compact_X8_text : GoodIn wsX8_compact wsX8_text := goodIn_s seX8_compact _ [pq_1_17, pq_1_18, pq_1_1, pq_1_19, pq_1_20, pq_1_4, pq_1_21, pq_3_0, pq_3_1, pq_3_2, pq_3_3, pq_3_4, pq_3_5, pq_3_6, pq_3_7, pq_3_8, pq_3_9, pq_3_10] (by rfl) gw_wsX8_text
set_option maxRecDepth 20000 in
theorem gX8_compact_X8_text : GoodIn wsX8_compact (wsV RX8 58 RX8 yX8_text wsX8_text) := goodIn_app (goodIn_s seX8_compact _ [pq_1_14, pq_1_15, pq_1_16, pq_1_4] (by rfl) (by decide +kernel)) ggX8_compact_X8_text
set_option maxRecDepth 20000 in
theorem ggX8_compact_X8_place : GoodIn wsX8_compact wsX8_place := goodIn_s seX8_compact _ [pq_2_0] (by rfl) gw_wsX8_place
set_option maxRecDepth 20000 in
theorem gX8_compact_X8_place : GoodIn wsX8_compact (va_wsS RX8 115 yX8_place wsX8_place) := goodIn_app (goodIn_s seX8_compact _ [pq_1_22, pq_1_23, pq_1_4] (by rfl) (by decide +kernel)) ggX8_compact_X8_place
set_option maxRecDepth 20000 in
theorem ggX8_compact_X8_done : GoodIn wsX8_compact wsX8_done := goodIn_s seX8_compact _ [pq_2_4, pq_2_5, pq_3_0, pq_3_1, pq_3_2, pq_3_3, pq_3_4, pq_3_5, pq_3_6, pq_3_7, pq_3_8, pq_3_9, pq_3_10] (by rfl) gw_wsX8_done
set_option maxRecDepth 20000 in
theorem gX8_compact_X8_done : GoodIn wsX8_compact (wsV RX8 62 RX8 yX8_done wsX8_done) := goodIn_app (goodIn_s seX8_compact _ [pq_2_1, pq_2_2, pq_2_3, pq_1_4] (by rfl) (by decide +kernel)) ggX8_compact_X8_done
noncomputable def sgX8_open : List (List Cond) := [[.code yX8_open cX8_open 3 (some .int)], [.fieldLink RX8 14 "SashwordsModel" "windows" "[[I", .methodLink RX8 77 yX8_isNoWindow, .static yX8_isNoWindow, .initialized RX8, .code yX8_isNoWindow cX8_isNoWindow 1 (some .boolean), .methodLink RX8 41 yX8_isNo, .static yX8_isNo, .code yX8_isNo cX8_isNo 3 (some .boolean), .methodLink RX8 81 yX8_isThrown, .instanceMethod yX8_isThrown, .selects RX8 yX8_isThrown yX8_isThrown, .code yX8_isThrown cX8_isThrown 3 (some .boolean), .fieldLink RX8 38 "SashwordsModel" "thrown" "I", .methodLink RX8 115 yX8_place, .static yX8_place, .code yX8_place cX8_place 4 none, .methodLink RX8 54 yX8_length, .static yX8_length, .code yX8_length cX8_length 1 (some .int), .methodLink RX8 62 yX8_done, .instanceMethod yX8_done, .selects RX8 yX8_done yX8_done, .code yX8_done cX8_done 2 (some .int), .fieldLink RX8 31 "SashwordsModel" "tallies" "[I"], wsX80]
theorem seX8_open : sgX8_open.flatten = wsX8_open := by simp only [sgX8_open, wsX8_open, List.flatten_cons, List.flatten_nil, List.append_assoc, List.append_nil, List.cons_append, List.nil_append]
set_option maxRecDepth 20000 in
theorem ggX8_open_X8_isNoWindow : GoodIn wsX8_open wsX8_isNoWindow := goodIn_s seX8_open _ [pq_1_4, pq_1_5, pq_1_6, pq_1_3, pq_1_7] (by rfl) gw_wsX8_isNoWindow
set_option maxRecDepth 20000 in
theorem gX8_open_X8_isNoWindow : GoodIn wsX8_open (va_wsS RX8 77 yX8_isNoWindow wsX8_isNoWindow) := goodIn_app (goodIn_s seX8_open _ [pq_1_1, pq_1_2, pq_1_3] (by rfl) (by decide +kernel)) ggX8_open_X8_isNoWindow
set_option maxRecDepth 20000 in
theorem ggX8_open_X8_isThrown : GoodIn wsX8_open wsX8_isThrown := goodIn_s seX8_open _ [pq_1_11, pq_1_12, pq_2_0, pq_2_1, pq_2_2, pq_2_3, pq_2_4, pq_2_5, pq_2_6, pq_2_7, pq_2_8, pq_2_9, pq_2_10] (by rfl) gw_wsX8_isThrown
set_option maxRecDepth 20000 in
theorem gX8_open_X8_isThrown : GoodIn wsX8_open (wsV RX8 81 RX8 yX8_isThrown wsX8_isThrown) := goodIn_app (goodIn_s seX8_open _ [pq_1_8, pq_1_9, pq_1_10, pq_1_3] (by rfl) (by decide +kernel)) ggX8_open_X8_isThrown
set_option maxRecDepth 20000 in
theorem ggX8_open_X8_place : GoodIn wsX8_open wsX8_place := goodIn_s seX8_open _ [pq_1_15] (by rfl) gw_wsX8_place
set_option maxRecDepth 20000 in
theorem gX8_open_X8_place : GoodIn wsX8_open (va_wsS RX8 115 yX8_place wsX8_place) := goodIn_app (goodIn_s seX8_open _ [pq_1_13, pq_1_14, pq_1_3] (by rfl) (by decide +kernel)) ggX8_open_X8_place
set_option maxRecDepth 20000 in
theorem ggX8_open_X8_length : GoodIn wsX8_open wsX8_length := goodIn_s seX8_open _ [pq_1_18] (by rfl) gw_wsX8_length
set_option maxRecDepth 20000 in
theorem gX8_open_X8_length : GoodIn wsX8_open (va_wsS RX8 54 yX8_length wsX8_length) := goodIn_app (goodIn_s seX8_open _ [pq_1_16, pq_1_17, pq_1_3] (by rfl) (by decide +kernel)) ggX8_open_X8_length
set_option maxRecDepth 20000 in
theorem ggX8_open_X8_done : GoodIn wsX8_open wsX8_done := goodIn_s seX8_open _ [pq_1_22, pq_1_23, pq_2_0, pq_2_1, pq_2_2, pq_2_3, pq_2_4, pq_2_5, pq_2_6, pq_2_7, pq_2_8, pq_2_9, pq_2_10] (by rfl) gw_wsX8_done
set_option maxRecDepth 20000 in
theorem gX8_open_X8_done : GoodIn wsX8_open (wsV RX8 62 RX8 yX8_done wsX8_done) := goodIn_app (goodIn_s seX8_open _ [pq_1_19, pq_1_20, pq_1_21, pq_1_3] (by rfl) (by decide +kernel)) ggX8_open_X8_done
noncomputable def sgX8_keep : List (List Cond) := [[.code yX8_keep cX8_keep 2 (some .int)], wsX8_keep_r1, wsX8_keep_r2, wsX80]
theorem seX8_keep : sgX8_keep.flatten = wsX8_keep := by simp only [sgX8_keep, wsX8_keep, List.flatten_cons, List.flatten_nil, List.append_assoc, List.append_nil, List.cons_append, List.nil_append]
set_option maxRecDepth 20000 in
theorem ggX8_keep_X8_isNoSource : GoodIn wsX8_keep wsX8_isNoSource := goodIn_s seX8_keep _ [pq_1_5, pq_1_6, pq_1_7, pq_1_4, pq_1_8] (by rfl) gw_wsX8_isNoSource
set_option maxRecDepth 20000 in
theorem gX8_keep_X8_isNoSource : GoodIn wsX8_keep (va_wsS RX8 119 yX8_isNoSource wsX8_isNoSource) := goodIn_app (goodIn_s seX8_keep _ [pq_1_2, pq_1_3, pq_1_4] (by rfl) (by decide +kernel)) ggX8_keep_X8_isNoSource
set_option maxRecDepth 20000 in
theorem ggX8_keep_X8_isThrown : GoodIn wsX8_keep wsX8_isThrown := goodIn_s seX8_keep _ [pq_1_12, pq_1_13, pq_3_0, pq_3_1, pq_3_2, pq_3_3, pq_3_4, pq_3_5, pq_3_6, pq_3_7, pq_3_8, pq_3_9, pq_3_10] (by rfl) gw_wsX8_isThrown
set_option maxRecDepth 20000 in
theorem gX8_keep_X8_isThrown : GoodIn wsX8_keep (wsV RX8 81 RX8 yX8_isThrown wsX8_isThrown) := goodIn_app (goodIn_s seX8_keep _ [pq_1_9, pq_1_10, pq_1_11, pq_1_4] (by rfl) (by decide +kernel)) ggX8_keep_X8_isThrown
set_option maxRecDepth 20000 in
theorem ggX8_keep_X8_textOf : GoodIn wsX8_keep wsX8_textOf := goodIn_s seX8_keep _ [pq_1_17, pq_1_18, pq_1_1, pq_1_19, pq_1_20, pq_1_21, pq_1_22, pq_1_4, pq_1_23, pq_1_0, pq_2_0, pq_2_1, pq_2_2, pq_2_3, pq_3_0, pq_3_1, pq_3_2, pq_3_3, pq_3_4, pq_3_5, pq_3_6, pq_3_7, pq_3_8, pq_3_9, pq_3_10] (by rfl) gw_wsX8_textOf
set_option maxRecDepth 20000 in
theorem gX8_keep_X8_textOf : GoodIn wsX8_keep (wsV RX8 122 RX8 yX8_textOf wsX8_textOf) := goodIn_app (goodIn_s seX8_keep _ [pq_1_14, pq_1_15, pq_1_16, pq_1_4] (by rfl) (by decide +kernel)) ggX8_keep_X8_textOf
set_option maxRecDepth 20000 in
theorem ggX8_keep_X8_joined : GoodIn wsX8_keep wsX8_joined := goodIn_s seX8_keep _ [pq_2_6, pq_1_0] (by rfl) gw_wsX8_joined
set_option maxRecDepth 20000 in
theorem gX8_keep_X8_joined : GoodIn wsX8_keep (va_wsS RX8 125 yX8_joined wsX8_joined) := goodIn_app (goodIn_s seX8_keep _ [pq_2_4, pq_2_5, pq_1_4] (by rfl) (by decide +kernel)) ggX8_keep_X8_joined
set_option maxRecDepth 20000 in
theorem ggX8_keep_X8_done : GoodIn wsX8_keep wsX8_done := goodIn_s seX8_keep _ [pq_2_10, pq_2_11, pq_3_0, pq_3_1, pq_3_2, pq_3_3, pq_3_4, pq_3_5, pq_3_6, pq_3_7, pq_3_8, pq_3_9, pq_3_10] (by rfl) gw_wsX8_done
set_option maxRecDepth 20000 in
theorem gX8_keep_X8_done : GoodIn wsX8_keep (wsV RX8 62 RX8 yX8_done wsX8_done) := goodIn_app (goodIn_s seX8_keep _ [pq_2_7, pq_2_8, pq_2_9, pq_1_4] (by rfl) (by decide +kernel)) ggX8_keep_X8_done
noncomputable def sgX8_load : List (List Cond) := [[.code yX8_load cX8_load 2 (some .int)], wsX8_load_r1, wsX8_load_r2, wsX80]
theorem seX8_load : sgX8_load.flatten = wsX8_load := by simp only [sgX8_load, wsX8_load, List.flatten_cons, List.flatten_nil, List.append_assoc, List.append_nil, List.cons_append, List.nil_append]
set_option maxRecDepth 20000 in
theorem ggX8_load_X8_isNoSource : GoodIn wsX8_load wsX8_isNoSource := goodIn_s seX8_load _ [pq_1_5, pq_1_6, pq_1_7, pq_1_4, pq_1_8] (by rfl) gw_wsX8_isNoSource
set_option maxRecDepth 20000 in
theorem gX8_load_X8_isNoSource : GoodIn wsX8_load (va_wsS RX8 119 yX8_isNoSource wsX8_isNoSource) := goodIn_app (goodIn_s seX8_load _ [pq_1_2, pq_1_3, pq_1_4] (by rfl) (by decide +kernel)) ggX8_load_X8_isNoSource
set_option maxRecDepth 20000 in
theorem ggX8_load_X8_isThrown : GoodIn wsX8_load wsX8_isThrown := goodIn_s seX8_load _ [pq_1_12, pq_1_13, pq_3_0, pq_3_1, pq_3_2, pq_3_3, pq_3_4, pq_3_5, pq_3_6, pq_3_7, pq_3_8, pq_3_9, pq_3_10] (by rfl) gw_wsX8_isThrown
set_option maxRecDepth 20000 in
theorem gX8_load_X8_isThrown : GoodIn wsX8_load (wsV RX8 81 RX8 yX8_isThrown wsX8_isThrown) := goodIn_app (goodIn_s seX8_load _ [pq_1_9, pq_1_10, pq_1_11, pq_1_4] (by rfl) (by decide +kernel)) ggX8_load_X8_isThrown
set_option maxRecDepth 20000 in
theorem ggX8_load_X8_textOf : GoodIn wsX8_load wsX8_textOf := goodIn_s seX8_load _ [pq_1_17, pq_1_1, pq_1_18, pq_1_19, pq_1_20, pq_1_21, pq_1_22, pq_1_4, pq_1_23, pq_1_0, pq_2_0, pq_2_1, pq_2_2, pq_2_3, pq_3_0, pq_3_1, pq_3_2, pq_3_3, pq_3_4, pq_3_5, pq_3_6, pq_3_7, pq_3_8, pq_3_9, pq_3_10] (by rfl) gw_wsX8_textOf
set_option maxRecDepth 20000 in
theorem gX8_load_X8_textOf : GoodIn wsX8_load (wsV RX8 122 RX8 yX8_textOf wsX8_textOf) := goodIn_app (goodIn_s seX8_load _ [pq_1_14, pq_1_15, pq_1_16, pq_1_4] (by rfl) (by decide +kernel)) ggX8_load_X8_textOf
set_option maxRecDepth 20000 in
theorem ggX8_load_X8_joined : GoodIn wsX8_load wsX8_joined := goodIn_s seX8_load _ [pq_2_6, pq_1_0] (by rfl) gw_wsX8_joined
set_option maxRecDepth 20000 in
theorem gX8_load_X8_joined : GoodIn wsX8_load (va_wsS RX8 125 yX8_joined wsX8_joined) := goodIn_app (goodIn_s seX8_load _ [pq_2_4, pq_2_5, pq_1_4] (by rfl) (by decide +kernel)) ggX8_load_X8_joined
set_option maxRecDepth 20000 in
theorem ggX8_load_X8_done : GoodIn wsX8_load wsX8_done := goodIn_s seX8_load _ [pq_2_10, pq_2_11, pq_3_0, pq_3_1, pq_3_2, pq_3_3, pq_3_4, pq_3_5, pq_3_6, pq_3_7, pq_3_8, pq_3_9, pq_3_10] (by rfl) gw_wsX8_done
set_option maxRecDepth 20000 in
theorem gX8_load_X8_done : GoodIn wsX8_load (wsV RX8 62 RX8 yX8_done wsX8_done) := goodIn_app (goodIn_s seX8_load _ [pq_2_7, pq_2_8, pq_2_9, pq_1_4] (by rfl) (by decide +kernel)) ggX8_load_X8_done
noncomputable def sgX8_build : List (List Cond) := [[.code yX8_build cX8_build 3 (some .int)], wsX8_build_r1, wsX8_build_r2, wsX80]
theorem seX8_build : sgX8_build.flatten = wsX8_build := by simp only [sgX8_build, wsX8_build, List.flatten_cons, List.flatten_nil, List.append_assoc, List.append_nil, List.cons_append, List.nil_append]
set_option maxRecDepth 20000 in
theorem ggX8_build_X8_isNoSource : GoodIn wsX8_build wsX8_isNoSource := goodIn_s seX8_build _ [pq_1_4, pq_1_5, pq_1_6, pq_1_3, pq_1_7] (by rfl) gw_wsX8_isNoSource
set_option maxRecDepth 20000 in
theorem gX8_build_X8_isNoSource : GoodIn wsX8_build (va_wsS RX8 119 yX8_isNoSource wsX8_isNoSource) := goodIn_app (goodIn_s seX8_build _ [pq_1_1, pq_1_2, pq_1_3] (by rfl) (by decide +kernel)) ggX8_build_X8_isNoSource
set_option maxRecDepth 20000 in
theorem ggX8_build_X8_isThrown : GoodIn wsX8_build wsX8_isThrown := goodIn_s seX8_build _ [pq_1_11, pq_1_12, pq_3_0, pq_3_1, pq_3_2, pq_3_3, pq_3_4, pq_3_5, pq_3_6, pq_3_7, pq_3_8, pq_3_9, pq_3_10] (by rfl) gw_wsX8_isThrown
set_option maxRecDepth 20000 in
theorem gX8_build_X8_isThrown : GoodIn wsX8_build (wsV RX8 81 RX8 yX8_isThrown wsX8_isThrown) := goodIn_app (goodIn_s seX8_build _ [pq_1_8, pq_1_9, pq_1_10, pq_1_3] (by rfl) (by decide +kernel)) ggX8_build_X8_isThrown
set_option maxRecDepth 20000 in
theorem ggX8_build_X8_textOf : GoodIn wsX8_build wsX8_textOf := goodIn_s seX8_build _ [pq_1_16, pq_1_0, pq_1_17, pq_1_18, pq_1_19, pq_1_20, pq_1_21, pq_1_3, pq_1_22, pq_1_23, pq_2_0, pq_2_1, pq_2_2, pq_2_3, pq_3_0, pq_3_1, pq_3_2, pq_3_3, pq_3_4, pq_3_5, pq_3_6, pq_3_7, pq_3_8, pq_3_9, pq_3_10] (by rfl) gw_wsX8_textOf
set_option maxRecDepth 20000 in
theorem gX8_build_X8_textOf : GoodIn wsX8_build (wsV RX8 122 RX8 yX8_textOf wsX8_textOf) := goodIn_app (goodIn_s seX8_build _ [pq_1_13, pq_1_14, pq_1_15, pq_1_3] (by rfl) (by decide +kernel)) ggX8_build_X8_textOf
set_option maxRecDepth 20000 in
theorem ggX8_build_X8_joined : GoodIn wsX8_build wsX8_joined := goodIn_s seX8_build _ [pq_2_6, pq_1_23] (by rfl) gw_wsX8_joined
set_option maxRecDepth 20000 in
theorem gX8_build_X8_joined : GoodIn wsX8_build (va_wsS RX8 125 yX8_joined wsX8_joined) := goodIn_app (goodIn_s seX8_build _ [pq_2_4, pq_2_5, pq_1_3] (by rfl) (by decide +kernel)) ggX8_build_X8_joined
set_option maxRecDepth 20000 in
theorem ggX8_build_X8_done : GoodIn wsX8_build wsX8_done := goodIn_s seX8_build _ [pq_2_10, pq_2_11, pq_3_0, pq_3_1, pq_3_2, pq_3_3, pq_3_4, pq_3_5, pq_3_6, pq_3_7, pq_3_8, pq_3_9, pq_3_10] (by rfl) gw_wsX8_done
set_option maxRecDepth 20000 in
theorem gX8_build_X8_done : GoodIn wsX8_build (wsV RX8 62 RX8 yX8_done wsX8_done) := goodIn_app (goodIn_s seX8_build _ [pq_2_7, pq_2_8, pq_2_9, pq_1_3] (by rfl) (by decide +kernel)) ggX8_build_X8_done
noncomputable def sgX8_turn : List (List Cond) := [[.code yX8_turn cX8_turn 3 (some .int)], [.fieldLink RX8 18 "SashwordsModel" "built" "[I", .arrayClass .int, .methodLink RX8 81 yX8_isThrown, .instanceMethod yX8_isThrown, .selects RX8 yX8_isThrown yX8_isThrown, .initialized RX8, .code yX8_isThrown cX8_isThrown 3 (some .boolean), .fieldLink RX8 38 "SashwordsModel" "thrown" "I", .methodLink RX8 62 yX8_done, .instanceMethod yX8_done, .selects RX8 yX8_done yX8_done, .code yX8_done cX8_done 2 (some .int), .fieldLink RX8 31 "SashwordsModel" "tallies" "[I"], wsX80]
theorem seX8_turn : sgX8_turn.flatten = wsX8_turn := by simp only [sgX8_turn, wsX8_turn, List.flatten_cons, List.flatten_nil, List.append_assoc, List.append_nil, List.cons_append, List.nil_append]
set_option maxRecDepth 20000 in
theorem ggX8_turn_X8_isThrown : GoodIn wsX8_turn wsX8_isThrown := goodIn_s seX8_turn _ [pq_1_6, pq_1_7, pq_2_0, pq_2_1, pq_2_2, pq_2_3, pq_2_4, pq_2_5, pq_2_6, pq_2_7, pq_2_8, pq_2_9, pq_2_10] (by rfl) gw_wsX8_isThrown
set_option maxRecDepth 20000 in
theorem gX8_turn_X8_isThrown : GoodIn wsX8_turn (wsV RX8 81 RX8 yX8_isThrown wsX8_isThrown) := goodIn_app (goodIn_s seX8_turn _ [pq_1_2, pq_1_3, pq_1_4, pq_1_5] (by rfl) (by decide +kernel)) ggX8_turn_X8_isThrown
set_option maxRecDepth 20000 in
theorem ggX8_turn_X8_done : GoodIn wsX8_turn wsX8_done := goodIn_s seX8_turn _ [pq_1_11, pq_1_12, pq_2_0, pq_2_1, pq_2_2, pq_2_3, pq_2_4, pq_2_5, pq_2_6, pq_2_7, pq_2_8, pq_2_9, pq_2_10] (by rfl) gw_wsX8_done
set_option maxRecDepth 20000 in
theorem gX8_turn_X8_done : GoodIn wsX8_turn (wsV RX8 62 RX8 yX8_done wsX8_done) := goodIn_app (goodIn_s seX8_turn _ [pq_1_8, pq_1_9, pq_1_10, pq_1_5] (by rfl) (by decide +kernel)) ggX8_turn_X8_done
noncomputable def sgX8_change : List (List Cond) := [[.code yX8_change cX8_change 4 (some .int)], [.fieldLink RX8 18 "SashwordsModel" "built" "[I", .methodLink RX8 41 yX8_isNo, .static yX8_isNo, .initialized RX8, .code yX8_isNo cX8_isNo 3 (some .boolean), .methodLink RX8 81 yX8_isThrown, .instanceMethod yX8_isThrown, .selects RX8 yX8_isThrown yX8_isThrown, .code yX8_isThrown cX8_isThrown 3 (some .boolean), .fieldLink RX8 38 "SashwordsModel" "thrown" "I", .methodLink RX8 62 yX8_done, .instanceMethod yX8_done, .selects RX8 yX8_done yX8_done, .code yX8_done cX8_done 2 (some .int), .fieldLink RX8 31 "SashwordsModel" "tallies" "[I"], wsX80]
theorem seX8_change : sgX8_change.flatten = wsX8_change := by simp only [sgX8_change, wsX8_change, List.flatten_cons, List.flatten_nil, List.append_assoc, List.append_nil, List.cons_append, List.nil_append]
set_option maxRecDepth 20000 in
theorem ggX8_change_X8_isNo : GoodIn wsX8_change wsX8_isNo := goodIn_s seX8_change _ [pq_1_4] (by rfl) gw_wsX8_isNo
set_option maxRecDepth 20000 in
theorem gX8_change_X8_isNo : GoodIn wsX8_change (va_wsS RX8 41 yX8_isNo wsX8_isNo) := goodIn_app (goodIn_s seX8_change _ [pq_1_1, pq_1_2, pq_1_3] (by rfl) (by decide +kernel)) ggX8_change_X8_isNo
set_option maxRecDepth 20000 in
theorem ggX8_change_X8_isThrown : GoodIn wsX8_change wsX8_isThrown := goodIn_s seX8_change _ [pq_1_8, pq_1_9, pq_2_0, pq_2_1, pq_2_2, pq_2_3, pq_2_4, pq_2_5, pq_2_6, pq_2_7, pq_2_8, pq_2_9, pq_2_10] (by rfl) gw_wsX8_isThrown
set_option maxRecDepth 20000 in
theorem gX8_change_X8_isThrown : GoodIn wsX8_change (wsV RX8 81 RX8 yX8_isThrown wsX8_isThrown) := goodIn_app (goodIn_s seX8_change _ [pq_1_5, pq_1_6, pq_1_7, pq_1_3] (by rfl) (by decide +kernel)) ggX8_change_X8_isThrown
set_option maxRecDepth 20000 in
theorem ggX8_change_X8_done : GoodIn wsX8_change wsX8_done := goodIn_s seX8_change _ [pq_1_13, pq_1_14, pq_2_0, pq_2_1, pq_2_2, pq_2_3, pq_2_4, pq_2_5, pq_2_6, pq_2_7, pq_2_8, pq_2_9, pq_2_10] (by rfl) gw_wsX8_done
set_option maxRecDepth 20000 in
theorem gX8_change_X8_done : GoodIn wsX8_change (wsV RX8 62 RX8 yX8_done wsX8_done) := goodIn_app (goodIn_s seX8_change _ [pq_1_10, pq_1_11, pq_1_12, pq_1_3] (by rfl) (by decide +kernel)) ggX8_change_X8_done
noncomputable def sgX8_pipe : List (List Cond) := [[.code yX8_pipe cX8_pipe 3 (some .int)], [.fieldLink RX8 129 "SashwordsModel" "in" "I", .fieldLink RX8 132 "SashwordsModel" "out" "I", .fieldLink RX8 27 "SashwordsModel" "size" "I", .methodLink RX8 41 yX8_isNo, .static yX8_isNo, .initialized RX8, .code yX8_isNo cX8_isNo 3 (some .boolean), .methodLink RX8 81 yX8_isThrown, .instanceMethod yX8_isThrown, .selects RX8 yX8_isThrown yX8_isThrown, .code yX8_isThrown cX8_isThrown 3 (some .boolean), .fieldLink RX8 38 "SashwordsModel" "thrown" "I", .methodLink RX8 62 yX8_done, .instanceMethod yX8_done, .selects RX8 yX8_done yX8_done, .code yX8_done cX8_done 2 (some .int), .fieldLink RX8 31 "SashwordsModel" "tallies" "[I"], wsX80]
theorem seX8_pipe : sgX8_pipe.flatten = wsX8_pipe := by simp only [sgX8_pipe, wsX8_pipe, List.flatten_cons, List.flatten_nil, List.append_assoc, List.append_nil, List.cons_append, List.nil_append]
set_option maxRecDepth 20000 in
theorem ggX8_pipe_X8_isNo : GoodIn wsX8_pipe wsX8_isNo := goodIn_s seX8_pipe _ [pq_1_6] (by rfl) gw_wsX8_isNo
set_option maxRecDepth 20000 in
theorem gX8_pipe_X8_isNo : GoodIn wsX8_pipe (va_wsS RX8 41 yX8_isNo wsX8_isNo) := goodIn_app (goodIn_s seX8_pipe _ [pq_1_3, pq_1_4, pq_1_5] (by rfl) (by decide +kernel)) ggX8_pipe_X8_isNo
set_option maxRecDepth 20000 in
theorem ggX8_pipe_X8_isThrown : GoodIn wsX8_pipe wsX8_isThrown := goodIn_s seX8_pipe _ [pq_1_10, pq_1_11, pq_2_0, pq_2_1, pq_2_2, pq_2_3, pq_2_4, pq_2_5, pq_2_6, pq_2_7, pq_2_8, pq_2_9, pq_2_10] (by rfl) gw_wsX8_isThrown
set_option maxRecDepth 20000 in
theorem gX8_pipe_X8_isThrown : GoodIn wsX8_pipe (wsV RX8 81 RX8 yX8_isThrown wsX8_isThrown) := goodIn_app (goodIn_s seX8_pipe _ [pq_1_7, pq_1_8, pq_1_9, pq_1_5] (by rfl) (by decide +kernel)) ggX8_pipe_X8_isThrown
set_option maxRecDepth 20000 in
theorem ggX8_pipe_X8_done : GoodIn wsX8_pipe wsX8_done := goodIn_s seX8_pipe _ [pq_1_15, pq_1_16, pq_2_0, pq_2_1, pq_2_2, pq_2_3, pq_2_4, pq_2_5, pq_2_6, pq_2_7, pq_2_8, pq_2_9, pq_2_10] (by rfl) gw_wsX8_done
set_option maxRecDepth 20000 in
theorem gX8_pipe_X8_done : GoodIn wsX8_pipe (wsV RX8 62 RX8 yX8_done wsX8_done) := goodIn_app (goodIn_s seX8_pipe _ [pq_1_12, pq_1_13, pq_1_14, pq_1_5] (by rfl) (by decide +kernel)) ggX8_pipe_X8_done
noncomputable def sgX8_feed : List (List Cond) := [[.code yX8_feed cX8_feed 5 (some .int)], wsX8_feed_r1, wsX8_feed_r2, wsX80]
theorem seX8_feed : sgX8_feed.flatten = wsX8_feed := by simp only [sgX8_feed, wsX8_feed, List.flatten_cons, List.flatten_nil, List.append_assoc, List.append_nil, List.cons_append, List.nil_append]
set_option maxRecDepth 20000 in
theorem ggX8_feed_X8_isNo : GoodIn wsX8_feed wsX8_isNo := goodIn_s seX8_feed _ [pq_1_11] (by rfl) gw_wsX8_isNo
set_option maxRecDepth 20000 in
theorem gX8_feed_X8_isNo : GoodIn wsX8_feed (va_wsS RX8 41 yX8_isNo wsX8_isNo) := goodIn_app (goodIn_s seX8_feed _ [pq_1_8, pq_1_9, pq_1_10] (by rfl) (by decide +kernel)) ggX8_feed_X8_isNo
set_option maxRecDepth 20000 in
theorem ggX8_feed_X8_isThrown : GoodIn wsX8_feed wsX8_isThrown := goodIn_s seX8_feed _ [pq_1_15, pq_1_16, pq_3_0, pq_3_1, pq_3_2, pq_3_3, pq_3_4, pq_3_5, pq_3_6, pq_3_7, pq_3_8, pq_3_9, pq_3_10] (by rfl) gw_wsX8_isThrown
set_option maxRecDepth 20000 in
theorem gX8_feed_X8_isThrown : GoodIn wsX8_feed (wsV RX8 81 RX8 yX8_isThrown wsX8_isThrown) := goodIn_app (goodIn_s seX8_feed _ [pq_1_12, pq_1_13, pq_1_14, pq_1_10] (by rfl) (by decide +kernel)) ggX8_feed_X8_isThrown
set_option maxRecDepth 20000 in
theorem ggX8_feed_X8_letter : GoodIn wsX8_feed wsX8_letter := goodIn_s seX8_feed _ [pq_1_19] (by rfl) gw_wsX8_letter
set_option maxRecDepth 20000 in
theorem gX8_feed_X8_letter : GoodIn wsX8_feed (va_wsS RX8 103 yX8_letter wsX8_letter) := goodIn_app (goodIn_s seX8_feed _ [pq_1_17, pq_1_18, pq_1_10] (by rfl) (by decide +kernel)) ggX8_feed_X8_letter
set_option maxRecDepth 20000 in
theorem ggX8_feed_X8_done : GoodIn wsX8_feed wsX8_done := goodIn_s seX8_feed _ [pq_1_23, pq_2_0, pq_3_0, pq_3_1, pq_3_2, pq_3_3, pq_3_4, pq_3_5, pq_3_6, pq_3_7, pq_3_8, pq_3_9, pq_3_10] (by rfl) gw_wsX8_done
set_option maxRecDepth 20000 in
theorem gX8_feed_X8_done : GoodIn wsX8_feed (wsV RX8 62 RX8 yX8_done wsX8_done) := goodIn_app (goodIn_s seX8_feed _ [pq_1_20, pq_1_21, pq_1_22, pq_1_10] (by rfl) (by decide +kernel)) ggX8_feed_X8_done
noncomputable def sgX8_drain : List (List Cond) := [[.code yX8_drain cX8_drain 3 (some (.object "java/lang/String"))], wsX8_drain_r1, wsX8_drain_r2, wsX8_drain_r3, wsX8_drain_r4, wsX8_drain_r5, wsX8_drain_r6, wsX8_drain_r7, wsX8_drain_r8, wsX8_drain_r9, wsX80, wsJ40, wsJ00]
theorem seX8_drain : sgX8_drain.flatten = wsX8_drain := by simp only [sgX8_drain, wsX8_drain, List.flatten_cons, List.flatten_nil, List.append_assoc, List.append_nil, List.cons_append, List.nil_append]
set_option maxRecDepth 20000 in
theorem ggX8_drain_X8_isNo : GoodIn wsX8_drain wsX8_isNo := goodIn_s seX8_drain _ [pq_1_10] (by rfl) gw_wsX8_isNo
set_option maxRecDepth 20000 in
theorem gX8_drain_X8_isNo : GoodIn wsX8_drain (va_wsS RX8 41 yX8_isNo wsX8_isNo) := goodIn_app (goodIn_s seX8_drain _ [pq_1_7, pq_1_8, pq_1_9] (by rfl) (by decide +kernel)) ggX8_drain_X8_isNo
set_option maxRecDepth 20000 in
theorem ggX8_drain_X8_isThrown : GoodIn wsX8_drain wsX8_isThrown := goodIn_s seX8_drain _ [pq_1_14, pq_1_15, pq_10_0, pq_10_1, pq_10_2, pq_10_3, pq_10_4, pq_10_5, pq_10_6, pq_10_7, pq_10_8, pq_10_9, pq_10_10] (by rfl) gw_wsX8_isThrown
set_option maxRecDepth 20000 in
theorem gX8_drain_X8_isThrown : GoodIn wsX8_drain (wsV RX8 81 RX8 yX8_isThrown wsX8_isThrown) := goodIn_app (goodIn_s seX8_drain _ [pq_1_11, pq_1_12, pq_1_13, pq_1_9] (by rfl) (by decide +kernel)) ggX8_drain_X8_isThrown
set_option maxRecDepth 20000 in
theorem ggX8_drain_X8_done : GoodIn wsX8_drain wsX8_done := goodIn_s seX8_drain _ [pq_1_19, pq_1_20, pq_10_0, pq_10_1, pq_10_2, pq_10_3, pq_10_4, pq_10_5, pq_10_6, pq_10_7, pq_10_8, pq_10_9, pq_10_10] (by rfl) gw_wsX8_done
set_option maxRecDepth 20000 in
theorem gX8_drain_X8_done : GoodIn wsX8_drain (wsV RX8 62 RX8 yX8_done wsX8_done) := goodIn_app (goodIn_s seX8_drain _ [pq_1_16, pq_1_17, pq_1_18, pq_1_9] (by rfl) (by decide +kernel)) ggX8_drain_X8_done
set_option maxRecDepth 20000 in
theorem ggX8_drain_X8_told : GoodIn wsX8_drain wsX8_told := goodIn_s seX8_drain _ [pq_1_23, pq_2_0, pq_2_1, pq_2_2, pq_2_3, pq_2_4, pq_2_5, pq_2_6, pq_2_7, pq_2_8, pq_2_9, pq_2_10, pq_2_11, pq_2_12, pq_2_13, pq_2_14, pq_2_15, pq_2_16, pq_2_17, pq_2_18, pq_2_19, pq_2_20, pq_2_21, pq_2_22, pq_2_23, pq_3_0, pq_3_1, pq_3_2, pq_3_3, pq_3_4, pq_3_5, pq_3_6, pq_3_7, pq_3_8, pq_3_9, pq_3_10, pq_3_11, pq_3_12, pq_3_13, pq_3_14, pq_3_15, pq_3_16, pq_3_17, pq_3_18, pq_3_19, pq_3_20, pq_3_21, pq_3_22, pq_3_23, pq_4_0, pq_4_1, pq_4_2, pq_4_3, pq_1_4, pq_4_4, pq_4_5, pq_4_6, pq_4_7, pq_4_8, pq_4_9, pq_4_10, pq_4_11, pq_4_12, pq_4_13, pq_4_14, pq_4_15, pq_4_16, pq_4_17, pq_4_18, pq_4_19, pq_1_3, pq_1_5, pq_4_20, pq_4_21, pq_4_22, pq_4_23, pq_5_0, pq_5_1, pq_5_2, pq_5_3, pq_5_4, pq_5_5, pq_5_6, pq_5_7, pq_5_8, pq_5_9, pq_5_10, pq_5_11, pq_5_12, pq_5_13, pq_5_14, pq_5_15, pq_5_16, pq_5_17, pq_5_18, pq_5_19, pq_5_20, pq_5_21, pq_5_22, pq_5_23, pq_6_0, pq_6_1, pq_6_2, pq_6_3, pq_6_4, pq_6_5, pq_6_6, pq_6_7, pq_6_8, pq_6_9, pq_6_10, pq_6_11, pq_6_12, pq_6_13, pq_6_14, pq_6_15, pq_6_16, pq_6_17, pq_6_18, pq_6_19, pq_6_20, pq_6_21, pq_6_22, pq_6_23, pq_7_0, pq_7_1, pq_7_2, pq_7_3, pq_7_4, pq_7_5, pq_7_6, pq_7_7, pq_7_8, pq_7_9, pq_7_10, pq_7_11, pq_7_12, pq_7_13, pq_7_14, pq_7_15, pq_7_16, pq_7_17, pq_7_18, pq_7_19, pq_7_20, pq_7_21, pq_7_22, pq_7_23, pq_8_0, pq_8_1, pq_8_2, pq_8_3, pq_8_4, pq_8_5, pq_8_6, pq_8_7, pq_8_8, pq_8_9, pq_8_10, pq_8_11, pq_8_12, pq_8_13, pq_8_14, pq_8_15, pq_8_16, pq_8_17, pq_8_18, pq_8_19, pq_8_20, pq_8_21, pq_8_22, pq_8_23, pq_9_0, pq_9_1, pq_9_2, pq_9_3, pq_9_4, pq_9_5, pq_9_6, pq_9_7, pq_9_8, pq_9_9, pq_9_10, pq_9_11, pq_11_0, pq_11_1, pq_11_2, pq_11_3, pq_12_0, pq_12_1, pq_12_2, pq_12_3] (by rfl) gw_wsX8_told
set_option maxRecDepth 20000 in
theorem gX8_drain_X8_told : GoodIn wsX8_drain (va_wsS RX8 111 yX8_told wsX8_told) := goodIn_app (goodIn_s seX8_drain _ [pq_1_21, pq_1_22, pq_1_9] (by rfl) (by decide +kernel)) ggX8_drain_X8_told
noncomputable def sgX8_pump : List (List Cond) := [[.code yX8_pump cX8_pump 9 (some (.object "java/lang/String"))], wsX8_pump_r1, wsX8_pump_r2, wsX8_pump_r3, wsX8_pump_r4, wsX8_pump_r5, wsX8_pump_r6, wsX8_pump_r7, wsX8_pump_r8, wsX8_pump_r9, wsX8_pump_r10, wsX80, wsJ40, wsJ00]
theorem seX8_pump : sgX8_pump.flatten = wsX8_pump := by simp only [sgX8_pump, wsX8_pump, List.flatten_cons, List.flatten_nil, List.append_assoc, List.append_nil, List.cons_append, List.nil_append]
set_option maxRecDepth 20000 in
theorem ggX8_pump_X8_isNoSource : GoodIn wsX8_pump wsX8_isNoSource := goodIn_s seX8_pump _ [pq_1_13, pq_1_14, pq_1_15, pq_1_12, pq_1_16] (by rfl) gw_wsX8_isNoSource
set_option maxRecDepth 20000 in
theorem gX8_pump_X8_isNoSource : GoodIn wsX8_pump (va_wsS RX8 119 yX8_isNoSource wsX8_isNoSource) := goodIn_app (goodIn_s seX8_pump _ [pq_1_10, pq_1_11, pq_1_12] (by rfl) (by decide +kernel)) ggX8_pump_X8_isNoSource
set_option maxRecDepth 20000 in
theorem ggX8_pump_X8_isNo : GoodIn wsX8_pump wsX8_isNo := goodIn_s seX8_pump _ [pq_1_16] (by rfl) gw_wsX8_isNo
set_option maxRecDepth 20000 in
theorem gX8_pump_X8_isNo : GoodIn wsX8_pump (va_wsS RX8 41 yX8_isNo wsX8_isNo) := goodIn_app (goodIn_s seX8_pump _ [pq_1_14, pq_1_15, pq_1_12] (by rfl) (by decide +kernel)) ggX8_pump_X8_isNo
set_option maxRecDepth 20000 in
theorem ggX8_pump_X8_isThrown : GoodIn wsX8_pump wsX8_isThrown := goodIn_s seX8_pump _ [pq_1_20, pq_1_1, pq_11_0, pq_11_1, pq_11_2, pq_11_3, pq_11_4, pq_11_5, pq_11_6, pq_11_7, pq_11_8, pq_11_9, pq_11_10] (by rfl) gw_wsX8_isThrown
set_option maxRecDepth 20000 in
theorem gX8_pump_X8_isThrown : GoodIn wsX8_pump (wsV RX8 81 RX8 yX8_isThrown wsX8_isThrown) := goodIn_app (goodIn_s seX8_pump _ [pq_1_17, pq_1_18, pq_1_19, pq_1_12] (by rfl) (by decide +kernel)) ggX8_pump_X8_isThrown
set_option maxRecDepth 20000 in
theorem ggX8_pump_X8_textOf : GoodIn wsX8_pump wsX8_textOf := goodIn_s seX8_pump _ [pq_2_0, pq_2_1, pq_2_2, pq_2_3, pq_2_4, pq_2_5, pq_2_6, pq_1_12, pq_2_7, pq_2_8, pq_2_9, pq_2_10, pq_2_11, pq_2_12, pq_11_0, pq_11_1, pq_11_2, pq_11_3, pq_11_4, pq_11_5, pq_11_6, pq_11_7, pq_11_8, pq_11_9, pq_11_10] (by rfl) gw_wsX8_textOf
set_option maxRecDepth 20000 in
theorem gX8_pump_X8_textOf : GoodIn wsX8_pump (wsV RX8 122 RX8 yX8_textOf wsX8_textOf) := goodIn_app (goodIn_s seX8_pump _ [pq_1_21, pq_1_22, pq_1_23, pq_1_12] (by rfl) (by decide +kernel)) ggX8_pump_X8_textOf
set_option maxRecDepth 20000 in
theorem ggX8_pump_X8_done : GoodIn wsX8_pump wsX8_done := goodIn_s seX8_pump _ [pq_2_16, pq_1_9, pq_11_0, pq_11_1, pq_11_2, pq_11_3, pq_11_4, pq_11_5, pq_11_6, pq_11_7, pq_11_8, pq_11_9, pq_11_10] (by rfl) gw_wsX8_done
set_option maxRecDepth 20000 in
theorem gX8_pump_X8_done : GoodIn wsX8_pump (wsV RX8 62 RX8 yX8_done wsX8_done) := goodIn_app (goodIn_s seX8_pump _ [pq_2_13, pq_2_14, pq_2_15, pq_1_12] (by rfl) (by decide +kernel)) ggX8_pump_X8_done
set_option maxRecDepth 20000 in
theorem ggX8_pump_X8_told : GoodIn wsX8_pump wsX8_told := goodIn_s seX8_pump _ [pq_2_19, pq_2_20, pq_2_21, pq_2_22, pq_2_23, pq_3_0, pq_3_1, pq_3_2, pq_3_3, pq_3_4, pq_3_5, pq_3_6, pq_3_7, pq_3_8, pq_3_9, pq_3_10, pq_3_11, pq_3_12, pq_3_13, pq_3_14, pq_3_15, pq_3_16, pq_3_17, pq_3_18, pq_3_19, pq_3_20, pq_3_21, pq_3_22, pq_3_23, pq_4_0, pq_4_1, pq_4_2, pq_4_3, pq_4_4, pq_4_5, pq_4_6, pq_4_7, pq_4_8, pq_4_9, pq_4_10, pq_4_11, pq_4_12, pq_4_13, pq_4_14, pq_4_15, pq_4_16, pq_4_17, pq_4_18, pq_4_19, pq_4_20, pq_4_21, pq_4_22, pq_4_23, pq_1_6, pq_5_0, pq_5_1, pq_5_2, pq_5_3, pq_5_4, pq_5_5, pq_5_6, pq_5_7, pq_5_8, pq_5_9, pq_5_10, pq_5_11, pq_5_12, pq_5_13, pq_5_14, pq_5_15, pq_1_5, pq_1_7, pq_5_16, pq_5_17, pq_5_18, pq_5_19, pq_5_20, pq_5_21, pq_5_22, pq_5_23, pq_6_0, pq_6_1, pq_6_2, pq_6_3, pq_6_4, pq_6_5, pq_6_6, pq_6_7, pq_6_8, pq_6_9, pq_6_10, pq_6_11, pq_6_12, pq_6_13, pq_6_14, pq_6_15, pq_6_16, pq_6_17, pq_6_18, pq_6_19, pq_6_20, pq_6_21, pq_6_22, pq_6_23, pq_7_0, pq_7_1, pq_7_2, pq_7_3, pq_7_4, pq_7_5, pq_7_6, pq_7_7, pq_7_8, pq_7_9, pq_7_10, pq_7_11, pq_7_12, pq_7_13, pq_7_14, pq_7_15, pq_7_16, pq_7_17, pq_7_18, pq_7_19, pq_7_20, pq_7_21, pq_7_22, pq_7_23, pq_8_0, pq_8_1, pq_8_2, pq_8_3, pq_8_4, pq_8_5, pq_8_6, pq_8_7, pq_8_8, pq_8_9, pq_8_10, pq_8_11, pq_8_12, pq_8_13, pq_8_14, pq_8_15, pq_8_16, pq_8_17, pq_8_18, pq_8_19, pq_8_20, pq_8_21, pq_8_22, pq_8_23, pq_9_0, pq_9_1, pq_9_2, pq_9_3, pq_9_4, pq_9_5, pq_9_6, pq_9_7, pq_9_8, pq_9_9, pq_9_10, pq_9_11, pq_9_12, pq_9_13, pq_9_14, pq_9_15, pq_9_16, pq_9_17, pq_9_18, pq_9_19, pq_9_20, pq_9_21, pq_9_22, pq_9_23, pq_10_0, pq_10_1, pq_10_2, pq_10_3, pq_10_4, pq_10_5, pq_10_6, pq_10_7, pq_12_0, pq_12_1, pq_12_2, pq_12_3, pq_13_0, pq_13_1, pq_13_2, pq_13_3] (by rfl) gw_wsX8_told
set_option maxRecDepth 20000 in
theorem gX8_pump_X8_told : GoodIn wsX8_pump (va_wsS RX8 111 yX8_told wsX8_told) := goodIn_app (goodIn_s seX8_pump _ [pq_2_17, pq_2_18, pq_1_12] (by rfl) (by decide +kernel)) ggX8_pump_X8_told
noncomputable def sgX8_left : List (List Cond) := [[.code yX8_left cX8_left 3 (some .int)], [.fieldLink RX8 14 "SashwordsModel" "windows" "[[I", .methodLink RX8 77 yX8_isNoWindow, .static yX8_isNoWindow, .initialized RX8, .code yX8_isNoWindow cX8_isNoWindow 1 (some .boolean), .methodLink RX8 41 yX8_isNo, .static yX8_isNo, .code yX8_isNo cX8_isNo 3 (some .boolean), .methodLink RX8 81 yX8_isThrown, .instanceMethod yX8_isThrown, .selects RX8 yX8_isThrown yX8_isThrown, .code yX8_isThrown cX8_isThrown 3 (some .boolean), .fieldLink RX8 38 "SashwordsModel" "thrown" "I", .methodLink RX8 54 yX8_length, .static yX8_length, .code yX8_length cX8_length 1 (some .int)], wsX80]
theorem seX8_left : sgX8_left.flatten = wsX8_left := by simp only [sgX8_left, wsX8_left, List.flatten_cons, List.flatten_nil, List.append_assoc, List.append_nil, List.cons_append, List.nil_append]
set_option maxRecDepth 20000 in
theorem ggX8_left_X8_isNoWindow : GoodIn wsX8_left wsX8_isNoWindow := goodIn_s seX8_left _ [pq_1_4, pq_1_5, pq_1_6, pq_1_3, pq_1_7] (by rfl) gw_wsX8_isNoWindow
set_option maxRecDepth 20000 in
theorem gX8_left_X8_isNoWindow : GoodIn wsX8_left (va_wsS RX8 77 yX8_isNoWindow wsX8_isNoWindow) := goodIn_app (goodIn_s seX8_left _ [pq_1_1, pq_1_2, pq_1_3] (by rfl) (by decide +kernel)) ggX8_left_X8_isNoWindow
set_option maxRecDepth 20000 in
theorem ggX8_left_X8_isNo : GoodIn wsX8_left wsX8_isNo := goodIn_s seX8_left _ [pq_1_7] (by rfl) gw_wsX8_isNo
set_option maxRecDepth 20000 in
theorem gX8_left_X8_isNo : GoodIn wsX8_left (va_wsS RX8 41 yX8_isNo wsX8_isNo) := goodIn_app (goodIn_s seX8_left _ [pq_1_5, pq_1_6, pq_1_3] (by rfl) (by decide +kernel)) ggX8_left_X8_isNo
set_option maxRecDepth 20000 in
theorem ggX8_left_X8_isThrown : GoodIn wsX8_left wsX8_isThrown := goodIn_s seX8_left _ [pq_1_11, pq_1_12, pq_2_0, pq_2_1, pq_2_2, pq_2_3, pq_2_4, pq_2_5, pq_2_6, pq_2_7, pq_2_8, pq_2_9, pq_2_10] (by rfl) gw_wsX8_isThrown
set_option maxRecDepth 20000 in
theorem gX8_left_X8_isThrown : GoodIn wsX8_left (wsV RX8 81 RX8 yX8_isThrown wsX8_isThrown) := goodIn_app (goodIn_s seX8_left _ [pq_1_8, pq_1_9, pq_1_10, pq_1_3] (by rfl) (by decide +kernel)) ggX8_left_X8_isThrown
set_option maxRecDepth 20000 in
theorem ggX8_left_X8_length : GoodIn wsX8_left wsX8_length := goodIn_s seX8_left _ [pq_1_15] (by rfl) gw_wsX8_length
set_option maxRecDepth 20000 in
theorem gX8_left_X8_length : GoodIn wsX8_left (va_wsS RX8 54 yX8_length wsX8_length) := goodIn_app (goodIn_s seX8_left _ [pq_1_13, pq_1_14, pq_1_3] (by rfl) (by decide +kernel)) ggX8_left_X8_length
noncomputable def sgX8_position : List (List Cond) := [[.code yX8_position cX8_position 2 (some .int)], [.fieldLink RX8 14 "SashwordsModel" "windows" "[[I", .methodLink RX8 77 yX8_isNoWindow, .static yX8_isNoWindow, .initialized RX8, .code yX8_isNoWindow cX8_isNoWindow 1 (some .boolean), .methodLink RX8 41 yX8_isNo, .static yX8_isNo, .code yX8_isNo cX8_isNo 3 (some .boolean), .methodLink RX8 81 yX8_isThrown, .instanceMethod yX8_isThrown, .selects RX8 yX8_isThrown yX8_isThrown, .code yX8_isThrown cX8_isThrown 3 (some .boolean), .fieldLink RX8 38 "SashwordsModel" "thrown" "I"], wsX80]
theorem seX8_position : sgX8_position.flatten = wsX8_position := by simp only [sgX8_position, wsX8_position, List.flatten_cons, List.flatten_nil, List.append_assoc, List.append_nil, List.cons_append, List.nil_append]
set_option maxRecDepth 20000 in
theorem ggX8_position_X8_isNoWindow : GoodIn wsX8_position wsX8_isNoWindow := goodIn_s seX8_position _ [pq_1_4, pq_1_5, pq_1_6, pq_1_3, pq_1_7] (by rfl) gw_wsX8_isNoWindow
set_option maxRecDepth 20000 in
theorem gX8_position_X8_isNoWindow : GoodIn wsX8_position (va_wsS RX8 77 yX8_isNoWindow wsX8_isNoWindow) := goodIn_app (goodIn_s seX8_position _ [pq_1_1, pq_1_2, pq_1_3] (by rfl) (by decide +kernel)) ggX8_position_X8_isNoWindow
set_option maxRecDepth 20000 in
theorem ggX8_position_X8_isThrown : GoodIn wsX8_position wsX8_isThrown := goodIn_s seX8_position _ [pq_1_11, pq_1_12, pq_2_0, pq_2_1, pq_2_2, pq_2_3, pq_2_4, pq_2_5, pq_2_6, pq_2_7, pq_2_8, pq_2_9, pq_2_10] (by rfl) gw_wsX8_isThrown
set_option maxRecDepth 20000 in
theorem gX8_position_X8_isThrown : GoodIn wsX8_position (wsV RX8 81 RX8 yX8_isThrown wsX8_isThrown) := goodIn_app (goodIn_s seX8_position _ [pq_1_8, pq_1_9, pq_1_10, pq_1_3] (by rfl) (by decide +kernel)) ggX8_position_X8_isThrown
noncomputable def sgX8_limit : List (List Cond) := [[.code yX8_limit cX8_limit 2 (some .int)], [.fieldLink RX8 14 "SashwordsModel" "windows" "[[I", .methodLink RX8 77 yX8_isNoWindow, .static yX8_isNoWindow, .initialized RX8, .code yX8_isNoWindow cX8_isNoWindow 1 (some .boolean), .methodLink RX8 41 yX8_isNo, .static yX8_isNo, .code yX8_isNo cX8_isNo 3 (some .boolean), .methodLink RX8 81 yX8_isThrown, .instanceMethod yX8_isThrown, .selects RX8 yX8_isThrown yX8_isThrown, .code yX8_isThrown cX8_isThrown 3 (some .boolean), .fieldLink RX8 38 "SashwordsModel" "thrown" "I"], wsX80]
theorem seX8_limit : sgX8_limit.flatten = wsX8_limit := by simp only [sgX8_limit, wsX8_limit, List.flatten_cons, List.flatten_nil, List.append_assoc, List.append_nil, List.cons_append, List.nil_append]
set_option maxRecDepth 20000 in
theorem ggX8_limit_X8_isNoWindow : GoodIn wsX8_limit wsX8_isNoWindow := goodIn_s seX8_limit _ [pq_1_4, pq_1_5, pq_1_6, pq_1_3, pq_1_7] (by rfl) gw_wsX8_isNoWindow
set_option maxRecDepth 20000 in
theorem gX8_limit_X8_isNoWindow : GoodIn wsX8_limit (va_wsS RX8 77 yX8_isNoWindow wsX8_isNoWindow) := goodIn_app (goodIn_s seX8_limit _ [pq_1_1, pq_1_2, pq_1_3] (by rfl) (by decide +kernel)) ggX8_limit_X8_isNoWindow
set_option maxRecDepth 20000 in
theorem ggX8_limit_X8_isThrown : GoodIn wsX8_limit wsX8_isThrown := goodIn_s seX8_limit _ [pq_1_11, pq_1_12, pq_2_0, pq_2_1, pq_2_2, pq_2_3, pq_2_4, pq_2_5, pq_2_6, pq_2_7, pq_2_8, pq_2_9, pq_2_10] (by rfl) gw_wsX8_isThrown
set_option maxRecDepth 20000 in
theorem gX8_limit_X8_isThrown : GoodIn wsX8_limit (wsV RX8 81 RX8 yX8_isThrown wsX8_isThrown) := goodIn_app (goodIn_s seX8_limit _ [pq_1_8, pq_1_9, pq_1_10, pq_1_3] (by rfl) (by decide +kernel)) ggX8_limit_X8_isThrown
noncomputable def sgX8_capacity : List (List Cond) := [[.code yX8_capacity cX8_capacity 2 (some .int)], [.fieldLink RX8 14 "SashwordsModel" "windows" "[[I", .methodLink RX8 77 yX8_isNoWindow, .static yX8_isNoWindow, .initialized RX8, .code yX8_isNoWindow cX8_isNoWindow 1 (some .boolean), .methodLink RX8 41 yX8_isNo, .static yX8_isNo, .code yX8_isNo cX8_isNo 3 (some .boolean), .methodLink RX8 81 yX8_isThrown, .instanceMethod yX8_isThrown, .selects RX8 yX8_isThrown yX8_isThrown, .code yX8_isThrown cX8_isThrown 3 (some .boolean), .fieldLink RX8 38 "SashwordsModel" "thrown" "I"], wsX80]
theorem seX8_capacity : sgX8_capacity.flatten = wsX8_capacity := by simp only [sgX8_capacity, wsX8_capacity, List.flatten_cons, List.flatten_nil, List.append_assoc, List.append_nil, List.cons_append, List.nil_append]
set_option maxRecDepth 20000 in
theorem ggX8_capacity_X8_isNoWindow : GoodIn wsX8_capacity wsX8_isNoWindow := goodIn_s seX8_capacity _ [pq_1_4, pq_1_5, pq_1_6, pq_1_3, pq_1_7] (by rfl) gw_wsX8_isNoWindow
set_option maxRecDepth 20000 in
theorem gX8_capacity_X8_isNoWindow : GoodIn wsX8_capacity (va_wsS RX8 77 yX8_isNoWindow wsX8_isNoWindow) := goodIn_app (goodIn_s seX8_capacity _ [pq_1_1, pq_1_2, pq_1_3] (by rfl) (by decide +kernel)) ggX8_capacity_X8_isNoWindow
set_option maxRecDepth 20000 in
theorem ggX8_capacity_X8_isThrown : GoodIn wsX8_capacity wsX8_isThrown := goodIn_s seX8_capacity _ [pq_1_11, pq_1_12, pq_2_0, pq_2_1, pq_2_2, pq_2_3, pq_2_4, pq_2_5, pq_2_6, pq_2_7, pq_2_8, pq_2_9, pq_2_10] (by rfl) gw_wsX8_isThrown
set_option maxRecDepth 20000 in
theorem gX8_capacity_X8_isThrown : GoodIn wsX8_capacity (wsV RX8 81 RX8 yX8_isThrown wsX8_isThrown) := goodIn_app (goodIn_s seX8_capacity _ [pq_1_8, pq_1_9, pq_1_10, pq_1_3] (by rfl) (by decide +kernel)) ggX8_capacity_X8_isThrown
noncomputable def sgX8_marked : List (List Cond) := [[.code yX8_marked cX8_marked 2 (some .int)], [.fieldLink RX8 14 "SashwordsModel" "windows" "[[I", .methodLink RX8 77 yX8_isNoWindow, .static yX8_isNoWindow, .initialized RX8, .code yX8_isNoWindow cX8_isNoWindow 1 (some .boolean), .methodLink RX8 41 yX8_isNo, .static yX8_isNo, .code yX8_isNo cX8_isNo 3 (some .boolean), .methodLink RX8 81 yX8_isThrown, .instanceMethod yX8_isThrown, .selects RX8 yX8_isThrown yX8_isThrown, .code yX8_isThrown cX8_isThrown 3 (some .boolean), .fieldLink RX8 38 "SashwordsModel" "thrown" "I", .methodLink RX8 135 yX8_markOf, .static yX8_markOf, .code yX8_markOf cX8_markOf 1 (some .int)], wsX80]
theorem seX8_marked : sgX8_marked.flatten = wsX8_marked := by simp only [sgX8_marked, wsX8_marked, List.flatten_cons, List.flatten_nil, List.append_assoc, List.append_nil, List.cons_append, List.nil_append]
set_option maxRecDepth 20000 in
theorem ggX8_marked_X8_isNoWindow : GoodIn wsX8_marked wsX8_isNoWindow := goodIn_s seX8_marked _ [pq_1_4, pq_1_5, pq_1_6, pq_1_3, pq_1_7] (by rfl) gw_wsX8_isNoWindow
set_option maxRecDepth 20000 in
theorem gX8_marked_X8_isNoWindow : GoodIn wsX8_marked (va_wsS RX8 77 yX8_isNoWindow wsX8_isNoWindow) := goodIn_app (goodIn_s seX8_marked _ [pq_1_1, pq_1_2, pq_1_3] (by rfl) (by decide +kernel)) ggX8_marked_X8_isNoWindow
set_option maxRecDepth 20000 in
theorem ggX8_marked_X8_isThrown : GoodIn wsX8_marked wsX8_isThrown := goodIn_s seX8_marked _ [pq_1_11, pq_1_12, pq_2_0, pq_2_1, pq_2_2, pq_2_3, pq_2_4, pq_2_5, pq_2_6, pq_2_7, pq_2_8, pq_2_9, pq_2_10] (by rfl) gw_wsX8_isThrown
set_option maxRecDepth 20000 in
theorem gX8_marked_X8_isThrown : GoodIn wsX8_marked (wsV RX8 81 RX8 yX8_isThrown wsX8_isThrown) := goodIn_app (goodIn_s seX8_marked _ [pq_1_8, pq_1_9, pq_1_10, pq_1_3] (by rfl) (by decide +kernel)) ggX8_marked_X8_isThrown
set_option maxRecDepth 20000 in
theorem ggX8_marked_X8_markOf : GoodIn wsX8_marked wsX8_markOf := goodIn_s seX8_marked _ [pq_1_15] (by rfl) gw_wsX8_markOf
set_option maxRecDepth 20000 in
theorem gX8_marked_X8_markOf : GoodIn wsX8_marked (va_wsS RX8 135 yX8_markOf wsX8_markOf) := goodIn_app (goodIn_s seX8_marked _ [pq_1_13, pq_1_14, pq_1_3] (by rfl) (by decide +kernel)) ggX8_marked_X8_markOf
noncomputable def sgX8_sign : List (List Cond) := [[.code yX8_sign cX8_sign 4 (some .int)], [.fieldLink RX8 14 "SashwordsModel" "windows" "[[I", .fieldLink RX8 7 "SashwordsModel" "tape" "[I", .methodLink RX8 77 yX8_isNoWindow, .static yX8_isNoWindow, .initialized RX8, .code yX8_isNoWindow cX8_isNoWindow 1 (some .boolean), .methodLink RX8 41 yX8_isNo, .static yX8_isNo, .code yX8_isNo cX8_isNo 3 (some .boolean), .methodLink RX8 81 yX8_isThrown, .instanceMethod yX8_isThrown, .selects RX8 yX8_isThrown yX8_isThrown, .code yX8_isThrown cX8_isThrown 3 (some .boolean), .fieldLink RX8 38 "SashwordsModel" "thrown" "I", .methodLink RX8 54 yX8_length, .static yX8_length, .code yX8_length cX8_length 1 (some .int)], wsX80]
theorem seX8_sign : sgX8_sign.flatten = wsX8_sign := by simp only [sgX8_sign, wsX8_sign, List.flatten_cons, List.flatten_nil, List.append_assoc, List.append_nil, List.cons_append, List.nil_append]
set_option maxRecDepth 20000 in
theorem ggX8_sign_X8_isNoWindow : GoodIn wsX8_sign wsX8_isNoWindow := goodIn_s seX8_sign _ [pq_1_5, pq_1_6, pq_1_7, pq_1_4, pq_1_8] (by rfl) gw_wsX8_isNoWindow
set_option maxRecDepth 20000 in
theorem gX8_sign_X8_isNoWindow : GoodIn wsX8_sign (va_wsS RX8 77 yX8_isNoWindow wsX8_isNoWindow) := goodIn_app (goodIn_s seX8_sign _ [pq_1_2, pq_1_3, pq_1_4] (by rfl) (by decide +kernel)) ggX8_sign_X8_isNoWindow
set_option maxRecDepth 20000 in
theorem ggX8_sign_X8_isThrown : GoodIn wsX8_sign wsX8_isThrown := goodIn_s seX8_sign _ [pq_1_12, pq_1_13, pq_2_0, pq_2_1, pq_2_2, pq_2_3, pq_2_4, pq_2_5, pq_2_6, pq_2_7, pq_2_8, pq_2_9, pq_2_10] (by rfl) gw_wsX8_isThrown
set_option maxRecDepth 20000 in
theorem gX8_sign_X8_isThrown : GoodIn wsX8_sign (wsV RX8 81 RX8 yX8_isThrown wsX8_isThrown) := goodIn_app (goodIn_s seX8_sign _ [pq_1_9, pq_1_10, pq_1_11, pq_1_4] (by rfl) (by decide +kernel)) ggX8_sign_X8_isThrown
set_option maxRecDepth 20000 in
theorem ggX8_sign_X8_length : GoodIn wsX8_sign wsX8_length := goodIn_s seX8_sign _ [pq_1_16] (by rfl) gw_wsX8_length
set_option maxRecDepth 20000 in
theorem gX8_sign_X8_length : GoodIn wsX8_sign (va_wsS RX8 54 yX8_length wsX8_length) := goodIn_app (goodIn_s seX8_sign _ [pq_1_14, pq_1_15, pq_1_4] (by rfl) (by decide +kernel)) ggX8_sign_X8_length
set_option maxRecDepth 20000 in
theorem ggX8_sign_X8_isNo : GoodIn wsX8_sign wsX8_isNo := goodIn_s seX8_sign _ [pq_1_8] (by rfl) gw_wsX8_isNo
set_option maxRecDepth 20000 in
theorem gX8_sign_X8_isNo : GoodIn wsX8_sign (va_wsS RX8 41 yX8_isNo wsX8_isNo) := goodIn_app (goodIn_s seX8_sign _ [pq_1_6, pq_1_7, pq_1_4] (by rfl) (by decide +kernel)) ggX8_sign_X8_isNo
noncomputable def sgX8_look : List (List Cond) := [[.code yX8_look cX8_look 4 (some .int)], [.fieldLink RX8 14 "SashwordsModel" "windows" "[[I", .fieldLink RX8 7 "SashwordsModel" "tape" "[I", .methodLink RX8 77 yX8_isNoWindow, .static yX8_isNoWindow, .initialized RX8, .code yX8_isNoWindow cX8_isNoWindow 1 (some .boolean), .methodLink RX8 41 yX8_isNo, .static yX8_isNo, .code yX8_isNo cX8_isNo 3 (some .boolean), .methodLink RX8 81 yX8_isThrown, .instanceMethod yX8_isThrown, .selects RX8 yX8_isThrown yX8_isThrown, .code yX8_isThrown cX8_isThrown 3 (some .boolean), .fieldLink RX8 38 "SashwordsModel" "thrown" "I"], wsX80]
theorem seX8_look : sgX8_look.flatten = wsX8_look := by simp only [sgX8_look, wsX8_look, List.flatten_cons, List.flatten_nil, List.append_assoc, List.append_nil, List.cons_append, List.nil_append]
set_option maxRecDepth 20000 in
theorem ggX8_look_X8_isNoWindow : GoodIn wsX8_look wsX8_isNoWindow := goodIn_s seX8_look _ [pq_1_5, pq_1_6, pq_1_7, pq_1_4, pq_1_8] (by rfl) gw_wsX8_isNoWindow
set_option maxRecDepth 20000 in
theorem gX8_look_X8_isNoWindow : GoodIn wsX8_look (va_wsS RX8 77 yX8_isNoWindow wsX8_isNoWindow) := goodIn_app (goodIn_s seX8_look _ [pq_1_2, pq_1_3, pq_1_4] (by rfl) (by decide +kernel)) ggX8_look_X8_isNoWindow
set_option maxRecDepth 20000 in
theorem ggX8_look_X8_isThrown : GoodIn wsX8_look wsX8_isThrown := goodIn_s seX8_look _ [pq_1_12, pq_1_13, pq_2_0, pq_2_1, pq_2_2, pq_2_3, pq_2_4, pq_2_5, pq_2_6, pq_2_7, pq_2_8, pq_2_9, pq_2_10] (by rfl) gw_wsX8_isThrown
set_option maxRecDepth 20000 in
theorem gX8_look_X8_isThrown : GoodIn wsX8_look (wsV RX8 81 RX8 yX8_isThrown wsX8_isThrown) := goodIn_app (goodIn_s seX8_look _ [pq_1_9, pq_1_10, pq_1_11, pq_1_4] (by rfl) (by decide +kernel)) ggX8_look_X8_isThrown
set_option maxRecDepth 20000 in
theorem ggX8_look_X8_isNo : GoodIn wsX8_look wsX8_isNo := goodIn_s seX8_look _ [pq_1_8] (by rfl) gw_wsX8_isNo
set_option maxRecDepth 20000 in
theorem gX8_look_X8_isNo : GoodIn wsX8_look (va_wsS RX8 41 yX8_isNo wsX8_isNo) := goodIn_app (goodIn_s seX8_look _ [pq_1_6, pq_1_7, pq_1_4] (by rfl) (by decide +kernel)) ggX8_look_X8_isNo
noncomputable def sgX8_text_ : List (List Cond) := [[.code yX8_text_ cX8_text_ 4 (some (.object "java/lang/String"))], wsX8_text__r1, wsX8_text__r2, wsX8_text__r3, wsX8_text__r4, wsX8_text__r5, wsX8_text__r6, wsX8_text__r7, wsX8_text__r8, wsX8_text__r9, wsX80, wsJ40, wsJ00]
theorem seX8_text_ : sgX8_text_.flatten = wsX8_text_ := by simp only [sgX8_text_, wsX8_text_, List.flatten_cons, List.flatten_nil, List.append_assoc, List.append_nil, List.cons_append, List.nil_append]
set_option maxRecDepth 20000 in
theorem ggX8_text__X8_isNoWindow : GoodIn wsX8_text_ wsX8_isNoWindow := goodIn_s seX8_text_ _ [pq_1_4, pq_1_5, pq_1_6, pq_1_3, pq_1_7] (by rfl) gw_wsX8_isNoWindow
set_option maxRecDepth 20000 in
theorem gX8_text__X8_isNoWindow : GoodIn wsX8_text_ (va_wsS RX8 77 yX8_isNoWindow wsX8_isNoWindow) := goodIn_app (goodIn_s seX8_text_ _ [pq_1_1, pq_1_2, pq_1_3] (by rfl) (by decide +kernel)) ggX8_text__X8_isNoWindow
set_option maxRecDepth 20000 in
theorem ggX8_text__X8_isNo : GoodIn wsX8_text_ wsX8_isNo := goodIn_s seX8_text_ _ [pq_1_7] (by rfl) gw_wsX8_isNo
set_option maxRecDepth 20000 in
theorem gX8_text__X8_isNo : GoodIn wsX8_text_ (va_wsS RX8 41 yX8_isNo wsX8_isNo) := goodIn_app (goodIn_s seX8_text_ _ [pq_1_5, pq_1_6, pq_1_3] (by rfl) (by decide +kernel)) ggX8_text__X8_isNo
set_option maxRecDepth 20000 in
theorem ggX8_text__X8_isThrown : GoodIn wsX8_text_ wsX8_isThrown := goodIn_s seX8_text_ _ [pq_1_11, pq_1_12, pq_10_0, pq_10_1, pq_10_2, pq_10_3, pq_10_4, pq_10_5, pq_10_6, pq_10_7, pq_10_8, pq_10_9, pq_10_10] (by rfl) gw_wsX8_isThrown
set_option maxRecDepth 20000 in
theorem gX8_text__X8_isThrown : GoodIn wsX8_text_ (wsV RX8 81 RX8 yX8_isThrown wsX8_isThrown) := goodIn_app (goodIn_s seX8_text_ _ [pq_1_8, pq_1_9, pq_1_10, pq_1_3] (by rfl) (by decide +kernel)) ggX8_text__X8_isThrown
set_option maxRecDepth 20000 in
theorem ggX8_text__X8_text : GoodIn wsX8_text_ wsX8_text := goodIn_s seX8_text_ _ [pq_1_16, pq_1_17, pq_1_18, pq_1_19, pq_1_20, pq_1_3, pq_1_21, pq_10_0, pq_10_1, pq_10_2, pq_10_3, pq_10_4, pq_10_5, pq_10_6, pq_10_7, pq_10_8, pq_10_9, pq_10_10] (by rfl) gw_wsX8_text
set_option maxRecDepth 20000 in
theorem gX8_text__X8_text : GoodIn wsX8_text_ (wsV RX8 58 RX8 yX8_text wsX8_text) := goodIn_app (goodIn_s seX8_text_ _ [pq_1_13, pq_1_14, pq_1_15, pq_1_3] (by rfl) (by decide +kernel)) ggX8_text__X8_text
set_option maxRecDepth 20000 in
theorem ggX8_text__X8_told : GoodIn wsX8_text_ wsX8_told := goodIn_s seX8_text_ _ [pq_2_0, pq_2_1, pq_2_2, pq_2_3, pq_2_4, pq_2_5, pq_2_6, pq_2_7, pq_2_8, pq_2_9, pq_2_10, pq_2_11, pq_2_12, pq_2_13, pq_2_14, pq_2_15, pq_2_16, pq_2_17, pq_2_18, pq_2_19, pq_2_20, pq_2_21, pq_2_22, pq_2_23, pq_3_0, pq_3_1, pq_3_2, pq_3_3, pq_3_4, pq_3_5, pq_3_6, pq_3_7, pq_3_8, pq_3_9, pq_3_10, pq_3_11, pq_3_12, pq_3_13, pq_3_14, pq_3_15, pq_3_16, pq_3_17, pq_3_18, pq_3_19, pq_3_20, pq_3_21, pq_3_22, pq_3_23, pq_4_0, pq_4_1, pq_4_2, pq_4_3, pq_4_4, pq_4_5, pq_4_6, pq_4_7, pq_4_8, pq_4_9, pq_4_10, pq_4_11, pq_4_12, pq_4_13, pq_4_14, pq_4_15, pq_4_16, pq_4_17, pq_4_18, pq_4_19, pq_4_20, pq_4_21, pq_4_22, pq_4_23, pq_5_0, pq_5_1, pq_5_2, pq_5_3, pq_5_4, pq_5_5, pq_5_6, pq_5_7, pq_5_8, pq_5_9, pq_5_10, pq_5_11, pq_5_12, pq_5_13, pq_5_14, pq_5_15, pq_5_16, pq_5_17, pq_5_18, pq_5_19, pq_5_20, pq_5_21, pq_5_22, pq_5_23, pq_6_0, pq_6_1, pq_6_2, pq_6_3, pq_6_4, pq_6_5, pq_6_6, pq_6_7, pq_6_8, pq_6_9, pq_6_10, pq_6_11, pq_6_12, pq_6_13, pq_6_14, pq_6_15, pq_6_16, pq_6_17, pq_6_18, pq_6_19, pq_6_20, pq_6_21, pq_6_22, pq_6_23, pq_7_0, pq_7_1, pq_7_2, pq_7_3, pq_7_4, pq_7_5, pq_7_6, pq_7_7, pq_7_8, pq_7_9, pq_7_10, pq_7_11, pq_7_12, pq_7_13, pq_7_14, pq_7_15, pq_7_16, pq_7_17, pq_7_18, pq_7_19, pq_7_20, pq_7_21, pq_7_22, pq_7_23, pq_8_0, pq_8_1, pq_8_2, pq_8_3, pq_8_4, pq_8_5, pq_8_6, pq_8_7, pq_8_8, pq_8_9, pq_8_10, pq_8_11, pq_8_12, pq_8_13, pq_8_14, pq_8_15, pq_8_16, pq_8_17, pq_8_18, pq_8_19, pq_8_20, pq_8_21, pq_8_22, pq_8_23, pq_9_0, pq_9_1, pq_9_2, pq_9_3, pq_9_4, pq_9_5, pq_9_6, pq_9_7, pq_9_8, pq_9_9, pq_9_10, pq_9_11, pq_9_12, pq_9_13, pq_9_14, pq_9_15, pq_11_0, pq_11_1, pq_11_2, pq_11_3, pq_12_0, pq_12_1, pq_12_2, pq_12_3] (by rfl) gw_wsX8_told
set_option maxRecDepth 20000 in
theorem gX8_text__X8_told : GoodIn wsX8_text_ (va_wsS RX8 111 yX8_told wsX8_told) := goodIn_app (goodIn_s seX8_text_ _ [pq_1_22, pq_1_23, pq_1_3] (by rfl) (by decide +kernel)) ggX8_text__X8_told
noncomputable def sgX8_inner : List (List Cond) := [[.code yX8_inner cX8_inner 9 (some (.object "java/lang/String"))], wsX8_inner_r1, wsX8_inner_r2, wsX8_inner_r3, wsX8_inner_r4, wsX8_inner_r5, wsX8_inner_r6, wsX8_inner_r7, wsX8_inner_r8, wsX8_inner_r9, wsX80, wsJ40, wsJ00]
theorem seX8_inner : sgX8_inner.flatten = wsX8_inner := by simp only [sgX8_inner, wsX8_inner, List.flatten_cons, List.flatten_nil, List.append_assoc, List.append_nil, List.cons_append, List.nil_append]
set_option maxRecDepth 20000 in
theorem ggX8_inner_X8_isNoWindow : GoodIn wsX8_inner wsX8_isNoWindow := goodIn_s seX8_inner _ [pq_1_4, pq_1_5, pq_1_6, pq_1_3, pq_1_7] (by rfl) gw_wsX8_isNoWindow
set_option maxRecDepth 20000 in
theorem gX8_inner_X8_isNoWindow : GoodIn wsX8_inner (va_wsS RX8 77 yX8_isNoWindow wsX8_isNoWindow) := goodIn_app (goodIn_s seX8_inner _ [pq_1_1, pq_1_2, pq_1_3] (by rfl) (by decide +kernel)) ggX8_inner_X8_isNoWindow
set_option maxRecDepth 20000 in
theorem ggX8_inner_X8_isThrown : GoodIn wsX8_inner wsX8_isThrown := goodIn_s seX8_inner _ [pq_1_11, pq_1_12, pq_10_0, pq_10_1, pq_10_2, pq_10_3, pq_10_4, pq_10_5, pq_10_6, pq_10_7, pq_10_8, pq_10_9, pq_10_10] (by rfl) gw_wsX8_isThrown
set_option maxRecDepth 20000 in
theorem gX8_inner_X8_isThrown : GoodIn wsX8_inner (wsV RX8 81 RX8 yX8_isThrown wsX8_isThrown) := goodIn_app (goodIn_s seX8_inner _ [pq_1_8, pq_1_9, pq_1_10, pq_1_3] (by rfl) (by decide +kernel)) ggX8_inner_X8_isThrown
set_option maxRecDepth 20000 in
theorem ggX8_inner_X8_text : GoodIn wsX8_inner wsX8_text := goodIn_s seX8_inner _ [pq_1_16, pq_1_17, pq_1_18, pq_1_19, pq_1_20, pq_1_3, pq_1_21, pq_10_0, pq_10_1, pq_10_2, pq_10_3, pq_10_4, pq_10_5, pq_10_6, pq_10_7, pq_10_8, pq_10_9, pq_10_10] (by rfl) gw_wsX8_text
set_option maxRecDepth 20000 in
theorem gX8_inner_X8_text : GoodIn wsX8_inner (wsV RX8 58 RX8 yX8_text wsX8_text) := goodIn_app (goodIn_s seX8_inner _ [pq_1_13, pq_1_14, pq_1_15, pq_1_3] (by rfl) (by decide +kernel)) ggX8_inner_X8_text
set_option maxRecDepth 20000 in
theorem ggX8_inner_X8_isNo : GoodIn wsX8_inner wsX8_isNo := goodIn_s seX8_inner _ [pq_1_7] (by rfl) gw_wsX8_isNo
set_option maxRecDepth 20000 in
theorem gX8_inner_X8_isNo : GoodIn wsX8_inner (va_wsS RX8 41 yX8_isNo wsX8_isNo) := goodIn_app (goodIn_s seX8_inner _ [pq_1_5, pq_1_6, pq_1_3] (by rfl) (by decide +kernel)) ggX8_inner_X8_isNo
set_option maxRecDepth 20000 in
theorem ggX8_inner_X8_told : GoodIn wsX8_inner wsX8_told := goodIn_s seX8_inner _ [pq_2_0, pq_2_1, pq_2_2, pq_2_3, pq_2_4, pq_2_5, pq_2_6, pq_2_7, pq_2_8, pq_2_9, pq_2_10, pq_2_11, pq_2_12, pq_2_13, pq_2_14, pq_2_15, pq_2_16, pq_2_17, pq_2_18, pq_2_19, pq_2_20, pq_2_21, pq_2_22, pq_2_23, pq_3_0, pq_3_1, pq_3_2, pq_3_3, pq_3_4, pq_3_5, pq_3_6, pq_3_7, pq_3_8, pq_3_9, pq_3_10, pq_3_11, pq_3_12, pq_3_13, pq_3_14, pq_3_15, pq_3_16, pq_3_17, pq_3_18, pq_3_19, pq_3_20, pq_3_21, pq_3_22, pq_3_23, pq_4_0, pq_4_1, pq_4_2, pq_4_3, pq_4_4, pq_4_5, pq_4_6, pq_4_7, pq_4_8, pq_4_9, pq_4_10, pq_4_11, pq_4_12, pq_4_13, pq_4_14, pq_4_15, pq_4_16, pq_4_17, pq_4_18, pq_4_19, pq_4_20, pq_4_21, pq_4_22, pq_4_23, pq_5_0, pq_5_1, pq_5_2, pq_5_3, pq_5_4, pq_5_5, pq_5_6, pq_5_7, pq_5_8, pq_5_9, pq_5_10, pq_5_11, pq_5_12, pq_5_13, pq_5_14, pq_5_15, pq_5_16, pq_5_17, pq_5_18, pq_5_19, pq_5_20, pq_5_21, pq_5_22, pq_5_23, pq_6_0, pq_6_1, pq_6_2, pq_6_3, pq_6_4, pq_6_5, pq_6_6, pq_6_7, pq_6_8, pq_6_9, pq_6_10, pq_6_11, pq_6_12, pq_6_13, pq_6_14, pq_6_15, pq_6_16, pq_6_17, pq_6_18, pq_6_19, pq_6_20, pq_6_21, pq_6_22, pq_6_23, pq_7_0, pq_7_1, pq_7_2, pq_7_3, pq_7_4, pq_7_5, pq_7_6, pq_7_7, pq_7_8, pq_7_9, pq_7_10, pq_7_11, pq_7_12, pq_7_13, pq_7_14, pq_7_15, pq_7_16, pq_7_17, pq_7_18, pq_7_19, pq_7_20, pq_7_21, pq_7_22, pq_7_23, pq_8_0, pq_8_1, pq_8_2, pq_8_3, pq_8_4, pq_8_5, pq_8_6, pq_8_7, pq_8_8, pq_8_9, pq_8_10, pq_8_11, pq_8_12, pq_8_13, pq_8_14, pq_8_15, pq_8_16, pq_8_17, pq_8_18, pq_8_19, pq_8_20, pq_8_21, pq_8_22, pq_8_23, pq_9_0, pq_9_1, pq_9_2, pq_9_3, pq_9_4, pq_9_5, pq_9_6, pq_9_7, pq_9_8, pq_9_9, pq_9_10, pq_9_11, pq_9_12, pq_9_13, pq_9_14, pq_9_15, pq_11_0, pq_11_1, pq_11_2, pq_11_3, pq_12_0, pq_12_1, pq_12_2, pq_12_3] (by rfl) gw_wsX8_told
set_option maxRecDepth 20000 in
theorem gX8_inner_X8_told : GoodIn wsX8_inner (va_wsS RX8 111 yX8_told wsX8_told) := goodIn_app (goodIn_s seX8_inner _ [pq_1_22, pq_1_23, pq_1_3] (by rfl) (by decide +kernel)) ggX8_inner_X8_told
noncomputable def sgX8_nth : List (List Cond) := [[.code yX8_nth cX8_nth 5 (some .int)], [.methodLink RX8 138 yX8_lies, .static yX8_lies, .initialized RX8, .code yX8_lies cX8_lies 4 (some .boolean)]]
theorem seX8_nth : sgX8_nth.flatten = wsX8_nth := by simp only [sgX8_nth, wsX8_nth, List.flatten_cons, List.flatten_nil, List.append_assoc, List.append_nil, List.cons_append, List.nil_append]
set_option maxRecDepth 20000 in
theorem ggX8_nth_X8_lies : GoodIn wsX8_nth wsX8_lies := goodIn_s seX8_nth _ [pq_1_3] (by rfl) gw_wsX8_lies
set_option maxRecDepth 20000 in
theorem gX8_nth_X8_lies : GoodIn wsX8_nth (va_wsS RX8 138 yX8_lies wsX8_lies) := goodIn_app (goodIn_s seX8_nth _ [pq_1_0, pq_1_1, pq_1_2] (by rfl) (by decide +kernel)) ggX8_nth_X8_lies
noncomputable def sgX8_places : List (List Cond) := [[.code yX8_places cX8_places 3 (some .int)], [.methodLink RX8 142 yX8_nth, .static yX8_nth, .initialized RX8, .code yX8_nth cX8_nth 5 (some .int), .methodLink RX8 138 yX8_lies, .static yX8_lies, .code yX8_lies cX8_lies 4 (some .boolean)]]
theorem seX8_places : sgX8_places.flatten = wsX8_places := by simp only [sgX8_places, wsX8_places, List.flatten_cons, List.flatten_nil, List.append_assoc, List.append_nil, List.cons_append, List.nil_append]
set_option maxRecDepth 20000 in
theorem ggX8_places_X8_nth : GoodIn wsX8_places wsX8_nth := goodIn_s seX8_places _ [pq_1_3, pq_1_4, pq_1_5, pq_1_2, pq_1_6] (by rfl) gw_wsX8_nth
set_option maxRecDepth 20000 in
theorem gX8_places_X8_nth : GoodIn wsX8_places (va_wsS RX8 142 yX8_nth wsX8_nth) := goodIn_app (goodIn_s seX8_places _ [pq_1_0, pq_1_1, pq_1_2] (by rfl) (by decide +kernel)) ggX8_places_X8_nth
noncomputable def sgX8_lastOf : List (List Cond) := [[.code yX8_lastOf cX8_lastOf 3 (some .int)], [.methodLink RX8 146 Lib.Math.max.name, .static Lib.Math.max.name, .initialized "java/lang/Math", .code Lib.Math.max.name Lib.Math.max.code 2 (some .int), .methodLink RX8 138 yX8_lies, .static yX8_lies, .initialized RX8, .code yX8_lies cX8_lies 4 (some .boolean)]]
theorem seX8_lastOf : sgX8_lastOf.flatten = wsX8_lastOf := by simp only [sgX8_lastOf, wsX8_lastOf, List.flatten_cons, List.flatten_nil, List.append_assoc, List.append_nil, List.cons_append, List.nil_append]
set_option maxRecDepth 20000 in
theorem ggX8_lastOf_X8_lies : GoodIn wsX8_lastOf wsX8_lies := goodIn_s seX8_lastOf _ [pq_1_7] (by rfl) gw_wsX8_lies
set_option maxRecDepth 20000 in
theorem gX8_lastOf_X8_lies : GoodIn wsX8_lastOf (va_wsS RX8 138 yX8_lies wsX8_lies) := goodIn_app (goodIn_s seX8_lastOf _ [pq_1_4, pq_1_5, pq_1_6] (by rfl) (by decide +kernel)) ggX8_lastOf_X8_lies
noncomputable def sgX8_first : List (List Cond) := [[.code yX8_first cX8_first 3 (some .int)], wsX8_first_r1, wsX8_first_r2, wsX80]
theorem seX8_first : sgX8_first.flatten = wsX8_first := by simp only [sgX8_first, wsX8_first, List.flatten_cons, List.flatten_nil, List.append_assoc, List.append_nil, List.cons_append, List.nil_append]
set_option maxRecDepth 20000 in
theorem ggX8_first_X8_isNoSource : GoodIn wsX8_first wsX8_isNoSource := goodIn_s seX8_first _ [pq_1_3, pq_1_4, pq_1_5, pq_1_2, pq_1_6] (by rfl) gw_wsX8_isNoSource
set_option maxRecDepth 20000 in
theorem gX8_first_X8_isNoSource : GoodIn wsX8_first (va_wsS RX8 119 yX8_isNoSource wsX8_isNoSource) := goodIn_app (goodIn_s seX8_first _ [pq_1_0, pq_1_1, pq_1_2] (by rfl) (by decide +kernel)) ggX8_first_X8_isNoSource
set_option maxRecDepth 20000 in
theorem ggX8_first_X8_isThrown : GoodIn wsX8_first wsX8_isThrown := goodIn_s seX8_first _ [pq_1_10, pq_1_11, pq_3_0, pq_3_1, pq_3_2, pq_3_3, pq_3_4, pq_3_5, pq_3_6, pq_3_7, pq_3_8, pq_3_9, pq_3_10] (by rfl) gw_wsX8_isThrown
set_option maxRecDepth 20000 in
theorem gX8_first_X8_isThrown : GoodIn wsX8_first (wsV RX8 81 RX8 yX8_isThrown wsX8_isThrown) := goodIn_app (goodIn_s seX8_first _ [pq_1_7, pq_1_8, pq_1_9, pq_1_2] (by rfl) (by decide +kernel)) ggX8_first_X8_isThrown
set_option maxRecDepth 20000 in
theorem ggX8_first_X8_textOf : GoodIn wsX8_first wsX8_textOf := goodIn_s seX8_first _ [pq_1_15, pq_1_16, pq_1_17, pq_1_18, pq_1_19, pq_1_20, pq_1_21, pq_1_2, pq_1_22, pq_1_23, pq_2_0, pq_2_1, pq_2_2, pq_2_3, pq_3_0, pq_3_1, pq_3_2, pq_3_3, pq_3_4, pq_3_5, pq_3_6, pq_3_7, pq_3_8, pq_3_9, pq_3_10] (by rfl) gw_wsX8_textOf
set_option maxRecDepth 20000 in
theorem gX8_first_X8_textOf : GoodIn wsX8_first (wsV RX8 122 RX8 yX8_textOf wsX8_textOf) := goodIn_app (goodIn_s seX8_first _ [pq_1_12, pq_1_13, pq_1_14, pq_1_2] (by rfl) (by decide +kernel)) ggX8_first_X8_textOf
set_option maxRecDepth 20000 in
theorem ggX8_first_X8_nth : GoodIn wsX8_first wsX8_nth := goodIn_s seX8_first _ [pq_2_6, pq_2_7, pq_2_8, pq_1_2, pq_2_9] (by rfl) gw_wsX8_nth
set_option maxRecDepth 20000 in
theorem gX8_first_X8_nth : GoodIn wsX8_first (va_wsS RX8 142 yX8_nth wsX8_nth) := goodIn_app (goodIn_s seX8_first _ [pq_2_4, pq_2_5, pq_1_2] (by rfl) (by decide +kernel)) ggX8_first_X8_nth
noncomputable def sgX8_last : List (List Cond) := [[.code yX8_last cX8_last 3 (some .int)], wsX8_last_r1, wsX8_last_r2, wsX80]
theorem seX8_last : sgX8_last.flatten = wsX8_last := by simp only [sgX8_last, wsX8_last, List.flatten_cons, List.flatten_nil, List.append_assoc, List.append_nil, List.cons_append, List.nil_append]
set_option maxRecDepth 20000 in
theorem ggX8_last_X8_isNoSource : GoodIn wsX8_last wsX8_isNoSource := goodIn_s seX8_last _ [pq_1_3, pq_1_4, pq_1_5, pq_1_2, pq_1_6] (by rfl) gw_wsX8_isNoSource
set_option maxRecDepth 20000 in
theorem gX8_last_X8_isNoSource : GoodIn wsX8_last (va_wsS RX8 119 yX8_isNoSource wsX8_isNoSource) := goodIn_app (goodIn_s seX8_last _ [pq_1_0, pq_1_1, pq_1_2] (by rfl) (by decide +kernel)) ggX8_last_X8_isNoSource
set_option maxRecDepth 20000 in
theorem ggX8_last_X8_isThrown : GoodIn wsX8_last wsX8_isThrown := goodIn_s seX8_last _ [pq_1_10, pq_1_11, pq_3_0, pq_3_1, pq_3_2, pq_3_3, pq_3_4, pq_3_5, pq_3_6, pq_3_7, pq_3_8, pq_3_9, pq_3_10] (by rfl) gw_wsX8_isThrown
set_option maxRecDepth 20000 in
theorem gX8_last_X8_isThrown : GoodIn wsX8_last (wsV RX8 81 RX8 yX8_isThrown wsX8_isThrown) := goodIn_app (goodIn_s seX8_last _ [pq_1_7, pq_1_8, pq_1_9, pq_1_2] (by rfl) (by decide +kernel)) ggX8_last_X8_isThrown
set_option maxRecDepth 20000 in
theorem ggX8_last_X8_textOf : GoodIn wsX8_last wsX8_textOf := goodIn_s seX8_last _ [pq_1_15, pq_1_16, pq_1_17, pq_1_18, pq_1_19, pq_1_20, pq_1_21, pq_1_2, pq_1_22, pq_1_23, pq_2_0, pq_2_1, pq_2_2, pq_2_3, pq_3_0, pq_3_1, pq_3_2, pq_3_3, pq_3_4, pq_3_5, pq_3_6, pq_3_7, pq_3_8, pq_3_9, pq_3_10] (by rfl) gw_wsX8_textOf
set_option maxRecDepth 20000 in
theorem gX8_last_X8_textOf : GoodIn wsX8_last (wsV RX8 122 RX8 yX8_textOf wsX8_textOf) := goodIn_app (goodIn_s seX8_last _ [pq_1_12, pq_1_13, pq_1_14, pq_1_2] (by rfl) (by decide +kernel)) ggX8_last_X8_textOf
set_option maxRecDepth 20000 in
theorem ggX8_last_X8_lastOf : GoodIn wsX8_last wsX8_lastOf := goodIn_s seX8_last _ [pq_2_6, pq_2_7, pq_2_8, pq_2_9, pq_2_10, pq_2_11, pq_2_12, pq_1_2, pq_2_13] (by rfl) gw_wsX8_lastOf
set_option maxRecDepth 20000 in
theorem gX8_last_X8_lastOf : GoodIn wsX8_last (va_wsS RX8 149 yX8_lastOf wsX8_lastOf) := goodIn_app (goodIn_s seX8_last _ [pq_2_4, pq_2_5, pq_1_2] (by rfl) (by decide +kernel)) ggX8_last_X8_lastOf
noncomputable def sgX8_count : List (List Cond) := [[.code yX8_count cX8_count 3 (some .int)], wsX8_count_r1, wsX8_count_r2, wsX80]
theorem seX8_count : sgX8_count.flatten = wsX8_count := by simp only [sgX8_count, wsX8_count, List.flatten_cons, List.flatten_nil, List.append_assoc, List.append_nil, List.cons_append, List.nil_append]
set_option maxRecDepth 20000 in
theorem ggX8_count_X8_isNoSource : GoodIn wsX8_count wsX8_isNoSource := goodIn_s seX8_count _ [pq_1_3, pq_1_4, pq_1_5, pq_1_2, pq_1_6] (by rfl) gw_wsX8_isNoSource
set_option maxRecDepth 20000 in
theorem gX8_count_X8_isNoSource : GoodIn wsX8_count (va_wsS RX8 119 yX8_isNoSource wsX8_isNoSource) := goodIn_app (goodIn_s seX8_count _ [pq_1_0, pq_1_1, pq_1_2] (by rfl) (by decide +kernel)) ggX8_count_X8_isNoSource
set_option maxRecDepth 20000 in
theorem ggX8_count_X8_isThrown : GoodIn wsX8_count wsX8_isThrown := goodIn_s seX8_count _ [pq_1_10, pq_1_11, pq_3_0, pq_3_1, pq_3_2, pq_3_3, pq_3_4, pq_3_5, pq_3_6, pq_3_7, pq_3_8, pq_3_9, pq_3_10] (by rfl) gw_wsX8_isThrown
set_option maxRecDepth 20000 in
theorem gX8_count_X8_isThrown : GoodIn wsX8_count (wsV RX8 81 RX8 yX8_isThrown wsX8_isThrown) := goodIn_app (goodIn_s seX8_count _ [pq_1_7, pq_1_8, pq_1_9, pq_1_2] (by rfl) (by decide +kernel)) ggX8_count_X8_isThrown
set_option maxRecDepth 20000 in
theorem ggX8_count_X8_textOf : GoodIn wsX8_count wsX8_textOf := goodIn_s seX8_count _ [pq_1_15, pq_1_16, pq_1_17, pq_1_18, pq_1_19, pq_1_20, pq_1_21, pq_1_2, pq_1_22, pq_1_23, pq_2_0, pq_2_1, pq_2_2, pq_2_3, pq_3_0, pq_3_1, pq_3_2, pq_3_3, pq_3_4, pq_3_5, pq_3_6, pq_3_7, pq_3_8, pq_3_9, pq_3_10] (by rfl) gw_wsX8_textOf
set_option maxRecDepth 20000 in
theorem gX8_count_X8_textOf : GoodIn wsX8_count (wsV RX8 122 RX8 yX8_textOf wsX8_textOf) := goodIn_app (goodIn_s seX8_count _ [pq_1_12, pq_1_13, pq_1_14, pq_1_2] (by rfl) (by decide +kernel)) ggX8_count_X8_textOf
set_option maxRecDepth 20000 in
theorem ggX8_count_X8_places : GoodIn wsX8_count wsX8_places := goodIn_s seX8_count _ [pq_2_6, pq_2_7, pq_2_8, pq_1_2, pq_2_9, pq_2_10, pq_2_11, pq_2_12] (by rfl) gw_wsX8_places
set_option maxRecDepth 20000 in
theorem gX8_count_X8_places : GoodIn wsX8_count (va_wsS RX8 153 yX8_places wsX8_places) := goodIn_app (goodIn_s seX8_count _ [pq_2_4, pq_2_5, pq_1_2] (by rfl) (by decide +kernel)) ggX8_count_X8_places
noncomputable def sgX8_place_ : List (List Cond) := [[.code yX8_place_ cX8_place_ 4 (some .int)], wsX8_place__r1, wsX8_place__r2, wsX80]
theorem seX8_place_ : sgX8_place_.flatten = wsX8_place_ := by simp only [sgX8_place_, wsX8_place_, List.flatten_cons, List.flatten_nil, List.append_assoc, List.append_nil, List.cons_append, List.nil_append]
set_option maxRecDepth 20000 in
theorem ggX8_place__X8_isNoSource : GoodIn wsX8_place_ wsX8_isNoSource := goodIn_s seX8_place_ _ [pq_1_3, pq_1_4, pq_1_5, pq_1_2, pq_1_6] (by rfl) gw_wsX8_isNoSource
set_option maxRecDepth 20000 in
theorem gX8_place__X8_isNoSource : GoodIn wsX8_place_ (va_wsS RX8 119 yX8_isNoSource wsX8_isNoSource) := goodIn_app (goodIn_s seX8_place_ _ [pq_1_0, pq_1_1, pq_1_2] (by rfl) (by decide +kernel)) ggX8_place__X8_isNoSource
set_option maxRecDepth 20000 in
theorem ggX8_place__X8_isNo : GoodIn wsX8_place_ wsX8_isNo := goodIn_s seX8_place_ _ [pq_1_6] (by rfl) gw_wsX8_isNo
set_option maxRecDepth 20000 in
theorem gX8_place__X8_isNo : GoodIn wsX8_place_ (va_wsS RX8 41 yX8_isNo wsX8_isNo) := goodIn_app (goodIn_s seX8_place_ _ [pq_1_4, pq_1_5, pq_1_2] (by rfl) (by decide +kernel)) ggX8_place__X8_isNo
set_option maxRecDepth 20000 in
theorem ggX8_place__X8_isThrown : GoodIn wsX8_place_ wsX8_isThrown := goodIn_s seX8_place_ _ [pq_1_10, pq_1_11, pq_3_0, pq_3_1, pq_3_2, pq_3_3, pq_3_4, pq_3_5, pq_3_6, pq_3_7, pq_3_8, pq_3_9, pq_3_10] (by rfl) gw_wsX8_isThrown
set_option maxRecDepth 20000 in
theorem gX8_place__X8_isThrown : GoodIn wsX8_place_ (wsV RX8 81 RX8 yX8_isThrown wsX8_isThrown) := goodIn_app (goodIn_s seX8_place_ _ [pq_1_7, pq_1_8, pq_1_9, pq_1_2] (by rfl) (by decide +kernel)) ggX8_place__X8_isThrown
set_option maxRecDepth 20000 in
theorem ggX8_place__X8_textOf : GoodIn wsX8_place_ wsX8_textOf := goodIn_s seX8_place_ _ [pq_1_15, pq_1_16, pq_1_17, pq_1_18, pq_1_19, pq_1_20, pq_1_21, pq_1_2, pq_1_22, pq_1_23, pq_2_0, pq_2_1, pq_2_2, pq_2_3, pq_3_0, pq_3_1, pq_3_2, pq_3_3, pq_3_4, pq_3_5, pq_3_6, pq_3_7, pq_3_8, pq_3_9, pq_3_10] (by rfl) gw_wsX8_textOf
set_option maxRecDepth 20000 in
theorem gX8_place__X8_textOf : GoodIn wsX8_place_ (wsV RX8 122 RX8 yX8_textOf wsX8_textOf) := goodIn_app (goodIn_s seX8_place_ _ [pq_1_12, pq_1_13, pq_1_14, pq_1_2] (by rfl) (by decide +kernel)) ggX8_place__X8_textOf
set_option maxRecDepth 20000 in
theorem ggX8_place__X8_nth : GoodIn wsX8_place_ wsX8_nth := goodIn_s seX8_place_ _ [pq_2_6, pq_2_7, pq_2_8, pq_1_2, pq_2_9] (by rfl) gw_wsX8_nth
set_option maxRecDepth 20000 in
theorem gX8_place__X8_nth : GoodIn wsX8_place_ (va_wsS RX8 142 yX8_nth wsX8_nth) := goodIn_app (goodIn_s seX8_place_ _ [pq_2_4, pq_2_5, pq_1_2] (by rfl) (by decide +kernel)) ggX8_place__X8_nth
noncomputable def sgX8_greatest : List (List Cond) := [[.code yX8_greatest cX8_greatest 3 (some .int)], [.methodLink RX8 146 Lib.Math.max.name, .static Lib.Math.max.name, .initialized "java/lang/Math", .code Lib.Math.max.name Lib.Math.max.code 2 (some .int), .methodLink RX8 156 yX8_isBorder, .static yX8_isBorder, .initialized RX8, .code yX8_isBorder cX8_isBorder 5 (some .boolean)]]
theorem seX8_greatest : sgX8_greatest.flatten = wsX8_greatest := by simp only [sgX8_greatest, wsX8_greatest, List.flatten_cons, List.flatten_nil, List.append_assoc, List.append_nil, List.cons_append, List.nil_append]
set_option maxRecDepth 20000 in
theorem ggX8_greatest_X8_isBorder : GoodIn wsX8_greatest wsX8_isBorder := goodIn_s seX8_greatest _ [pq_1_7] (by rfl) gw_wsX8_isBorder
set_option maxRecDepth 20000 in
theorem gX8_greatest_X8_isBorder : GoodIn wsX8_greatest (va_wsS RX8 156 yX8_isBorder wsX8_isBorder) := goodIn_app (goodIn_s seX8_greatest _ [pq_1_4, pq_1_5, pq_1_6] (by rfl) (by decide +kernel)) ggX8_greatest_X8_isBorder
noncomputable def sgX8_border : List (List Cond) := [[.code yX8_border cX8_border 2 (some .int)], wsX8_border_r1, wsX8_border_r2, wsX80]
theorem seX8_border : sgX8_border.flatten = wsX8_border := by simp only [sgX8_border, wsX8_border, List.flatten_cons, List.flatten_nil, List.append_assoc, List.append_nil, List.cons_append, List.nil_append]
set_option maxRecDepth 20000 in
theorem ggX8_border_X8_isNoSource : GoodIn wsX8_border wsX8_isNoSource := goodIn_s seX8_border _ [pq_1_3, pq_1_4, pq_1_5, pq_1_2, pq_1_6] (by rfl) gw_wsX8_isNoSource
set_option maxRecDepth 20000 in
theorem gX8_border_X8_isNoSource : GoodIn wsX8_border (va_wsS RX8 119 yX8_isNoSource wsX8_isNoSource) := goodIn_app (goodIn_s seX8_border _ [pq_1_0, pq_1_1, pq_1_2] (by rfl) (by decide +kernel)) ggX8_border_X8_isNoSource
set_option maxRecDepth 20000 in
theorem ggX8_border_X8_isThrown : GoodIn wsX8_border wsX8_isThrown := goodIn_s seX8_border _ [pq_1_10, pq_1_11, pq_3_0, pq_3_1, pq_3_2, pq_3_3, pq_3_4, pq_3_5, pq_3_6, pq_3_7, pq_3_8, pq_3_9, pq_3_10] (by rfl) gw_wsX8_isThrown
set_option maxRecDepth 20000 in
theorem gX8_border_X8_isThrown : GoodIn wsX8_border (wsV RX8 81 RX8 yX8_isThrown wsX8_isThrown) := goodIn_app (goodIn_s seX8_border _ [pq_1_7, pq_1_8, pq_1_9, pq_1_2] (by rfl) (by decide +kernel)) ggX8_border_X8_isThrown
set_option maxRecDepth 20000 in
theorem ggX8_border_X8_textOf : GoodIn wsX8_border wsX8_textOf := goodIn_s seX8_border _ [pq_1_15, pq_1_16, pq_1_17, pq_1_18, pq_1_19, pq_1_20, pq_1_21, pq_1_2, pq_1_22, pq_1_23, pq_2_0, pq_2_1, pq_2_2, pq_2_3, pq_3_0, pq_3_1, pq_3_2, pq_3_3, pq_3_4, pq_3_5, pq_3_6, pq_3_7, pq_3_8, pq_3_9, pq_3_10] (by rfl) gw_wsX8_textOf
set_option maxRecDepth 20000 in
theorem gX8_border_X8_textOf : GoodIn wsX8_border (wsV RX8 122 RX8 yX8_textOf wsX8_textOf) := goodIn_app (goodIn_s seX8_border _ [pq_1_12, pq_1_13, pq_1_14, pq_1_2] (by rfl) (by decide +kernel)) ggX8_border_X8_textOf
set_option maxRecDepth 20000 in
theorem ggX8_border_X8_greatest : GoodIn wsX8_border wsX8_greatest := goodIn_s seX8_border _ [pq_2_6, pq_2_7, pq_2_8, pq_2_9, pq_2_10, pq_2_11, pq_2_12, pq_1_2, pq_2_13] (by rfl) gw_wsX8_greatest
set_option maxRecDepth 20000 in
theorem gX8_border_X8_greatest : GoodIn wsX8_border (va_wsS RX8 160 yX8_greatest wsX8_greatest) := goodIn_app (goodIn_s seX8_border _ [pq_2_4, pq_2_5, pq_1_2] (by rfl) (by decide +kernel)) ggX8_border_X8_greatest
noncomputable def sgX8_borders : List (List Cond) := [[.code yX8_borders cX8_borders 5 (some (.object "java/lang/String"))], wsX8_borders_r1, wsX8_borders_r2, wsX8_borders_r3, wsX8_borders_r4, wsX8_borders_r5, wsX8_borders_r6, wsX8_borders_r7, wsX8_borders_r8, wsX8_borders_r9, wsX8_borders_r10, wsX8_borders_r11, wsJ40, wsX80, wsJ00]
theorem seX8_borders : sgX8_borders.flatten = wsX8_borders := by simp only [sgX8_borders, wsX8_borders, List.flatten_cons, List.flatten_nil, List.append_assoc, List.append_nil, List.cons_append, List.nil_append]
set_option maxRecDepth 20000 in
theorem ggX8_borders_X8_isNoSource : GoodIn wsX8_borders wsX8_isNoSource := goodIn_s seX8_borders _ [pq_1_6, pq_1_7, pq_1_8, pq_1_5, pq_1_9] (by rfl) gw_wsX8_isNoSource
set_option maxRecDepth 20000 in
theorem gX8_borders_X8_isNoSource : GoodIn wsX8_borders (va_wsS RX8 119 yX8_isNoSource wsX8_isNoSource) := goodIn_app (goodIn_s seX8_borders _ [pq_1_3, pq_1_4, pq_1_5] (by rfl) (by decide +kernel)) ggX8_borders_X8_isNoSource
set_option maxRecDepth 20000 in
theorem ggX8_borders_X8_isThrown : GoodIn wsX8_borders wsX8_isThrown := goodIn_s seX8_borders _ [pq_1_13, pq_1_14, pq_13_0, pq_13_1, pq_13_2, pq_13_3, pq_13_4, pq_13_5, pq_13_6, pq_13_7, pq_13_8, pq_13_9, pq_13_10] (by rfl) gw_wsX8_isThrown
set_option maxRecDepth 20000 in
theorem gX8_borders_X8_isThrown : GoodIn wsX8_borders (wsV RX8 81 RX8 yX8_isThrown wsX8_isThrown) := goodIn_app (goodIn_s seX8_borders _ [pq_1_10, pq_1_11, pq_1_12, pq_1_5] (by rfl) (by decide +kernel)) ggX8_borders_X8_isThrown
set_option maxRecDepth 20000 in
theorem ggX8_borders_X8_textOf : GoodIn wsX8_borders wsX8_textOf := goodIn_s seX8_borders _ [pq_1_18, pq_1_19, pq_1_20, pq_1_21, pq_1_22, pq_1_23, pq_2_0, pq_1_5, pq_2_1, pq_2_2, pq_2_3, pq_2_4, pq_2_5, pq_2_6, pq_13_0, pq_13_1, pq_13_2, pq_13_3, pq_13_4, pq_13_5, pq_13_6, pq_13_7, pq_13_8, pq_13_9, pq_13_10] (by rfl) gw_wsX8_textOf
set_option maxRecDepth 20000 in
theorem gX8_borders_X8_textOf : GoodIn wsX8_borders (wsV RX8 122 RX8 yX8_textOf wsX8_textOf) := goodIn_app (goodIn_s seX8_borders _ [pq_1_15, pq_1_16, pq_1_17, pq_1_5] (by rfl) (by decide +kernel)) ggX8_borders_X8_textOf
set_option maxRecDepth 20000 in
theorem ggX8_borders_J4_init_da8c8 : GoodIn wsX8_borders wsJ4_init_da8c8 := goodIn_s seX8_borders _ [pq_2_9, pq_2_10, pq_2_11, pq_2_12, pq_2_13, pq_2_14, pq_2_15, pq_2_16, pq_2_17, pq_2_18, pq_2_19, pq_2_20, pq_2_21, pq_2_22, pq_2_23, pq_3_0, pq_3_1, pq_3_2, pq_3_3, pq_3_4, pq_12_0, pq_12_1, pq_12_2, pq_12_3] (by rfl) gw_wsJ4_init_da8c8
set_option maxRecDepth 20000 in
theorem gX8_borders_J4_init_da8c8 : GoodIn wsX8_borders (wsJ4_init_da8c8) := ggX8_borders_J4_init_da8c8
set_option maxRecDepth 20000 in
theorem ggX8_borders_X8_greatest : GoodIn wsX8_borders wsX8_greatest := goodIn_s seX8_borders _ [pq_3_7, pq_3_8, pq_3_9, pq_3_10, pq_3_11, pq_3_12, pq_3_13, pq_1_5, pq_3_14] (by rfl) gw_wsX8_greatest
set_option maxRecDepth 20000 in
theorem gX8_borders_X8_greatest : GoodIn wsX8_borders (va_wsS RX8 160 yX8_greatest wsX8_greatest) := goodIn_app (goodIn_s seX8_borders _ [pq_3_5, pq_3_6, pq_1_5] (by rfl) (by decide +kernel)) ggX8_borders_X8_greatest
set_option maxRecDepth 20000 in
theorem ggX8_borders_J4_append_bf812 : GoodIn wsX8_borders wsJ4_append_bf812 := goodIn_s seX8_borders _ [pq_3_18, pq_3_19, pq_3_20, pq_3_21, pq_3_22, pq_2_12, pq_3_23, pq_4_0, pq_2_19, pq_4_1, pq_4_2, pq_4_3, pq_4_4, pq_4_5, pq_4_6, pq_4_7, pq_4_8, pq_4_9, pq_2_20, pq_4_10, pq_4_11, pq_4_12, pq_4_13, pq_4_14, pq_4_15, pq_4_16, pq_4_17, pq_4_18, pq_4_19, pq_4_20, pq_3_9, pq_3_10, pq_3_11, pq_4_21, pq_4_22, pq_4_23, pq_5_0, pq_5_1, pq_5_2, pq_5_3, pq_5_4, pq_5_5, pq_5_6, pq_5_7, pq_5_8, pq_5_9, pq_5_10, pq_2_18, pq_5_11, pq_5_12, pq_5_13, pq_5_14, pq_5_15, pq_5_16, pq_5_17, pq_5_18, pq_5_19, pq_5_20, pq_5_21, pq_5_22, pq_2_17, pq_5_23, pq_6_0, pq_6_1, pq_6_2, pq_6_3, pq_6_4, pq_6_5, pq_2_23, pq_6_6, pq_6_7, pq_6_8, pq_6_9, pq_6_10, pq_6_11, pq_6_12, pq_6_13, pq_6_14, pq_6_15, pq_6_16, pq_6_17, pq_6_18, pq_6_19, pq_6_20, pq_6_21, pq_6_22, pq_6_23, pq_7_0, pq_7_1, pq_7_2, pq_7_3, pq_7_4, pq_7_5, pq_7_6, pq_7_7, pq_7_8, pq_12_0, pq_12_1, pq_12_2, pq_12_3] (by rfl) gw_wsJ4_append_bf812
set_option maxRecDepth 20000 in
theorem gX8_borders_J4_append_bf812 : GoodIn wsX8_borders (wsV RX8 164 RJ4 yJ4_append_bf812 wsJ4_append_bf812) := goodIn_app (goodIn_s seX8_borders _ [pq_3_15, pq_3_16, pq_3_17, pq_1_2] (by rfl) (by decide +kernel)) ggX8_borders_J4_append_bf812
set_option maxRecDepth 20000 in
theorem ggX8_borders_J4_append_cf468 : GoodIn wsX8_borders wsJ4_append_cf468 := goodIn_s seX8_borders _ [pq_7_12, pq_7_13, pq_7_14, pq_3_21, pq_7_15, pq_2_12, pq_7_16, pq_4_0, pq_2_19, pq_4_5, pq_4_6, pq_4_7, pq_4_8, pq_4_9, pq_2_20, pq_4_10, pq_4_11, pq_4_12, pq_4_13, pq_4_14, pq_4_15, pq_4_16, pq_4_17, pq_4_18, pq_4_19, pq_4_20, pq_3_9, pq_3_10, pq_3_11, pq_4_21, pq_4_22, pq_4_23, pq_5_0, pq_5_1, pq_5_2, pq_5_3, pq_5_4, pq_5_5, pq_5_6, pq_5_7, pq_5_8, pq_5_9, pq_5_10, pq_2_18, pq_5_11, pq_5_12, pq_5_13, pq_5_14, pq_5_15, pq_5_16, pq_5_17, pq_5_18, pq_5_19, pq_5_20, pq_5_21, pq_5_22, pq_2_17, pq_7_17, pq_7_18, pq_7_19, pq_7_20, pq_7_21, pq_7_22, pq_7_23, pq_8_0, pq_8_1, pq_2_21, pq_2_22, pq_2_23, pq_3_0, pq_3_1, pq_3_2, pq_3_3, pq_3_4, pq_8_2, pq_8_3, pq_8_4, pq_8_5, pq_8_6, pq_8_7, pq_8_8, pq_8_9, pq_8_10, pq_6_11, pq_6_12, pq_6_13, pq_8_11, pq_8_12, pq_6_16, pq_8_13, pq_6_18, pq_8_14, pq_8_15, pq_6_21, pq_8_16, pq_7_4, pq_7_5, pq_7_6, pq_6_7, pq_7_7, pq_7_8, pq_8_17, pq_8_18, pq_8_19, pq_8_20, pq_8_21, pq_8_22, pq_8_23, pq_9_0, pq_9_1, pq_9_2, pq_9_3, pq_9_4, pq_12_0, pq_12_1, pq_12_2, pq_12_3] (by rfl) gw_wsJ4_append_cf468
set_option maxRecDepth 20000 in
theorem gX8_borders_J4_append_cf468 : GoodIn wsX8_borders (wsV RX8 69 RJ4 yJ4_append_cf468 wsJ4_append_cf468) := goodIn_app (goodIn_s seX8_borders _ [pq_7_9, pq_7_10, pq_7_11, pq_1_2] (by rfl) (by decide +kernel)) ggX8_borders_J4_append_cf468
set_option maxRecDepth 20000 in
theorem ggX8_borders_J4_toString_0e30d : GoodIn wsX8_borders wsJ4_toString_0e30d := goodIn_s seX8_borders _ [pq_9_8, pq_9_9, pq_9_10, pq_6_16, pq_9_11, pq_9_12, pq_9_13, pq_9_14, pq_9_15, pq_9_16, pq_9_17, pq_2_15, pq_2_16, pq_9_18, pq_9_19, pq_9_20, pq_9_21, pq_9_22, pq_9_23, pq_10_0, pq_10_1, pq_2_12, pq_10_2, pq_2_19, pq_10_3, pq_10_4, pq_10_5, pq_10_6, pq_10_7, pq_1_2, pq_10_8, pq_10_9, pq_3_21, pq_10_10, pq_10_11, pq_4_0, pq_10_12, pq_5_19, pq_5_20, pq_5_21, pq_5_22, pq_2_17, pq_2_20, pq_10_13, pq_10_14, pq_5_3, pq_10_15, pq_5_5, pq_5_6, pq_5_7, pq_5_8, pq_5_9, pq_5_10, pq_10_16, pq_10_17, pq_10_18, pq_2_18, pq_5_11, pq_5_12, pq_3_10, pq_5_13, pq_5_14, pq_5_15, pq_5_16, pq_5_17, pq_10_19, pq_10_20, pq_10_21, pq_10_22, pq_1_1, pq_10_23, pq_11_0, pq_2_23, pq_11_1, pq_11_2, pq_11_3, pq_11_4, pq_8_8, pq_8_9, pq_8_10, pq_6_11, pq_6_12, pq_6_13, pq_8_11, pq_8_12, pq_8_13, pq_6_18, pq_8_14, pq_8_15, pq_6_21, pq_8_16, pq_11_5, pq_11_6, pq_11_7, pq_6_7, pq_7_7, pq_7_8, pq_3_1, pq_3_2, pq_3_3, pq_3_4, pq_11_8, pq_11_9, pq_11_10, pq_11_11, pq_14_0, pq_14_1, pq_14_2, pq_14_3, pq_12_0, pq_12_1, pq_12_2, pq_12_3] (by rfl) gw_wsJ4_toString_0e30d
set_option maxRecDepth 20000 in
theorem gX8_borders_J4_toString_0e30d : GoodIn wsX8_borders (wsV RX8 73 RJ4 yJ4_toString_0e30d wsJ4_toString_0e30d) := goodIn_app (goodIn_s seX8_borders _ [pq_9_5, pq_9_6, pq_9_7, pq_1_2] (by rfl) (by decide +kernel)) ggX8_borders_J4_toString_0e30d
noncomputable def sgX8_chain : List (List Cond) := [[.code yX8_chain cX8_chain 5 (some (.object "java/lang/String"))], wsX8_chain_r1, wsX8_chain_r2, wsX8_chain_r3, wsX8_chain_r4, wsX8_chain_r5, wsX8_chain_r6, wsX8_chain_r7, wsX8_chain_r8, wsX8_chain_r9, wsX8_chain_r10, wsX8_chain_r11, wsJ40, wsX80, wsJ00]
theorem seX8_chain : sgX8_chain.flatten = wsX8_chain := by simp only [sgX8_chain, wsX8_chain, List.flatten_cons, List.flatten_nil, List.append_assoc, List.append_nil, List.cons_append, List.nil_append]
set_option maxRecDepth 20000 in
theorem ggX8_chain_X8_isNoSource : GoodIn wsX8_chain wsX8_isNoSource := goodIn_s seX8_chain _ [pq_1_6, pq_1_7, pq_1_8, pq_1_5, pq_1_9] (by rfl) gw_wsX8_isNoSource
set_option maxRecDepth 20000 in
theorem gX8_chain_X8_isNoSource : GoodIn wsX8_chain (va_wsS RX8 119 yX8_isNoSource wsX8_isNoSource) := goodIn_app (goodIn_s seX8_chain _ [pq_1_3, pq_1_4, pq_1_5] (by rfl) (by decide +kernel)) ggX8_chain_X8_isNoSource
set_option maxRecDepth 20000 in
theorem ggX8_chain_X8_isThrown : GoodIn wsX8_chain wsX8_isThrown := goodIn_s seX8_chain _ [pq_1_13, pq_1_14, pq_13_0, pq_13_1, pq_13_2, pq_13_3, pq_13_4, pq_13_5, pq_13_6, pq_13_7, pq_13_8, pq_13_9, pq_13_10] (by rfl) gw_wsX8_isThrown
set_option maxRecDepth 20000 in
theorem gX8_chain_X8_isThrown : GoodIn wsX8_chain (wsV RX8 81 RX8 yX8_isThrown wsX8_isThrown) := goodIn_app (goodIn_s seX8_chain _ [pq_1_10, pq_1_11, pq_1_12, pq_1_5] (by rfl) (by decide +kernel)) ggX8_chain_X8_isThrown
set_option maxRecDepth 20000 in
theorem ggX8_chain_X8_textOf : GoodIn wsX8_chain wsX8_textOf := goodIn_s seX8_chain _ [pq_1_18, pq_1_19, pq_1_20, pq_1_21, pq_1_22, pq_1_23, pq_2_0, pq_1_5, pq_2_1, pq_2_2, pq_2_3, pq_2_4, pq_2_5, pq_2_6, pq_13_0, pq_13_1, pq_13_2, pq_13_3, pq_13_4, pq_13_5, pq_13_6, pq_13_7, pq_13_8, pq_13_9, pq_13_10] (by rfl) gw_wsX8_textOf
set_option maxRecDepth 20000 in
theorem gX8_chain_X8_textOf : GoodIn wsX8_chain (wsV RX8 122 RX8 yX8_textOf wsX8_textOf) := goodIn_app (goodIn_s seX8_chain _ [pq_1_15, pq_1_16, pq_1_17, pq_1_5] (by rfl) (by decide +kernel)) ggX8_chain_X8_textOf
set_option maxRecDepth 20000 in
theorem ggX8_chain_J4_init_da8c8 : GoodIn wsX8_chain wsJ4_init_da8c8 := goodIn_s seX8_chain _ [pq_2_9, pq_2_10, pq_2_11, pq_2_12, pq_2_13, pq_2_14, pq_2_15, pq_2_16, pq_2_17, pq_2_18, pq_2_19, pq_2_20, pq_2_21, pq_2_22, pq_2_23, pq_3_0, pq_3_1, pq_3_2, pq_3_3, pq_3_4, pq_12_0, pq_12_1, pq_12_2, pq_12_3] (by rfl) gw_wsJ4_init_da8c8
set_option maxRecDepth 20000 in
theorem gX8_chain_J4_init_da8c8 : GoodIn wsX8_chain (wsJ4_init_da8c8) := ggX8_chain_J4_init_da8c8
set_option maxRecDepth 20000 in
theorem ggX8_chain_X8_isBorder : GoodIn wsX8_chain wsX8_isBorder := goodIn_s seX8_chain _ [pq_3_7] (by rfl) gw_wsX8_isBorder
set_option maxRecDepth 20000 in
theorem gX8_chain_X8_isBorder : GoodIn wsX8_chain (va_wsS RX8 156 yX8_isBorder wsX8_isBorder) := goodIn_app (goodIn_s seX8_chain _ [pq_3_5, pq_3_6, pq_1_5] (by rfl) (by decide +kernel)) ggX8_chain_X8_isBorder
set_option maxRecDepth 20000 in
theorem ggX8_chain_J4_append_bf812 : GoodIn wsX8_chain wsJ4_append_bf812 := goodIn_s seX8_chain _ [pq_3_11, pq_3_12, pq_3_13, pq_3_14, pq_3_15, pq_2_12, pq_3_16, pq_3_17, pq_2_19, pq_3_18, pq_3_19, pq_3_20, pq_3_21, pq_3_22, pq_3_23, pq_4_0, pq_4_1, pq_4_2, pq_2_20, pq_4_3, pq_4_4, pq_4_5, pq_4_6, pq_4_7, pq_4_8, pq_4_9, pq_4_10, pq_4_11, pq_4_12, pq_4_13, pq_4_14, pq_4_15, pq_4_16, pq_4_17, pq_4_18, pq_4_19, pq_4_20, pq_4_21, pq_4_22, pq_4_23, pq_5_0, pq_5_1, pq_5_2, pq_5_3, pq_5_4, pq_5_5, pq_5_6, pq_2_18, pq_5_7, pq_5_8, pq_5_9, pq_5_10, pq_5_11, pq_5_12, pq_5_13, pq_5_14, pq_5_15, pq_5_16, pq_5_17, pq_5_18, pq_2_17, pq_5_19, pq_5_20, pq_5_21, pq_5_22, pq_5_23, pq_6_0, pq_6_1, pq_2_23, pq_6_2, pq_6_3, pq_6_4, pq_6_5, pq_6_6, pq_6_7, pq_6_8, pq_6_9, pq_6_10, pq_6_11, pq_6_12, pq_6_13, pq_6_14, pq_6_15, pq_6_16, pq_6_17, pq_6_18, pq_6_19, pq_6_20, pq_6_21, pq_6_22, pq_6_23, pq_7_0, pq_7_1, pq_7_2, pq_7_3, pq_7_4, pq_12_0, pq_12_1, pq_12_2, pq_12_3] (by rfl) gw_wsJ4_append_bf812
set_option maxRecDepth 20000 in
theorem gX8_chain_J4_append_bf812 : GoodIn wsX8_chain (wsV RX8 164 RJ4 yJ4_append_bf812 wsJ4_append_bf812) := goodIn_app (goodIn_s seX8_chain _ [pq_3_8, pq_3_9, pq_3_10, pq_1_2] (by rfl) (by decide +kernel)) ggX8_chain_J4_append_bf812
set_option maxRecDepth 20000 in
theorem ggX8_chain_J4_append_cf468 : GoodIn wsX8_chain wsJ4_append_cf468 := goodIn_s seX8_chain _ [pq_7_8, pq_7_9, pq_7_10, pq_3_14, pq_7_11, pq_2_12, pq_7_12, pq_3_17, pq_2_19, pq_3_22, pq_3_23, pq_4_0, pq_4_1, pq_4_2, pq_2_20, pq_4_3, pq_4_4, pq_4_5, pq_4_6, pq_4_7, pq_4_8, pq_4_9, pq_4_10, pq_4_11, pq_4_12, pq_4_13, pq_4_14, pq_4_15, pq_4_16, pq_4_17, pq_4_18, pq_4_19, pq_4_20, pq_4_21, pq_4_22, pq_4_23, pq_5_0, pq_5_1, pq_5_2, pq_5_3, pq_5_4, pq_5_5, pq_5_6, pq_2_18, pq_5_7, pq_5_8, pq_5_9, pq_5_10, pq_5_11, pq_5_12, pq_5_13, pq_5_14, pq_5_15, pq_5_16, pq_5_17, pq_5_18, pq_2_17, pq_7_13, pq_7_14, pq_7_15, pq_7_16, pq_7_17, pq_7_18, pq_7_19, pq_7_20, pq_7_21, pq_2_21, pq_2_22, pq_2_23, pq_3_0, pq_3_1, pq_3_2, pq_3_3, pq_3_4, pq_7_22, pq_7_23, pq_8_0, pq_8_1, pq_8_2, pq_8_3, pq_8_4, pq_8_5, pq_8_6, pq_6_7, pq_6_8, pq_6_9, pq_8_7, pq_8_8, pq_6_12, pq_8_9, pq_6_14, pq_8_10, pq_8_11, pq_6_17, pq_8_12, pq_7_0, pq_7_1, pq_7_2, pq_6_3, pq_7_3, pq_7_4, pq_8_13, pq_8_14, pq_8_15, pq_8_16, pq_8_17, pq_8_18, pq_8_19, pq_8_20, pq_8_21, pq_8_22, pq_8_23, pq_9_0, pq_12_0, pq_12_1, pq_12_2, pq_12_3] (by rfl) gw_wsJ4_append_cf468
set_option maxRecDepth 20000 in
theorem gX8_chain_J4_append_cf468 : GoodIn wsX8_chain (wsV RX8 69 RJ4 yJ4_append_cf468 wsJ4_append_cf468) := goodIn_app (goodIn_s seX8_chain _ [pq_7_5, pq_7_6, pq_7_7, pq_1_2] (by rfl) (by decide +kernel)) ggX8_chain_J4_append_cf468
set_option maxRecDepth 20000 in
theorem ggX8_chain_J4_toString_0e30d : GoodIn wsX8_chain wsJ4_toString_0e30d := goodIn_s seX8_chain _ [pq_9_4, pq_9_5, pq_9_6, pq_6_12, pq_9_7, pq_9_8, pq_9_9, pq_9_10, pq_9_11, pq_9_12, pq_9_13, pq_2_15, pq_2_16, pq_9_14, pq_9_15, pq_9_16, pq_9_17, pq_9_18, pq_9_19, pq_9_20, pq_9_21, pq_2_12, pq_9_22, pq_2_19, pq_9_23, pq_10_0, pq_10_1, pq_10_2, pq_10_3, pq_1_2, pq_10_4, pq_10_5, pq_3_14, pq_10_6, pq_10_7, pq_3_17, pq_10_8, pq_5_15, pq_5_16, pq_5_17, pq_5_18, pq_2_17, pq_2_20, pq_10_9, pq_10_10, pq_4_23, pq_10_11, pq_5_1, pq_5_2, pq_5_3, pq_5_4, pq_5_5, pq_5_6, pq_10_12, pq_10_13, pq_10_14, pq_2_18, pq_5_7, pq_5_8, pq_4_15, pq_5_9, pq_5_10, pq_5_11, pq_5_12, pq_5_13, pq_10_15, pq_10_16, pq_10_17, pq_10_18, pq_1_1, pq_10_19, pq_10_20, pq_2_23, pq_10_21, pq_10_22, pq_10_23, pq_11_0, pq_8_4, pq_8_5, pq_8_6, pq_6_7, pq_6_8, pq_6_9, pq_8_7, pq_8_8, pq_8_9, pq_6_14, pq_8_10, pq_8_11, pq_6_17, pq_8_12, pq_11_1, pq_11_2, pq_11_3, pq_6_3, pq_7_3, pq_7_4, pq_3_1, pq_3_2, pq_3_3, pq_3_4, pq_11_4, pq_11_5, pq_11_6, pq_11_7, pq_14_0, pq_14_1, pq_14_2, pq_14_3, pq_12_0, pq_12_1, pq_12_2, pq_12_3] (by rfl) gw_wsJ4_toString_0e30d
set_option maxRecDepth 20000 in
theorem gX8_chain_J4_toString_0e30d : GoodIn wsX8_chain (wsV RX8 73 RJ4 yJ4_toString_0e30d wsJ4_toString_0e30d) := goodIn_app (goodIn_s seX8_chain _ [pq_9_1, pq_9_2, pq_9_3, pq_1_2] (by rfl) (by decide +kernel)) ggX8_chain_J4_toString_0e30d
noncomputable def sgX8_differ : List (List Cond) := [[.code yX8_differ cX8_differ 6 (some .int)], wsX8_differ_r1, wsX8_differ_r2, wsX80]
theorem seX8_differ : sgX8_differ.flatten = wsX8_differ := by simp only [sgX8_differ, wsX8_differ, List.flatten_cons, List.flatten_nil, List.append_assoc, List.append_nil, List.cons_append, List.nil_append]
set_option maxRecDepth 20000 in
theorem ggX8_differ_X8_isNoSource : GoodIn wsX8_differ wsX8_isNoSource := goodIn_s seX8_differ _ [pq_1_3, pq_1_4, pq_1_5, pq_1_2, pq_1_6] (by rfl) gw_wsX8_isNoSource
set_option maxRecDepth 20000 in
theorem gX8_differ_X8_isNoSource : GoodIn wsX8_differ (va_wsS RX8 119 yX8_isNoSource wsX8_isNoSource) := goodIn_app (goodIn_s seX8_differ _ [pq_1_0, pq_1_1, pq_1_2] (by rfl) (by decide +kernel)) ggX8_differ_X8_isNoSource
set_option maxRecDepth 20000 in
theorem ggX8_differ_X8_isThrown : GoodIn wsX8_differ wsX8_isThrown := goodIn_s seX8_differ _ [pq_1_10, pq_1_11, pq_3_0, pq_3_1, pq_3_2, pq_3_3, pq_3_4, pq_3_5, pq_3_6, pq_3_7, pq_3_8, pq_3_9, pq_3_10] (by rfl) gw_wsX8_isThrown
set_option maxRecDepth 20000 in
theorem gX8_differ_X8_isThrown : GoodIn wsX8_differ (wsV RX8 81 RX8 yX8_isThrown wsX8_isThrown) := goodIn_app (goodIn_s seX8_differ _ [pq_1_7, pq_1_8, pq_1_9, pq_1_2] (by rfl) (by decide +kernel)) ggX8_differ_X8_isThrown
set_option maxRecDepth 20000 in
theorem ggX8_differ_X8_textOf : GoodIn wsX8_differ wsX8_textOf := goodIn_s seX8_differ _ [pq_1_15, pq_1_16, pq_1_17, pq_1_18, pq_1_19, pq_1_20, pq_1_21, pq_1_2, pq_1_22, pq_1_23, pq_2_0, pq_2_1, pq_2_2, pq_2_3, pq_3_0, pq_3_1, pq_3_2, pq_3_3, pq_3_4, pq_3_5, pq_3_6, pq_3_7, pq_3_8, pq_3_9, pq_3_10] (by rfl) gw_wsX8_textOf
set_option maxRecDepth 20000 in
theorem gX8_differ_X8_textOf : GoodIn wsX8_differ (wsV RX8 122 RX8 yX8_textOf wsX8_textOf) := goodIn_app (goodIn_s seX8_differ _ [pq_1_12, pq_1_13, pq_1_14, pq_1_2] (by rfl) (by decide +kernel)) ggX8_differ_X8_textOf
noncomputable def sgX8_known : List (List Cond) := [[.code yX8_known cX8_known 5 (some .int)], wsX8_known_r1, wsX8_known_r2, wsX80]
theorem seX8_known : sgX8_known.flatten = wsX8_known := by simp only [sgX8_known, wsX8_known, List.flatten_cons, List.flatten_nil, List.append_assoc, List.append_nil, List.cons_append, List.nil_append]
set_option maxRecDepth 20000 in
theorem ggX8_known_X8_isNoSource : GoodIn wsX8_known wsX8_isNoSource := goodIn_s seX8_known _ [pq_1_5, pq_1_6, pq_1_7, pq_1_4, pq_1_8] (by rfl) gw_wsX8_isNoSource
set_option maxRecDepth 20000 in
theorem gX8_known_X8_isNoSource : GoodIn wsX8_known (va_wsS RX8 119 yX8_isNoSource wsX8_isNoSource) := goodIn_app (goodIn_s seX8_known _ [pq_1_2, pq_1_3, pq_1_4] (by rfl) (by decide +kernel)) ggX8_known_X8_isNoSource
set_option maxRecDepth 20000 in
theorem ggX8_known_X8_isNo : GoodIn wsX8_known wsX8_isNo := goodIn_s seX8_known _ [pq_1_8] (by rfl) gw_wsX8_isNo
set_option maxRecDepth 20000 in
theorem gX8_known_X8_isNo : GoodIn wsX8_known (va_wsS RX8 41 yX8_isNo wsX8_isNo) := goodIn_app (goodIn_s seX8_known _ [pq_1_6, pq_1_7, pq_1_4] (by rfl) (by decide +kernel)) ggX8_known_X8_isNo
set_option maxRecDepth 20000 in
theorem ggX8_known_X8_isThrown : GoodIn wsX8_known wsX8_isThrown := goodIn_s seX8_known _ [pq_1_12, pq_1_13, pq_3_0, pq_3_1, pq_3_2, pq_3_3, pq_3_4, pq_3_5, pq_3_6, pq_3_7, pq_3_8, pq_3_9, pq_3_10] (by rfl) gw_wsX8_isThrown
set_option maxRecDepth 20000 in
theorem gX8_known_X8_isThrown : GoodIn wsX8_known (wsV RX8 81 RX8 yX8_isThrown wsX8_isThrown) := goodIn_app (goodIn_s seX8_known _ [pq_1_9, pq_1_10, pq_1_11, pq_1_4] (by rfl) (by decide +kernel)) ggX8_known_X8_isThrown
set_option maxRecDepth 20000 in
theorem ggX8_known_X8_textOf : GoodIn wsX8_known wsX8_textOf := goodIn_s seX8_known _ [pq_1_17, pq_1_0, pq_1_1, pq_1_18, pq_1_19, pq_1_20, pq_1_21, pq_1_4, pq_1_22, pq_1_23, pq_2_0, pq_2_1, pq_2_2, pq_2_3, pq_3_0, pq_3_1, pq_3_2, pq_3_3, pq_3_4, pq_3_5, pq_3_6, pq_3_7, pq_3_8, pq_3_9, pq_3_10] (by rfl) gw_wsX8_textOf
set_option maxRecDepth 20000 in
theorem gX8_known_X8_textOf : GoodIn wsX8_known (wsV RX8 122 RX8 yX8_textOf wsX8_textOf) := goodIn_app (goodIn_s seX8_known _ [pq_1_14, pq_1_15, pq_1_16, pq_1_4] (by rfl) (by decide +kernel)) ggX8_known_X8_textOf
set_option maxRecDepth 20000 in
theorem ggX8_known_X8_nth : GoodIn wsX8_known wsX8_nth := goodIn_s seX8_known _ [pq_2_6, pq_2_7, pq_2_8, pq_1_4, pq_2_9] (by rfl) gw_wsX8_nth
set_option maxRecDepth 20000 in
theorem gX8_known_X8_nth : GoodIn wsX8_known (va_wsS RX8 142 yX8_nth wsX8_nth) := goodIn_app (goodIn_s seX8_known _ [pq_2_4, pq_2_5, pq_1_4] (by rfl) (by decide +kernel)) ggX8_known_X8_nth
set_option maxRecDepth 20000 in
theorem ggX8_known_X8_lastOf : GoodIn wsX8_known wsX8_lastOf := goodIn_s seX8_known _ [pq_2_12, pq_2_13, pq_2_14, pq_2_15, pq_2_16, pq_2_7, pq_2_8, pq_1_4, pq_2_9] (by rfl) gw_wsX8_lastOf
set_option maxRecDepth 20000 in
theorem gX8_known_X8_lastOf : GoodIn wsX8_known (va_wsS RX8 149 yX8_lastOf wsX8_lastOf) := goodIn_app (goodIn_s seX8_known _ [pq_2_10, pq_2_11, pq_1_4] (by rfl) (by decide +kernel)) ggX8_known_X8_lastOf
noncomputable def sgX8_held : List (List Cond) := [[.code yX8_held cX8_held 1 (some (.object "java/lang/String"))], wsX8_held_r1, wsX8_held_r2, wsX8_held_r3, wsX8_held_r4, wsX8_held_r5, wsX8_held_r6, wsX8_held_r7, wsX8_held_r8, wsX8_held_r9, wsX80, wsJ40, wsJ00]
theorem seX8_held : sgX8_held.flatten = wsX8_held := by simp only [sgX8_held, wsX8_held, List.flatten_cons, List.flatten_nil, List.append_assoc, List.append_nil, List.cons_append, List.nil_append]
set_option maxRecDepth 20000 in
theorem ggX8_held_X8_isThrown : GoodIn wsX8_held wsX8_isThrown := goodIn_s seX8_held _ [pq_1_7, pq_1_8, pq_10_0, pq_10_1, pq_10_2, pq_10_3, pq_10_4, pq_10_5, pq_10_6, pq_10_7, pq_10_8, pq_10_9, pq_10_10] (by rfl) gw_wsX8_isThrown
set_option maxRecDepth 20000 in
theorem gX8_held_X8_isThrown : GoodIn wsX8_held (wsV RX8 81 RX8 yX8_isThrown wsX8_isThrown) := goodIn_app (goodIn_s seX8_held _ [pq_1_3, pq_1_4, pq_1_5, pq_1_6] (by rfl) (by decide +kernel)) ggX8_held_X8_isThrown
set_option maxRecDepth 20000 in
theorem ggX8_held_X8_told : GoodIn wsX8_held wsX8_told := goodIn_s seX8_held _ [pq_1_11, pq_1_12, pq_1_13, pq_1_14, pq_1_15, pq_1_16, pq_1_17, pq_1_18, pq_1_19, pq_1_20, pq_1_21, pq_1_22, pq_1_23, pq_2_0, pq_2_1, pq_2_2, pq_2_3, pq_2_4, pq_2_5, pq_2_6, pq_2_7, pq_2_8, pq_2_9, pq_2_10, pq_2_11, pq_2_12, pq_2_13, pq_2_14, pq_2_15, pq_2_16, pq_2_17, pq_2_18, pq_2_19, pq_2_20, pq_2_21, pq_2_22, pq_2_23, pq_3_0, pq_3_1, pq_3_2, pq_3_3, pq_3_4, pq_3_5, pq_3_6, pq_3_7, pq_3_8, pq_3_9, pq_3_10, pq_3_11, pq_3_12, pq_3_13, pq_3_14, pq_3_15, pq_3_16, pq_3_17, pq_3_18, pq_3_19, pq_3_20, pq_3_21, pq_3_22, pq_3_23, pq_4_0, pq_4_1, pq_4_2, pq_4_3, pq_4_4, pq_4_5, pq_4_6, pq_4_7, pq_4_8, pq_4_9, pq_4_10, pq_4_11, pq_4_12, pq_4_13, pq_4_14, pq_4_15, pq_4_16, pq_4_17, pq_4_18, pq_4_19, pq_4_20, pq_4_21, pq_4_22, pq_4_23, pq_5_0, pq_5_1, pq_5_2, pq_5_3, pq_5_4, pq_5_5, pq_5_6, pq_5_7, pq_5_8, pq_5_9, pq_5_10, pq_5_11, pq_5_12, pq_5_13, pq_5_14, pq_5_15, pq_5_16, pq_5_17, pq_5_18, pq_5_19, pq_5_20, pq_5_21, pq_5_22, pq_5_23, pq_6_0, pq_6_1, pq_6_2, pq_6_3, pq_6_4, pq_6_5, pq_6_6, pq_6_7, pq_6_8, pq_6_9, pq_6_10, pq_6_11, pq_6_12, pq_6_13, pq_6_14, pq_6_15, pq_6_16, pq_6_17, pq_6_18, pq_6_19, pq_6_20, pq_6_21, pq_6_22, pq_6_23, pq_7_0, pq_7_1, pq_7_2, pq_7_3, pq_7_4, pq_7_5, pq_7_6, pq_7_7, pq_7_8, pq_7_9, pq_7_10, pq_7_11, pq_7_12, pq_7_13, pq_7_14, pq_7_15, pq_7_16, pq_7_17, pq_7_18, pq_7_19, pq_7_20, pq_7_21, pq_7_22, pq_7_23, pq_8_0, pq_8_1, pq_8_2, pq_8_3, pq_8_4, pq_8_5, pq_8_6, pq_8_7, pq_8_8, pq_8_9, pq_8_10, pq_8_11, pq_8_12, pq_8_13, pq_8_14, pq_8_15, pq_8_16, pq_8_17, pq_8_18, pq_8_19, pq_8_20, pq_8_21, pq_8_22, pq_8_23, pq_9_0, pq_9_1, pq_9_2, pq_11_0, pq_11_1, pq_11_2, pq_11_3, pq_12_0, pq_12_1, pq_12_2, pq_12_3] (by rfl) gw_wsX8_told
set_option maxRecDepth 20000 in
theorem gX8_held_X8_told : GoodIn wsX8_held (va_wsS RX8 111 yX8_told wsX8_told) := goodIn_app (goodIn_s seX8_held _ [pq_1_9, pq_1_10, pq_1_6] (by rfl) (by decide +kernel)) ggX8_held_X8_told
noncomputable def sgX8_travelled : List (List Cond) := [[.code yX8_travelled cX8_travelled 2 (some (.object "java/lang/String"))], wsX8_travelled_r1, wsX8_travelled_r2, wsX8_travelled_r3, wsX8_travelled_r4, wsX8_travelled_r5, wsX8_travelled_r6, wsX8_travelled_r7, wsX8_travelled_r8, wsX8_travelled_r9, wsX80, wsJ40, wsJ00]
theorem seX8_travelled : sgX8_travelled.flatten = wsX8_travelled := by simp only [sgX8_travelled, wsX8_travelled, List.flatten_cons, List.flatten_nil, List.append_assoc, List.append_nil, List.cons_append, List.nil_append]
set_option maxRecDepth 20000 in
theorem ggX8_travelled_X8_isNo : GoodIn wsX8_travelled wsX8_isNo := goodIn_s seX8_travelled _ [pq_1_6] (by rfl) gw_wsX8_isNo
set_option maxRecDepth 20000 in
theorem gX8_travelled_X8_isNo : GoodIn wsX8_travelled (va_wsS RX8 41 yX8_isNo wsX8_isNo) := goodIn_app (goodIn_s seX8_travelled _ [pq_1_3, pq_1_4, pq_1_5] (by rfl) (by decide +kernel)) ggX8_travelled_X8_isNo
set_option maxRecDepth 20000 in
theorem ggX8_travelled_X8_isThrown : GoodIn wsX8_travelled wsX8_isThrown := goodIn_s seX8_travelled _ [pq_1_10, pq_1_11, pq_10_0, pq_10_1, pq_10_2, pq_10_3, pq_10_4, pq_10_5, pq_10_6, pq_10_7, pq_10_8, pq_10_9, pq_10_10] (by rfl) gw_wsX8_isThrown
set_option maxRecDepth 20000 in
theorem gX8_travelled_X8_isThrown : GoodIn wsX8_travelled (wsV RX8 81 RX8 yX8_isThrown wsX8_isThrown) := goodIn_app (goodIn_s seX8_travelled _ [pq_1_7, pq_1_8, pq_1_9, pq_1_5] (by rfl) (by decide +kernel)) ggX8_travelled_X8_isThrown
set_option maxRecDepth 20000 in
theorem ggX8_travelled_X8_told : GoodIn wsX8_travelled wsX8_told := goodIn_s seX8_travelled _ [pq_1_14, pq_1_15, pq_1_16, pq_1_17, pq_1_18, pq_1_19, pq_1_20, pq_1_21, pq_1_22, pq_1_23, pq_2_0, pq_2_1, pq_2_2, pq_2_3, pq_2_4, pq_2_5, pq_2_6, pq_2_7, pq_2_8, pq_2_9, pq_2_10, pq_2_11, pq_2_12, pq_2_13, pq_2_14, pq_2_15, pq_2_16, pq_2_17, pq_2_18, pq_2_19, pq_2_20, pq_2_21, pq_2_22, pq_2_23, pq_3_0, pq_3_1, pq_3_2, pq_3_3, pq_3_4, pq_3_5, pq_3_6, pq_3_7, pq_3_8, pq_3_9, pq_3_10, pq_3_11, pq_3_12, pq_3_13, pq_3_14, pq_3_15, pq_3_16, pq_3_17, pq_3_18, pq_3_19, pq_3_20, pq_3_21, pq_3_22, pq_3_23, pq_4_0, pq_4_1, pq_4_2, pq_4_3, pq_4_4, pq_4_5, pq_4_6, pq_4_7, pq_4_8, pq_4_9, pq_4_10, pq_4_11, pq_4_12, pq_4_13, pq_4_14, pq_4_15, pq_4_16, pq_4_17, pq_4_18, pq_4_19, pq_4_20, pq_4_21, pq_4_22, pq_4_23, pq_5_0, pq_5_1, pq_5_2, pq_5_3, pq_5_4, pq_5_5, pq_5_6, pq_5_7, pq_5_8, pq_5_9, pq_5_10, pq_5_11, pq_5_12, pq_5_13, pq_5_14, pq_5_15, pq_5_16, pq_5_17, pq_5_18, pq_5_19, pq_5_20, pq_5_21, pq_5_22, pq_5_23, pq_6_0, pq_6_1, pq_6_2, pq_6_3, pq_6_4, pq_6_5, pq_6_6, pq_6_7, pq_6_8, pq_6_9, pq_6_10, pq_6_11, pq_6_12, pq_6_13, pq_6_14, pq_6_15, pq_6_16, pq_6_17, pq_6_18, pq_6_19, pq_6_20, pq_6_21, pq_6_22, pq_6_23, pq_7_0, pq_7_1, pq_7_2, pq_7_3, pq_7_4, pq_7_5, pq_7_6, pq_7_7, pq_7_8, pq_7_9, pq_7_10, pq_7_11, pq_7_12, pq_7_13, pq_7_14, pq_7_15, pq_7_16, pq_7_17, pq_7_18, pq_7_19, pq_7_20, pq_7_21, pq_7_22, pq_7_23, pq_8_0, pq_8_1, pq_8_2, pq_8_3, pq_8_4, pq_8_5, pq_8_6, pq_8_7, pq_8_8, pq_8_9, pq_8_10, pq_8_11, pq_8_12, pq_8_13, pq_8_14, pq_8_15, pq_8_16, pq_8_17, pq_8_18, pq_8_19, pq_8_20, pq_8_21, pq_8_22, pq_8_23, pq_9_0, pq_9_1, pq_9_2, pq_9_3, pq_9_4, pq_9_5, pq_11_0, pq_11_1, pq_11_2, pq_11_3, pq_12_0, pq_12_1, pq_12_2, pq_12_3] (by rfl) gw_wsX8_told
set_option maxRecDepth 20000 in
theorem gX8_travelled_X8_told : GoodIn wsX8_travelled (va_wsS RX8 111 yX8_told wsX8_told) := goodIn_app (goodIn_s seX8_travelled _ [pq_1_12, pq_1_13, pq_1_5] (by rfl) (by decide +kernel)) ggX8_travelled_X8_told
noncomputable def sgX8_house : List (List Cond) := [[.code yX8_house cX8_house 2 (some .int)], [.fieldLink RX8 31 "SashwordsModel" "tallies" "[I", .methodLink RX8 41 yX8_isNo, .static yX8_isNo, .initialized RX8, .code yX8_isNo cX8_isNo 3 (some .boolean), .methodLink RX8 81 yX8_isThrown, .instanceMethod yX8_isThrown, .selects RX8 yX8_isThrown yX8_isThrown, .code yX8_isThrown cX8_isThrown 3 (some .boolean), .fieldLink RX8 38 "SashwordsModel" "thrown" "I"], wsX80]
theorem seX8_house : sgX8_house.flatten = wsX8_house := by simp only [sgX8_house, wsX8_house, List.flatten_cons, List.flatten_nil, List.append_assoc, List.append_nil, List.cons_append, List.nil_append]
set_option maxRecDepth 20000 in
theorem ggX8_house_X8_isNo : GoodIn wsX8_house wsX8_isNo := goodIn_s seX8_house _ [pq_1_4] (by rfl) gw_wsX8_isNo
set_option maxRecDepth 20000 in
theorem gX8_house_X8_isNo : GoodIn wsX8_house (va_wsS RX8 41 yX8_isNo wsX8_isNo) := goodIn_app (goodIn_s seX8_house _ [pq_1_1, pq_1_2, pq_1_3] (by rfl) (by decide +kernel)) ggX8_house_X8_isNo
set_option maxRecDepth 20000 in
theorem ggX8_house_X8_isThrown : GoodIn wsX8_house wsX8_isThrown := goodIn_s seX8_house _ [pq_1_8, pq_1_9, pq_2_0, pq_2_1, pq_2_2, pq_2_3, pq_2_4, pq_2_5, pq_2_6, pq_2_7, pq_2_8, pq_2_9, pq_2_10] (by rfl) gw_wsX8_isThrown
set_option maxRecDepth 20000 in
theorem gX8_house_X8_isThrown : GoodIn wsX8_house (wsV RX8 81 RX8 yX8_isThrown wsX8_isThrown) := goodIn_app (goodIn_s seX8_house _ [pq_1_5, pq_1_6, pq_1_7, pq_1_3] (by rfl) (by decide +kernel)) ggX8_house_X8_isThrown
noncomputable def sgX8_knock : List (List Cond) := [[.code yX8_knock cX8_knock 1 (some .int)], [.fieldLink RX8 31 "SashwordsModel" "tallies" "[I", .methodLink RX8 81 yX8_isThrown, .instanceMethod yX8_isThrown, .selects RX8 yX8_isThrown yX8_isThrown, .initialized RX8, .code yX8_isThrown cX8_isThrown 3 (some .boolean), .fieldLink RX8 38 "SashwordsModel" "thrown" "I"], wsX80]
theorem seX8_knock : sgX8_knock.flatten = wsX8_knock := by simp only [sgX8_knock, wsX8_knock, List.flatten_cons, List.flatten_nil, List.append_assoc, List.append_nil, List.cons_append, List.nil_append]
set_option maxRecDepth 20000 in
theorem ggX8_knock_X8_isThrown : GoodIn wsX8_knock wsX8_isThrown := goodIn_s seX8_knock _ [pq_1_5, pq_1_6, pq_2_0, pq_2_1, pq_2_2, pq_2_3, pq_2_4, pq_2_5, pq_2_6, pq_2_7, pq_2_8, pq_2_9, pq_2_10] (by rfl) gw_wsX8_isThrown
set_option maxRecDepth 20000 in
theorem gX8_knock_X8_isThrown : GoodIn wsX8_knock (wsV RX8 81 RX8 yX8_isThrown wsX8_isThrown) := goodIn_app (goodIn_s seX8_knock _ [pq_1_1, pq_1_2, pq_1_3, pq_1_4] (by rfl) (by decide +kernel)) ggX8_knock_X8_isThrown
noncomputable def sgX8_isRight : List (List Cond) := [[.code yX8_isRight cX8_isRight 6 (some .boolean)], wsX8_isRight_r1, wsX8_isRight_r2, wsX80]
theorem seX8_isRight : sgX8_isRight.flatten = wsX8_isRight := by simp only [sgX8_isRight, wsX8_isRight, List.flatten_cons, List.flatten_nil, List.append_assoc, List.append_nil, List.cons_append, List.nil_append]
set_option maxRecDepth 20000 in
theorem ggX8_isRight_X8_text : GoodIn wsX8_isRight wsX8_text := goodIn_s seX8_isRight _ [pq_1_11, pq_1_12, pq_1_13, pq_1_14, pq_1_15, pq_1_10, pq_1_16, pq_3_0, pq_3_1, pq_3_2, pq_3_3, pq_3_4, pq_3_5, pq_3_6, pq_3_7, pq_3_8, pq_3_9, pq_3_10] (by rfl) gw_wsX8_text
set_option maxRecDepth 20000 in
theorem gX8_isRight_X8_text : GoodIn wsX8_isRight (wsV RX8 58 RX8 yX8_text wsX8_text) := goodIn_app (goodIn_s seX8_isRight _ [pq_1_7, pq_1_8, pq_1_9, pq_1_10] (by rfl) (by decide +kernel)) ggX8_isRight_X8_text
set_option maxRecDepth 20000 in
theorem ggX8_isRight_X8_nth : GoodIn wsX8_isRight wsX8_nth := goodIn_s seX8_isRight _ [pq_1_19, pq_1_20, pq_1_21, pq_1_10, pq_1_22] (by rfl) gw_wsX8_nth
set_option maxRecDepth 20000 in
theorem gX8_isRight_X8_nth : GoodIn wsX8_isRight (va_wsS RX8 142 yX8_nth wsX8_nth) := goodIn_app (goodIn_s seX8_isRight _ [pq_1_17, pq_1_18, pq_1_10] (by rfl) (by decide +kernel)) ggX8_isRight_X8_nth
set_option maxRecDepth 20000 in
theorem ggX8_isRight_X8_lastOf : GoodIn wsX8_isRight wsX8_lastOf := goodIn_s seX8_isRight _ [pq_2_1, pq_2_2, pq_2_3, pq_2_4, pq_2_5, pq_1_20, pq_1_21, pq_1_10, pq_1_22] (by rfl) gw_wsX8_lastOf
set_option maxRecDepth 20000 in
theorem gX8_isRight_X8_lastOf : GoodIn wsX8_isRight (va_wsS RX8 149 yX8_lastOf wsX8_lastOf) := goodIn_app (goodIn_s seX8_isRight _ [pq_1_23, pq_2_0, pq_1_10] (by rfl) (by decide +kernel)) ggX8_isRight_X8_lastOf
noncomputable def sgX8_isSound : List (List Cond) := [[.code yX8_isSound cX8_isSound 1 (some .boolean)], wsX8_isSound_r1, wsX8_isSound_r2, wsX80]
theorem seX8_isSound : sgX8_isSound.flatten = wsX8_isSound := by simp only [sgX8_isSound, wsX8_isSound, List.flatten_cons, List.flatten_nil, List.append_assoc, List.append_nil, List.cons_append, List.nil_append]
set_option maxRecDepth 20000 in
theorem ggX8_isSound_X8_isThrown : GoodIn wsX8_isSound wsX8_isThrown := goodIn_s seX8_isSound _ [pq_1_4, pq_1_5, pq_3_0, pq_3_1, pq_3_2, pq_3_3, pq_3_4, pq_3_5, pq_3_6, pq_3_7, pq_3_8, pq_3_9, pq_3_10] (by rfl) gw_wsX8_isThrown
set_option maxRecDepth 20000 in
theorem gX8_isSound_X8_isThrown : GoodIn wsX8_isSound (wsV RX8 81 RX8 yX8_isThrown wsX8_isThrown) := goodIn_app (goodIn_s seX8_isSound _ [pq_1_0, pq_1_1, pq_1_2, pq_1_3] (by rfl) (by decide +kernel)) ggX8_isSound_X8_isThrown
set_option maxRecDepth 20000 in
theorem ggX8_isSound_X8_isRight : GoodIn wsX8_isSound wsX8_isRight := goodIn_s seX8_isSound _ [pq_1_9, pq_1_10, pq_1_11, pq_1_12, pq_1_13, pq_1_14, pq_1_15, pq_1_16, pq_1_17, pq_1_18, pq_1_19, pq_1_3, pq_1_20, pq_1_21, pq_1_22, pq_1_23, pq_2_0, pq_2_1, pq_2_2, pq_2_3, pq_2_4, pq_2_5, pq_2_6, pq_2_7, pq_2_8, pq_2_9, pq_2_10, pq_2_11, pq_2_12, pq_2_13, pq_2_14, pq_3_0, pq_3_1, pq_3_2, pq_3_3, pq_3_4, pq_3_5, pq_3_6, pq_3_7, pq_3_8, pq_3_9, pq_3_10] (by rfl) gw_wsX8_isRight
set_option maxRecDepth 20000 in
theorem gX8_isSound_X8_isRight : GoodIn wsX8_isSound (wsV RX8 167 RX8 yX8_isRight wsX8_isRight) := goodIn_app (goodIn_s seX8_isSound _ [pq_1_6, pq_1_7, pq_1_8, pq_1_3] (by rfl) (by decide +kernel)) ggX8_isSound_X8_isRight
noncomputable def sgX8_digest : List (List Cond) := [[.code yX8_digest cX8_digest 8 (some .long)], wsX8_digest_r1, wsX8_digest_r2, wsX8_digest_r3, wsX80]
theorem seX8_digest : sgX8_digest.flatten = wsX8_digest := by simp only [sgX8_digest, wsX8_digest, List.flatten_cons, List.flatten_nil, List.append_assoc, List.append_nil, List.cons_append, List.nil_append]
set_option maxRecDepth 20000 in
theorem ggX8_digest_X8_isThrown : GoodIn wsX8_digest wsX8_isThrown := goodIn_s seX8_digest _ [pq_1_14, pq_1_15, pq_4_0, pq_4_1, pq_4_2, pq_4_3, pq_4_4, pq_4_5, pq_4_6, pq_4_7, pq_4_8, pq_4_9, pq_4_10] (by rfl) gw_wsX8_isThrown
set_option maxRecDepth 20000 in
theorem gX8_digest_X8_isThrown : GoodIn wsX8_digest (wsV RX8 81 RX8 yX8_isThrown wsX8_isThrown) := goodIn_app (goodIn_s seX8_digest _ [pq_1_10, pq_1_11, pq_1_12, pq_1_13] (by rfl) (by decide +kernel)) ggX8_digest_X8_isThrown
set_option maxRecDepth 20000 in
theorem ggX8_digest_X8_text : GoodIn wsX8_digest wsX8_text := goodIn_s seX8_digest _ [pq_1_19, pq_1_2, pq_1_20, pq_1_21, pq_1_22, pq_1_13, pq_1_23, pq_4_0, pq_4_1, pq_4_2, pq_4_3, pq_4_4, pq_4_5, pq_4_6, pq_4_7, pq_4_8, pq_4_9, pq_4_10] (by rfl) gw_wsX8_text
set_option maxRecDepth 20000 in
theorem gX8_digest_X8_text : GoodIn wsX8_digest (wsV RX8 58 RX8 yX8_text wsX8_text) := goodIn_app (goodIn_s seX8_digest _ [pq_1_16, pq_1_17, pq_1_18, pq_1_13] (by rfl) (by decide +kernel)) ggX8_digest_X8_text
set_option maxRecDepth 20000 in
theorem ggX8_digest_X8_markOf : GoodIn wsX8_digest wsX8_markOf := goodIn_s seX8_digest _ [pq_2_2] (by rfl) gw_wsX8_markOf
set_option maxRecDepth 20000 in
theorem gX8_digest_X8_markOf : GoodIn wsX8_digest (va_wsS RX8 135 yX8_markOf wsX8_markOf) := goodIn_app (goodIn_s seX8_digest _ [pq_2_0, pq_2_1, pq_1_13] (by rfl) (by decide +kernel)) ggX8_digest_X8_markOf
set_option maxRecDepth 20000 in
theorem ggX8_digest_X8_mixed : GoodIn wsX8_digest wsX8_mixed := goodIn_s seX8_digest _ [pq_2_5, pq_1_4] (by rfl) gw_wsX8_mixed
set_option maxRecDepth 20000 in
theorem gX8_digest_X8_mixed : GoodIn wsX8_digest (va_wsS RX8 175 yX8_mixed wsX8_mixed) := goodIn_app (goodIn_s seX8_digest _ [pq_2_3, pq_2_4, pq_1_13] (by rfl) (by decide +kernel)) ggX8_digest_X8_mixed
set_option maxRecDepth 20000 in
theorem ggX8_digest_X8_greatest : GoodIn wsX8_digest wsX8_greatest := goodIn_s seX8_digest _ [pq_2_8, pq_2_9, pq_2_10, pq_2_11, pq_2_12, pq_2_13, pq_2_14, pq_1_13, pq_2_15] (by rfl) gw_wsX8_greatest
set_option maxRecDepth 20000 in
theorem gX8_digest_X8_greatest : GoodIn wsX8_digest (va_wsS RX8 160 yX8_greatest wsX8_greatest) := goodIn_app (goodIn_s seX8_digest _ [pq_2_6, pq_2_7, pq_1_13] (by rfl) (by decide +kernel)) ggX8_digest_X8_greatest
set_option maxRecDepth 20000 in
theorem ggX8_digest_X8_nth : GoodIn wsX8_digest wsX8_nth := goodIn_s seX8_digest _ [pq_2_18, pq_2_19, pq_2_20, pq_1_13, pq_2_21] (by rfl) gw_wsX8_nth
set_option maxRecDepth 20000 in
theorem gX8_digest_X8_nth : GoodIn wsX8_digest (va_wsS RX8 142 yX8_nth wsX8_nth) := goodIn_app (goodIn_s seX8_digest _ [pq_2_16, pq_2_17, pq_1_13] (by rfl) (by decide +kernel)) ggX8_digest_X8_nth
set_option maxRecDepth 20000 in
theorem ggX8_digest_X8_places : GoodIn wsX8_digest wsX8_places := goodIn_s seX8_digest _ [pq_3_0, pq_2_16, pq_2_17, pq_1_13, pq_2_18, pq_2_19, pq_2_20, pq_2_21] (by rfl) gw_wsX8_places
set_option maxRecDepth 20000 in
theorem gX8_digest_X8_places : GoodIn wsX8_digest (va_wsS RX8 153 yX8_places wsX8_places) := goodIn_app (goodIn_s seX8_digest _ [pq_2_22, pq_2_23, pq_1_13] (by rfl) (by decide +kernel)) ggX8_digest_X8_places
set_option maxRecDepth 20000 in
theorem ggX8_digest_X8_isRight : GoodIn wsX8_digest wsX8_isRight := goodIn_s seX8_digest _ [pq_3_4, pq_1_7, pq_1_6, pq_3_5, pq_1_5, pq_1_1, pq_3_6, pq_1_3, pq_1_16, pq_1_17, pq_1_18, pq_1_13, pq_1_19, pq_1_2, pq_1_20, pq_1_21, pq_1_22, pq_1_23, pq_2_16, pq_2_17, pq_2_18, pq_2_19, pq_2_20, pq_2_21, pq_3_7, pq_3_8, pq_3_9, pq_2_9, pq_2_10, pq_2_11, pq_2_12, pq_4_0, pq_4_1, pq_4_2, pq_4_3, pq_4_4, pq_4_5, pq_4_6, pq_4_7, pq_4_8, pq_4_9, pq_4_10] (by rfl) gw_wsX8_isRight
set_option maxRecDepth 20000 in
theorem gX8_digest_X8_isRight : GoodIn wsX8_digest (wsV RX8 167 RX8 yX8_isRight wsX8_isRight) := goodIn_app (goodIn_s seX8_digest _ [pq_3_1, pq_3_2, pq_3_3, pq_1_13] (by rfl) (by decide +kernel)) ggX8_digest_X8_isRight
