set_option maxRecDepth 100000 in
theorem wsL_law_in0 : ∀ w ∈ wsL_law0, w ∈ zs_tbl := by
  unfold wsL_law0
  intro w h
  refine (List.mem_append.mp h).elim (fun h => ?_) (fun h => by cases h)
  refine (List.mem_append.mp h).elim (fun h => ?_) (fun h => wsL_tJ0 w h)
  refine (List.mem_append.mp h).elim (fun h => ?_) (fun h => wsL_tJ4 w h)
  refine (List.mem_append.mp h).elim (fun h => ?_) (fun h => wsL_tX0 w h)
  refine (List.mem_append.mp h).elim (fun h => ?_) (fun h => wsL_tX3 w h)
  refine (List.mem_append.mp h).elim (fun h => ?_) (fun h => wsL_tX5 w h)
  refine (List.mem_append.mp h).elim (fun h => ?_) (fun h => wsL_tX1 w h)
  refine (List.mem_append.mp h).elim (fun h => ?_) (fun h => wsL_tX2 w h)
  refine (List.mem_append.mp h).elim (fun h => ?_) (fun h => wsL_tX7 w h)
  refine (List.mem_append.mp h).elim (fun h => ?_) (fun h => wsL_tX8 w h)
  refine (List.mem_append.mp h).elim (fun h => ?_) (fun h => wsL_tX6 w h)
  exact (zs_ap wsL_seg1 (zs_ap wsL_seg2 (zs_ap wsL_seg3 (zs_ap wsL_seg4 (zs_ap wsL_seg5 (zs_ap wsL_seg6 (zs_ap wsL_seg7 (zs_ap wsL_seg8 (zs_ap wsL_seg9 (zs_ap wsL_seg10 (zs_ap wsL_seg11 (zs_ap wsL_seg12 (zs_ap wsL_seg13 (zs_ap wsL_seg14 (zs_ap wsL_seg15 (zs_ap wsL_seg16 (zs_ap wsL_seg17 (zs_ap wsL_seg18 (zs_ap wsL_seg19 (zs_ap wsL_seg20 (zs_ap wsL_seg21 (zs_ap wsL_seg22 (zs_ap wsL_seg23 (zs_ap wsL_seg24 (zs_ap wsL_seg25 (zs_ap wsL_seg26 (zs_ap wsL_seg27 (zs_ap wsL_seg28 (zs_ap wsL_seg29 (zs_ap wsL_seg30 (zs_ap wsL_seg31 (zs_ap wsL_seg32 (zs_ap wsL_seg33 (zs_ap wsL_seg34 (zs_ap wsL_seg35 (zs_ap wsL_seg36 (zs_ap wsL_seg37 (zs_ap wsL_seg38 (zs_ap wsL_seg39 (zs_ap wsL_seg40 (zs_ap wsL_seg41 (zs_ap wsL_seg42 (zs_ap wsL_seg43 (zs_ap wsL_seg44 (zs_ap wsL_seg45 (zs_ap wsL_seg46 (zs_ap wsL_seg47 (zs_ap wsL_seg48 (zs_ap wsL_seg49 (zs_ap wsL_seg50 (zs_ap wsL_seg51 wsL_seg52))))))))))))))))))))))))))))))))))))))))))))))))))) w h
set_option maxRecDepth 20000 in
theorem wsL_law_x0 : ∀ w ∈ (vx_atS RX6 306 "java/lang/IndexOutOfBoundsException" ["java/lang/RuntimeException", "java/lang/Exception"]).filter goodWord, w ∈ zs_tbl := zs_in _ [pq_2_12, pq_3_182, pq_3_191, pq_3_195, pq_3_198, pq_3_200, pq_3_183, pq_3_184, pq_2_33, pq_2_34, pq_3_185, pq_3_190, pq_3_196, pq_4_51, pq_3_172, pq_4_52, pq_3_174, pq_4_53, pq_3_176, pq_3_186, pq_3_188, pq_3_178, pq_4_47, pq_4_48, pq_4_50, pq_3_178, pq_5_30, pq_5_31, pq_5_32, pq_4_41, pq_4_41, pq_4_42, pq_4_43, pq_4_44, pq_4_44, pq_4_45, pq_4_46, pq_4_47, pq_5_29, pq_5_20, pq_5_22, pq_3_194, pq_5_23, pq_5_24, pq_5_25, pq_5_26, pq_3_181, pq_3_180, pq_5_27] (by rfl)
set_option maxRecDepth 20000 in
theorem wsL_law_x1 : ∀ w ∈ (vx_atS RX6 317 "java/lang/IllegalArgumentException" ["java/lang/RuntimeException", "java/lang/Exception"]).filter goodWord, w ∈ zs_tbl := zs_in _ [pq_2_12, pq_3_182, pq_3_191, pq_3_195, pq_3_198, pq_3_200, pq_3_183, pq_3_184, pq_2_33, pq_2_34, pq_3_185, pq_3_190, pq_3_196, pq_4_51, pq_3_172, pq_4_52, pq_3_174, pq_4_53, pq_3_176, pq_3_186, pq_3_188, pq_3_178, pq_4_47, pq_4_48, pq_4_50, pq_3_178, pq_4_38, pq_4_39, pq_4_40, pq_4_41, pq_4_41, pq_4_42, pq_4_43, pq_4_44, pq_4_44, pq_4_45, pq_4_46, pq_4_47, pq_5_40, pq_3_161, pq_3_169, pq_3_170, pq_3_171, pq_3_173, pq_3_175, pq_3_177, pq_3_181, pq_3_180, pq_3_179] (by rfl)
set_option maxRecDepth 20000 in
theorem wsL_law_x2 : ∀ w ∈ (vx_atS RX6 327 "java/lang/IllegalStateException" ["java/lang/RuntimeException", "java/lang/Exception"]).filter goodWord, w ∈ zs_tbl := zs_in _ [pq_2_12, pq_3_182, pq_3_191, pq_3_195, pq_3_198, pq_3_200, pq_3_183, pq_3_184, pq_2_33, pq_2_34, pq_3_185, pq_3_190, pq_3_196, pq_4_51, pq_3_172, pq_4_52, pq_3_174, pq_4_53, pq_3_176, pq_3_186, pq_3_188, pq_3_178, pq_4_47, pq_4_48, pq_4_50, pq_3_178, pq_6_2, pq_6_3, pq_6_4, pq_4_41, pq_4_41, pq_4_42, pq_4_43, pq_4_44, pq_4_44, pq_4_45, pq_4_46, pq_4_47, pq_6_1, pq_5_232, pq_5_234, pq_3_193, pq_5_235, pq_5_236, pq_5_237, pq_5_238, pq_3_181, pq_3_180, pq_5_239] (by rfl)
theorem wsL_law_in : ∀ w ∈ wsL_law, w ∈ zs_tbl := fun w h => (List.mem_append.mp h).elim (fun h => (List.mem_append.mp h).elim (fun h => (List.mem_append.mp h).elim (fun h => wsL_law_in0 w h) (fun h => wsL_law_x0 w h)) (fun h => wsL_law_x1 w h)) (fun h => wsL_law_x2 w h)
theorem inlX0 : ∀ w ∈ wsX00, w ∈ wsL_law := fun _ h => List.mem_append_left _ (List.mem_append_left _ (List.mem_append_left _ (List.mem_append_left _ (List.mem_append_left _ (List.mem_append_left _ (List.mem_append_right _ h))))))
theorem inX0 : ∀ w ∈ wsX00, w ∈ zs_tbl := fun w h => wsL_law_in w (inlX0 w h)
theorem inlX1 : ∀ w ∈ wsX10, w ∈ wsL_law := fun _ h => List.mem_append_left _ (List.mem_append_left _ (List.mem_append_left _ (List.mem_append_left _ (List.mem_append_left _ (List.mem_append_left _ (List.mem_append_left _ (List.mem_append_left _ (List.mem_append_left _ (List.mem_append_right _ h)))))))))
theorem inX1 : ∀ w ∈ wsX10, w ∈ zs_tbl := fun w h => wsL_law_in w (inlX1 w h)
theorem inlX2 : ∀ w ∈ wsX20, w ∈ wsL_law := fun _ h => List.mem_append_left _ (List.mem_append_left _ (List.mem_append_left _ (List.mem_append_left _ (List.mem_append_left _ (List.mem_append_left _ (List.mem_append_left _ (List.mem_append_left _ (List.mem_append_left _ (List.mem_append_left _ (List.mem_append_right _ h))))))))))
theorem inX2 : ∀ w ∈ wsX20, w ∈ zs_tbl := fun w h => wsL_law_in w (inlX2 w h)
theorem inlX3 : ∀ w ∈ wsX30, w ∈ wsL_law := fun _ h => List.mem_append_left _ (List.mem_append_left _ (List.mem_append_left _ (List.mem_append_left _ (List.mem_append_left _ (List.mem_append_left _ (List.mem_append_left _ (List.mem_append_right _ h)))))))
theorem inX3 : ∀ w ∈ wsX30, w ∈ zs_tbl := fun w h => wsL_law_in w (inlX3 w h)
set_option maxRecDepth 20000 in
theorem inX4 : ∀ w ∈ wsX40, w ∈ zs_tbl := zs_in _ [] (by rfl)
theorem inlX5 : ∀ w ∈ wsX50, w ∈ wsL_law := fun _ h => List.mem_append_left _ (List.mem_append_left _ (List.mem_append_left _ (List.mem_append_left _ (List.mem_append_left _ (List.mem_append_left _ (List.mem_append_left _ (List.mem_append_left _ (List.mem_append_right _ h))))))))
theorem inX5 : ∀ w ∈ wsX50, w ∈ zs_tbl := fun w h => wsL_law_in w (inlX5 w h)
theorem inlX6 : ∀ w ∈ wsX60, w ∈ wsL_law := fun _ h => List.mem_append_left _ (List.mem_append_left _ (List.mem_append_left _ (List.mem_append_left _ (List.mem_append_left _ (List.mem_append_left _ (List.mem_append_left _ (List.mem_append_left _ (List.mem_append_left _ (List.mem_append_left _ (List.mem_append_left _ (List.mem_append_left _ (List.mem_append_left _ (List.mem_append_right _ h)))))))))))))
theorem inX6 : ∀ w ∈ wsX60, w ∈ zs_tbl := fun w h => wsL_law_in w (inlX6 w h)
theorem inlX7 : ∀ w ∈ wsX70, w ∈ wsL_law := fun _ h => List.mem_append_left _ (List.mem_append_left _ (List.mem_append_left _ (List.mem_append_left _ (List.mem_append_left _ (List.mem_append_left _ (List.mem_append_left _ (List.mem_append_left _ (List.mem_append_left _ (List.mem_append_left _ (List.mem_append_left _ (List.mem_append_right _ h)))))))))))
theorem inX7 : ∀ w ∈ wsX70, w ∈ zs_tbl := fun w h => wsL_law_in w (inlX7 w h)
theorem inlX8 : ∀ w ∈ wsX80, w ∈ wsL_law := fun _ h => List.mem_append_left _ (List.mem_append_left _ (List.mem_append_left _ (List.mem_append_left _ (List.mem_append_left _ (List.mem_append_left _ (List.mem_append_left _ (List.mem_append_left _ (List.mem_append_left _ (List.mem_append_left _ (List.mem_append_left _ (List.mem_append_left _ (List.mem_append_right _ h))))))))))))
theorem inX8 : ∀ w ∈ wsX80, w ∈ zs_tbl := fun w h => wsL_law_in w (inlX8 w h)
set_option maxRecDepth 20000 in
theorem inJ5 : ∀ w ∈ wsJ50, w ∈ zs_tbl := zs_in _ [] (by rfl)
set_option maxRecDepth 20000 in
theorem inJx8e188 : ∀ w ∈ wsJx8e1880, w ∈ zs_tbl := zs_in _ [] (by rfl)
set_option maxRecDepth 20000 in
theorem inJ6 : ∀ w ∈ wsJ60, w ∈ zs_tbl := zs_in _ [] (by rfl)
set_option maxRecDepth 20000 in
theorem inJ9 : ∀ w ∈ wsJ90, w ∈ zs_tbl := zs_in _ [] (by rfl)
theorem inlJ0 : ∀ w ∈ wsJ00, w ∈ wsL_law := fun _ h => List.mem_append_left _ (List.mem_append_left _ (List.mem_append_left _ (List.mem_append_left _ (List.mem_append_right _ h))))
theorem inJ0 : ∀ w ∈ wsJ00, w ∈ zs_tbl := fun w h => wsL_law_in w (inlJ0 w h)
theorem inlJ4 : ∀ w ∈ wsJ40, w ∈ wsL_law := fun _ h => List.mem_append_left _ (List.mem_append_left _ (List.mem_append_left _ (List.mem_append_left _ (List.mem_append_left _ (List.mem_append_right _ h)))))
theorem inJ4 : ∀ w ∈ wsJ40, w ∈ zs_tbl := fun w h => wsL_law_in w (inlJ4 w h)
set_option maxRecDepth 20000 in
theorem inJ1 : ∀ w ∈ wsJ10, w ∈ zs_tbl := zs_in _ [] (by rfl)
set_option maxRecDepth 20000 in
theorem inJ2 : ∀ w ∈ wsJ20, w ∈ zs_tbl := zs_in _ [] (by rfl)
set_option maxRecDepth 20000 in
theorem inJ10 : ∀ w ∈ wsJ100, w ∈ zs_tbl := zs_in _ [] (by rfl)
set_option maxRecDepth 20000 in
theorem inJ7 : ∀ w ∈ wsJ70, w ∈ zs_tbl := zs_in _ [] (by rfl)
set_option maxRecDepth 20000 in
theorem inJ8 : ∀ w ∈ wsJ80, w ∈ zs_tbl := zs_in _ [] (by rfl)
set_option maxRecDepth 20000 in
theorem inJ3 : ∀ w ∈ wsJ30, w ∈ zs_tbl := zs_in _ [] (by rfl)
