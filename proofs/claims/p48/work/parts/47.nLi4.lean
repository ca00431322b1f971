theorem wsL_tX6 : ∀ w ∈ wsX60, w ∈ zs_tbl := by decide +kernel
theorem wsL_tX8 : ∀ w ∈ wsX80, w ∈ zs_tbl := by decide +kernel
theorem wsL_tX7 : ∀ w ∈ wsX70, w ∈ zs_tbl := by decide +kernel
theorem wsL_tX2 : ∀ w ∈ wsX20, w ∈ zs_tbl := by decide +kernel
theorem wsL_tX1 : ∀ w ∈ wsX10, w ∈ zs_tbl := by decide +kernel
theorem wsL_tX5 : ∀ w ∈ wsX50, w ∈ zs_tbl := by decide +kernel
theorem wsL_tX3 : ∀ w ∈ wsX30, w ∈ zs_tbl := by decide +kernel
theorem wsL_tX0 : ∀ w ∈ wsX00, w ∈ zs_tbl := by decide +kernel
theorem wsL_tJ4 : ∀ w ∈ wsJ40, w ∈ zs_tbl := by decide +kernel
theorem wsL_tJ0 : ∀ w ∈ wsJ00, w ∈ zs_tbl := by decide +kernel
set_option maxRecDepth 100000 in
theorem wsL_law_in0 : ∀ w ∈ wsL_law0, w ∈ zs_tbl := by
  intro w h
  unfold wsL_law0 at h
  refine (List.mem_append.mp h).elim (fun h => ?_) (fun h => by cases h)
  refine (List.mem_append.mp h).elim (fun h => ?_) (fun h => wsL_tJ0 w h)
  refine (List.mem_append.mp h).elim (fun h => ?_) (fun h => wsL_tJ4 w h)
  refine (List.mem_append.mp h).elim (fun h => ?_) (fun h => wsL_tX0 w h)
  refine (List.mem_append.mp h).elim (fun h => ?_) (fun h => wsL_tX3 w h)
  refine (List.mem_append.mp h).elim (fun h => ?_) (fun h => wsL_tX5 w h)
  refine (List.mem_append.mp h).elim (fun h => ?_) (fun h => wsL_tX1 w h)
  refine (List.mem_append.mp h).elim (fun h => ?_) (fun h => wsL_tX2 w h)
  refine (List.mem_append.mp h).elim (fun h => ?_) (fun h => wsL_tX7 w h)
  refine (List.mem_append.mp h).elim (fun h => ?_) (fun h => wsL_tX8 w h)
  refine (List.mem_append.mp h).elim (fun h => ?_) (fun h => wsL_tX6 w h)
  exact ((goodIn_app wsL_seg1 (goodIn_app wsL_seg2 (goodIn_app wsL_seg3 (goodIn_app wsL_seg4 (goodIn_app wsL_seg5 (goodIn_app wsL_seg6 (goodIn_app wsL_seg7 (goodIn_app wsL_seg8 (goodIn_app wsL_seg9 (goodIn_app wsL_seg10 (goodIn_app wsL_seg11 (goodIn_app wsL_seg12 (goodIn_app wsL_seg13 (goodIn_app wsL_seg14 (goodIn_app wsL_seg15 (goodIn_app wsL_seg16 (goodIn_app wsL_seg17 (goodIn_app wsL_seg18 (goodIn_app wsL_seg19 (goodIn_app wsL_seg20 (goodIn_app wsL_seg21 (goodIn_app wsL_seg22 (goodIn_app wsL_seg23 (goodIn_app wsL_seg24 (goodIn_app wsL_seg25 (goodIn_app wsL_seg26 (goodIn_app wsL_seg27 (goodIn_app wsL_seg28 (goodIn_app wsL_seg29 (goodIn_app wsL_seg30 (goodIn_app wsL_seg31 (goodIn_app wsL_seg32 (goodIn_app wsL_seg33 (goodIn_app wsL_seg34 (goodIn_app wsL_seg35 (goodIn_app wsL_seg36 (goodIn_app wsL_seg37 (goodIn_app wsL_seg38 (goodIn_app wsL_seg39 (goodIn_app wsL_seg40 (goodIn_app wsL_seg41 (goodIn_app wsL_seg42 (goodIn_app wsL_seg43 (goodIn_app wsL_seg44 (goodIn_app wsL_seg45 (goodIn_app wsL_seg46 (goodIn_app wsL_seg47 (goodIn_app wsL_seg48 (goodIn_app wsL_seg49 (goodIn_app wsL_seg50 (goodIn_app wsL_seg51 (wsL_seg52)))))))))))))))))))))))))))))))))))))))))))))))))))) w h).1
theorem wsL_law_x0 : ∀ w ∈ (vx_atS RX6 306 "java/lang/IndexOutOfBoundsException" ["java/lang/RuntimeException", "java/lang/Exception"]).filter goodWord, w ∈ zs_tbl := by decide +kernel
theorem wsL_law_x1 : ∀ w ∈ (vx_atS RX6 317 "java/lang/IllegalArgumentException" ["java/lang/RuntimeException", "java/lang/Exception"]).filter goodWord, w ∈ zs_tbl := by decide +kernel
theorem wsL_law_x2 : ∀ w ∈ (vx_atS RX6 327 "java/lang/IllegalStateException" ["java/lang/RuntimeException", "java/lang/Exception"]).filter goodWord, w ∈ zs_tbl := by decide +kernel
theorem wsL_law_in : ∀ w ∈ wsL_law, w ∈ zs_tbl := fun w h => (List.mem_append.mp h).elim (fun h => (List.mem_append.mp h).elim (fun h => (List.mem_append.mp h).elim (fun h => wsL_law_in0 w h) (fun h => wsL_law_x0 w h)) (fun h => wsL_law_x1 w h)) (fun h => wsL_law_x2 w h)
theorem inlX0 : ∀ w ∈ wsX00, w ∈ wsL_law := fun _ h => List.mem_append_left _ (List.mem_append_left _ (List.mem_append_left _ (List.mem_append_left _ (List.mem_append_left _ (List.mem_append_left _ (List.mem_append_right _ h))))))
theorem inX0 : ∀ w ∈ wsX00, w ∈ zs_tbl := fun w h => wsL_law_in w (inlX0 w h)
theorem inlX1 : ∀ w ∈ wsX10, w ∈ wsL_law := fun _ h => List.mem_append_left _ (List.mem_append_left _ (List.mem_append_left _ (List.mem_append_left _ (List.mem_append_left _ (List.mem_append_left _ (List.mem_append_left _ (List.mem_append_left _ (List.mem_append_left _ (List.mem_append_right _ h)))))))))
theorem inX1 : ∀ w ∈ wsX10, w ∈ zs_tbl := fun w h => wsL_law_in w (inlX1 w h)
theorem inlX2 : ∀ w ∈ wsX20, w ∈ wsL_law := fun _ h => List.mem_append_left _ (List.mem_append_left _ (List.mem_append_left _ (List.mem_append_left _ (List.mem_append_left _ (List.mem_append_left _ (List.mem_append_left _ (List.mem_append_left _ (List.mem_append_left _ (List.mem_append_left _ (List.mem_append_right _ h))))))))))
theorem inX2 : ∀ w ∈ wsX20, w ∈ zs_tbl := fun w h => wsL_law_in w (inlX2 w h)
theorem inlX3 : ∀ w ∈ wsX30, w ∈ wsL_law := fun _ h => List.mem_append_left _ (List.mem_append_left _ (List.mem_append_left _ (List.mem_append_left _ (List.mem_append_left _ (List.mem_append_left _ (List.mem_append_left _ (List.mem_append_right _ h)))))))
theorem inX3 : ∀ w ∈ wsX30, w ∈ zs_tbl := fun w h => wsL_law_in w (inlX3 w h)
theorem inX4 : ∀ w ∈ wsX40, w ∈ zs_tbl := by decide +kernel
theorem inlX5 : ∀ w ∈ wsX50, w ∈ wsL_law := fun _ h => List.mem_append_left _ (List.mem_append_left _ (List.mem_append_left _ (List.mem_append_left _ (List.mem_append_left _ (List.mem_append_left _ (List.mem_append_left _ (List.mem_append_left _ (List.mem_append_right _ h))))))))
theorem inX5 : ∀ w ∈ wsX50, w ∈ zs_tbl := fun w h => wsL_law_in w (inlX5 w h)
theorem inlX6 : ∀ w ∈ wsX60, w ∈ wsL_law := fun _ h => List.mem_append_left _ (List.mem_append_left _ (List.mem_append_left _ (List.mem_append_left _ (List.mem_append_left _ (List.mem_append_left _ (List.mem_append_left _ (List.mem_append_left _ (List.mem_append_left _ (List.mem_append_left _ (List.mem_append_left _ (List.mem_append_left _ (List.mem_append_left _ (List.mem_append_right _ h)))))))))))))
theorem inX6 : ∀ w ∈ wsX60, w ∈ zs_tbl := fun w h => wsL_law_in w (inlX6 w h)
theorem inlX7 : ∀ w ∈ wsX70, w ∈ wsL_law := fun _ h => List.mem_append_left _ (List.mem_append_left _ (List.mem_append_left _ (List.mem_append_left _ (List.mem_append_left _ (List.mem_append_left _ (List.mem_append_left _ (List.mem_append_left _ (List.mem_append_left _ (List.mem_append_left _ (List.mem_append_left _ (List.mem_append_right _ h)))))))))))
theorem inX7 : ∀ w ∈ wsX70, w ∈ zs_tbl := fun w h => wsL_law_in w (inlX7 w h)
theorem inlX8 : ∀ w ∈ wsX80, w ∈ wsL_law := fun _ h => List.mem_append_left _ (List.mem_append_left _ (List.mem_append_left _ (List.mem_append_left _ (List.mem_append_left _ (List.mem_append_left _ (List.mem_append_left _ (List.mem_append_left _ (List.mem_append_left _ (List.mem_append_left _ (List.mem_append_left _ (List.mem_append_left _ (List.mem_append_right _ h))))))))))))
theorem inX8 : ∀ w ∈ wsX80, w ∈ zs_tbl := fun w h => wsL_law_in w (inlX8 w h)
theorem inJ5 : ∀ w ∈ wsJ50, w ∈ zs_tbl := by decide +kernel
theorem inJx8e188 : ∀ w ∈ wsJx8e1880, w ∈ zs_tbl := by decide +kernel
theorem inJ6 : ∀ w ∈ wsJ60, w ∈ zs_tbl := by decide +kernel
theorem inJ9 : ∀ w ∈ wsJ90, w ∈ zs_tbl := by decide +kernel
theorem inlJ0 : ∀ w ∈ wsJ00, w ∈ wsL_law := fun _ h => List.mem_append_left _ (List.mem_append_left _ (List.mem_append_left _ (List.mem_append_left _ (List.mem_append_right _ h))))
theorem inJ0 : ∀ w ∈ wsJ00, w ∈ zs_tbl := fun w h => wsL_law_in w (inlJ0 w h)
theorem inlJ4 : ∀ w ∈ wsJ40, w ∈ wsL_law := fun _ h => List.mem_append_left _ (List.mem_append_left _ (List.mem_append_left _ (List.mem_append_left _ (List.mem_append_left _ (List.mem_append_right _ h)))))
theorem inJ4 : ∀ w ∈ wsJ40, w ∈ zs_tbl := fun w h => wsL_law_in w (inlJ4 w h)
theorem inJ1 : ∀ w ∈ wsJ10, w ∈ zs_tbl := by decide +kernel
theorem inJ2 : ∀ w ∈ wsJ20, w ∈ zs_tbl := by decide +kernel
theorem inJ10 : ∀ w ∈ wsJ100, w ∈ zs_tbl := by decide +kernel
theorem inJ7 : ∀ w ∈ wsJ70, w ∈ zs_tbl := by decide +kernel
theorem inJ8 : ∀ w ∈ wsJ80, w ∈ zs_tbl := by decide +kernel
theorem inJ3 : ∀ w ∈ wsJ30, w ∈ zs_tbl := by decide +kernel
