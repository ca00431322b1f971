/-! words that the kit's table of private methods lacks: private methods of the builder's superclass, asked of the builder -/
def zs_y1 : MethodName := ⟨"java/lang/AbstractStringBuilder", "ensureCapacityInternal", "(I)V"⟩
def zs_y2 : MethodName := ⟨"java/lang/AbstractStringBuilder", "newCapacity", "(I)I"⟩
def zs_y3 : MethodName := ⟨"java/lang/AbstractStringBuilder", "inflate", "()V"⟩
def zs_3 : List Cond := [.selects "java/lang/StringBuilder" zs_y1 zs_y1, .selects "java/lang/StringBuilder" zs_y2 zs_y2, .selects "java/lang/StringBuilder" zs_y3 zs_y3, .selects "java/lang/StringBuilder" zs_y1 zs_y1, .selects "java/lang/StringBuilder" zs_y2 zs_y2, .selects "java/lang/StringBuilder" zs_y3 zs_y3]
def zs_tbl : List Cond := zs_3 ++ lw_tbl
theorem zs_sub {C : String} {y z : MethodName} {s : State} {args : Array Value} {n : Nat} (hy : y.cls ≠ "java/lang/invoke/MethodHandle" ∧ y.cls ≠ "java/lang/invoke/VarHandle") (hz : z.cls = y.cls) (hins : (Cond.instantiable C n).before args s = true) (hpriv : (Cond.privateMethod y).before args s = true) (hinst : (Cond.instanceMethod y).before args s = true) (hs : (Cond.selects C z z).before args s = true) :
    (Cond.selects C y y).before args s = true := by
  obtain ⟨c, k, hc, hk, -, hniab, -, -⟩ := Cond.instantiable_spec hins
  obtain ⟨mk, methM, hnamed, hmethM, -, -⟩ := Cond.instanceMethod_spec hinst
  have hfound : s.methodFound? y.cls y.name y.desc = some mk := State.methodFound?_of_named hnamed hy
  have hsel : selectMethod {} s.vm c mk = .method mk := selectMethod_private hmethM (Cond.privateMethod_at hpriv mk methM hnamed hmethM)
  obtain ⟨c2, r2, m2, e1, e2, e3, e4, k2, e5, e6⟩ := Cond.selects_spec hs
  have h1 : s.vm.findClass y.cls = some m2.cls := by
    rw [← hz]
    exact findClass_of_methodNamed e3
  have h2 : m2.cls = mk.cls := Option.some.inj (h1.symm.trans (findClass_of_methodNamed hnamed))
  rw [h2] at e5
  simp only [Cond.before, Cond.holds, Cond.value, hc, hfound, hnamed, hsel, e5]
  simp
  exact e6
theorem zs_hts {args : Array Value} {s : State} (hts : ∀ w ∈ lw_tbl, w.before args s = true) : ∀ w ∈ zs_tbl, w.before args s = true := by
  have hz : (Cond.selects "java/lang/StringBuilder" ⟨"java/lang/AbstractStringBuilder", "isLatin1", "()Z"⟩ ⟨"java/lang/AbstractStringBuilder", "isLatin1", "()Z"⟩).before args s = true := hts _ (by decide +kernel)
  have hi := hts (.instantiable "java/lang/StringBuilder" 4) (by decide +kernel)
  have q1 : (Cond.selects "java/lang/StringBuilder" zs_y1 zs_y1).before args s = true := zs_sub (z := ⟨"java/lang/AbstractStringBuilder", "isLatin1", "()Z"⟩) (n := 4) (by decide) rfl hi (hts (.privateMethod zs_y1) (by decide +kernel)) (hts (.instanceMethod zs_y1) (by decide +kernel)) hz
  have q2 : (Cond.selects "java/lang/StringBuilder" zs_y2 zs_y2).before args s = true := zs_sub (z := ⟨"java/lang/AbstractStringBuilder", "isLatin1", "()Z"⟩) (n := 4) (by decide) rfl hi (hts (.privateMethod zs_y2) (by decide +kernel)) (hts (.instanceMethod zs_y2) (by decide +kernel)) hz
  have q3 : (Cond.selects "java/lang/StringBuilder" zs_y3 zs_y3).before args s = true := zs_sub (z := ⟨"java/lang/AbstractStringBuilder", "isLatin1", "()Z"⟩) (n := 4) (by decide) rfl hi (hts (.privateMethod zs_y3) (by decide +kernel)) (hts (.instanceMethod zs_y3) (by decide +kernel)) hz
  intro w hw
  rcases List.mem_append.mp hw with hw | hw
  · unfold zs_3 at hw
    rcases List.mem_cons.mp hw with h | hw
    · rw [h]; exact q1
    rcases List.mem_cons.mp hw with h | hw
    · rw [h]; exact q2
    rcases List.mem_cons.mp hw with h | hw
    · rw [h]; exact q3
    rcases List.mem_cons.mp hw with h | hw
    · rw [h]; exact q1
    rcases List.mem_cons.mp hw with h | hw
    · rw [h]; exact q2
    rcases List.mem_cons.mp hw with h | hw
    · rw [h]; exact q3
    cases hw
  · exact hts w hw
set_option maxRecDepth 20000 in
theorem wsL_seg1 : GoodIn zs_tbl wsL_law0_r1 := goodIn_p wsL_law0_r1 [65, 68] (by decide +kernel) (by decide +kernel)
set_option maxRecDepth 20000 in
theorem wsL_seg2 : GoodIn zs_tbl wsL_law0_r2 := goodIn_p wsL_law0_r2 [75, 82] (by decide +kernel) (by decide +kernel)
set_option maxRecDepth 20000 in
theorem wsL_seg3 : GoodIn zs_tbl wsL_law0_r3 := goodIn_p wsL_law0_r3 [78, 95, 118, 148] (by decide +kernel) (by decide +kernel)
set_option maxRecDepth 20000 in
theorem wsL_seg4 : GoodIn zs_tbl wsL_law0_r4 := goodIn_p wsL_law0_r4 [154, 1217] (by decide +kernel) (by decide +kernel)
set_option maxRecDepth 20000 in
theorem wsL_seg5 : GoodIn zs_tbl wsL_law0_r5 := goodIn_p wsL_law0_r5 [1224, 751, 768, 772] (by decide +kernel) (by decide +kernel)
set_option maxRecDepth 20000 in
theorem wsL_seg6 : GoodIn zs_tbl wsL_law0_r6 := goodIn_p wsL_law0_r6 [791, 798, 802, 293] (by decide +kernel) (by decide +kernel)
set_option maxRecDepth 20000 in
theorem wsL_seg7 : GoodIn zs_tbl wsL_law0_r7 := goodIn_p wsL_law0_r7 [247, 1263, 1266, 1269, 1273, 1277] (by decide +kernel) (by decide +kernel)
set_option maxRecDepth 20000 in
theorem wsL_seg8 : GoodIn zs_tbl wsL_law0_r8 := goodIn_p wsL_law0_r8 [809, 813, 1281, 1284, 1288] (by decide +kernel) (by decide +kernel)
set_option maxRecDepth 20000 in
theorem wsL_seg9 : GoodIn zs_tbl wsL_law0_r9 := goodIn_p wsL_law0_r9 [820, 639, 1292, 827, 830] (by decide +kernel) (by decide +kernel)
set_option maxRecDepth 20000 in
theorem wsL_seg10 : GoodIn zs_tbl wsL_law0_r10 := goodIn_p wsL_law0_r10 [834, 650, 1296, 1300, 841] (by decide +kernel) (by decide +kernel)
set_option maxRecDepth 20000 in
theorem wsL_seg11 : GoodIn zs_tbl wsL_law0_r11 := goodIn_p wsL_law0_r11 [845, 849, 1304, 1308, 856, 1312] (by decide +kernel) (by decide +kernel)
set_option maxRecDepth 20000 in
theorem wsL_seg12 : GoodIn zs_tbl wsL_law0_r12 := goodIn_p wsL_law0_r12 [341, 863, 866, 870, 1317, 1320] (by decide +kernel) (by decide +kernel)
set_option maxRecDepth 20000 in
theorem wsL_seg13 : GoodIn zs_tbl wsL_law0_r13 := goodIn_p wsL_law0_r13 [877, 644, 300, 304, 1324] (by decide +kernel) (by decide +kernel)
set_option maxRecDepth 20000 in
theorem wsL_seg14 : GoodIn zs_tbl wsL_law0_r14 := goodIn_p wsL_law0_r14 [1328, 884, 259, 262] (by decide +kernel) (by decide +kernel)
set_option maxRecDepth 20000 in
theorem wsL_seg15 : GoodIn zs_tbl wsL_law0_r15 := goodIn_p wsL_law0_r15 [268, 271, 308, 311, 315] (by decide +kernel) (by decide +kernel)
set_option maxRecDepth 20000 in
theorem wsL_seg16 : GoodIn zs_tbl wsL_law0_r16 := goodIn_p wsL_law0_r16 [319, 322, 327, 331] (by decide +kernel) (by decide +kernel)
set_option maxRecDepth 20000 in
theorem wsL_seg17 : GoodIn zs_tbl wsL_law0_r17 := goodIn_p wsL_law0_r17 [349, 352, 356, 359, 362] (by decide +kernel) (by decide +kernel)
set_option maxRecDepth 20000 in
theorem wsL_seg18 : GoodIn zs_tbl wsL_law0_r18 := goodIn_p wsL_law0_r18 [365, 368, 371, 376, 379, 388] (by decide +kernel) (by decide +kernel)
set_option maxRecDepth 20000 in
theorem wsL_seg19 : GoodIn zs_tbl wsL_law0_r19 := goodIn_p wsL_law0_r19 [391, 394, 397, 401, 406, 409] (by decide +kernel) (by decide +kernel)
set_option maxRecDepth 20000 in
theorem wsL_seg20 : GoodIn zs_tbl wsL_law0_r20 := goodIn_p wsL_law0_r20 [415, 421, 423, 427, 430] (by decide +kernel) (by decide +kernel)
set_option maxRecDepth 20000 in
theorem wsL_seg21 : GoodIn zs_tbl wsL_law0_r21 := goodIn_p wsL_law0_r21 [433, 578, 581, 584, 588, 888, 1332] (by decide +kernel) (by decide +kernel)
set_option maxRecDepth 20000 in
theorem wsL_seg22 : GoodIn zs_tbl wsL_law0_r22 := goodIn_p wsL_law0_r22 [1337, 1340, 895, 898, 1348] (by decide +kernel) (by decide +kernel)
set_option maxRecDepth 20000 in
theorem wsL_seg23 : GoodIn zs_tbl wsL_law0_r23 := goodIn_p wsL_law0_r23 [906, 910, 1352, 917] (by decide +kernel) (by decide +kernel)
set_option maxRecDepth 20000 in
theorem wsL_seg24 : GoodIn zs_tbl wsL_law0_r24 := goodIn_p wsL_law0_r24 [921, 1356, 928, 1360, 1363] (by decide +kernel) (by decide +kernel)
set_option maxRecDepth 20000 in
theorem wsL_seg25 : GoodIn zs_tbl wsL_law0_r25 := goodIn_p wsL_law0_r25 [936, 1367, 943, 947, 1371] (by decide +kernel) (by decide +kernel)
set_option maxRecDepth 20000 in
theorem wsL_seg26 : GoodIn zs_tbl wsL_law0_r26 := goodIn_p wsL_law0_r26 [954, 1375, 961, 965] (by decide +kernel) (by decide +kernel)
set_option maxRecDepth 20000 in
theorem wsL_seg27 : GoodIn zs_tbl wsL_law0_r27 := goodIn_p wsL_law0_r27 [662, 623, 627, 243, 235] (by decide +kernel) (by decide +kernel)
set_option maxRecDepth 20000 in
theorem wsL_seg28 : GoodIn zs_tbl wsL_law0_r28 := goodIn_p wsL_law0_r28 [633, 1379, 1382, 1386, 1389] (by decide +kernel) (by decide +kernel)
set_option maxRecDepth 20000 in
theorem wsL_seg29 : GoodIn zs_tbl wsL_law0_r29 := goodIn_p wsL_law0_r29 [973, 1393, 981, 984, 1397] (by decide +kernel) (by decide +kernel)
set_option maxRecDepth 20000 in
theorem wsL_seg30 : GoodIn zs_tbl wsL_law0_r30 := goodIn_p wsL_law0_r30 [227, 231, 239, 1401] (by decide +kernel) (by decide +kernel)
set_option maxRecDepth 20000 in
theorem wsL_seg31 : GoodIn zs_tbl wsL_law0_r31 := goodIn_p wsL_law0_r31 [1007, 1010, 1405, 1019, 1023] (by decide +kernel) (by decide +kernel)
set_option maxRecDepth 20000 in
theorem wsL_seg32 : GoodIn zs_tbl wsL_law0_r32 := goodIn_p wsL_law0_r32 [1409, 1031, 1035, 1039, 1413] (by decide +kernel) (by decide +kernel)
set_option maxRecDepth 20000 in
theorem wsL_seg33 : GoodIn zs_tbl wsL_law0_r33 := goodIn_p wsL_law0_r33 [1047, 1051, 1055, 1059, 1417] (by decide +kernel) (by decide +kernel)
set_option maxRecDepth 20000 in
theorem wsL_seg34 : GoodIn zs_tbl wsL_law0_r34 := goodIn_p wsL_law0_r34 [1066, 1070, 1421, 1077] (by decide +kernel) (by decide +kernel)
set_option maxRecDepth 20000 in
theorem wsL_seg35 : GoodIn zs_tbl wsL_law0_r35 := goodIn_p wsL_law0_r35 [1425, 1084, 1429, 1091] (by decide +kernel) (by decide +kernel)
set_option maxRecDepth 20000 in
theorem wsL_seg36 : GoodIn zs_tbl wsL_law0_r36 := goodIn_p wsL_law0_r36 [1433, 1098, 1437, 1105, 1441] (by decide +kernel) (by decide +kernel)
set_option maxRecDepth 20000 in
theorem wsL_seg37 : GoodIn zs_tbl wsL_law0_r37 := goodIn_p wsL_law0_r37 [1444, 1112, 1448, 1120] (by decide +kernel) (by decide +kernel)
set_option maxRecDepth 20000 in
theorem wsL_seg38 : GoodIn zs_tbl wsL_law0_r38 := goodIn_p wsL_law0_r38 [1452, 1127, 619, 254, 1456] (by decide +kernel) (by decide +kernel)
set_option maxRecDepth 20000 in
theorem wsL_seg39 : GoodIn zs_tbl wsL_law0_r39 := goodIn_p wsL_law0_r39 [1134, 1460, 1141, 668] (by decide +kernel) (by decide +kernel)
set_option maxRecDepth 20000 in
theorem wsL_seg40 : GoodIn zs_tbl wsL_law0_r40 := goodIn_p wsL_law0_r40 [672, 678, 682, 687, 693] (by decide +kernel) (by decide +kernel)
set_option maxRecDepth 20000 in
theorem wsL_seg41 : GoodIn zs_tbl wsL_law0_r41 := goodIn_p wsL_law0_r41 [1464, 1467, 1470, 1148, 1474, 1477] (by decide +kernel) (by decide +kernel)
set_option maxRecDepth 20000 in
theorem wsL_seg42 : GoodIn zs_tbl wsL_law0_r42 := goodIn_p wsL_law0_r42 [1155, 1482, 1485, 1162, 1489] (by decide +kernel) (by decide +kernel)
set_option maxRecDepth 20000 in
theorem wsL_seg43 : GoodIn zs_tbl wsL_law0_r43 := goodIn_p wsL_law0_r43 [1169, 739, 1493, 1496, 1499] (by decide +kernel) (by decide +kernel)
set_option maxRecDepth 20000 in
theorem wsL_seg44 : GoodIn zs_tbl wsL_law0_r44 := goodIn_p wsL_law0_r44 [1176, 480, 483, 486, 489] (by decide +kernel) (by decide +kernel)
set_option maxRecDepth 20000 in
theorem wsL_seg45 : GoodIn zs_tbl wsL_law0_r45 := goodIn_p wsL_law0_r45 [496, 499, 502, 505, 508, 1503] (by decide +kernel) (by decide +kernel)
set_option maxRecDepth 20000 in
theorem wsL_seg46 : GoodIn zs_tbl wsL_law0_r46 := goodIn_p wsL_law0_r46 [1184, 708, 713, 1508] (by decide +kernel) (by decide +kernel)
set_option maxRecDepth 20000 in
theorem wsL_seg47 : GoodIn zs_tbl wsL_law0_r47 := goodIn_p wsL_law0_r47 [1191, 653, 1512, 1198, 1516, 251] (by decide +kernel) (by decide +kernel)
set_option maxRecDepth 20000 in
theorem wsL_seg48 : GoodIn zs_tbl wsL_law0_r48 := goodIn_p wsL_law0_r48 [1520, 1205, 1524, 1212] (by decide +kernel) (by decide +kernel)
set_option maxRecDepth 20000 in
theorem wsL_seg49 : GoodIn zs_tbl wsL_law0_r49 := goodIn_p wsL_law0_r49 [745, 1528, 603, 1532, 607, 611] (by decide +kernel) (by decide +kernel)
set_option maxRecDepth 20000 in
theorem wsL_seg50 : GoodIn zs_tbl wsL_law0_r50 := goodIn_p wsL_law0_r50 [615, 658, 697, 700, 704, 717] (by decide +kernel) (by decide +kernel)
set_option maxRecDepth 20000 in
theorem wsL_seg51 : GoodIn zs_tbl wsL_law0_r51 := goodIn_p wsL_law0_r51 [1536, 1540, 723, 728, 731, 735] (by decide +kernel) (by decide +kernel)
set_option maxRecDepth 20000 in
theorem wsL_seg52 : GoodIn zs_tbl wsL_law0_r52 := goodIn_p wsL_law0_r52 [1544, 1548] (by decide +kernel) (by decide +kernel)
theorem wsL_tX6 : ∀ w ∈ wsX60, w ∈ zs_tbl := by decide +kernel
theorem wsL_tX8 : ∀ w ∈ wsX80, w ∈ zs_tbl := by decide +kernel
theorem wsL_tX7 : ∀ w ∈ wsX70, w ∈ zs_tbl := by decide +kernel
theorem wsL_tX2 : ∀ w ∈ wsX20, w ∈ zs_tbl := by decide +kernel
theorem wsL_tX1 : ∀ w ∈ wsX10, w ∈ zs_tbl := by decide +kernel
theorem wsL_tX5 : ∀ w ∈ wsX50, w ∈ zs_tbl := by decide +kernel
theorem wsL_tX3 : ∀ w ∈ wsX30, w ∈ zs_tbl := by decide +kernel
theorem wsL_tX0 : ∀ w ∈ wsX00, w ∈ zs_tbl := by decide +kernel
theorem wsL_tJ4 : ∀ w ∈ wsJ40, w ∈ zs_tbl := by decide +kernel
theorem wsL_tJ0 : ∀ w ∈ wsJ00, w ∈ zs_tbl := by decide +kernel
set_option maxRecDepth 100000 in
theorem wsL_law_in0 : ∀ w ∈ wsL_law0, w ∈ zs_tbl := by
  intro w h
  unfold wsL_law0 at h
  refine (List.mem_append.mp h).elim (fun h => ?_) (fun h => by cases h)
  refine (List.mem_append.mp h).elim (fun h => ?_) (fun h => wsL_tJ0 w h)
  refine (List.mem_append.mp h).elim (fun h => ?_) (fun h => wsL_tJ4 w h)
  refine (List.mem_append.mp h).elim (fun h => ?_) (fun h => wsL_tX0 w h)
  refine (List.mem_append.mp h).elim (fun h => ?_) (fun h => wsL_tX3 w h)
  refine (List.mem_append.mp h).elim (fun h => ?_) (fun h => wsL_tX5 w h)
  refine (List.mem_append.mp h).elim (fun h => ?_) (fun h => wsL_tX1 w h)
  refine (List.mem_append.mp h).elim (fun h => ?_) (fun h => wsL_tX2 w h)
  refine (List.mem_append.mp h).elim (fun h => ?_) (fun h => wsL_tX7 w h)
  refine (List.mem_append.mp h).elim (fun h => ?_) (fun h => wsL_tX8 w h)
  refine (List.mem_append.mp h).elim (fun h => ?_) (fun h => wsL_tX6 w h)
  exact ((goodIn_app wsL_seg1 (goodIn_app wsL_seg2 (goodIn_app wsL_seg3 (goodIn_app wsL_seg4 (goodIn_app wsL_seg5 (goodIn_app wsL_seg6 (goodIn_app wsL_seg7 (goodIn_app wsL_seg8 (goodIn_app wsL_seg9 (goodIn_app wsL_seg10 (goodIn_app wsL_seg11 (goodIn_app wsL_seg12 (goodIn_app wsL_seg13 (goodIn_app wsL_seg14 (goodIn_app wsL_seg15 (goodIn_app wsL_seg16 (goodIn_app wsL_seg17 (goodIn_app wsL_seg18 (goodIn_app wsL_seg19 (goodIn_app wsL_seg20 (goodIn_app wsL_seg21 (goodIn_app wsL_seg22 (goodIn_app wsL_seg23 (goodIn_app wsL_seg24 (goodIn_app wsL_seg25 (goodIn_app wsL_seg26 (goodIn_app wsL_seg27 (goodIn_app wsL_seg28 (goodIn_app wsL_seg29 (goodIn_app wsL_seg30 (goodIn_app wsL_seg31 (goodIn_app wsL_seg32 (goodIn_app wsL_seg33 (goodIn_app wsL_seg34 (goodIn_app wsL_seg35 (goodIn_app wsL_seg36 (goodIn_app wsL_seg37 (goodIn_app wsL_seg38 (goodIn_app wsL_seg39 (goodIn_app wsL_seg40 (goodIn_app wsL_seg41 (goodIn_app wsL_seg42 (goodIn_app wsL_seg43 (goodIn_app wsL_seg44 (goodIn_app wsL_seg45 (goodIn_app wsL_seg46 (goodIn_app wsL_seg47 (goodIn_app wsL_seg48 (goodIn_app wsL_seg49 (goodIn_app wsL_seg50 (goodIn_app wsL_seg51 (wsL_seg52)))))))))))))))))))))))))))))))))))))))))))))))))))) w h).1
theorem wsL_law_x0 : ∀ w ∈ (vx_atS RX6 306 "java/lang/IndexOutOfBoundsException" ["java/lang/RuntimeException", "java/lang/Exception"]).filter goodWord, w ∈ zs_tbl := by decide +kernel
theorem wsL_law_x1 : ∀ w ∈ (vx_atS RX6 317 "java/lang/IllegalArgumentException" ["java/lang/RuntimeException", "java/lang/Exception"]).filter goodWord, w ∈ zs_tbl := by decide +kernel
theorem wsL_law_x2 : ∀ w ∈ (vx_atS RX6 327 "java/lang/IllegalStateException" ["java/lang/RuntimeException", "java/lang/Exception"]).filter goodWord, w ∈ zs_tbl := by decide +kernel
theorem wsL_law_in : ∀ w ∈ wsL_law, w ∈ zs_tbl := fun w h => (List.mem_append.mp h).elim (fun h => (List.mem_append.mp h).elim (fun h => (List.mem_append.mp h).elim (fun h => wsL_law_in0 w h) (fun h => wsL_law_x0 w h)) (fun h => wsL_law_x1 w h)) (fun h => wsL_law_x2 w h)
theorem inlX0 : ∀ w ∈ wsX00, w ∈ wsL_law := fun _ h => List.mem_append_left _ (List.mem_append_left _ (List.mem_append_left _ (List.mem_append_left _ (List.mem_append_left _ (List.mem_append_left _ (List.mem_append_right _ h))))))
theorem inX0 : ∀ w ∈ wsX00, w ∈ zs_tbl := fun w h => wsL_law_in w (inlX0 w h)
theorem inlX1 : ∀ w ∈ wsX10, w ∈ wsL_law := fun _ h => List.mem_append_left _ (List.mem_append_left _ (List.mem_append_left _ (List.mem_append_left _ (List.mem_append_left _ (List.mem_append_left _ (List.mem_append_left _ (List.mem_append_left _ (List.mem_append_left _ (List.mem_append_right _ h)))))))))
theorem inX1 : ∀ w ∈ wsX10, w ∈ zs_tbl := fun w h => wsL_law_in w (inlX1 w h)
theorem inlX2 : ∀ w ∈ wsX20, w ∈ wsL_law := fun _ h => List.mem_append_left _ (List.mem_append_left _ (List.mem_append_left _ (List.mem_append_left _ (List.mem_append_left _ (List.mem_append_left _ (List.mem_append_left _ (List.mem_append_left _ (List.mem_append_left _ (List.mem_append_left _ (List.mem_append_right _ h))))))))))
theorem inX2 : ∀ w ∈ wsX20, w ∈ zs_tbl := fun w h => wsL_law_in w (inlX2 w h)
theorem inlX3 : ∀ w ∈ wsX30, w ∈ wsL_law := fun _ h => List.mem_append_left _ (List.mem_append_left _ (List.mem_append_left _ (List.mem_append_left _ (List.mem_append_left _ (List.mem_append_left _ (List.mem_append_left _ (List.mem_append_right _ h)))))))
theorem inX3 : ∀ w ∈ wsX30, w ∈ zs_tbl := fun w h => wsL_law_in w (inlX3 w h)
theorem inX4 : ∀ w ∈ wsX40, w ∈ zs_tbl := by decide +kernel
theorem inlX5 : ∀ w ∈ wsX50, w ∈ wsL_law := fun _ h => List.mem_append_left _ (List.mem_append_left _ (List.mem_append_left _ (List.mem_append_left _ (List.mem_append_left _ (List.mem_append_left _ (List.mem_append_left _ (List.mem_append_left _ (List.mem_append_right _ h))))))))
theorem inX5 : ∀ w ∈ wsX50, w ∈ zs_tbl := fun w h => wsL_law_in w (inlX5 w h)
theorem inlX6 : ∀ w ∈ wsX60, w ∈ wsL_law := fun _ h => List.mem_append_left _ (List.mem_append_left _ (List.mem_append_left _ (List.mem_append_left _ (List.mem_append_left _ (List.mem_append_left _ (List.mem_append_left _ (List.mem_append_left _ (List.mem_append_left _ (List.mem_append_left _ (List.mem_append_left _ (List.mem_append_left _ (List.mem_append_left _ (List.mem_append_right _ h)))))))))))))
theorem inX6 : ∀ w ∈ wsX60, w ∈ zs_tbl := fun w h => wsL_law_in w (inlX6 w h)
theorem inlX7 : ∀ w ∈ wsX70, w ∈ wsL_law := fun _ h => List.mem_append_left _ (List.mem_append_left _ (List.mem_append_left _ (List.mem_append_left _ (List.mem_append_left _ (List.mem_append_left _ (List.mem_append_left _ (List.mem_append_left _ (List.mem_append_left _ (List.mem_append_left _ (List.mem_append_left _ (List.mem_append_right _ h)))))))))))
theorem inX7 : ∀ w ∈ wsX70, w ∈ zs_tbl := fun w h => wsL_law_in w (inlX7 w h)
theorem inlX8 : ∀ w ∈ wsX80, w ∈ wsL_law := fun _ h => List.mem_append_left _ (List.mem_append_left _ (List.mem_append_left _ (List.mem_append_left _ (List.mem_append_left _ (List.mem_append_left _ (List.mem_append_left _ (List.mem_append_left _ (List.mem_append_left _ (List.mem_append_left _ (List.mem_append_left _ (List.mem_append_left _ (List.mem_append_right _ h))))))))))))
theorem inX8 : ∀ w ∈ wsX80, w ∈ zs_tbl := fun w h => wsL_law_in w (inlX8 w h)
theorem inJ5 : ∀ w ∈ wsJ50, w ∈ zs_tbl := by decide +kernel
theorem inJx8e188 : ∀ w ∈ wsJx8e1880, w ∈ zs_tbl := by decide +kernel
theorem inJ6 : ∀ w ∈ wsJ60, w ∈ zs_tbl := by decide +kernel
theorem inJ9 : ∀ w ∈ wsJ90, w ∈ zs_tbl := by decide +kernel
theorem inlJ0 : ∀ w ∈ wsJ00, w ∈ wsL_law := fun _ h => List.mem_append_left _ (List.mem_append_left _ (List.mem_append_left _ (List.mem_append_left _ (List.mem_append_right _ h))))
theorem inJ0 : ∀ w ∈ wsJ00, w ∈ zs_tbl := fun w h => wsL_law_in w (inlJ0 w h)
theorem inlJ4 : ∀ w ∈ wsJ40, w ∈ wsL_law := fun _ h => List.mem_append_left _ (List.mem_append_left _ (List.mem_append_left _ (List.mem_append_left _ (List.mem_append_left _ (List.mem_append_right _ h)))))
theorem inJ4 : ∀ w ∈ wsJ40, w ∈ zs_tbl := fun w h => wsL_law_in w (inlJ4 w h)
theorem inJ1 : ∀ w ∈ wsJ10, w ∈ zs_tbl := by decide +kernel
theorem inJ2 : ∀ w ∈ wsJ20, w ∈ zs_tbl := by decide +kernel
theorem inJ10 : ∀ w ∈ wsJ100, w ∈ zs_tbl := by decide +kernel
theorem inJ7 : ∀ w ∈ wsJ70, w ∈ zs_tbl := by decide +kernel
theorem inJ8 : ∀ w ∈ wsJ80, w ∈ zs_tbl := by decide +kernel
theorem inJ3 : ∀ w ∈ wsJ30, w ∈ zs_tbl := by decide +kernel
