/-! words that the kit's table of private methods lacks: private methods of the builder's superclass, asked of the builder -/
def zs_y1 : MethodName := ⟨"java/lang/AbstractStringBuilder", "ensureCapacityInternal", "(I)V"⟩
def zs_y2 : MethodName := ⟨"java/lang/AbstractStringBuilder", "newCapacity", "(I)I"⟩
def zs_y3 : MethodName := ⟨"java/lang/AbstractStringBuilder", "inflate", "()V"⟩
def zs_3 : List Cond := [.selects "java/lang/StringBuilder" zs_y1 zs_y1, .selects "java/lang/StringBuilder" zs_y2 zs_y2, .selects "java/lang/StringBuilder" zs_y3 zs_y3, .selects "java/lang/StringBuilder" zs_y1 zs_y1, .selects "java/lang/StringBuilder" zs_y2 zs_y2, .selects "java/lang/StringBuilder" zs_y3 zs_y3]
def zs_tbl : List Cond := zs_3 ++ lw_tbl
theorem zs_sub {C : String} {y z : MethodName} {s : State} {args : Array Value} {n : Nat} (hy : y.cls ≠ "java/lang/invoke/MethodHandle" ∧ y.cls ≠ "java/lang/invoke/VarHandle") (hz : z.cls = y.cls) (hins : (Cond.instantiable C n).before args s = true) (hpriv : (Cond.privateMethod y).before args s = true) (hinst : (Cond.instanceMethod y).before args s = true) (hs : (Cond.selects C z z).before args s = true) :
    (Cond.selects C y y).before args s = true := by
  obtain ⟨c, k, hc, hk, -, hniab, -, -⟩ := Cond.instantiable_spec hins
  obtain ⟨mk, methM, hnamed, hmethM, -, -⟩ := Cond.instanceMethod_spec hinst
  have hfound : s.methodFound? y.cls y.name y.desc = some mk := State.methodFound?_of_named hnamed hy
  have hsel : selectMethod {} s.vm c mk = .method mk := selectMethod_private hmethM (Cond.privateMethod_at hpriv mk methM hnamed hmethM)
  obtain ⟨c2, r2, m2, e1, e2, e3, e4, k2, e5, e6⟩ := Cond.selects_spec hs
  have h1 : s.vm.findClass y.cls = some m2.cls := by
    rw [← hz]
    exact findClass_of_methodNamed e3
  have h2 : m2.cls = mk.cls := Option.some.inj (h1.symm.trans (findClass_of_methodNamed hnamed))
  rw [h2] at e5
  simp only [Cond.before, Cond.holds, Cond.value, hc, hfound, hnamed, hsel, e5]
  simp
  exact e6
theorem zs_hts {args : Array Value} {s : State} (hts : ∀ w ∈ lw_tbl, w.before args s = true) : ∀ w ∈ zs_tbl, w.before args s = true := by
  have hz : (Cond.selects "java/lang/StringBuilder" ⟨"java/lang/AbstractStringBuilder", "isLatin1", "()Z"⟩ ⟨"java/lang/AbstractStringBuilder", "isLatin1", "()Z"⟩).before args s = true := hts _ (by decide +kernel)
  have hi := hts (.instantiable "java/lang/StringBuilder" 4) (by decide +kernel)
  have q1 : (Cond.selects "java/lang/StringBuilder" zs_y1 zs_y1).before args s = true := zs_sub (z := ⟨"java/lang/AbstractStringBuilder", "isLatin1", "()Z"⟩) (n := 4) (by decide) rfl hi (hts (.privateMethod zs_y1) (by decide +kernel)) (hts (.instanceMethod zs_y1) (by decide +kernel)) hz
  have q2 : (Cond.selects "java/lang/StringBuilder" zs_y2 zs_y2).before args s = true := zs_sub (z := ⟨"java/lang/AbstractStringBuilder", "isLatin1", "()Z"⟩) (n := 4) (by decide) rfl hi (hts (.privateMethod zs_y2) (by decide +kernel)) (hts (.instanceMethod zs_y2) (by decide +kernel)) hz
  have q3 : (Cond.selects "java/lang/StringBuilder" zs_y3 zs_y3).before args s = true := zs_sub (z := ⟨"java/lang/AbstractStringBuilder", "isLatin1", "()Z"⟩) (n := 4) (by decide) rfl hi (hts (.privateMethod zs_y3) (by decide +kernel)) (hts (.instanceMethod zs_y3) (by decide +kernel)) hz
  intro w hw
  rcases List.mem_append.mp hw with hw | hw
  · unfold zs_3 at hw
    rcases List.mem_cons.mp hw with h | hw
    · rw [h]; exact q1
    rcases List.mem_cons.mp hw with h | hw
    · rw [h]; exact q2
    rcases List.mem_cons.mp hw with h | hw
    · rw [h]; exact q3
    rcases List.mem_cons.mp hw with h | hw
    · rw [h]; exact q1
    rcases List.mem_cons.mp hw with h | hw
    · rw [h]; exact q2
    rcases List.mem_cons.mp hw with h | hw
    · rw [h]; exact q3
    cases hw
  · exact hts w hw
set_option maxRecDepth 20000 in
theorem wsL_seg1 : GoodIn zs_tbl wsL_law0_r1 := goodIn_p wsL_law0_r1 [65, 68] (by decide +kernel) (by decide +kernel)
set_option maxRecDepth 20000 in
theorem wsL_seg2 : GoodIn zs_tbl wsL_law0_r2 := goodIn_p wsL_law0_r2 [75, 82] (by decide +kernel) (by decide +kernel)
set_option maxRecDepth 20000 in
theorem wsL_seg3 : GoodIn zs_tbl wsL_law0_r3 := goodIn_p wsL_law0_r3 [78, 95, 118, 148] (by decide +kernel) (by decide +kernel)
set_option maxRecDepth 20000 in
theorem wsL_seg4 : GoodIn zs_tbl wsL_law0_r4 := goodIn_p wsL_law0_r4 [154, 1217] (by decide +kernel) (by decide +kernel)
set_option maxRecDepth 20000 in
theorem wsL_seg5 : GoodIn zs_tbl wsL_law0_r5 := goodIn_p wsL_law0_r5 [1224, 751, 768, 772] (by decide +kernel) (by decide +kernel)
set_option maxRecDepth 20000 in
theorem wsL_seg6 : GoodIn zs_tbl wsL_law0_r6 := goodIn_p wsL_law0_r6 [791, 798, 802, 293] (by decide +kernel) (by decide +kernel)
set_option maxRecDepth 20000 in
theorem wsL_seg7 : GoodIn zs_tbl wsL_law0_r7 := goodIn_p wsL_law0_r7 [247, 1263, 1266, 1269, 1273, 1277] (by decide +kernel) (by decide +kernel)
set_option maxRecDepth 20000 in
theorem wsL_seg8 : GoodIn zs_tbl wsL_law0_r8 := goodIn_p wsL_law0_r8 [809, 813, 1281, 1284, 1288] (by decide +kernel) (by decide +kernel)
set_option maxRecDepth 20000 in
theorem wsL_seg9 : GoodIn zs_tbl wsL_law0_r9 := goodIn_p wsL_law0_r9 [820, 639, 1292, 827, 830] (by decide +kernel) (by decide +kernel)
set_option maxRecDepth 20000 in
theorem wsL_seg10 : GoodIn zs_tbl wsL_law0_r10 := goodIn_p wsL_law0_r10 [834, 650, 1296, 1300, 841] (by decide +kernel) (by decide +kernel)
set_option maxRecDepth 20000 in
theorem wsL_seg11 : GoodIn zs_tbl wsL_law0_r11 := goodIn_p wsL_law0_r11 [845, 849, 1304, 1308, 856, 1312] (by decide +kernel) (by decide +kernel)
set_option maxRecDepth 20000 in
theorem wsL_seg12 : GoodIn zs_tbl wsL_law0_r12 := goodIn_p wsL_law0_r12 [341, 863, 866, 870, 1317, 1320] (by decide +kernel) (by decide +kernel)
set_option maxRecDepth 20000 in
theorem wsL_seg13 : GoodIn zs_tbl wsL_law0_r13 := goodIn_p wsL_law0_r13 [877, 644, 300, 304, 1324] (by decide +kernel) (by decide +kernel)
set_option maxRecDepth 20000 in
theorem wsL_seg14 : GoodIn zs_tbl wsL_law0_r14 := goodIn_p wsL_law0_r14 [1328, 884, 259, 262] (by decide +kernel) (by decide +kernel)
set_option maxRecDepth 20000 in
theorem wsL_seg15 : GoodIn zs_tbl wsL_law0_r15 := goodIn_p wsL_law0_r15 [268, 271, 308, 311, 315] (by decide +kernel) (by decide +kernel)
set_option maxRecDepth 20000 in
theorem wsL_seg16 : GoodIn zs_tbl wsL_law0_r16 := goodIn_p wsL_law0_r16 [319, 322, 327, 331] (by decide +kernel) (by decide +kernel)
set_option maxRecDepth 20000 in
theorem wsL_seg17 : GoodIn zs_tbl wsL_law0_r17 := goodIn_p wsL_law0_r17 [349, 352, 356, 359, 362] (by decide +kernel) (by decide +kernel)
