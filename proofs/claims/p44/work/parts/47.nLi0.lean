section
/-! words that the kit's table of private methods lacks: private methods of the builder's superclass, asked of the builder -/
def zs_y1 : MethodName := ⟨"java/lang/AbstractStringBuilder", "ensureCapacityInternal", "(I)V"⟩
def zs_y2 : MethodName := ⟨"java/lang/AbstractStringBuilder", "newCapacity", "(I)I"⟩
def zs_y3 : MethodName := ⟨"java/lang/AbstractStringBuilder", "inflate", "()V"⟩
def zs_3 : List Cond := [.selects "java/lang/StringBuilder" zs_y1 zs_y1, .selects "java/lang/StringBuilder" zs_y2 zs_y2, .selects "java/lang/StringBuilder" zs_y3 zs_y3, .selects "java/lang/StringBuilder" zs_y1 zs_y1, .selects "java/lang/StringBuilder" zs_y2 zs_y2, .selects "java/lang/StringBuilder" zs_y3 zs_y3]
def zs_tbl : List Cond := zs_3 ++ lw_tbl
theorem zs_sub {C : String} {y z : MethodName} {s : State} {args : Array Value} {n : Nat} (hy : y.cls ≠ "java/lang/invoke/MethodHandle" ∧ y.cls ≠ "java/lang/invoke/VarHandle") (hz : z.cls = y.cls) (hins : (Cond.instantiable C n).before args s = true) (hpriv : (Cond.privateMethod y).before args s = true) (hinst : (Cond.instanceMethod y).before args s = true) (hs : (Cond.selects C z z).before args s = true) :
    (Cond.selects C y y).before args s = true := by
  obtain ⟨c, k, hc, hk, -, hniab, -, -⟩ := Cond.instantiable_spec hins
  obtain ⟨mk, methM, hnamed, hmethM, -, -⟩ := Cond.instanceMethod_spec hinst
  have hfound : s.methodFound? y.cls y.name y.desc = some mk := State.methodFound?_of_named hnamed hy
  have hsel : selectMethod {} s.vm c mk = .method mk := selectMethod_private hmethM (Cond.privateMethod_at hpriv mk methM hnamed hmethM)
  obtain ⟨c2, r2, m2, e1, e2, e3, e4, k2, e5, e6⟩ := Cond.selects_spec hs
  have h1 : s.vm.findClass y.cls = some m2.cls := by
    rw [← hz]
    exact findClass_of_methodNamed e3
  have h2 : m2.cls = mk.cls := Option.some.inj (h1.symm.trans (findClass_of_methodNamed hnamed))
  rw [h2] at e5
  simp only [Cond.before, Cond.holds, Cond.value, hc, hfound, hnamed, hsel, e5]
  simp
  exact e6
theorem zs_hts {args : Array Value} {s : State} (hts : ∀ w ∈ lw_tbl, w.before args s = true) : ∀ w ∈ zs_tbl, w.before args s = true := by
  have hz : (Cond.selects "java/lang/StringBuilder" ⟨"java/lang/AbstractStringBuilder", "isLatin1", "()Z"⟩ ⟨"java/lang/AbstractStringBuilder", "isLatin1", "()Z"⟩).before args s = true := hts _ (by decide +kernel)
  have hi := hts (.instantiable "java/lang/StringBuilder" 4) (by decide +kernel)
  have q1 : (Cond.selects "java/lang/StringBuilder" zs_y1 zs_y1).before args s = true := zs_sub (z := ⟨"java/lang/AbstractStringBuilder", "isLatin1", "()Z"⟩) (n := 4) (by decide) rfl hi (hts (.privateMethod zs_y1) (by decide +kernel)) (hts (.instanceMethod zs_y1) (by decide +kernel)) hz
  have q2 : (Cond.selects "java/lang/StringBuilder" zs_y2 zs_y2).before args s = true := zs_sub (z := ⟨"java/lang/AbstractStringBuilder", "isLatin1", "()Z"⟩) (n := 4) (by decide) rfl hi (hts (.privateMethod zs_y2) (by decide +kernel)) (hts (.instanceMethod zs_y2) (by decide +kernel)) hz
  have q3 : (Cond.selects "java/lang/StringBuilder" zs_y3 zs_y3).before args s = true := zs_sub (z := ⟨"java/lang/AbstractStringBuilder", "isLatin1", "()Z"⟩) (n := 4) (by decide) rfl hi (hts (.privateMethod zs_y3) (by decide +kernel)) (hts (.instanceMethod zs_y3) (by decide +kernel)) hz
  intro w hw
  rcases List.mem_append.mp hw with hw | hw
  · unfold zs_3 at hw
    rcases List.mem_cons.mp hw with h | hw
    · rw [h]; exact q1
    rcases List.mem_cons.mp hw with h | hw
    · rw [h]; exact q2
    rcases List.mem_cons.mp hw with h | hw
    · rw [h]; exact q3
    rcases List.mem_cons.mp hw with h | hw
    · rw [h]; exact q1
    rcases List.mem_cons.mp hw with h | hw
    · rw [h]; exact q2
    rcases List.mem_cons.mp hw with h | hw
    · rw [h]; exact q3
    cases hw
  · exact hts w hw
def zs_sg : List (List Cond) := [zs_3, k2_sels lw_privs, tables_1_1, tables_1_2, tables_1_3, tables_1_4, tables_1_5, tables_1_6, tables_1_7]
theorem zs_se : zs_sg.flatten = zs_tbl := by simp only [zs_sg, zs_tbl, lw_tbl, tables_1, List.flatten_cons, List.flatten_nil, List.append_assoc, List.append_nil]
theorem zs_in (ws : List Cond) (ps : List (Nat × Nat)) (hp : ws = ps.filterMap (fun p => (zs_sg[p.1]?).bind (fun s => s[p.2]?))) : ∀ w ∈ ws, w ∈ zs_tbl := by
  intro w hw
  rw [hp] at hw
  obtain ⟨i, -, hi⟩ := List.mem_filterMap.mp hw
  obtain ⟨s, hs, hj⟩ := Option.bind_eq_some_iff.mp hi
  rw [← zs_se]
  exact List.mem_flatten.mpr ⟨s, List.mem_of_getElem? hs, List.mem_of_getElem? hj⟩
theorem zs_ap {a b t : List Cond} (ha : ∀ w ∈ a, w ∈ t) (hb : ∀ w ∈ b, w ∈ t) : ∀ w ∈ a ++ b, w ∈ t := fun w h => (List.mem_append.mp h).elim (ha w) (hb w)
set_option maxRecDepth 20000 in
theorem wsL_seg1 : ∀ w ∈ wsL_law0_r1, w ∈ zs_tbl := zs_in _ [pq_2_27, pq_2_28, pq_2_1, pq_6_219, pq_6_220, pq_2_9, pq_4_233, pq_4_234, pq_2_11, pq_2_29, pq_2_30, pq_2_31, pq_2_32, pq_2_33, pq_2_34, pq_2_35, pq_2_147, pq_2_37, pq_2_38, pq_2_3, pq_2_148, pq_2_149, pq_2_57, pq_2_58] (by rfl)
set_option maxRecDepth 20000 in
theorem wsL_seg2 : ∀ w ∈ wsL_law0_r2, w ∈ zs_tbl := zs_in _ [pq_2_5, pq_2_150, pq_2_81, pq_2_6, pq_2_151, pq_2_152, pq_2_153, pq_2_110, pq_2_111, pq_2_7, pq_2_154, pq_2_155, pq_2_145, pq_2_117, pq_2_8, pq_2_156, pq_2_39, pq_2_40, pq_2_41, pq_2_46, pq_2_47, pq_2_4, pq_2_48, pq_2_56] (by rfl)
set_option maxRecDepth 20000 in
theorem wsL_seg3 : ∀ w ∈ wsL_law0_r3, w ∈ zs_tbl := zs_in _ [pq_2_49, pq_2_43, pq_2_2, pq_2_44, pq_2_45, pq_2_60, pq_2_61, pq_2_62, pq_2_63, pq_2_65, pq_2_67, pq_2_69, pq_2_71, pq_2_64, pq_2_82, pq_2_83, pq_2_84, pq_2_86, pq_2_87, pq_2_89, pq_2_91, pq_2_95, pq_2_113, pq_2_114] (by rfl)
set_option maxRecDepth 20000 in
theorem wsL_seg4 : ∀ w ∈ wsL_law0_r4, w ∈ zs_tbl := zs_in _ [pq_2_115, pq_2_116, pq_2_134, pq_2_133, pq_2_135, pq_2_119, pq_2_120, pq_2_121, pq_2_122, pq_2_123, pq_6_221, pq_6_222, pq_6_223, pq_6_224, pq_6_232, pq_6_225, pq_6_234, pq_6_235, pq_6_236, pq_6_237, pq_6_238, pq_7_1, pq_6_227, pq_6_229] (by rfl)
set_option maxRecDepth 20000 in
theorem wsL_seg5 : ∀ w ∈ wsL_law0_r5, w ∈ zs_tbl := zs_in _ [pq_1_18, pq_6_230, pq_6_233, pq_6_231, pq_3_70, pq_3_69, pq_2_10, pq_4_236, pq_4_237, pq_4_238, pq_5_6, pq_5_7, pq_2_0, pq_5_8, pq_5_9, pq_5_10, pq_5_11, pq_5_12, pq_5_13, pq_5_14, pq_5_15, pq_5_17, pq_1_11, pq_5_18] (by rfl)
set_option maxRecDepth 20000 in
theorem wsL_seg6 : ∀ w ∈ wsL_law0_r6, w ∈ zs_tbl := zs_in _ [pq_5_19, pq_2_15, pq_5_35, pq_5_36, pq_5_37, pq_5_38, pq_2_16, pq_5_41, pq_5_42, pq_5_43, pq_5_44, pq_2_88, pq_5_45, pq_5_46, pq_5_47, pq_5_48, pq_2_93, pq_4_126, pq_3_18, pq_8_90, pq_3_19, pq_2_210, pq_2_212, pq_1_0] (by rfl)
set_option maxRecDepth 20000 in
theorem wsL_seg7 : ∀ w ∈ wsL_law0_r7, w ∈ zs_tbl := zs_in _ [pq_2_213, pq_2_157, pq_7_30, pq_7_31, pq_7_32, pq_7_33, pq_7_34, pq_7_35, pq_7_36, pq_7_37, pq_7_38, pq_7_39, pq_7_40, pq_7_42, pq_1_19, pq_7_43, pq_7_2, pq_7_44, pq_7_46, pq_1_20, pq_7_47, pq_5_49, pq_5_50, pq_5_51] (by rfl)
set_option maxRecDepth 20000 in
theorem wsL_seg8 : ∀ w ∈ wsL_law0_r8, w ∈ zs_tbl := zs_in _ [pq_5_52, pq_5_53, pq_5_54, pq_5_55, pq_5_56, pq_5_57, pq_5_58, pq_5_59, pq_4_132, pq_7_48, pq_7_49, pq_7_50, pq_7_51, pq_7_52, pq_7_53, pq_7_54, pq_7_55, pq_7_57, pq_1_21, pq_7_58, pq_5_60, pq_5_61, pq_5_62, pq_5_63] (by rfl)
set_option maxRecDepth 20000 in
theorem wsL_seg9 : ∀ w ∈ wsL_law0_r9, w ∈ zs_tbl := zs_in _ [pq_5_64, pq_5_65, pq_5_66, pq_4_122, pq_4_123, pq_4_124, pq_4_125, pq_7_59, pq_7_60, pq_7_61, pq_7_62, pq_5_67, pq_5_68, pq_5_69, pq_5_70, pq_5_71, pq_5_72, pq_5_73, pq_5_74, pq_5_75, pq_5_76, pq_5_77, pq_5_79, pq_1_12] (by rfl)
set_option maxRecDepth 20000 in
theorem wsL_seg10 : ∀ w ∈ wsL_law0_r10, w ∈ zs_tbl := zs_in _ [pq_5_80, pq_2_158, pq_4_133, pq_4_134, pq_4_135, pq_4_136, pq_7_63, pq_7_64, pq_7_65, pq_7_66, pq_7_67, pq_7_69, pq_1_22, pq_7_70, pq_5_81, pq_5_82, pq_5_83, pq_5_84, pq_5_85, pq_5_86, pq_5_87, pq_5_88, pq_5_89, pq_5_90] (by rfl)
set_option maxRecDepth 20000 in
theorem wsL_seg11 : ∀ w ∈ wsL_law0_r11, w ∈ zs_tbl := zs_in _ [pq_5_91, pq_5_92, pq_5_94, pq_1_13, pq_5_95, pq_7_71, pq_7_72, pq_7_73, pq_7_74, pq_7_75, pq_7_77, pq_1_23, pq_7_78, pq_5_96, pq_5_97, pq_5_98, pq_5_99, pq_5_100, pq_5_101, pq_5_102, pq_7_79, pq_7_80, pq_7_81, pq_7_82] (by rfl)
set_option maxRecDepth 20000 in
theorem wsL_seg12 : ∀ w ∈ wsL_law0_r12, w ∈ zs_tbl := zs_in _ [pq_7_83, pq_3_66, pq_3_67, pq_5_103, pq_5_104, pq_5_105, pq_5_106, pq_5_107, pq_5_108, pq_5_109, pq_5_110, pq_5_111, pq_5_112, pq_5_113, pq_5_114, pq_5_115, pq_5_116, pq_7_84, pq_7_85, pq_7_86, pq_7_87, pq_7_88, pq_7_89, pq_7_90] (by rfl)
set_option maxRecDepth 20000 in
theorem wsL_seg13 : ∀ w ∈ wsL_law0_r13, w ∈ zs_tbl := zs_in _ [pq_5_117, pq_5_118, pq_5_119, pq_5_120, pq_5_121, pq_5_122, pq_5_123, pq_4_127, pq_4_128, pq_4_129, pq_4_130, pq_4_131, pq_3_25, pq_8_91, pq_3_26, pq_3_27, pq_3_28, pq_3_29, pq_3_30, pq_7_91, pq_7_92, pq_7_93, pq_7_94, pq_7_95] (by rfl)
set_option maxRecDepth 20000 in
theorem wsL_seg14 : ∀ w ∈ wsL_law0_r14, w ∈ zs_tbl := zs_in _ [pq_7_97, pq_1_24, pq_7_98, pq_5_124, pq_5_125, pq_5_126, pq_5_127, pq_5_128, pq_5_129, pq_5_130, pq_2_221, pq_2_222, pq_2_18, pq_2_223, pq_2_224, pq_2_225, pq_2_226, pq_2_227, pq_2_17, pq_2_228, pq_2_229, pq_2_230, pq_3_12, pq_2_239] (by rfl)
set_option maxRecDepth 20000 in
theorem wsL_seg15 : ∀ w ∈ wsL_law0_r15, w ∈ zs_tbl := zs_in _ [pq_3_0, pq_2_232, pq_2_233, pq_2_20, pq_2_234, pq_2_235, pq_2_236, pq_2_237, pq_2_238, pq_3_31, pq_3_32, pq_3_33, pq_3_34, pq_3_35, pq_8_80, pq_3_11, pq_3_36, pq_3_37, pq_3_2, pq_3_38, pq_8_81, pq_0_0, pq_3_40, pq_3_41] (by rfl)
set_option maxRecDepth 20000 in
theorem wsL_seg16 : ∀ w ∈ wsL_law0_r16, w ∈ zs_tbl := zs_in _ [pq_3_42, pq_8_82, pq_0_1, pq_3_44, pq_3_45, pq_3_54, pq_3_46, pq_3_47, pq_2_21, pq_3_48, pq_3_49, pq_3_50, pq_3_51, pq_3_52, pq_3_53, pq_3_55, pq_3_56, pq_2_22, pq_3_57, pq_3_58, pq_3_59, pq_3_60, pq_3_61, pq_3_62] (by rfl)
set_option maxRecDepth 20000 in
theorem wsL_seg17 : ∀ w ∈ wsL_law0_r17, w ∈ zs_tbl := zs_in _ [pq_3_64, pq_3_65, pq_3_68, pq_3_71, pq_3_73, pq_3_74, pq_3_72, pq_3_75, pq_3_76, pq_3_77, pq_2_23, pq_3_78, pq_3_79, pq_8_83, pq_0_2, pq_3_81, pq_3_82, pq_3_83, pq_3_84, pq_3_85, pq_3_86, pq_3_87, pq_3_88, pq_3_89] (by rfl)
set_option maxRecDepth 20000 in
theorem wsL_seg18 : ∀ w ∈ wsL_law0_r18, w ∈ zs_tbl := zs_in _ [pq_3_90, pq_3_91, pq_3_92, pq_3_93, pq_3_94, pq_3_95, pq_3_96, pq_2_19, pq_3_97, pq_3_98, pq_3_100, pq_3_101, pq_2_24, pq_3_102, pq_3_103, pq_3_104, pq_3_105, pq_3_106, pq_3_108, pq_3_110, pq_3_112, pq_3_113, pq_3_114, pq_3_115] (by rfl)
set_option maxRecDepth 20000 in
theorem wsL_seg19 : ∀ w ∈ wsL_law0_r19, w ∈ zs_tbl := zs_in _ [pq_3_116, pq_3_117, pq_3_118, pq_3_119, pq_3_120, pq_3_121, pq_3_122, pq_3_123, pq_3_124, pq_3_125, pq_3_126, pq_3_127, pq_3_128, pq_3_129, pq_3_130, pq_3_131, pq_3_132, pq_3_133, pq_3_134, pq_3_135, pq_3_136, pq_4_76, pq_4_75, pq_4_20] (by rfl)
set_option maxRecDepth 20000 in
theorem wsL_seg20 : ∀ w ∈ wsL_law0_r20, w ∈ zs_tbl := zs_in _ [pq_3_1, pq_3_137, pq_3_139, pq_3_140, pq_3_138, pq_3_141, pq_3_142, pq_3_144, pq_3_143, pq_3_145, pq_3_146, pq_3_147, pq_3_148, pq_3_143, pq_3_149, pq_3_150, pq_3_151, pq_3_152, pq_3_153, pq_3_154, pq_3_155, pq_3_156, pq_3_157, pq_3_158] (by rfl)
set_option maxRecDepth 20000 in
theorem wsL_seg21 : ∀ w ∈ wsL_law0_r21, w ∈ zs_tbl := zs_in _ [pq_3_159, pq_3_201, pq_4_62, pq_4_63, pq_4_64, pq_4_65, pq_4_66, pq_4_67, pq_4_68, pq_4_69, pq_4_70, pq_4_71, pq_4_72, pq_4_73, pq_4_74, pq_5_131, pq_5_133, pq_1_14, pq_5_134, pq_7_99, pq_7_100, pq_7_101, pq_7_102, pq_7_104] (by rfl)
set_option maxRecDepth 20000 in
theorem wsL_seg22 : ∀ w ∈ wsL_law0_r22, w ∈ zs_tbl := zs_in _ [pq_7_106, pq_1_25, pq_7_107, pq_7_108, pq_7_109, pq_7_110, pq_7_111, pq_7_112, pq_7_113, pq_7_114, pq_5_135, pq_5_136, pq_5_137, pq_5_138, pq_5_139, pq_5_140, pq_5_141, pq_5_142, pq_5_143, pq_5_144, pq_7_115, pq_7_116, pq_7_117, pq_7_118] (by rfl)
set_option maxRecDepth 20000 in
theorem wsL_seg23 : ∀ w ∈ wsL_law0_r23, w ∈ zs_tbl := zs_in _ [pq_5_146, pq_5_147, pq_5_148, pq_5_149, pq_5_150, pq_5_151, pq_5_152, pq_5_153, pq_5_154, pq_5_155, pq_5_156, pq_7_119, pq_7_120, pq_7_121, pq_7_122, pq_5_157, pq_5_158, pq_5_159, pq_5_160, pq_5_161, pq_5_162, pq_5_163, pq_5_164, pq_5_165] (by rfl)
set_option maxRecDepth 20000 in
theorem wsL_seg24 : ∀ w ∈ wsL_law0_r24, w ∈ zs_tbl := zs_in _ [pq_5_166, pq_5_167, pq_7_123, pq_7_124, pq_7_125, pq_7_126, pq_5_168, pq_5_169, pq_5_170, pq_5_171, pq_5_172, pq_5_173, pq_5_174, pq_5_175, pq_7_127, pq_7_128, pq_7_129, pq_7_130, pq_7_131, pq_7_132, pq_7_133, pq_5_176, pq_5_177, pq_5_178] (by rfl)
set_option maxRecDepth 20000 in
theorem wsL_seg25 : ∀ w ∈ wsL_law0_r25, w ∈ zs_tbl := zs_in _ [pq_5_179, pq_5_180, pq_5_181, pq_5_182, pq_7_134, pq_7_135, pq_7_136, pq_7_137, pq_5_183, pq_5_184, pq_5_185, pq_5_186, pq_5_187, pq_5_188, pq_5_189, pq_5_190, pq_5_191, pq_5_192, pq_5_193, pq_7_138, pq_7_139, pq_7_140, pq_7_141, pq_5_194] (by rfl)
set_option maxRecDepth 20000 in
theorem wsL_seg26 : ∀ w ∈ wsL_law0_r26, w ∈ zs_tbl := zs_in _ [pq_5_195, pq_5_196, pq_5_197, pq_5_198, pq_5_199, pq_5_200, pq_7_142, pq_7_143, pq_7_144, pq_7_145, pq_5_201, pq_5_202, pq_5_203, pq_5_204, pq_5_205, pq_5_206, pq_5_207, pq_5_208, pq_5_210, pq_1_15, pq_5_211, pq_4_145, pq_4_146, pq_4_147] (by rfl)
set_option maxRecDepth 20000 in
theorem wsL_seg27 : ∀ w ∈ wsL_law0_r27, w ∈ zs_tbl := zs_in _ [pq_4_148, pq_4_149, pq_4_107, pq_4_108, pq_4_109, pq_2_50, pq_4_150, pq_4_111, pq_4_112, pq_4_113, pq_4_114, pq_3_15, pq_3_16, pq_2_207, pq_2_209, pq_3_17, pq_4_115, pq_3_22, pq_3_23, pq_2_199, pq_2_201, pq_3_24, pq_4_116, pq_4_117] (by rfl)
set_option maxRecDepth 20000 in
theorem wsL_seg28 : ∀ w ∈ wsL_law0_r28, w ∈ zs_tbl := zs_in _ [pq_4_118, pq_4_119, pq_2_206, pq_2_208, pq_7_146, pq_7_147, pq_7_148, pq_7_149, pq_7_150, pq_7_151, pq_7_152, pq_7_153, pq_7_155, pq_1_26, pq_7_156, pq_7_157, pq_7_158, pq_7_159, pq_5_213, pq_5_214, pq_5_215, pq_5_216, pq_5_217, pq_5_218] (by rfl)
set_option maxRecDepth 20000 in
theorem wsL_seg29 : ∀ w ∈ wsL_law0_r29, w ∈ zs_tbl := zs_in _ [pq_5_219, pq_7_160, pq_7_161, pq_7_162, pq_7_163, pq_5_220, pq_5_221, pq_5_222, pq_5_223, pq_5_224, pq_5_225, pq_5_226, pq_5_227, pq_3_13, pq_5_228, pq_5_229, pq_5_230, pq_5_231, pq_2_26, pq_4_110, pq_7_164, pq_7_165, pq_7_166, pq_7_167] (by rfl)
set_option maxRecDepth 20000 in
theorem wsL_seg30 : ∀ w ∈ wsL_law0_r30, w ∈ zs_tbl := zs_in _ [pq_2_190, pq_2_191, pq_2_192, pq_2_193, pq_2_194, pq_2_195, pq_2_196, pq_2_197, pq_2_198, pq_2_200, pq_2_202, pq_2_203, pq_2_204, pq_2_205, pq_7_168, pq_7_169, pq_7_170, pq_7_171, pq_6_7, pq_6_8, pq_6_9, pq_6_10, pq_6_11, pq_6_12] (by rfl)
set_option maxRecDepth 20000 in
theorem wsL_seg31 : ∀ w ∈ wsL_law0_r31, w ∈ zs_tbl := zs_in _ [pq_6_13, pq_6_14, pq_6_15, pq_6_16, pq_6_18, pq_7_172, pq_7_173, pq_7_174, pq_7_175, pq_6_19, pq_6_20, pq_6_21, pq_6_22, pq_6_23, pq_6_24, pq_6_25, pq_6_26, pq_6_27, pq_6_28, pq_6_29, pq_6_30, pq_7_176, pq_7_177, pq_7_178] (by rfl)
set_option maxRecDepth 20000 in
theorem wsL_seg32 : ∀ w ∈ wsL_law0_r32, w ∈ zs_tbl := zs_in _ [pq_7_179, pq_6_239, pq_7_0, pq_6_31, pq_6_32, pq_6_33, pq_6_34, pq_6_35, pq_6_36, pq_6_37, pq_6_38, pq_6_39, pq_6_40, pq_6_41, pq_4_204, pq_6_42, pq_6_43, pq_6_44, pq_6_45, pq_6_46, pq_7_180, pq_7_181, pq_7_182, pq_7_183] (by rfl)
set_option maxRecDepth 20000 in
theorem wsL_seg33 : ∀ w ∈ wsL_law0_r33, w ∈ zs_tbl := zs_in _ [pq_6_47, pq_6_48, pq_6_49, pq_6_50, pq_6_51, pq_6_52, pq_6_53, pq_6_54, pq_6_56, pq_1_16, pq_6_57, pq_6_58, pq_6_59, pq_6_60, pq_6_61, pq_6_62, pq_6_63, pq_6_64, pq_6_65, pq_7_184, pq_7_185, pq_7_186, pq_7_187, pq_6_66] (by rfl)
set_option maxRecDepth 20000 in
theorem wsL_seg34 : ∀ w ∈ wsL_law0_r34, w ∈ zs_tbl := zs_in _ [pq_6_67, pq_6_68, pq_6_69, pq_6_70, pq_6_71, pq_6_72, pq_2_160, pq_6_73, pq_6_75, pq_1_17, pq_6_76, pq_3_20, pq_7_188, pq_7_189, pq_7_190, pq_7_191, pq_6_77, pq_6_78, pq_6_79, pq_6_80, pq_6_81, pq_6_82, pq_6_83, pq_7_192] (by rfl)
set_option maxRecDepth 20000 in
theorem wsL_seg35 : ∀ w ∈ wsL_law0_r35, w ∈ zs_tbl := zs_in _ [pq_7_193, pq_7_194, pq_7_195, pq_6_84, pq_6_85, pq_6_86, pq_6_87, pq_6_88, pq_6_89, pq_6_90, pq_7_196, pq_7_197, pq_7_198, pq_7_199, pq_6_91, pq_6_92, pq_6_93, pq_6_94, pq_6_95, pq_6_96, pq_6_97, pq_7_200, pq_7_201, pq_7_202] (by rfl)
set_option maxRecDepth 20000 in
theorem wsL_seg36 : ∀ w ∈ wsL_law0_r36, w ∈ zs_tbl := zs_in _ [pq_7_203, pq_6_98, pq_6_99, pq_6_100, pq_6_101, pq_6_102, pq_6_103, pq_6_104, pq_7_204, pq_7_205, pq_7_206, pq_7_207, pq_6_105, pq_6_106, pq_6_107, pq_6_108, pq_6_109, pq_6_110, pq_6_111, pq_7_208, pq_7_209, pq_7_210, pq_7_211, pq_7_212] (by rfl)
set_option maxRecDepth 20000 in
theorem wsL_seg37 : ∀ w ∈ wsL_law0_r37, w ∈ zs_tbl := zs_in _ [pq_7_213, pq_7_214, pq_6_112, pq_6_113, pq_6_114, pq_6_115, pq_6_116, pq_6_117, pq_6_118, pq_6_119, pq_7_215, pq_7_216, pq_7_217, pq_7_218, pq_6_120, pq_6_121, pq_6_122, pq_6_123, pq_6_124, pq_6_125, pq_6_126, pq_4_120, pq_7_219, pq_7_220] (by rfl)
set_option maxRecDepth 20000 in
theorem wsL_seg38 : ∀ w ∈ wsL_law0_r38, w ∈ zs_tbl := zs_in _ [pq_7_221, pq_7_222, pq_6_127, pq_6_128, pq_6_129, pq_6_130, pq_6_131, pq_6_132, pq_6_133, pq_4_102, pq_4_104, pq_1_3, pq_4_105, pq_4_106, pq_4_121, pq_2_218, pq_2_219, pq_2_220, pq_7_223, pq_7_224, pq_7_225, pq_7_226, pq_6_134, pq_6_135] (by rfl)
set_option maxRecDepth 20000 in
theorem wsL_seg39 : ∀ w ∈ wsL_law0_r39, w ∈ zs_tbl := zs_in _ [pq_6_136, pq_6_137, pq_6_138, pq_6_139, pq_6_140, pq_7_227, pq_7_228, pq_7_229, pq_7_230, pq_6_141, pq_6_142, pq_6_143, pq_6_144, pq_6_145, pq_6_146, pq_6_147, pq_4_151, pq_4_152, pq_4_153, pq_4_154, pq_2_136, pq_4_155, pq_4_156, pq_4_157] (by rfl)
set_option maxRecDepth 20000 in
theorem wsL_seg40 : ∀ w ∈ wsL_law0_r40, w ∈ zs_tbl := zs_in _ [pq_4_158, pq_4_159, pq_4_160, pq_4_161, pq_4_162, pq_4_163, pq_4_164, pq_4_165, pq_4_166, pq_4_167, pq_4_168, pq_4_169, pq_4_170, pq_4_172, pq_1_5, pq_4_173, pq_4_174, pq_4_175, pq_4_176, pq_4_177, pq_4_178, pq_4_179, pq_7_231, pq_7_232] (by rfl)
set_option maxRecDepth 20000 in
theorem wsL_seg41 : ∀ w ∈ wsL_law0_r41, w ∈ zs_tbl := zs_in _ [pq_7_233, pq_7_234, pq_7_235, pq_7_236, pq_7_237, pq_7_238, pq_7_239, pq_8_0, pq_6_148, pq_6_149, pq_6_150, pq_6_151, pq_6_152, pq_6_153, pq_6_154, pq_8_1, pq_8_2, pq_8_3, pq_8_4, pq_8_5, pq_8_6, pq_8_7, pq_8_8, pq_6_155] (by rfl)
set_option maxRecDepth 20000 in
theorem wsL_seg42 : ∀ w ∈ wsL_law0_r42, w ∈ zs_tbl := zs_in _ [pq_6_156, pq_6_157, pq_6_158, pq_6_159, pq_6_160, pq_6_161, pq_8_9, pq_8_10, pq_8_11, pq_8_12, pq_8_13, pq_8_14, pq_8_15, pq_6_162, pq_6_163, pq_6_164, pq_6_165, pq_6_166, pq_6_167, pq_6_168, pq_8_16, pq_8_17, pq_8_18, pq_8_19] (by rfl)
set_option maxRecDepth 20000 in
theorem wsL_seg43 : ∀ w ∈ wsL_law0_r43, w ∈ zs_tbl := zs_in _ [pq_6_169, pq_6_170, pq_6_171, pq_6_172, pq_6_173, pq_6_174, pq_6_175, pq_4_222, pq_4_224, pq_1_9, pq_4_225, pq_4_226, pq_4_227, pq_8_20, pq_8_21, pq_8_22, pq_8_23, pq_8_24, pq_8_25, pq_8_26, pq_8_27, pq_8_28, pq_8_29, pq_6_176] (by rfl)
set_option maxRecDepth 20000 in
theorem wsL_seg44 : ∀ w ∈ wsL_law0_r44, w ∈ zs_tbl := zs_in _ [pq_6_177, pq_6_178, pq_6_179, pq_6_180, pq_6_181, pq_6_182, pq_6_183, pq_3_204, pq_3_205, pq_3_206, pq_3_207, pq_8_85, pq_3_208, pq_3_209, pq_3_210, pq_3_211, pq_2_25, pq_3_212, pq_3_213, pq_3_214, pq_3_215, pq_3_216, pq_3_218, pq_3_220] (by rfl)
set_option maxRecDepth 20000 in
theorem wsL_seg45 : ∀ w ∈ wsL_law0_r45, w ∈ zs_tbl := zs_in _ [pq_3_221, pq_3_222, pq_3_223, pq_3_224, pq_3_225, pq_3_226, pq_3_227, pq_3_228, pq_3_229, pq_3_230, pq_3_231, pq_3_232, pq_3_233, pq_3_234, pq_3_235, pq_3_236, pq_8_30, pq_8_31, pq_8_32, pq_8_33, pq_8_34, pq_6_184, pq_6_185, pq_6_186] (by rfl)
set_option maxRecDepth 20000 in
theorem wsL_seg46 : ∀ w ∈ wsL_law0_r46, w ∈ zs_tbl := zs_in _ [pq_6_187, pq_6_188, pq_6_189, pq_6_190, pq_4_191, pq_4_192, pq_4_193, pq_4_194, pq_2_124, pq_4_195, pq_4_196, pq_4_197, pq_4_198, pq_4_199, pq_8_35, pq_8_36, pq_8_37, pq_8_38, pq_6_191, pq_6_192, pq_6_193, pq_6_194, pq_6_195, pq_6_196] (by rfl)
set_option maxRecDepth 20000 in
theorem wsL_seg47 : ∀ w ∈ wsL_law0_r47, w ∈ zs_tbl := zs_in _ [pq_6_197, pq_4_137, pq_4_138, pq_4_139, pq_4_140, pq_8_39, pq_8_40, pq_8_41, pq_8_42, pq_6_198, pq_6_199, pq_6_200, pq_6_201, pq_6_202, pq_6_203, pq_6_204, pq_8_43, pq_8_44, pq_8_45, pq_8_46, pq_7_26, pq_7_27, pq_7_28, pq_7_29] (by rfl)
set_option maxRecDepth 20000 in
theorem wsL_seg48 : ∀ w ∈ wsL_law0_r48, w ∈ zs_tbl := zs_in _ [pq_2_214, pq_2_215, pq_2_216, pq_2_217, pq_8_47, pq_8_48, pq_8_49, pq_8_50, pq_6_205, pq_6_206, pq_6_207, pq_6_208, pq_6_209, pq_6_210, pq_6_211, pq_8_51, pq_8_52, pq_8_53, pq_8_54, pq_6_212, pq_6_213, pq_6_214, pq_6_215, pq_6_216] (by rfl)
set_option maxRecDepth 20000 in
theorem wsL_seg49 : ∀ w ∈ wsL_law0_r49, w ∈ zs_tbl := zs_in _ [pq_6_217, pq_6_218, pq_4_228, pq_4_230, pq_1_10, pq_4_231, pq_2_159, pq_8_55, pq_8_56, pq_8_57, pq_8_58, pq_4_86, pq_4_87, pq_4_88, pq_4_89, pq_8_59, pq_8_60, pq_8_61, pq_8_62, pq_4_90, pq_4_91, pq_4_92, pq_4_93, pq_4_94] (by rfl)
set_option maxRecDepth 20000 in
theorem wsL_seg50 : ∀ w ∈ wsL_law0_r50, w ∈ zs_tbl := zs_in _ [pq_4_95, pq_4_96, pq_4_97, pq_4_98, pq_4_100, pq_1_2, pq_4_101, pq_4_141, pq_4_143, pq_1_4, pq_4_144, pq_4_180, pq_4_182, pq_1_6, pq_4_183, pq_4_184, pq_4_185, pq_4_186, pq_4_187, pq_4_189, pq_1_7, pq_4_190, pq_4_200, pq_4_201] (by rfl)
set_option maxRecDepth 20000 in
theorem wsL_seg51 : ∀ w ∈ wsL_law0_r51, w ∈ zs_tbl := zs_in _ [pq_4_202, pq_4_203, pq_8_63, pq_8_64, pq_8_65, pq_8_66, pq_8_67, pq_8_69, pq_1_27, pq_8_70, pq_4_206, pq_4_207, pq_4_208, pq_4_209, pq_4_210, pq_4_211, pq_4_213, pq_1_8, pq_4_214, pq_4_215, pq_4_216, pq_4_217, pq_4_218, pq_4_219] (by rfl)
set_option maxRecDepth 20000 in
theorem wsL_seg52 : ∀ w ∈ wsL_law0_r52, w ∈ zs_tbl := zs_in _ [pq_4_220, pq_4_221, pq_4_232, pq_8_71, pq_8_72, pq_8_73, pq_8_74, pq_8_75, pq_8_79, pq_8_76, pq_8_77, pq_8_78] (by rfl)
set_option maxRecDepth 20000 in
theorem wsL_tX6 : ∀ w ∈ wsX60, w ∈ zs_tbl := zs_in _ [pq_2_161, pq_2_163, pq_2_165, pq_2_167, pq_2_169, pq_2_171, pq_2_173, pq_2_175, pq_2_177, pq_2_179, pq_2_181, pq_2_183, pq_2_185, pq_2_187] (by rfl)
set_option maxRecDepth 20000 in
theorem wsL_tX8 : ∀ w ∈ wsX80, w ∈ zs_tbl := zs_in _ [pq_7_3, pq_7_5, pq_7_7, pq_7_9, pq_7_11, pq_7_13, pq_7_15, pq_7_17, pq_7_19, pq_7_21, pq_7_23] (by rfl)
set_option maxRecDepth 20000 in
theorem wsL_tX7 : ∀ w ∈ wsX70, w ∈ zs_tbl := zs_in _ [pq_5_1, pq_5_3] (by rfl)
set_option maxRecDepth 20000 in
theorem wsL_tX2 : ∀ w ∈ wsX20, w ∈ zs_tbl := zs_in _ [pq_2_51, pq_2_53] (by rfl)
set_option maxRecDepth 20000 in
theorem wsL_tX1 : ∀ w ∈ wsX10, w ∈ zs_tbl := zs_in _ [pq_2_72, pq_2_74, pq_2_76, pq_2_78] (by rfl)
set_option maxRecDepth 20000 in
theorem wsL_tX5 : ∀ w ∈ wsX50, w ∈ zs_tbl := zs_in _ [pq_2_97, pq_2_99, pq_2_101, pq_2_103, pq_2_105, pq_2_107] (by rfl)
set_option maxRecDepth 20000 in
theorem wsL_tX3 : ∀ w ∈ wsX30, w ∈ zs_tbl := zs_in _ [pq_2_138, pq_2_140, pq_2_142] (by rfl)
set_option maxRecDepth 20000 in
theorem wsL_tX0 : ∀ w ∈ wsX00, w ∈ zs_tbl := zs_in _ [pq_2_126, pq_2_128, pq_2_130] (by rfl)
set_option maxRecDepth 20000 in
theorem wsL_tJ4 : ∀ w ∈ wsJ40, w ∈ zs_tbl := zs_in _ [pq_3_3, pq_3_5, pq_3_7, pq_3_9] (by rfl)
set_option maxRecDepth 20000 in
theorem wsL_tJ0 : ∀ w ∈ wsJ00, w ∈ zs_tbl := zs_in _ [pq_4_77, pq_4_79, pq_4_81, pq_4_83] (by rfl)
end
section
set_option maxRecDepth 100000 in
theorem wsL_law_in0 : ∀ w ∈ wsL_law0, w ∈ zs_tbl := by
  unfold wsL_law0
  intro w h
  refine (List.mem_append.mp h).elim (fun h => ?_) (fun h => by cases h)
  refine (List.mem_append.mp h).elim (fun h => ?_) (fun h => wsL_tJ0 w h)
  refine (List.mem_append.mp h).elim (fun h => ?_) (fun h => wsL_tJ4 w h)
  refine (List.mem_append.mp h).elim (fun h => ?_) (fun h => wsL_tX0 w h)
  refine (List.mem_append.mp h).elim (fun h => ?_) (fun h => wsL_tX3 w h)
  refine (List.mem_append.mp h).elim (fun h => ?_) (fun h => wsL_tX5 w h)
  refine (List.mem_append.mp h).elim (fun h => ?_) (fun h => wsL_tX1 w h)
  refine (List.mem_append.mp h).elim (fun h => ?_) (fun h => wsL_tX2 w h)
  refine (List.mem_append.mp h).elim (fun h => ?_) (fun h => wsL_tX7 w h)
  refine (List.mem_append.mp h).elim (fun h => ?_) (fun h => wsL_tX8 w h)
  refine (List.mem_append.mp h).elim (fun h => ?_) (fun h => wsL_tX6 w h)
  exact (zs_ap wsL_seg1 (zs_ap wsL_seg2 (zs_ap wsL_seg3 (zs_ap wsL_seg4 (zs_ap wsL_seg5 (zs_ap wsL_seg6 (zs_ap wsL_seg7 (zs_ap wsL_seg8 (zs_ap wsL_seg9 (zs_ap wsL_seg10 (zs_ap wsL_seg11 (zs_ap wsL_seg12 (zs_ap wsL_seg13 (zs_ap wsL_seg14 (zs_ap wsL_seg15 (zs_ap wsL_seg16 (zs_ap wsL_seg17 (zs_ap wsL_seg18 (zs_ap wsL_seg19 (zs_ap wsL_seg20 (zs_ap wsL_seg21 (zs_ap wsL_seg22 (zs_ap wsL_seg23 (zs_ap wsL_seg24 (zs_ap wsL_seg25 (zs_ap wsL_seg26 (zs_ap wsL_seg27 (zs_ap wsL_seg28 (zs_ap wsL_seg29 (zs_ap wsL_seg30 (zs_ap wsL_seg31 (zs_ap wsL_seg32 (zs_ap wsL_seg33 (zs_ap wsL_seg34 (zs_ap wsL_seg35 (zs_ap wsL_seg36 (zs_ap wsL_seg37 (zs_ap wsL_seg38 (zs_ap wsL_seg39 (zs_ap wsL_seg40 (zs_ap wsL_seg41 (zs_ap wsL_seg42 (zs_ap wsL_seg43 (zs_ap wsL_seg44 (zs_ap wsL_seg45 (zs_ap wsL_seg46 (zs_ap wsL_seg47 (zs_ap wsL_seg48 (zs_ap wsL_seg49 (zs_ap wsL_seg50 (zs_ap wsL_seg51 wsL_seg52))))))))))))))))))))))))))))))))))))))))))))))))))) w h
set_option maxRecDepth 20000 in
theorem wsL_law_x0 : ∀ w ∈ (vx_atS RX6 306 "java/lang/IndexOutOfBoundsException" ["java/lang/RuntimeException", "java/lang/Exception"]).filter goodWord, w ∈ zs_tbl := zs_in _ [pq_2_12, pq_3_182, pq_3_191, pq_3_195, pq_3_198, pq_3_200, pq_3_183, pq_3_184, pq_2_33, pq_2_34, pq_3_185, pq_3_190, pq_3_196, pq_4_51, pq_3_172, pq_4_52, pq_3_174, pq_4_53, pq_3_176, pq_3_186, pq_3_188, pq_3_178, pq_4_47, pq_4_48, pq_4_50, pq_3_178, pq_5_30, pq_5_31, pq_5_32, pq_4_41, pq_4_41, pq_4_42, pq_4_43, pq_4_44, pq_4_44, pq_4_45, pq_4_46, pq_4_47, pq_5_29, pq_5_20, pq_5_22, pq_3_194, pq_5_23, pq_5_24, pq_5_25, pq_5_26, pq_3_181, pq_3_180, pq_5_27] (by rfl)
set_option maxRecDepth 20000 in
theorem wsL_law_x1 : ∀ w ∈ (vx_atS RX6 317 "java/lang/IllegalArgumentException" ["java/lang/RuntimeException", "java/lang/Exception"]).filter goodWord, w ∈ zs_tbl := zs_in _ [pq_2_12, pq_3_182, pq_3_191, pq_3_195, pq_3_198, pq_3_200, pq_3_183, pq_3_184, pq_2_33, pq_2_34, pq_3_185, pq_3_190, pq_3_196, pq_4_51, pq_3_172, pq_4_52, pq_3_174, pq_4_53, pq_3_176, pq_3_186, pq_3_188, pq_3_178, pq_4_47, pq_4_48, pq_4_50, pq_3_178, pq_4_38, pq_4_39, pq_4_40, pq_4_41, pq_4_41, pq_4_42, pq_4_43, pq_4_44, pq_4_44, pq_4_45, pq_4_46, pq_4_47, pq_5_40, pq_3_161, pq_3_169, pq_3_170, pq_3_171, pq_3_173, pq_3_175, pq_3_177, pq_3_181, pq_3_180, pq_3_179] (by rfl)
set_option maxRecDepth 20000 in
theorem wsL_law_x2 : ∀ w ∈ (vx_atS RX6 327 "java/lang/IllegalStateException" ["java/lang/RuntimeException", "java/lang/Exception"]).filter goodWord, w ∈ zs_tbl := zs_in _ [pq_2_12, pq_3_182, pq_3_191, pq_3_195, pq_3_198, pq_3_200, pq_3_183, pq_3_184, pq_2_33, pq_2_34, pq_3_185, pq_3_190, pq_3_196, pq_4_51, pq_3_172, pq_4_52, pq_3_174, pq_4_53, pq_3_176, pq_3_186, pq_3_188, pq_3_178, pq_4_47, pq_4_48, pq_4_50, pq_3_178, pq_6_2, pq_6_3, pq_6_4, pq_4_41, pq_4_41, pq_4_42, pq_4_43, pq_4_44, pq_4_44, pq_4_45, pq_4_46, pq_4_47, pq_6_1, pq_5_232, pq_5_234, pq_3_193, pq_5_235, pq_5_236, pq_5_237, pq_5_238, pq_3_181, pq_3_180, pq_5_239] (by rfl)
theorem wsL_law_in : ∀ w ∈ wsL_law, w ∈ zs_tbl := fun w h => (List.mem_append.mp h).elim (fun h => (List.mem_append.mp h).elim (fun h => (List.mem_append.mp h).elim (fun h => wsL_law_in0 w h) (fun h => wsL_law_x0 w h)) (fun h => wsL_law_x1 w h)) (fun h => wsL_law_x2 w h)
theorem inlX0 : ∀ w ∈ wsX00, w ∈ wsL_law := fun _ h => List.mem_append_left _ (List.mem_append_left _ (List.mem_append_left _ (List.mem_append_left _ (List.mem_append_left _ (List.mem_append_left _ (List.mem_append_right _ h))))))
theorem inX0 : ∀ w ∈ wsX00, w ∈ zs_tbl := fun w h => wsL_law_in w (inlX0 w h)
theorem inlX1 : ∀ w ∈ wsX10, w ∈ wsL_law := fun _ h => List.mem_append_left _ (List.mem_append_left _ (List.mem_append_left _ (List.mem_append_left _ (List.mem_append_left _ (List.mem_append_left _ (List.mem_append_left _ (List.mem_append_left _ (List.mem_append_left _ (List.mem_append_right _ h)))))))))
theorem inX1 : ∀ w ∈ wsX10, w ∈ zs_tbl := fun w h => wsL_law_in w (inlX1 w h)
theorem inlX2 : ∀ w ∈ wsX20, w ∈ wsL_law := fun _ h => List.mem_append_left _ (List.mem_append_left _ (List.mem_append_left _ (List.mem_append_left _ (List.mem_append_left _ (List.mem_append_left _ (List.mem_append_left _ (List.mem_append_left _ (List.mem_append_left _ (List.mem_append_left _ (List.mem_append_right _ h))))))))))
theorem inX2 : ∀ w ∈ wsX20, w ∈ zs_tbl := fun w h => wsL_law_in w (inlX2 w h)
theorem inlX3 : ∀ w ∈ wsX30, w ∈ wsL_law := fun _ h => List.mem_append_left _ (List.mem_append_left _ (List.mem_append_left _ (List.mem_append_left _ (List.mem_append_left _ (List.mem_append_left _ (List.mem_append_left _ (List.mem_append_right _ h)))))))
theorem inX3 : ∀ w ∈ wsX30, w ∈ zs_tbl := fun w h => wsL_law_in w (inlX3 w h)
set_option maxRecDepth 20000 in
theorem inX4 : ∀ w ∈ wsX40, w ∈ zs_tbl := zs_in _ [] (by rfl)
theorem inlX5 : ∀ w ∈ wsX50, w ∈ wsL_law := fun _ h => List.mem_append_left _ (List.mem_append_left _ (List.mem_append_left _ (List.mem_append_left _ (List.mem_append_left _ (List.mem_append_left _ (List.mem_append_left _ (List.mem_append_left _ (List.mem_append_right _ h))))))))
theorem inX5 : ∀ w ∈ wsX50, w ∈ zs_tbl := fun w h => wsL_law_in w (inlX5 w h)
theorem inlX6 : ∀ w ∈ wsX60, w ∈ wsL_law := fun _ h => List.mem_append_left _ (List.mem_append_left _ (List.mem_append_left _ (List.mem_append_left _ (List.mem_append_left _ (List.mem_append_left _ (List.mem_append_left _ (List.mem_append_left _ (List.mem_append_left _ (List.mem_append_left _ (List.mem_append_left _ (List.mem_append_left _ (List.mem_append_left _ (List.mem_append_right _ h)))))))))))))
theorem inX6 : ∀ w ∈ wsX60, w ∈ zs_tbl := fun w h => wsL_law_in w (inlX6 w h)
theorem inlX7 : ∀ w ∈ wsX70, w ∈ wsL_law := fun _ h => List.mem_append_left _ (List.mem_append_left _ (List.mem_append_left _ (List.mem_append_left _ (List.mem_append_left _ (List.mem_append_left _ (List.mem_append_left _ (List.mem_append_left _ (List.mem_append_left _ (List.mem_append_left _ (List.mem_append_left _ (List.mem_append_right _ h)))))))))))
theorem inX7 : ∀ w ∈ wsX70, w ∈ zs_tbl := fun w h => wsL_law_in w (inlX7 w h)
theorem inlX8 : ∀ w ∈ wsX80, w ∈ wsL_law := fun _ h => List.mem_append_left _ (List.mem_append_left _ (List.mem_append_left _ (List.mem_append_left _ (List.mem_append_left _ (List.mem_append_left _ (List.mem_append_left _ (List.mem_append_left _ (List.mem_append_left _ (List.mem_append_left _ (List.mem_append_left _ (List.mem_append_left _ (List.mem_append_right _ h))))))))))))
theorem inX8 : ∀ w ∈ wsX80, w ∈ zs_tbl := fun w h => wsL_law_in w (inlX8 w h)
set_option maxRecDepth 20000 in
theorem inJ5 : ∀ w ∈ wsJ50, w ∈ zs_tbl := zs_in _ [] (by rfl)
set_option maxRecDepth 20000 in
theorem inJx8e188 : ∀ w ∈ wsJx8e1880, w ∈ zs_tbl := zs_in _ [] (by rfl)
set_option maxRecDepth 20000 in
theorem inJ6 : ∀ w ∈ wsJ60, w ∈ zs_tbl := zs_in _ [] (by rfl)
set_option maxRecDepth 20000 in
theorem inJ9 : ∀ w ∈ wsJ90, w ∈ zs_tbl := zs_in _ [] (by rfl)
theorem inlJ0 : ∀ w ∈ wsJ00, w ∈ wsL_law := fun _ h => List.mem_append_left _ (List.mem_append_left _ (List.mem_append_left _ (List.mem_append_left _ (List.mem_append_right _ h))))
theorem inJ0 : ∀ w ∈ wsJ00, w ∈ zs_tbl := fun w h => wsL_law_in w (inlJ0 w h)
theorem inlJ4 : ∀ w ∈ wsJ40, w ∈ wsL_law := fun _ h => List.mem_append_left _ (List.mem_append_left _ (List.mem_append_left _ (List.mem_append_left _ (List.mem_append_left _ (List.mem_append_right _ h)))))
theorem inJ4 : ∀ w ∈ wsJ40, w ∈ zs_tbl := fun w h => wsL_law_in w (inlJ4 w h)
set_option maxRecDepth 20000 in
theorem inJ1 : ∀ w ∈ wsJ10, w ∈ zs_tbl := zs_in _ [] (by rfl)
set_option maxRecDepth 20000 in
theorem inJ2 : ∀ w ∈ wsJ20, w ∈ zs_tbl := zs_in _ [] (by rfl)
set_option maxRecDepth 20000 in
theorem inJ10 : ∀ w ∈ wsJ100, w ∈ zs_tbl := zs_in _ [] (by rfl)
set_option maxRecDepth 20000 in
theorem inJ7 : ∀ w ∈ wsJ70, w ∈ zs_tbl := zs_in _ [] (by rfl)
set_option maxRecDepth 20000 in
theorem inJ8 : ∀ w ∈ wsJ80, w ∈ zs_tbl := zs_in _ [] (by rfl)
set_option maxRecDepth 20000 in
theorem inJ3 : ∀ w ∈ wsJ30, w ∈ zs_tbl := zs_in _ [] (by rfl)
end
