/-! words that the kit's table of private methods lacks: private methods of the builder's superclass, asked of the builder -/
def zs_y1 : MethodName := ⟨"java/lang/AbstractStringBuilder", "ensureCapacityInternal", "(I)V"⟩
def zs_y2 : MethodName := ⟨"java/lang/AbstractStringBuilder", "newCapacity", "(I)I"⟩
def zs_y3 : MethodName := ⟨"java/lang/AbstractStringBuilder", "inflate", "()V"⟩
def zs_3 : List Cond := [.selects "java/lang/StringBuilder" zs_y1 zs_y1, .selects "java/lang/StringBuilder" zs_y2 zs_y2, .selects "java/lang/StringBuilder" zs_y3 zs_y3, .selects "java/lang/StringBuilder" zs_y1 zs_y1, .selects "java/lang/StringBuilder" zs_y2 zs_y2, .selects "java/lang/StringBuilder" zs_y3 zs_y3]
def zs_tbl : List Cond := zs_3 ++ lw_tbl
theorem zs_sub {C : String} {y z : MethodName} {s : State} {args : Array Value} {n : Nat} (hy : y.cls ≠ "java/lang/invoke/MethodHandle" ∧ y.cls ≠ "java/lang/invoke/VarHandle") (hz : z.cls = y.cls) (hins : (Cond.instantiable C n).before args s = true) (hpriv : (Cond.privateMethod y).before args s = true) (hinst : (Cond.instanceMethod y).before args s = true) (hs : (Cond.selects C z z).before args s = true) :
    (Cond.selects C y y).before args s = true := by
  obtain ⟨c, k, hc, hk, -, hniab, -, -⟩ := Cond.instantiable_spec hins
  obtain ⟨mk, methM, hnamed, hmethM, -, -⟩ := Cond.instanceMethod_spec hinst
  have hfound : s.methodFound? y.cls y.name y.desc = some mk := State.methodFound?_of_named hnamed hy
  have hsel : selectMethod {} s.vm c mk = .method mk := selectMethod_private hmethM (Cond.privateMethod_at hpriv mk methM hnamed hmethM)
  obtain ⟨c2, r2, m2, e1, e2, e3, e4, k2, e5, e6⟩ := Cond.selects_spec hs
  have h1 : s.vm.findClass y.cls = some m2.cls := by
    rw [← hz]
    exact findClass_of_methodNamed e3
  have h2 : m2.cls = mk.cls := Option.some.inj (h1.symm.trans (findClass_of_methodNamed hnamed))
  rw [h2] at e5
  simp only [Cond.before, Cond.holds, Cond.value, hc, hfound, hnamed, hsel, e5]
  simp
  exact e6
theorem zs_hts {args : Array Value} {s : State} (hts : ∀ w ∈ lw_tbl, w.before args s = true) : ∀ w ∈ zs_tbl, w.before args s = true := by
  have hz : (Cond.selects "java/lang/StringBuilder" ⟨"java/lang/AbstractStringBuilder", "isLatin1", "()Z"⟩ ⟨"java/lang/AbstractStringBuilder", "isLatin1", "()Z"⟩).before args s = true := hts _ (by decide +kernel)
  have hi := hts (.instantiable "java/lang/StringBuilder" 4) (by decide +kernel)
  have q1 : (Cond.selects "java/lang/StringBuilder" zs_y1 zs_y1).before args s = true := zs_sub (z := ⟨"java/lang/AbstractStringBuilder", "isLatin1", "()Z"⟩) (n := 4) (by decide) rfl hi (hts (.privateMethod zs_y1) (by decide +kernel)) (hts (.instanceMethod zs_y1) (by decide +kernel)) hz
  have q2 : (Cond.selects "java/lang/StringBuilder" zs_y2 zs_y2).before args s = true := zs_sub (z := ⟨"java/lang/AbstractStringBuilder", "isLatin1", "()Z"⟩) (n := 4) (by decide) rfl hi (hts (.privateMethod zs_y2) (by decide +kernel)) (hts (.instanceMethod zs_y2) (by decide +kernel)) hz
  have q3 : (Cond.selects "java/lang/StringBuilder" zs_y3 zs_y3).before args s = true := zs_sub (z := ⟨"java/lang/AbstractStringBuilder", "isLatin1", "()Z"⟩) (n := 4) (by decide) rfl hi (hts (.privateMethod zs_y3) (by decide +kernel)) (hts (.instanceMethod zs_y3) (by decide +kernel)) hz
  intro w hw
  rcases List.mem_append.mp hw with hw | hw
  · unfold zs_3 at hw
    rcases List.mem_cons.mp hw with h | hw
    · rw [h]; exact q1
    rcases List.mem_cons.mp hw with h | hw
    · rw [h]; exact q2
    rcases List.mem_cons.mp hw with h | hw
    · rw [h]; exact q3
    rcases List.mem_cons.mp hw with h | hw
    · rw [h]; exact q1
    rcases List.mem_cons.mp hw with h | hw
    · rw [h]; exact q2
    rcases List.mem_cons.mp hw with h | hw
    · rw [h]; exact q3
    cases hw
  · exact hts w hw
def zs_sg : List (List Cond) := [zs_3, k2_sels lw_privs, tables_1_1, tables_1_2, tables_1_3, tables_1_4, tables_1_5, tables_1_6, tables_1_7]
theorem zs_se : zs_sg.flatten = zs_tbl := by simp only [zs_sg, zs_tbl, lw_tbl, tables_1, List.flatten_cons, List.flatten_nil, List.append_assoc, List.append_nil]
theorem zs_in (ws : List Cond) (ps : List (Nat × Nat)) (hp : ws = ps.filterMap (fun p => (zs_sg[p.1]?).bind (fun s => s[p.2]?))) : ∀ w ∈ ws, w ∈ zs_tbl := by
  intro w hw
  rw [hp] at hw
  obtain ⟨i, -, hi⟩ := List.mem_filterMap.mp hw
  obtain ⟨s, hs, hj⟩ := Option.bind_eq_some_iff.mp hi
  rw [← zs_se]
  exact List.mem_flatten.mpr ⟨s, List.mem_of_getElem? hs, List.mem_of_getElem? hj⟩
theorem zs_ap {a b t : List Cond} (ha : ∀ w ∈ a, w ∈ t) (hb : ∀ w ∈ b, w ∈ t) : ∀ w ∈ a ++ b, w ∈ t := fun w h => (List.mem_append.mp h).elim (ha w) (hb w)
set_option maxRecDepth 20000 in
theorem wsL_seg1 : ∀ w ∈ wsL_law0_r1, w ∈ zs_tbl := zs_in _ [(2, 27), (2, 28), (2, 1), (6, 219), (6, 220), (2, 9), (4, 233), (4, 234), (2, 11), (2, 29), (2, 30), (2, 31), (2, 32), (2, 33), (2, 34), (2, 35), (2, 147), (2, 37), (2, 38), (2, 3), (2, 148), (2, 149), (2, 57), (2, 58)] (by rfl)
set_option maxRecDepth 20000 in
theorem wsL_seg2 : ∀ w ∈ wsL_law0_r2, w ∈ zs_tbl := zs_in _ [(2, 5), (2, 150), (2, 81), (2, 6), (2, 151), (2, 152), (2, 153), (2, 110), (2, 111), (2, 7), (2, 154), (2, 155), (2, 145), (2, 117), (2, 8), (2, 156), (2, 39), (2, 40), (2, 41), (2, 46), (2, 47), (2, 4), (2, 48), (2, 56)] (by rfl)
set_option maxRecDepth 20000 in
theorem wsL_seg3 : ∀ w ∈ wsL_law0_r3, w ∈ zs_tbl := zs_in _ [(2, 49), (2, 43), (2, 2), (2, 44), (2, 45), (2, 60), (2, 61), (2, 62), (2, 63), (2, 65), (2, 67), (2, 69), (2, 71), (2, 64), (2, 82), (2, 83), (2, 84), (2, 86), (2, 87), (2, 89), (2, 91), (2, 95), (2, 113), (2, 114)] (by rfl)
set_option maxRecDepth 20000 in
theorem wsL_seg4 : ∀ w ∈ wsL_law0_r4, w ∈ zs_tbl := zs_in _ [(2, 115), (2, 116), (2, 134), (2, 133), (2, 135), (2, 119), (2, 120), (2, 121), (2, 122), (2, 123), (6, 221), (6, 222), (6, 223), (6, 224), (6, 232), (6, 225), (6, 234), (6, 235), (6, 236), (6, 237), (6, 238), (7, 1), (6, 227), (6, 229)] (by rfl)
set_option maxRecDepth 20000 in
theorem wsL_seg5 : ∀ w ∈ wsL_law0_r5, w ∈ zs_tbl := zs_in _ [(1, 18), (6, 230), (6, 233), (6, 231), (3, 70), (3, 69), (2, 10), (4, 236), (4, 237), (4, 238), (5, 6), (5, 7), (2, 0), (5, 8), (5, 9), (5, 10), (5, 11), (5, 12), (5, 13), (5, 14), (5, 15), (5, 17), (1, 11), (5, 18)] (by rfl)
set_option maxRecDepth 20000 in
theorem wsL_seg6 : ∀ w ∈ wsL_law0_r6, w ∈ zs_tbl := zs_in _ [(5, 19), (2, 15), (5, 35), (5, 36), (5, 37), (5, 38), (2, 16), (5, 41), (5, 42), (5, 43), (5, 44), (2, 88), (5, 45), (5, 46), (5, 47), (5, 48), (2, 93), (4, 126), (3, 18), (8, 90), (3, 19), (2, 210), (2, 212), (1, 0)] (by rfl)
set_option maxRecDepth 20000 in
theorem wsL_seg7 : ∀ w ∈ wsL_law0_r7, w ∈ zs_tbl := zs_in _ [(2, 213), (2, 157), (7, 30), (7, 31), (7, 32), (7, 33), (7, 34), (7, 35), (7, 36), (7, 37), (7, 38), (7, 39), (7, 40), (7, 42), (1, 19), (7, 43), (7, 2), (7, 44), (7, 46), (1, 20), (7, 47), (5, 49), (5, 50), (5, 51)] (by rfl)
set_option maxRecDepth 20000 in
theorem wsL_seg8 : ∀ w ∈ wsL_law0_r8, w ∈ zs_tbl := zs_in _ [(5, 52), (5, 53), (5, 54), (5, 55), (5, 56), (5, 57), (5, 58), (5, 59), (4, 132), (7, 48), (7, 49), (7, 50), (7, 51), (7, 52), (7, 53), (7, 54), (7, 55), (7, 57), (1, 21), (7, 58), (5, 60), (5, 61), (5, 62), (5, 63)] (by rfl)
set_option maxRecDepth 20000 in
theorem wsL_seg9 : ∀ w ∈ wsL_law0_r9, w ∈ zs_tbl := zs_in _ [(5, 64), (5, 65), (5, 66), (4, 122), (4, 123), (4, 124), (4, 125), (7, 59), (7, 60), (7, 61), (7, 62), (5, 67), (5, 68), (5, 69), (5, 70), (5, 71), (5, 72), (5, 73), (5, 74), (5, 75), (5, 76), (5, 77), (5, 79), (1, 12)] (by rfl)
set_option maxRecDepth 20000 in
theorem wsL_seg10 : ∀ w ∈ wsL_law0_r10, w ∈ zs_tbl := zs_in _ [(5, 80), (2, 158), (4, 133), (4, 134), (4, 135), (4, 136), (7, 63), (7, 64), (7, 65), (7, 66), (7, 67), (7, 69), (1, 22), (7, 70), (5, 81), (5, 82), (5, 83), (5, 84), (5, 85), (5, 86), (5, 87), (5, 88), (5, 89), (5, 90)] (by rfl)
set_option maxRecDepth 20000 in
theorem wsL_seg11 : ∀ w ∈ wsL_law0_r11, w ∈ zs_tbl := zs_in _ [(5, 91), (5, 92), (5, 94), (1, 13), (5, 95), (7, 71), (7, 72), (7, 73), (7, 74), (7, 75), (7, 77), (1, 23), (7, 78), (5, 96), (5, 97), (5, 98), (5, 99), (5, 100), (5, 101), (5, 102), (7, 79), (7, 80), (7, 81), (7, 82)] (by rfl)
set_option maxRecDepth 20000 in
theorem wsL_seg12 : ∀ w ∈ wsL_law0_r12, w ∈ zs_tbl := zs_in _ [(7, 83), (3, 66), (3, 67), (5, 103), (5, 104), (5, 105), (5, 106), (5, 107), (5, 108), (5, 109), (5, 110), (5, 111), (5, 112), (5, 113), (5, 114), (5, 115), (5, 116), (7, 84), (7, 85), (7, 86), (7, 87), (7, 88), (7, 89), (7, 90)] (by rfl)
set_option maxRecDepth 20000 in
theorem wsL_seg13 : ∀ w ∈ wsL_law0_r13, w ∈ zs_tbl := zs_in _ [(5, 117), (5, 118), (5, 119), (5, 120), (5, 121), (5, 122), (5, 123), (4, 127), (4, 128), (4, 129), (4, 130), (4, 131), (3, 25), (8, 91), (3, 26), (3, 27), (3, 28), (3, 29), (3, 30), (7, 91), (7, 92), (7, 93), (7, 94), (7, 95)] (by rfl)
set_option maxRecDepth 20000 in
theorem wsL_seg14 : ∀ w ∈ wsL_law0_r14, w ∈ zs_tbl := zs_in _ [(7, 97), (1, 24), (7, 98), (5, 124), (5, 125), (5, 126), (5, 127), (5, 128), (5, 129), (5, 130), (2, 221), (2, 222), (2, 18), (2, 223), (2, 224), (2, 225), (2, 226), (2, 227), (2, 17), (2, 228), (2, 229), (2, 230), (3, 12), (2, 239)] (by rfl)
set_option maxRecDepth 20000 in
theorem wsL_seg15 : ∀ w ∈ wsL_law0_r15, w ∈ zs_tbl := zs_in _ [(3, 0), (2, 232), (2, 233), (2, 20), (2, 234), (2, 235), (2, 236), (2, 237), (2, 238), (3, 31), (3, 32), (3, 33), (3, 34), (3, 35), (8, 80), (3, 11), (3, 36), (3, 37), (3, 2), (3, 38), (8, 81), (0, 0), (3, 40), (3, 41)] (by rfl)
set_option maxRecDepth 20000 in
theorem wsL_seg16 : ∀ w ∈ wsL_law0_r16, w ∈ zs_tbl := zs_in _ [(3, 42), (8, 82), (0, 1), (3, 44), (3, 45), (3, 54), (3, 46), (3, 47), (2, 21), (3, 48), (3, 49), (3, 50), (3, 51), (3, 52), (3, 53), (3, 55), (3, 56), (2, 22), (3, 57), (3, 58), (3, 59), (3, 60), (3, 61), (3, 62)] (by rfl)
set_option maxRecDepth 20000 in
theorem wsL_seg17 : ∀ w ∈ wsL_law0_r17, w ∈ zs_tbl := zs_in _ [(3, 64), (3, 65), (3, 68), (3, 71), (3, 73), (3, 74), (3, 72), (3, 75), (3, 76), (3, 77), (2, 23), (3, 78), (3, 79), (8, 83), (0, 2), (3, 81), (3, 82), (3, 83), (3, 84), (3, 85), (3, 86), (3, 87), (3, 88), (3, 89)] (by rfl)
set_option maxRecDepth 20000 in
theorem wsL_seg18 : ∀ w ∈ wsL_law0_r18, w ∈ zs_tbl := zs_in _ [(3, 90), (3, 91), (3, 92), (3, 93), (3, 94), (3, 95), (3, 96), (2, 19), (3, 97), (3, 98), (3, 100), (3, 101), (2, 24), (3, 102), (3, 103), (3, 104), (3, 105), (3, 106), (3, 108), (3, 110), (3, 112), (3, 113), (3, 114), (3, 115)] (by rfl)
set_option maxRecDepth 20000 in
theorem wsL_seg19 : ∀ w ∈ wsL_law0_r19, w ∈ zs_tbl := zs_in _ [(3, 116), (3, 117), (3, 118), (3, 119), (3, 120), (3, 121), (3, 122), (3, 123), (3, 124), (3, 125), (3, 126), (3, 127), (3, 128), (3, 129), (3, 130), (3, 131), (3, 132), (3, 133), (3, 134), (3, 135), (3, 136), (4, 76), (4, 75), (4, 20)] (by rfl)
set_option maxRecDepth 20000 in
theorem wsL_seg20 : ∀ w ∈ wsL_law0_r20, w ∈ zs_tbl := zs_in _ [(3, 1), (3, 137), (3, 139), (3, 140), (3, 138), (3, 141), (3, 142), (3, 144), (3, 143), (3, 145), (3, 146), (3, 147), (3, 148), (3, 143), (3, 149), (3, 150), (3, 151), (3, 152), (3, 153), (3, 154), (3, 155), (3, 156), (3, 157), (3, 158)] (by rfl)
set_option maxRecDepth 20000 in
theorem wsL_seg21 : ∀ w ∈ wsL_law0_r21, w ∈ zs_tbl := zs_in _ [(3, 159), (3, 201), (4, 62), (4, 63), (4, 64), (4, 65), (4, 66), (4, 67), (4, 68), (4, 69), (4, 70), (4, 71), (4, 72), (4, 73), (4, 74), (5, 131), (5, 133), (1, 14), (5, 134), (7, 99), (7, 100), (7, 101), (7, 102), (7, 104)] (by rfl)
set_option maxRecDepth 20000 in
theorem wsL_seg22 : ∀ w ∈ wsL_law0_r22, w ∈ zs_tbl := zs_in _ [(7, 106), (1, 25), (7, 107), (7, 108), (7, 109), (7, 110), (7, 111), (7, 112), (7, 113), (7, 114), (5, 135), (5, 136), (5, 137), (5, 138), (5, 139), (5, 140), (5, 141), (5, 142), (5, 143), (5, 144), (7, 115), (7, 116), (7, 117), (7, 118)] (by rfl)
set_option maxRecDepth 20000 in
theorem wsL_seg23 : ∀ w ∈ wsL_law0_r23, w ∈ zs_tbl := zs_in _ [(5, 146), (5, 147), (5, 148), (5, 149), (5, 150), (5, 151), (5, 152), (5, 153), (5, 154), (5, 155), (5, 156), (7, 119), (7, 120), (7, 121), (7, 122), (5, 157), (5, 158), (5, 159), (5, 160), (5, 161), (5, 162), (5, 163), (5, 164), (5, 165)] (by rfl)
set_option maxRecDepth 20000 in
theorem wsL_seg24 : ∀ w ∈ wsL_law0_r24, w ∈ zs_tbl := zs_in _ [(5, 166), (5, 167), (7, 123), (7, 124), (7, 125), (7, 126), (5, 168), (5, 169), (5, 170), (5, 171), (5, 172), (5, 173), (5, 174), (5, 175), (7, 127), (7, 128), (7, 129), (7, 130), (7, 131), (7, 132), (7, 133), (5, 176), (5, 177), (5, 178)] (by rfl)
set_option maxRecDepth 20000 in
theorem wsL_seg25 : ∀ w ∈ wsL_law0_r25, w ∈ zs_tbl := zs_in _ [(5, 179), (5, 180), (5, 181), (5, 182), (7, 134), (7, 135), (7, 136), (7, 137), (5, 183), (5, 184), (5, 185), (5, 186), (5, 187), (5, 188), (5, 189), (5, 190), (5, 191), (5, 192), (5, 193), (7, 138), (7, 139), (7, 140), (7, 141), (5, 194)] (by rfl)
set_option maxRecDepth 20000 in
theorem wsL_seg26 : ∀ w ∈ wsL_law0_r26, w ∈ zs_tbl := zs_in _ [(5, 195), (5, 196), (5, 197), (5, 198), (5, 199), (5, 200), (7, 142), (7, 143), (7, 144), (7, 145), (5, 201), (5, 202), (5, 203), (5, 204), (5, 205), (5, 206), (5, 207), (5, 208), (5, 210), (1, 15), (5, 211), (4, 145), (4, 146), (4, 147)] (by rfl)
set_option maxRecDepth 20000 in
theorem wsL_seg27 : ∀ w ∈ wsL_law0_r27, w ∈ zs_tbl := zs_in _ [(4, 148), (4, 149), (4, 107), (4, 108), (4, 109), (2, 50), (4, 150), (4, 111), (4, 112), (4, 113), (4, 114), (3, 15), (3, 16), (2, 207), (2, 209), (3, 17), (4, 115), (3, 22), (3, 23), (2, 199), (2, 201), (3, 24), (4, 116), (4, 117)] (by rfl)
set_option maxRecDepth 20000 in
theorem wsL_seg28 : ∀ w ∈ wsL_law0_r28, w ∈ zs_tbl := zs_in _ [(4, 118), (4, 119), (2, 206), (2, 208), (7, 146), (7, 147), (7, 148), (7, 149), (7, 150), (7, 151), (7, 152), (7, 153), (7, 155), (1, 26), (7, 156), (7, 157), (7, 158), (7, 159), (5, 213), (5, 214), (5, 215), (5, 216), (5, 217), (5, 218)] (by rfl)
set_option maxRecDepth 20000 in
theorem wsL_seg29 : ∀ w ∈ wsL_law0_r29, w ∈ zs_tbl := zs_in _ [(5, 219), (7, 160), (7, 161), (7, 162), (7, 163), (5, 220), (5, 221), (5, 222), (5, 223), (5, 224), (5, 225), (5, 226), (5, 227), (3, 13), (5, 228), (5, 229), (5, 230), (5, 231), (2, 26), (4, 110), (7, 164), (7, 165), (7, 166), (7, 167)] (by rfl)
set_option maxRecDepth 20000 in
theorem wsL_seg30 : ∀ w ∈ wsL_law0_r30, w ∈ zs_tbl := zs_in _ [(2, 190), (2, 191), (2, 192), (2, 193), (2, 194), (2, 195), (2, 196), (2, 197), (2, 198), (2, 200), (2, 202), (2, 203), (2, 204), (2, 205), (7, 168), (7, 169), (7, 170), (7, 171), (6, 7), (6, 8), (6, 9), (6, 10), (6, 11), (6, 12)] (by rfl)
set_option maxRecDepth 20000 in
theorem wsL_seg31 : ∀ w ∈ wsL_law0_r31, w ∈ zs_tbl := zs_in _ [(6, 13), (6, 14), (6, 15), (6, 16), (6, 18), (7, 172), (7, 173), (7, 174), (7, 175), (6, 19), (6, 20), (6, 21), (6, 22), (6, 23), (6, 24), (6, 25), (6, 26), (6, 27), (6, 28), (6, 29), (6, 30), (7, 176), (7, 177), (7, 178)] (by rfl)
set_option maxRecDepth 20000 in
theorem wsL_seg32 : ∀ w ∈ wsL_law0_r32, w ∈ zs_tbl := zs_in _ [(7, 179), (6, 239), (7, 0), (6, 31), (6, 32), (6, 33), (6, 34), (6, 35), (6, 36), (6, 37), (6, 38), (6, 39), (6, 40), (6, 41), (4, 204), (6, 42), (6, 43), (6, 44), (6, 45), (6, 46), (7, 180), (7, 181), (7, 182), (7, 183)] (by rfl)
set_option maxRecDepth 20000 in
theorem wsL_seg33 : ∀ w ∈ wsL_law0_r33, w ∈ zs_tbl := zs_in _ [(6, 47), (6, 48), (6, 49), (6, 50), (6, 51), (6, 52), (6, 53), (6, 54), (6, 56), (1, 16), (6, 57), (6, 58), (6, 59), (6, 60), (6, 61), (6, 62), (6, 63), (6, 64), (6, 65), (7, 184), (7, 185), (7, 186), (7, 187), (6, 66)] (by rfl)
set_option maxRecDepth 20000 in
theorem wsL_seg34 : ∀ w ∈ wsL_law0_r34, w ∈ zs_tbl := zs_in _ [(6, 67), (6, 68), (6, 69), (6, 70), (6, 71), (6, 72), (2, 160), (6, 73), (6, 75), (1, 17), (6, 76), (3, 20), (7, 188), (7, 189), (7, 190), (7, 191), (6, 77), (6, 78), (6, 79), (6, 80), (6, 81), (6, 82), (6, 83), (7, 192)] (by rfl)
set_option maxRecDepth 20000 in
theorem wsL_seg35 : ∀ w ∈ wsL_law0_r35, w ∈ zs_tbl := zs_in _ [(7, 193), (7, 194), (7, 195), (6, 84), (6, 85), (6, 86), (6, 87), (6, 88), (6, 89), (6, 90), (7, 196), (7, 197), (7, 198), (7, 199), (6, 91), (6, 92), (6, 93), (6, 94), (6, 95), (6, 96), (6, 97), (7, 200), (7, 201), (7, 202)] (by rfl)
set_option maxRecDepth 20000 in
theorem wsL_seg36 : ∀ w ∈ wsL_law0_r36, w ∈ zs_tbl := zs_in _ [(7, 203), (7, 26), (7, 27), (7, 28), (7, 29), (6, 98), (6, 99), (6, 100), (6, 101), (6, 102), (6, 103), (6, 104), (7, 204), (7, 205), (7, 206), (7, 207), (6, 105), (6, 106), (6, 107), (6, 108), (6, 109), (6, 110), (6, 111), (7, 208)] (by rfl)
set_option maxRecDepth 20000 in
theorem wsL_seg37 : ∀ w ∈ wsL_law0_r37, w ∈ zs_tbl := zs_in _ [(7, 209), (7, 210), (7, 211), (7, 212), (7, 213), (7, 214), (6, 112), (6, 113), (6, 114), (6, 115), (6, 116), (6, 117), (6, 118), (6, 119), (7, 215), (7, 216), (7, 217), (7, 218), (6, 120), (6, 121), (6, 122), (6, 123), (6, 124), (6, 125)] (by rfl)
set_option maxRecDepth 20000 in
theorem wsL_seg38 : ∀ w ∈ wsL_law0_r38, w ∈ zs_tbl := zs_in _ [(6, 126), (4, 120), (7, 219), (7, 220), (7, 221), (7, 222), (6, 127), (6, 128), (6, 129), (6, 130), (6, 131), (6, 132), (6, 133), (4, 102), (4, 104), (1, 3), (4, 105), (4, 106), (4, 121), (2, 218), (2, 219), (2, 220), (7, 223), (7, 224)] (by rfl)
set_option maxRecDepth 20000 in
theorem wsL_seg39 : ∀ w ∈ wsL_law0_r39, w ∈ zs_tbl := zs_in _ [(7, 225), (7, 226), (6, 134), (6, 135), (6, 136), (6, 137), (6, 138), (6, 139), (6, 140), (7, 227), (7, 228), (7, 229), (7, 230), (6, 141), (6, 142), (6, 143), (6, 144), (6, 145), (6, 146), (6, 147), (4, 151), (4, 152), (4, 153), (4, 154)] (by rfl)
set_option maxRecDepth 20000 in
theorem wsL_seg40 : ∀ w ∈ wsL_law0_r40, w ∈ zs_tbl := zs_in _ [(2, 136), (4, 155), (4, 156), (4, 157), (4, 158), (4, 159), (4, 160), (4, 161), (4, 162), (4, 163), (4, 164), (4, 165), (4, 166), (4, 167), (4, 168), (4, 169), (4, 170), (4, 172), (1, 5), (4, 173), (4, 174), (4, 175), (4, 176), (4, 177)] (by rfl)
set_option maxRecDepth 20000 in
theorem wsL_seg41 : ∀ w ∈ wsL_law0_r41, w ∈ zs_tbl := zs_in _ [(4, 178), (4, 179), (7, 231), (7, 232), (7, 233), (7, 234), (7, 235), (7, 236), (7, 237), (7, 238), (7, 239), (8, 0), (6, 148), (6, 149), (6, 150), (6, 151), (6, 152), (6, 153), (6, 154), (8, 1), (8, 2), (8, 3), (8, 4), (8, 5)] (by rfl)
set_option maxRecDepth 20000 in
theorem wsL_seg42 : ∀ w ∈ wsL_law0_r42, w ∈ zs_tbl := zs_in _ [(8, 6), (8, 7), (8, 8), (6, 155), (6, 156), (6, 157), (6, 158), (6, 159), (6, 160), (6, 161), (8, 9), (8, 10), (8, 11), (8, 12), (8, 13), (8, 14), (8, 15), (6, 162), (6, 163), (6, 164), (6, 165), (6, 166), (6, 167), (6, 168)] (by rfl)
set_option maxRecDepth 20000 in
theorem wsL_seg43 : ∀ w ∈ wsL_law0_r43, w ∈ zs_tbl := zs_in _ [(8, 16), (8, 17), (8, 18), (8, 19), (6, 169), (6, 170), (6, 171), (6, 172), (6, 173), (6, 174), (6, 175), (4, 222), (4, 224), (1, 9), (4, 225), (4, 226), (4, 227), (8, 20), (8, 21), (8, 22), (8, 23), (8, 24), (8, 25), (8, 26)] (by rfl)
set_option maxRecDepth 20000 in
theorem wsL_seg44 : ∀ w ∈ wsL_law0_r44, w ∈ zs_tbl := zs_in _ [(8, 27), (8, 28), (8, 29), (6, 176), (6, 177), (6, 178), (6, 179), (6, 180), (6, 181), (6, 182), (6, 183), (3, 204), (3, 205), (3, 206), (3, 207), (8, 85), (3, 208), (3, 209), (3, 210), (3, 211), (2, 25), (3, 212), (3, 213), (3, 214)] (by rfl)
set_option maxRecDepth 20000 in
theorem wsL_seg45 : ∀ w ∈ wsL_law0_r45, w ∈ zs_tbl := zs_in _ [(3, 215), (3, 216), (3, 218), (3, 220), (3, 221), (3, 222), (3, 223), (3, 224), (3, 225), (3, 226), (3, 227), (3, 228), (3, 229), (3, 230), (3, 231), (3, 232), (3, 233), (3, 234), (3, 235), (3, 236), (8, 30), (8, 31), (8, 32), (8, 33)] (by rfl)
set_option maxRecDepth 20000 in
theorem wsL_seg46 : ∀ w ∈ wsL_law0_r46, w ∈ zs_tbl := zs_in _ [(8, 34), (6, 184), (6, 185), (6, 186), (6, 187), (6, 188), (6, 189), (6, 190), (4, 191), (4, 192), (4, 193), (4, 194), (2, 124), (4, 195), (4, 196), (4, 197), (4, 198), (4, 199), (8, 35), (8, 36), (8, 37), (8, 38), (6, 191), (6, 192)] (by rfl)
set_option maxRecDepth 20000 in
theorem wsL_seg47 : ∀ w ∈ wsL_law0_r47, w ∈ zs_tbl := zs_in _ [(6, 193), (6, 194), (6, 195), (6, 196), (6, 197), (4, 137), (4, 138), (4, 139), (4, 140), (8, 39), (8, 40), (8, 41), (8, 42), (6, 198), (6, 199), (6, 200), (6, 201), (6, 202), (6, 203), (6, 204), (8, 43), (8, 44), (8, 45), (8, 46)] (by rfl)
set_option maxRecDepth 20000 in
theorem wsL_seg48 : ∀ w ∈ wsL_law0_r48, w ∈ zs_tbl := zs_in _ [(2, 214), (2, 215), (2, 216), (2, 217), (8, 47), (8, 48), (8, 49), (8, 50), (6, 205), (6, 206), (6, 207), (6, 208), (6, 209), (6, 210), (6, 211), (8, 51), (8, 52), (8, 53), (8, 54), (6, 212), (6, 213), (6, 214), (6, 215), (6, 216)] (by rfl)
set_option maxRecDepth 20000 in
theorem wsL_seg49 : ∀ w ∈ wsL_law0_r49, w ∈ zs_tbl := zs_in _ [(6, 217), (6, 218), (4, 228), (4, 230), (1, 10), (4, 231), (2, 159), (8, 55), (8, 56), (8, 57), (8, 58), (4, 86), (4, 87), (4, 88), (4, 89), (8, 59), (8, 60), (8, 61), (8, 62), (4, 90), (4, 91), (4, 92), (4, 93), (4, 94)] (by rfl)
set_option maxRecDepth 20000 in
theorem wsL_seg50 : ∀ w ∈ wsL_law0_r50, w ∈ zs_tbl := zs_in _ [(4, 95), (4, 96), (4, 97), (4, 98), (4, 100), (1, 2), (4, 101), (4, 141), (4, 143), (1, 4), (4, 144), (4, 180), (4, 182), (1, 6), (4, 183), (4, 184), (4, 185), (4, 186), (4, 187), (4, 189), (1, 7), (4, 190), (4, 200), (4, 201)] (by rfl)
set_option maxRecDepth 20000 in
theorem wsL_seg51 : ∀ w ∈ wsL_law0_r51, w ∈ zs_tbl := zs_in _ [(4, 202), (4, 203), (8, 63), (8, 64), (8, 65), (8, 66), (8, 67), (8, 69), (1, 27), (8, 70), (4, 206), (4, 207), (4, 208), (4, 209), (4, 210), (4, 211), (4, 213), (1, 8), (4, 214), (4, 215), (4, 216), (4, 217), (4, 218), (4, 219)] (by rfl)
set_option maxRecDepth 20000 in
theorem wsL_seg52 : ∀ w ∈ wsL_law0_r52, w ∈ zs_tbl := zs_in _ [(4, 220), (4, 221), (4, 232), (8, 71), (8, 72), (8, 73), (8, 74), (8, 75), (8, 79), (8, 76), (8, 77), (8, 78)] (by rfl)
set_option maxRecDepth 20000 in
theorem wsL_tX6 : ∀ w ∈ wsX60, w ∈ zs_tbl := zs_in _ [(2, 161), (2, 163), (2, 165), (2, 167), (2, 169), (2, 171), (2, 173), (2, 175), (2, 177), (2, 179), (2, 181), (2, 183), (2, 185), (2, 187)] (by rfl)
set_option maxRecDepth 20000 in
theorem wsL_tX8 : ∀ w ∈ wsX80, w ∈ zs_tbl := zs_in _ [(7, 3), (7, 5), (7, 7), (7, 9), (7, 11), (7, 13), (7, 15), (7, 17), (7, 19), (7, 21), (7, 23)] (by rfl)
set_option maxRecDepth 20000 in
theorem wsL_tX7 : ∀ w ∈ wsX70, w ∈ zs_tbl := zs_in _ [(5, 1), (5, 3)] (by rfl)
set_option maxRecDepth 20000 in
theorem wsL_tX2 : ∀ w ∈ wsX20, w ∈ zs_tbl := zs_in _ [(2, 51), (2, 53)] (by rfl)
set_option maxRecDepth 20000 in
theorem wsL_tX1 : ∀ w ∈ wsX10, w ∈ zs_tbl := zs_in _ [(2, 72), (2, 74), (2, 76), (2, 78)] (by rfl)
set_option maxRecDepth 20000 in
theorem wsL_tX5 : ∀ w ∈ wsX50, w ∈ zs_tbl := zs_in _ [(2, 97), (2, 99), (2, 101), (2, 103), (2, 105), (2, 107)] (by rfl)
set_option maxRecDepth 20000 in
theorem wsL_tX3 : ∀ w ∈ wsX30, w ∈ zs_tbl := zs_in _ [(2, 138), (2, 140), (2, 142)] (by rfl)
set_option maxRecDepth 20000 in
theorem wsL_tX0 : ∀ w ∈ wsX00, w ∈ zs_tbl := zs_in _ [(2, 126), (2, 128), (2, 130)] (by rfl)
set_option maxRecDepth 20000 in
theorem wsL_tJ4 : ∀ w ∈ wsJ40, w ∈ zs_tbl := zs_in _ [(3, 3), (3, 5), (3, 7), (3, 9)] (by rfl)
set_option maxRecDepth 20000 in
theorem wsL_tJ0 : ∀ w ∈ wsJ00, w ∈ zs_tbl := zs_in _ [(4, 77), (4, 79), (4, 81), (4, 83)] (by rfl)
