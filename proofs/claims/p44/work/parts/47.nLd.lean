def lb_sgL_law : List (List UInt8) := [[187, 0, 8, 89, 183, 0, 165, 76, 187, 0, 166, 89, 183, 0, 168, 77], [187, 0, 14, 89, 183, 0, 169, 78, 3, 54, 4, 21, 4, 42, 190, 16], [7, 100, 163, 7, 184, 42, 21, 4, 46, 16, 63, 126, 170, 0, 0, 0], [0, 0, 7, 168, 0, 0, 0, 0, 0, 0, 0, 48, 0, 0, 0, 212], [0, 0, 0, 252, 0, 0, 1, 36, 0, 0, 1, 76, 0, 0, 1, 140], [0, 0, 1, 180, 0, 0, 1, 244, 0, 0, 2, 40, 0, 0, 2, 68], [0, 0, 2, 108, 0, 0, 2, 160, 0, 0, 2, 188, 0, 0, 2, 216], [0, 0, 2, 244, 0, 0, 3, 16, 0, 0, 3, 44, 0, 0, 3, 72], [0, 0, 3, 100, 0, 0, 3, 128, 0, 0, 3, 156, 0, 0, 3, 169], [0, 0, 3, 209, 0, 0, 3, 237, 0, 0, 4, 21, 0, 0, 4, 49], [0, 0, 4, 101, 0, 0, 4, 141, 0, 0, 4, 169, 0, 0, 4, 197], [0, 0, 4, 225, 0, 0, 4, 253, 0, 0, 5, 37, 0, 0, 5, 77], [0, 0, 5, 117, 0, 0, 5, 207, 0, 0, 5, 247, 0, 0, 6, 31], [0, 0, 6, 71, 0, 0, 6, 123, 0, 0, 6, 151, 0, 0, 6, 179], [0, 0, 6, 207, 0, 0, 6, 247, 0, 0, 7, 60, 0, 0, 7, 73], [0, 0, 7, 101, 0, 0, 7, 129, 0, 0, 7, 142, 0, 0, 7, 155], [43, 42, 21, 4, 4, 96, 46, 42, 21, 4, 5, 96, 46, 45, 184, 0], [170, 54, 5, 44, 42, 21, 4, 4, 96, 46, 42, 21, 4, 5, 96, 46], [182, 0, 175, 54, 6, 167, 6, 175, 43, 42, 21, 4, 4, 96, 46, 42], [21, 4, 5, 96, 46, 45, 184, 0, 176, 54, 5, 44, 42, 21, 4, 4], [96, 46, 42, 21, 4, 5, 96, 46, 182, 0, 178, 54, 6, 167, 6, 135], [43, 42, 21, 4, 4, 96, 46, 42, 21, 4, 5, 96, 46, 45, 184, 0], [179, 54, 5, 44, 42, 21, 4, 4, 96, 46, 42, 21, 4, 5, 96, 46], [182, 0, 181, 54, 6, 167, 6, 95, 43, 42, 21, 4, 4, 96, 46, 42], [21, 4, 5, 96, 46, 42, 21, 4, 6, 96, 46, 42, 21, 4, 7, 96], [46, 45, 184, 0, 182, 54, 5, 44, 42, 21, 4, 4, 96, 46, 42, 21], [4, 5, 96, 46, 42, 21, 4, 6, 96, 46, 42, 21, 4, 7, 96, 46], [182, 0, 185, 54, 6, 167, 6, 31, 43, 42, 21, 4, 4, 96, 46, 42], [21, 4, 5, 96, 46, 45, 184, 0, 186, 54, 5, 44, 42, 21, 4, 4], [96, 46, 42, 21, 4, 5, 96, 46, 182, 0, 188, 54, 6, 167, 5, 247], [43, 42, 21, 4, 4, 96, 46, 42, 21, 4, 5, 96, 46, 42, 21, 4], [6, 96, 46, 42, 21, 4, 7, 96, 46, 45, 184, 0, 189, 54, 5, 44], [42, 21, 4, 4, 96, 46, 42, 21, 4, 5, 96, 46, 42, 21, 4, 6], [96, 46, 42, 21, 4, 7, 96, 46, 182, 0, 191, 54, 6, 167, 5, 183], [43, 42, 21, 4, 4, 96, 46, 42, 21, 4, 5, 96, 46, 42, 21, 4], [6, 96, 46, 45, 184, 0, 192, 54, 5, 44, 42, 21, 4, 4, 96, 46], [42, 21, 4, 5, 96, 46, 42, 21, 4, 6, 96, 46, 182, 0, 195, 54], [6, 167, 5, 131, 43, 42, 21, 4, 4, 96, 46, 45, 184, 0, 196, 54], [5, 44, 42, 21, 4, 4, 96, 46, 182, 0, 199, 54, 6, 167, 5, 103], [43, 42, 21, 4, 4, 96, 46, 42, 21, 4, 5, 96, 46, 45, 184, 0], [200, 54, 5, 44, 42, 21, 4, 4, 96, 46, 42, 21, 4, 5, 96, 46], [182, 0, 202, 58, 6, 167, 5, 63, 43, 42, 21, 4, 4, 96, 46, 42], [21, 4, 5, 96, 46, 42, 21, 4, 6, 96, 46, 45, 184, 0, 203, 54], [5, 44, 42, 21, 4, 4, 96, 46, 42, 21, 4, 5, 96, 46, 42, 21], [4, 6, 96, 46, 182, 0, 205, 54, 6, 167, 5, 11, 43, 42, 21, 4], [4, 96, 46, 45, 184, 0, 206, 54, 5, 44, 42, 21, 4, 4, 96, 46], [182, 0, 208, 54, 6, 167, 4, 239, 43, 42, 21, 4, 4, 96, 46, 45], [184, 0, 209, 54, 5, 44, 42, 21, 4, 4, 96, 46, 182, 0, 211, 54], [6, 167, 4, 211, 43, 42, 21, 4, 4, 96, 46, 45, 184, 0, 212, 54], [5, 44, 42, 21, 4, 4, 96, 46, 182, 0, 214, 54, 6, 167, 4, 183], [43, 42, 21, 4, 4, 96, 46, 45, 184, 0, 215, 54, 5, 44, 42, 21], [4, 4, 96, 46, 182, 0, 217, 54, 6, 167, 4, 155, 43, 42, 21, 4], [4, 96, 46, 45, 184, 0, 218, 54, 5, 44, 42, 21, 4, 4, 96, 46], [182, 0, 220, 54, 6, 167, 4, 127, 43, 42, 21, 4, 4, 96, 46, 45], [184, 0, 221, 54, 5, 44, 42, 21, 4, 4, 96, 46, 182, 0, 223, 54], [6, 167, 4, 99, 43, 42, 21, 4, 4, 96, 46, 45, 184, 0, 224, 54], [5, 44, 42, 21, 4, 4, 96, 46, 182, 0, 226, 54, 6, 167, 4, 71], [43, 42, 21, 4, 4, 96, 46, 45, 184, 0, 227, 54, 5, 44, 42, 21], [4, 4, 96, 46, 182, 0, 229, 54, 6, 167, 4, 43, 43, 42, 21, 4], [4, 96, 46, 45, 184, 0, 230, 54, 5, 44, 42, 21, 4, 4, 96, 46], [182, 0, 232, 54, 6, 167, 4, 15, 43, 182, 0, 233, 87, 44, 182, 0], [237, 87, 167, 4, 2, 43, 42, 21, 4, 4, 96, 46, 42, 21, 4, 5], [96, 46, 45, 184, 0, 238, 54, 5, 44, 42, 21, 4, 4, 96, 46, 42], [21, 4, 5, 96, 46, 182, 0, 240, 54, 6, 167, 3, 218, 43, 42, 21], [4, 4, 96, 46, 45, 184, 0, 241, 54, 5, 44, 42, 21, 4, 4, 96], [46, 182, 0, 243, 54, 6, 167, 3, 190, 43, 42, 21, 4, 4, 96, 46], [42, 21, 4, 5, 96, 46, 45, 184, 0, 244, 54, 5, 44, 42, 21, 4], [4, 96, 46, 42, 21, 4, 5, 96, 46, 182, 0, 246, 54, 6, 167, 3], [150, 43, 42, 21, 4, 4, 96, 46, 45, 184, 0, 247, 54, 5, 44, 42], [21, 4, 4, 96, 46, 182, 0, 249, 58, 6, 167, 3, 122, 43, 42, 21], [4, 4, 96, 46, 42, 21, 4, 5, 96, 46, 42, 21, 4, 6, 96, 46], [45, 184, 0, 250, 54, 5, 44, 42, 21, 4, 4, 96, 46, 42, 21, 4], [5, 96, 46, 42, 21, 4, 6, 96, 46, 182, 0, 252, 58, 6, 167, 3], [70, 43, 42, 21, 4, 4, 96, 46, 42, 21, 4, 5, 96, 46, 45, 184], [0, 253, 54, 5, 44, 42, 21, 4, 4, 96, 46, 42, 21, 4, 5, 96], [46, 182, 0, 255, 54, 6, 167, 3, 30, 43, 42, 21, 4, 4, 96, 46], [45, 184, 1, 0, 54, 5, 44, 42, 21, 4, 4, 96, 46, 182, 1, 2], [54, 6, 167, 3, 2, 43, 42, 21, 4, 4, 96, 46, 45, 184, 1, 3], [54, 5, 44, 42, 21, 4, 4, 96, 46, 182, 1, 5, 54, 6, 167, 2], [230, 43, 42, 21, 4, 4, 96, 46, 45, 184, 1, 6, 54, 5, 44, 42], [21, 4, 4, 96, 46, 182, 1, 8, 54, 6, 167, 2, 202, 43, 42, 21], [4, 4, 96, 46, 45, 184, 1, 9, 54, 5, 44, 42, 21, 4, 4, 96], [46, 182, 1, 11, 54, 6, 167, 2, 174, 43, 42, 21, 4, 4, 96, 46], [42, 21, 4, 5, 96, 46, 45, 184, 1, 12, 54, 5, 44, 42, 21, 4], [4, 96, 46, 42, 21, 4, 5, 96, 46, 182, 1, 14, 54, 6, 167, 2], [134, 43, 42, 21, 4, 4, 96, 46, 42, 21, 4, 5, 96, 46, 45, 184], [1, 15, 54, 5, 44, 42, 21, 4, 4, 96, 46, 42, 21, 4, 5, 96], [46, 182, 1, 17, 54, 6, 167, 2, 94, 43, 42, 21, 4, 4, 96, 46], [42, 21, 4, 5, 96, 46, 45, 184, 1, 18, 54, 5, 44, 42, 21, 4], [4, 96, 46, 42, 21, 4, 5, 96, 46, 182, 1, 20, 58, 6, 167, 2], [54, 43, 42, 21, 4, 4, 96, 46, 42, 21, 4, 5, 96, 46, 42, 21], [4, 6, 96, 46, 42, 21, 4, 7, 96, 46, 42, 21, 4, 8, 96, 46], [42, 21, 4, 16, 6, 96, 46, 45, 184, 1, 21, 54, 5, 44, 42, 21], [4, 4, 96, 46, 42, 21, 4, 5, 96, 46, 42, 21, 4, 6, 96, 46], [42, 21, 4, 7, 96, 46, 42, 21, 4, 8, 96, 46, 42, 21, 4, 16], [6, 96, 46, 182, 1, 24, 58, 6, 167, 1, 220, 43, 42, 21, 4, 4], [96, 46, 42, 21, 4, 5, 96, 46, 45, 184, 1, 25, 54, 5, 44, 42], [21, 4, 4, 96, 46, 42, 21, 4, 5, 96, 46, 182, 1, 27, 54, 6], [167, 1, 180, 43, 42, 21, 4, 4, 96, 46, 42, 21, 4, 5, 96, 46], [45, 184, 1, 28, 54, 5, 44, 42, 21, 4, 4, 96, 46, 42, 21, 4], [5, 96, 46, 182, 1, 30, 54, 6, 167, 1, 140, 43, 42, 21, 4, 4], [96, 46, 42, 21, 4, 5, 96, 46, 45, 184, 1, 31, 54, 5, 44, 42], [21, 4, 4, 96, 46, 42, 21, 4, 5, 96, 46, 182, 1, 33, 54, 6], [167, 1, 100, 43, 42, 21, 4, 4, 96, 46, 42, 21, 4, 5, 96, 46], [42, 21, 4, 6, 96, 46, 45, 184, 1, 34, 54, 5, 44, 42, 21, 4], [4, 96, 46, 42, 21, 4, 5, 96, 46, 42, 21, 4, 6, 96, 46, 182], [1, 36, 54, 6, 167, 1, 48, 43, 42, 21, 4, 4, 96, 46, 45, 184], [1, 37, 54, 5, 44, 42, 21, 4, 4, 96, 46, 182, 1, 39, 54, 6], [167, 1, 20, 43, 42, 21, 4, 4, 96, 46, 45, 184, 1, 40, 54, 5], [44, 42, 21, 4, 4, 96, 46, 182, 1, 42, 58, 6, 167, 0, 248, 43], [42, 21, 4, 4, 96, 46, 45, 184, 1, 43, 54, 5, 44, 42, 21, 4], [4, 96, 46, 182, 1, 45, 58, 6, 167, 0, 220, 43, 42, 21, 4, 4], [96, 46, 42, 21, 4, 5, 96, 46, 45, 184, 1, 46, 54, 5, 44, 42], [21, 4, 4, 96, 46, 42, 21, 4, 5, 96, 46, 182, 1, 48, 54, 6], [167, 0, 180, 43, 42, 21, 4, 4, 96, 46, 42, 21, 4, 5, 96, 46], [45, 184, 1, 49, 54, 5, 44, 42, 21, 4, 4, 96, 46, 42, 21, 4], [5, 96, 46, 182, 1, 51, 54, 6, 44, 182, 1, 52, 21, 5, 159, 0], [5, 3, 172, 21, 5, 154, 0, 16, 45, 180, 0, 13, 21, 6, 133, 148], [153, 0, 5, 3, 172, 167, 0, 111, 43, 182, 1, 55, 87, 44, 182, 1], [59, 87, 167, 0, 98, 43, 42, 21, 4, 4, 96, 46, 45, 184, 1, 60], [54, 5, 44, 42, 21, 4, 4, 96, 46, 182, 1, 62, 58, 6, 167, 0], [70, 43, 42, 21, 4, 4, 96, 46, 45, 184, 1, 63, 54, 5, 44, 42], [21, 4, 4, 96, 46, 182, 1, 65, 54, 6, 167, 0, 42, 43, 182, 1], [66, 87, 44, 182, 1, 69, 87, 167, 0, 29, 43, 182, 1, 70, 87, 44], [182, 1, 74, 87, 167, 0, 16, 43, 182, 1, 75, 88, 44, 182, 1, 79], [88, 167, 0, 3, 132, 4, 7, 167, 248, 68, 4, 172]]
set_option maxRecDepth 100000 in
theorem lb_seL_law : cL_law.data.toList = lb_sgL_law.flatten := by decide +kernel
theorem lb_lnL_law : ∀ s ∈ lb_sgL_law.dropLast, s.length = 16 := by decide +kernel
theorem lxL_law (k j : Nat) {b : UInt8} (h : (lb_sgL_law[k]?).bind (fun s => s[j]?) = some b) : lb_at cL_law (16 * k + j) b := by
  unfold lb_at
  rw [lb_seL_law]
  exact lb_flat 16 lb_sgL_law k j b lb_lnL_law h
set_option maxRecDepth 20000 in
theorem dL_law_0 : decode cL_law 0 = .ok (.new 8, 3) := dc_187 0 8 (lxL_law 0 0 rfl) (lxL_law 0 1 rfl) (lxL_law 0 2 rfl)
set_option maxRecDepth 20000 in
theorem dL_law_3 : decode cL_law 3 = .ok (.dup, 1) := dc_89 (lxL_law 0 3 rfl)
set_option maxRecDepth 20000 in
theorem dL_law_4 : decode cL_law 4 = .ok (.invokespecial 165, 3) := dc_183 0 165 (lxL_law 0 4 rfl) (lxL_law 0 5 rfl) (lxL_law 0 6 rfl)
set_option maxRecDepth 20000 in
theorem dL_law_7 : decode cL_law 7 = .ok (.astore_n 1, 1) := dc_76 (lxL_law 0 7 rfl)
set_option maxRecDepth 20000 in
theorem dL_law_8 : decode cL_law 8 = .ok (.new 166, 3) := dc_187 0 166 (lxL_law 0 8 rfl) (lxL_law 0 9 rfl) (lxL_law 0 10 rfl)
set_option maxRecDepth 20000 in
theorem dL_law_11 : decode cL_law 11 = .ok (.dup, 1) := dc_89 (lxL_law 0 11 rfl)
set_option maxRecDepth 20000 in
theorem dL_law_12 : decode cL_law 12 = .ok (.invokespecial 168, 3) := dc_183 0 168 (lxL_law 0 12 rfl) (lxL_law 0 13 rfl) (lxL_law 0 14 rfl)
set_option maxRecDepth 20000 in
theorem dL_law_15 : decode cL_law 15 = .ok (.astore_n 2, 1) := dc_77 (lxL_law 0 15 rfl)
set_option maxRecDepth 20000 in
theorem dL_law_16 : decode cL_law 16 = .ok (.new 14, 3) := dc_187 0 14 (lxL_law 1 0 rfl) (lxL_law 1 1 rfl) (lxL_law 1 2 rfl)
set_option maxRecDepth 20000 in
theorem dL_law_19 : decode cL_law 19 = .ok (.dup, 1) := dc_89 (lxL_law 1 3 rfl)
set_option maxRecDepth 20000 in
theorem dL_law_20 : decode cL_law 20 = .ok (.invokespecial 169, 3) := dc_183 0 169 (lxL_law 1 4 rfl) (lxL_law 1 5 rfl) (lxL_law 1 6 rfl)
set_option maxRecDepth 20000 in
theorem dL_law_23 : decode cL_law 23 = .ok (.astore_n 3, 1) := dc_78 (lxL_law 1 7 rfl)
set_option maxRecDepth 20000 in
theorem dL_law_24 : decode cL_law 24 = .ok (.iconst 0, 1) := dc_3 (lxL_law 1 8 rfl)
set_option maxRecDepth 20000 in
theorem dL_law_25 : decode cL_law 25 = .ok (.istore 4, 2) := dc_54 4 (lxL_law 1 9 rfl) (lxL_law 1 10 rfl)
set_option maxRecDepth 20000 in
theorem dL_law_27 : decode cL_law 27 = .ok (.iload 4, 2) := dc_21 4 (lxL_law 1 11 rfl) (lxL_law 1 12 rfl)
set_option maxRecDepth 20000 in
theorem dL_law_29 : decode cL_law 29 = .ok (.aload_n 0, 1) := dc_42 (lxL_law 1 13 rfl)
set_option maxRecDepth 20000 in
theorem dL_law_30 : decode cL_law 30 = .ok (.arraylength, 1) := dc_190 (lxL_law 1 14 rfl)
set_option maxRecDepth 20000 in
theorem dL_law_31 : decode cL_law 31 = .ok (.bipush 7, 2) := dc_16 7 (lxL_law 1 15 rfl) (lxL_law 2 0 rfl)
set_option maxRecDepth 20000 in
theorem dL_law_33 : decode cL_law 33 = .ok (.isub, 1) := dc_100 (lxL_law 2 1 rfl)
set_option maxRecDepth 20000 in
theorem dL_law_34 : decode cL_law 34 = .ok (.if_icmp .gt 1976, 3) := dc_163 7 184 (lxL_law 2 2 rfl) (lxL_law 2 3 rfl) (lxL_law 2 4 rfl)
set_option maxRecDepth 20000 in
theorem dL_law_37 : decode cL_law 37 = .ok (.aload_n 0, 1) := dc_42 (lxL_law 2 5 rfl)
set_option maxRecDepth 20000 in
theorem dL_law_38 : decode cL_law 38 = .ok (.iload 4, 2) := dc_21 4 (lxL_law 2 6 rfl) (lxL_law 2 7 rfl)
set_option maxRecDepth 20000 in
theorem dL_law_40 : decode cL_law 40 = .ok (.iaload, 1) := dc_46 (lxL_law 2 8 rfl)
set_option maxRecDepth 20000 in
theorem dL_law_41 : decode cL_law 41 = .ok (.bipush 63, 2) := dc_16 63 (lxL_law 2 9 rfl) (lxL_law 2 10 rfl)
set_option maxRecDepth 20000 in
theorem dL_law_43 : decode cL_law 43 = .ok (.iand, 1) := dc_126 (lxL_law 2 11 rfl)
theorem dL_law_44 : decode cL_law 44 = .ok (.tableswitch 1960 0 48 #[212, 252, 292, 332, 396, 436, 500, 552, 580, 620, 672, 700, 728, 756, 784, 812, 840, 868, 896, 924, 937, 977, 1005, 1045, 1073, 1125, 1165, 1193, 1221, 1249, 1277, 1317, 1357, 1397, 1487, 1527, 1567, 1607, 1659, 1687, 1715, 1743, 1783, 1852, 1865, 1893, 1921, 1934, 1947], 212) := by decide +kernel
set_option maxRecDepth 20000 in
theorem dL_law_256 : decode cL_law 256 = .ok (.aload_n 1, 1) := dc_43 (lxL_law 16 0 rfl)
set_option maxRecDepth 20000 in
theorem dL_law_257 : decode cL_law 257 = .ok (.aload_n 0, 1) := dc_42 (lxL_law 16 1 rfl)
set_option maxRecDepth 20000 in
theorem dL_law_258 : decode cL_law 258 = .ok (.iload 4, 2) := dc_21 4 (lxL_law 16 2 rfl) (lxL_law 16 3 rfl)
set_option maxRecDepth 20000 in
theorem dL_law_260 : decode cL_law 260 = .ok (.iconst 1, 1) := dc_4 (lxL_law 16 4 rfl)
set_option maxRecDepth 20000 in
theorem dL_law_261 : decode cL_law 261 = .ok (.iadd, 1) := dc_96 (lxL_law 16 5 rfl)
set_option maxRecDepth 20000 in
theorem dL_law_262 : decode cL_law 262 = .ok (.iaload, 1) := dc_46 (lxL_law 16 6 rfl)
set_option maxRecDepth 20000 in
theorem dL_law_263 : decode cL_law 263 = .ok (.aload_n 0, 1) := dc_42 (lxL_law 16 7 rfl)
set_option maxRecDepth 20000 in
theorem dL_law_264 : decode cL_law 264 = .ok (.iload 4, 2) := dc_21 4 (lxL_law 16 8 rfl) (lxL_law 16 9 rfl)
set_option maxRecDepth 20000 in
theorem dL_law_266 : decode cL_law 266 = .ok (.iconst 2, 1) := dc_5 (lxL_law 16 10 rfl)
set_option maxRecDepth 20000 in
theorem dL_law_267 : decode cL_law 267 = .ok (.iadd, 1) := dc_96 (lxL_law 16 11 rfl)
set_option maxRecDepth 20000 in
theorem dL_law_268 : decode cL_law 268 = .ok (.iaload, 1) := dc_46 (lxL_law 16 12 rfl)
set_option maxRecDepth 20000 in
theorem dL_law_269 : decode cL_law 269 = .ok (.aload_n 3, 1) := dc_45 (lxL_law 16 13 rfl)
set_option maxRecDepth 20000 in
theorem dL_law_270 : decode cL_law 270 = .ok (.invokestatic 170, 3) := dc_184 0 170 (lxL_law 16 14 rfl) (lxL_law 16 15 rfl) (lxL_law 17 0 rfl)
set_option maxRecDepth 20000 in
theorem dL_law_273 : decode cL_law 273 = .ok (.istore 5, 2) := dc_54 5 (lxL_law 17 1 rfl) (lxL_law 17 2 rfl)
set_option maxRecDepth 20000 in
theorem dL_law_275 : decode cL_law 275 = .ok (.aload_n 2, 1) := dc_44 (lxL_law 17 3 rfl)
set_option maxRecDepth 20000 in
theorem dL_law_276 : decode cL_law 276 = .ok (.aload_n 0, 1) := dc_42 (lxL_law 17 4 rfl)
set_option maxRecDepth 20000 in
theorem dL_law_277 : decode cL_law 277 = .ok (.iload 4, 2) := dc_21 4 (lxL_law 17 5 rfl) (lxL_law 17 6 rfl)
set_option maxRecDepth 20000 in
theorem dL_law_279 : decode cL_law 279 = .ok (.iconst 1, 1) := dc_4 (lxL_law 17 7 rfl)
set_option maxRecDepth 20000 in
theorem dL_law_280 : decode cL_law 280 = .ok (.iadd, 1) := dc_96 (lxL_law 17 8 rfl)
set_option maxRecDepth 20000 in
theorem dL_law_281 : decode cL_law 281 = .ok (.iaload, 1) := dc_46 (lxL_law 17 9 rfl)
set_option maxRecDepth 20000 in
theorem dL_law_282 : decode cL_law 282 = .ok (.aload_n 0, 1) := dc_42 (lxL_law 17 10 rfl)
set_option maxRecDepth 20000 in
theorem dL_law_283 : decode cL_law 283 = .ok (.iload 4, 2) := dc_21 4 (lxL_law 17 11 rfl) (lxL_law 17 12 rfl)
set_option maxRecDepth 20000 in
theorem dL_law_285 : decode cL_law 285 = .ok (.iconst 2, 1) := dc_5 (lxL_law 17 13 rfl)
set_option maxRecDepth 20000 in
theorem dL_law_286 : decode cL_law 286 = .ok (.iadd, 1) := dc_96 (lxL_law 17 14 rfl)
set_option maxRecDepth 20000 in
theorem dL_law_287 : decode cL_law 287 = .ok (.iaload, 1) := dc_46 (lxL_law 17 15 rfl)
set_option maxRecDepth 20000 in
theorem dL_law_288 : decode cL_law 288 = .ok (.invokevirtual 175, 3) := dc_182 0 175 (lxL_law 18 0 rfl) (lxL_law 18 1 rfl) (lxL_law 18 2 rfl)
set_option maxRecDepth 20000 in
theorem dL_law_291 : decode cL_law 291 = .ok (.istore 6, 2) := dc_54 6 (lxL_law 18 3 rfl) (lxL_law 18 4 rfl)
set_option maxRecDepth 20000 in
theorem dL_law_293 : decode cL_law 293 = .ok (.goto 1711, 3) := dc_167 6 175 (lxL_law 18 5 rfl) (lxL_law 18 6 rfl) (lxL_law 18 7 rfl)
set_option maxRecDepth 20000 in
theorem dL_law_296 : decode cL_law 296 = .ok (.aload_n 1, 1) := dc_43 (lxL_law 18 8 rfl)
set_option maxRecDepth 20000 in
theorem dL_law_297 : decode cL_law 297 = .ok (.aload_n 0, 1) := dc_42 (lxL_law 18 9 rfl)
set_option maxRecDepth 20000 in
theorem dL_law_298 : decode cL_law 298 = .ok (.iload 4, 2) := dc_21 4 (lxL_law 18 10 rfl) (lxL_law 18 11 rfl)
set_option maxRecDepth 20000 in
theorem dL_law_300 : decode cL_law 300 = .ok (.iconst 1, 1) := dc_4 (lxL_law 18 12 rfl)
set_option maxRecDepth 20000 in
theorem dL_law_301 : decode cL_law 301 = .ok (.iadd, 1) := dc_96 (lxL_law 18 13 rfl)
set_option maxRecDepth 20000 in
theorem dL_law_302 : decode cL_law 302 = .ok (.iaload, 1) := dc_46 (lxL_law 18 14 rfl)
set_option maxRecDepth 20000 in
theorem dL_law_303 : decode cL_law 303 = .ok (.aload_n 0, 1) := dc_42 (lxL_law 18 15 rfl)
set_option maxRecDepth 20000 in
theorem dL_law_304 : decode cL_law 304 = .ok (.iload 4, 2) := dc_21 4 (lxL_law 19 0 rfl) (lxL_law 19 1 rfl)
set_option maxRecDepth 20000 in
theorem dL_law_306 : decode cL_law 306 = .ok (.iconst 2, 1) := dc_5 (lxL_law 19 2 rfl)
set_option maxRecDepth 20000 in
theorem dL_law_307 : decode cL_law 307 = .ok (.iadd, 1) := dc_96 (lxL_law 19 3 rfl)
set_option maxRecDepth 20000 in
theorem dL_law_308 : decode cL_law 308 = .ok (.iaload, 1) := dc_46 (lxL_law 19 4 rfl)
set_option maxRecDepth 20000 in
theorem dL_law_309 : decode cL_law 309 = .ok (.aload_n 3, 1) := dc_45 (lxL_law 19 5 rfl)
set_option maxRecDepth 20000 in
theorem dL_law_310 : decode cL_law 310 = .ok (.invokestatic 176, 3) := dc_184 0 176 (lxL_law 19 6 rfl) (lxL_law 19 7 rfl) (lxL_law 19 8 rfl)
set_option maxRecDepth 20000 in
theorem dL_law_313 : decode cL_law 313 = .ok (.istore 5, 2) := dc_54 5 (lxL_law 19 9 rfl) (lxL_law 19 10 rfl)
set_option maxRecDepth 20000 in
theorem dL_law_315 : decode cL_law 315 = .ok (.aload_n 2, 1) := dc_44 (lxL_law 19 11 rfl)
set_option maxRecDepth 20000 in
theorem dL_law_316 : decode cL_law 316 = .ok (.aload_n 0, 1) := dc_42 (lxL_law 19 12 rfl)
set_option maxRecDepth 20000 in
theorem dL_law_317 : decode cL_law 317 = .ok (.iload 4, 2) := dc_21 4 (lxL_law 19 13 rfl) (lxL_law 19 14 rfl)
set_option maxRecDepth 20000 in
theorem dL_law_319 : decode cL_law 319 = .ok (.iconst 1, 1) := dc_4 (lxL_law 19 15 rfl)
set_option maxRecDepth 20000 in
theorem dL_law_320 : decode cL_law 320 = .ok (.iadd, 1) := dc_96 (lxL_law 20 0 rfl)
set_option maxRecDepth 20000 in
theorem dL_law_321 : decode cL_law 321 = .ok (.iaload, 1) := dc_46 (lxL_law 20 1 rfl)
set_option maxRecDepth 20000 in
theorem dL_law_322 : decode cL_law 322 = .ok (.aload_n 0, 1) := dc_42 (lxL_law 20 2 rfl)
set_option maxRecDepth 20000 in
theorem dL_law_323 : decode cL_law 323 = .ok (.iload 4, 2) := dc_21 4 (lxL_law 20 3 rfl) (lxL_law 20 4 rfl)
set_option maxRecDepth 20000 in
theorem dL_law_325 : decode cL_law 325 = .ok (.iconst 2, 1) := dc_5 (lxL_law 20 5 rfl)
set_option maxRecDepth 20000 in
theorem dL_law_326 : decode cL_law 326 = .ok (.iadd, 1) := dc_96 (lxL_law 20 6 rfl)
set_option maxRecDepth 20000 in
theorem dL_law_327 : decode cL_law 327 = .ok (.iaload, 1) := dc_46 (lxL_law 20 7 rfl)
set_option maxRecDepth 20000 in
theorem dL_law_328 : decode cL_law 328 = .ok (.invokevirtual 178, 3) := dc_182 0 178 (lxL_law 20 8 rfl) (lxL_law 20 9 rfl) (lxL_law 20 10 rfl)
set_option maxRecDepth 20000 in
theorem dL_law_331 : decode cL_law 331 = .ok (.istore 6, 2) := dc_54 6 (lxL_law 20 11 rfl) (lxL_law 20 12 rfl)
set_option maxRecDepth 20000 in
theorem dL_law_333 : decode cL_law 333 = .ok (.goto 1671, 3) := dc_167 6 135 (lxL_law 20 13 rfl) (lxL_law 20 14 rfl) (lxL_law 20 15 rfl)
set_option maxRecDepth 20000 in
theorem dL_law_336 : decode cL_law 336 = .ok (.aload_n 1, 1) := dc_43 (lxL_law 21 0 rfl)
set_option maxRecDepth 20000 in
theorem dL_law_337 : decode cL_law 337 = .ok (.aload_n 0, 1) := dc_42 (lxL_law 21 1 rfl)
set_option maxRecDepth 20000 in
theorem dL_law_338 : decode cL_law 338 = .ok (.iload 4, 2) := dc_21 4 (lxL_law 21 2 rfl) (lxL_law 21 3 rfl)
set_option maxRecDepth 20000 in
theorem dL_law_340 : decode cL_law 340 = .ok (.iconst 1, 1) := dc_4 (lxL_law 21 4 rfl)
set_option maxRecDepth 20000 in
theorem dL_law_341 : decode cL_law 341 = .ok (.iadd, 1) := dc_96 (lxL_law 21 5 rfl)
set_option maxRecDepth 20000 in
theorem dL_law_342 : decode cL_law 342 = .ok (.iaload, 1) := dc_46 (lxL_law 21 6 rfl)
set_option maxRecDepth 20000 in
theorem dL_law_343 : decode cL_law 343 = .ok (.aload_n 0, 1) := dc_42 (lxL_law 21 7 rfl)
set_option maxRecDepth 20000 in
theorem dL_law_344 : decode cL_law 344 = .ok (.iload 4, 2) := dc_21 4 (lxL_law 21 8 rfl) (lxL_law 21 9 rfl)
set_option maxRecDepth 20000 in
theorem dL_law_346 : decode cL_law 346 = .ok (.iconst 2, 1) := dc_5 (lxL_law 21 10 rfl)
set_option maxRecDepth 20000 in
theorem dL_law_347 : decode cL_law 347 = .ok (.iadd, 1) := dc_96 (lxL_law 21 11 rfl)
set_option maxRecDepth 20000 in
theorem dL_law_348 : decode cL_law 348 = .ok (.iaload, 1) := dc_46 (lxL_law 21 12 rfl)
set_option maxRecDepth 20000 in
theorem dL_law_349 : decode cL_law 349 = .ok (.aload_n 3, 1) := dc_45 (lxL_law 21 13 rfl)
set_option maxRecDepth 20000 in
theorem dL_law_350 : decode cL_law 350 = .ok (.invokestatic 179, 3) := dc_184 0 179 (lxL_law 21 14 rfl) (lxL_law 21 15 rfl) (lxL_law 22 0 rfl)
set_option maxRecDepth 20000 in
theorem dL_law_353 : decode cL_law 353 = .ok (.istore 5, 2) := dc_54 5 (lxL_law 22 1 rfl) (lxL_law 22 2 rfl)
set_option maxRecDepth 20000 in
theorem dL_law_355 : decode cL_law 355 = .ok (.aload_n 2, 1) := dc_44 (lxL_law 22 3 rfl)
set_option maxRecDepth 20000 in
theorem dL_law_356 : decode cL_law 356 = .ok (.aload_n 0, 1) := dc_42 (lxL_law 22 4 rfl)
set_option maxRecDepth 20000 in
theorem dL_law_357 : decode cL_law 357 = .ok (.iload 4, 2) := dc_21 4 (lxL_law 22 5 rfl) (lxL_law 22 6 rfl)
set_option maxRecDepth 20000 in
theorem dL_law_359 : decode cL_law 359 = .ok (.iconst 1, 1) := dc_4 (lxL_law 22 7 rfl)
set_option maxRecDepth 20000 in
theorem dL_law_360 : decode cL_law 360 = .ok (.iadd, 1) := dc_96 (lxL_law 22 8 rfl)
set_option maxRecDepth 20000 in
theorem dL_law_361 : decode cL_law 361 = .ok (.iaload, 1) := dc_46 (lxL_law 22 9 rfl)
set_option maxRecDepth 20000 in
theorem dL_law_362 : decode cL_law 362 = .ok (.aload_n 0, 1) := dc_42 (lxL_law 22 10 rfl)
set_option maxRecDepth 20000 in
theorem dL_law_363 : decode cL_law 363 = .ok (.iload 4, 2) := dc_21 4 (lxL_law 22 11 rfl) (lxL_law 22 12 rfl)
set_option maxRecDepth 20000 in
theorem dL_law_365 : decode cL_law 365 = .ok (.iconst 2, 1) := dc_5 (lxL_law 22 13 rfl)
set_option maxRecDepth 20000 in
theorem dL_law_366 : decode cL_law 366 = .ok (.iadd, 1) := dc_96 (lxL_law 22 14 rfl)
set_option maxRecDepth 20000 in
theorem dL_law_367 : decode cL_law 367 = .ok (.iaload, 1) := dc_46 (lxL_law 22 15 rfl)
set_option maxRecDepth 20000 in
theorem dL_law_368 : decode cL_law 368 = .ok (.invokevirtual 181, 3) := dc_182 0 181 (lxL_law 23 0 rfl) (lxL_law 23 1 rfl) (lxL_law 23 2 rfl)
set_option maxRecDepth 20000 in
theorem dL_law_371 : decode cL_law 371 = .ok (.istore 6, 2) := dc_54 6 (lxL_law 23 3 rfl) (lxL_law 23 4 rfl)
set_option maxRecDepth 20000 in
theorem dL_law_373 : decode cL_law 373 = .ok (.goto 1631, 3) := dc_167 6 95 (lxL_law 23 5 rfl) (lxL_law 23 6 rfl) (lxL_law 23 7 rfl)
set_option maxRecDepth 20000 in
theorem dL_law_376 : decode cL_law 376 = .ok (.aload_n 1, 1) := dc_43 (lxL_law 23 8 rfl)
set_option maxRecDepth 20000 in
theorem dL_law_377 : decode cL_law 377 = .ok (.aload_n 0, 1) := dc_42 (lxL_law 23 9 rfl)
set_option maxRecDepth 20000 in
theorem dL_law_378 : decode cL_law 378 = .ok (.iload 4, 2) := dc_21 4 (lxL_law 23 10 rfl) (lxL_law 23 11 rfl)
set_option maxRecDepth 20000 in
theorem dL_law_380 : decode cL_law 380 = .ok (.iconst 1, 1) := dc_4 (lxL_law 23 12 rfl)
set_option maxRecDepth 20000 in
theorem dL_law_381 : decode cL_law 381 = .ok (.iadd, 1) := dc_96 (lxL_law 23 13 rfl)
set_option maxRecDepth 20000 in
theorem dL_law_382 : decode cL_law 382 = .ok (.iaload, 1) := dc_46 (lxL_law 23 14 rfl)
set_option maxRecDepth 20000 in
theorem dL_law_383 : decode cL_law 383 = .ok (.aload_n 0, 1) := dc_42 (lxL_law 23 15 rfl)
set_option maxRecDepth 20000 in
theorem dL_law_384 : decode cL_law 384 = .ok (.iload 4, 2) := dc_21 4 (lxL_law 24 0 rfl) (lxL_law 24 1 rfl)
set_option maxRecDepth 20000 in
theorem dL_law_386 : decode cL_law 386 = .ok (.iconst 2, 1) := dc_5 (lxL_law 24 2 rfl)
set_option maxRecDepth 20000 in
theorem dL_law_387 : decode cL_law 387 = .ok (.iadd, 1) := dc_96 (lxL_law 24 3 rfl)
set_option maxRecDepth 20000 in
theorem dL_law_388 : decode cL_law 388 = .ok (.iaload, 1) := dc_46 (lxL_law 24 4 rfl)
set_option maxRecDepth 20000 in
theorem dL_law_389 : decode cL_law 389 = .ok (.aload_n 0, 1) := dc_42 (lxL_law 24 5 rfl)
set_option maxRecDepth 20000 in
theorem dL_law_390 : decode cL_law 390 = .ok (.iload 4, 2) := dc_21 4 (lxL_law 24 6 rfl) (lxL_law 24 7 rfl)
set_option maxRecDepth 20000 in
theorem dL_law_392 : decode cL_law 392 = .ok (.iconst 3, 1) := dc_6 (lxL_law 24 8 rfl)
set_option maxRecDepth 20000 in
theorem dL_law_393 : decode cL_law 393 = .ok (.iadd, 1) := dc_96 (lxL_law 24 9 rfl)
set_option maxRecDepth 20000 in
theorem dL_law_394 : decode cL_law 394 = .ok (.iaload, 1) := dc_46 (lxL_law 24 10 rfl)
set_option maxRecDepth 20000 in
theorem dL_law_395 : decode cL_law 395 = .ok (.aload_n 0, 1) := dc_42 (lxL_law 24 11 rfl)
set_option maxRecDepth 20000 in
theorem dL_law_396 : decode cL_law 396 = .ok (.iload 4, 2) := dc_21 4 (lxL_law 24 12 rfl) (lxL_law 24 13 rfl)
set_option maxRecDepth 20000 in
theorem dL_law_398 : decode cL_law 398 = .ok (.iconst 4, 1) := dc_7 (lxL_law 24 14 rfl)
set_option maxRecDepth 20000 in
theorem dL_law_399 : decode cL_law 399 = .ok (.iadd, 1) := dc_96 (lxL_law 24 15 rfl)
set_option maxRecDepth 20000 in
theorem dL_law_400 : decode cL_law 400 = .ok (.iaload, 1) := dc_46 (lxL_law 25 0 rfl)
set_option maxRecDepth 20000 in
theorem dL_law_401 : decode cL_law 401 = .ok (.aload_n 3, 1) := dc_45 (lxL_law 25 1 rfl)
set_option maxRecDepth 20000 in
theorem dL_law_402 : decode cL_law 402 = .ok (.invokestatic 182, 3) := dc_184 0 182 (lxL_law 25 2 rfl) (lxL_law 25 3 rfl) (lxL_law 25 4 rfl)
set_option maxRecDepth 20000 in
theorem dL_law_405 : decode cL_law 405 = .ok (.istore 5, 2) := dc_54 5 (lxL_law 25 5 rfl) (lxL_law 25 6 rfl)
set_option maxRecDepth 20000 in
theorem dL_law_407 : decode cL_law 407 = .ok (.aload_n 2, 1) := dc_44 (lxL_law 25 7 rfl)
set_option maxRecDepth 20000 in
theorem dL_law_408 : decode cL_law 408 = .ok (.aload_n 0, 1) := dc_42 (lxL_law 25 8 rfl)
set_option maxRecDepth 20000 in
theorem dL_law_409 : decode cL_law 409 = .ok (.iload 4, 2) := dc_21 4 (lxL_law 25 9 rfl) (lxL_law 25 10 rfl)
set_option maxRecDepth 20000 in
theorem dL_law_411 : decode cL_law 411 = .ok (.iconst 1, 1) := dc_4 (lxL_law 25 11 rfl)
set_option maxRecDepth 20000 in
theorem dL_law_412 : decode cL_law 412 = .ok (.iadd, 1) := dc_96 (lxL_law 25 12 rfl)
set_option maxRecDepth 20000 in
theorem dL_law_413 : decode cL_law 413 = .ok (.iaload, 1) := dc_46 (lxL_law 25 13 rfl)
set_option maxRecDepth 20000 in
theorem dL_law_414 : decode cL_law 414 = .ok (.aload_n 0, 1) := dc_42 (lxL_law 25 14 rfl)
set_option maxRecDepth 20000 in
theorem dL_law_415 : decode cL_law 415 = .ok (.iload 4, 2) := dc_21 4 (lxL_law 25 15 rfl) (lxL_law 26 0 rfl)
set_option maxRecDepth 20000 in
theorem dL_law_417 : decode cL_law 417 = .ok (.iconst 2, 1) := dc_5 (lxL_law 26 1 rfl)
set_option maxRecDepth 20000 in
theorem dL_law_418 : decode cL_law 418 = .ok (.iadd, 1) := dc_96 (lxL_law 26 2 rfl)
set_option maxRecDepth 20000 in
theorem dL_law_419 : decode cL_law 419 = .ok (.iaload, 1) := dc_46 (lxL_law 26 3 rfl)
set_option maxRecDepth 20000 in
theorem dL_law_420 : decode cL_law 420 = .ok (.aload_n 0, 1) := dc_42 (lxL_law 26 4 rfl)
set_option maxRecDepth 20000 in
theorem dL_law_421 : decode cL_law 421 = .ok (.iload 4, 2) := dc_21 4 (lxL_law 26 5 rfl) (lxL_law 26 6 rfl)
set_option maxRecDepth 20000 in
theorem dL_law_423 : decode cL_law 423 = .ok (.iconst 3, 1) := dc_6 (lxL_law 26 7 rfl)
set_option maxRecDepth 20000 in
theorem dL_law_424 : decode cL_law 424 = .ok (.iadd, 1) := dc_96 (lxL_law 26 8 rfl)
set_option maxRecDepth 20000 in
theorem dL_law_425 : decode cL_law 425 = .ok (.iaload, 1) := dc_46 (lxL_law 26 9 rfl)
set_option maxRecDepth 20000 in
theorem dL_law_426 : decode cL_law 426 = .ok (.aload_n 0, 1) := dc_42 (lxL_law 26 10 rfl)
set_option maxRecDepth 20000 in
theorem dL_law_427 : decode cL_law 427 = .ok (.iload 4, 2) := dc_21 4 (lxL_law 26 11 rfl) (lxL_law 26 12 rfl)
set_option maxRecDepth 20000 in
theorem dL_law_429 : decode cL_law 429 = .ok (.iconst 4, 1) := dc_7 (lxL_law 26 13 rfl)
set_option maxRecDepth 20000 in
theorem dL_law_430 : decode cL_law 430 = .ok (.iadd, 1) := dc_96 (lxL_law 26 14 rfl)
set_option maxRecDepth 20000 in
theorem dL_law_431 : decode cL_law 431 = .ok (.iaload, 1) := dc_46 (lxL_law 26 15 rfl)
set_option maxRecDepth 20000 in
theorem dL_law_432 : decode cL_law 432 = .ok (.invokevirtual 185, 3) := dc_182 0 185 (lxL_law 27 0 rfl) (lxL_law 27 1 rfl) (lxL_law 27 2 rfl)
set_option maxRecDepth 20000 in
theorem dL_law_435 : decode cL_law 435 = .ok (.istore 6, 2) := dc_54 6 (lxL_law 27 3 rfl) (lxL_law 27 4 rfl)
set_option maxRecDepth 20000 in
theorem dL_law_437 : decode cL_law 437 = .ok (.goto 1567, 3) := dc_167 6 31 (lxL_law 27 5 rfl) (lxL_law 27 6 rfl) (lxL_law 27 7 rfl)
set_option maxRecDepth 20000 in
theorem dL_law_440 : decode cL_law 440 = .ok (.aload_n 1, 1) := dc_43 (lxL_law 27 8 rfl)
set_option maxRecDepth 20000 in
theorem dL_law_441 : decode cL_law 441 = .ok (.aload_n 0, 1) := dc_42 (lxL_law 27 9 rfl)
set_option maxRecDepth 20000 in
theorem dL_law_442 : decode cL_law 442 = .ok (.iload 4, 2) := dc_21 4 (lxL_law 27 10 rfl) (lxL_law 27 11 rfl)
set_option maxRecDepth 20000 in
theorem dL_law_444 : decode cL_law 444 = .ok (.iconst 1, 1) := dc_4 (lxL_law 27 12 rfl)
set_option maxRecDepth 20000 in
theorem dL_law_445 : decode cL_law 445 = .ok (.iadd, 1) := dc_96 (lxL_law 27 13 rfl)
set_option maxRecDepth 20000 in
theorem dL_law_446 : decode cL_law 446 = .ok (.iaload, 1) := dc_46 (lxL_law 27 14 rfl)
set_option maxRecDepth 20000 in
theorem dL_law_447 : decode cL_law 447 = .ok (.aload_n 0, 1) := dc_42 (lxL_law 27 15 rfl)
set_option maxRecDepth 20000 in
theorem dL_law_448 : decode cL_law 448 = .ok (.iload 4, 2) := dc_21 4 (lxL_law 28 0 rfl) (lxL_law 28 1 rfl)
set_option maxRecDepth 20000 in
theorem dL_law_450 : decode cL_law 450 = .ok (.iconst 2, 1) := dc_5 (lxL_law 28 2 rfl)
set_option maxRecDepth 20000 in
theorem dL_law_451 : decode cL_law 451 = .ok (.iadd, 1) := dc_96 (lxL_law 28 3 rfl)
set_option maxRecDepth 20000 in
theorem dL_law_452 : decode cL_law 452 = .ok (.iaload, 1) := dc_46 (lxL_law 28 4 rfl)
set_option maxRecDepth 20000 in
theorem dL_law_453 : decode cL_law 453 = .ok (.aload_n 3, 1) := dc_45 (lxL_law 28 5 rfl)
set_option maxRecDepth 20000 in
theorem dL_law_454 : decode cL_law 454 = .ok (.invokestatic 186, 3) := dc_184 0 186 (lxL_law 28 6 rfl) (lxL_law 28 7 rfl) (lxL_law 28 8 rfl)
set_option maxRecDepth 20000 in
theorem dL_law_457 : decode cL_law 457 = .ok (.istore 5, 2) := dc_54 5 (lxL_law 28 9 rfl) (lxL_law 28 10 rfl)
set_option maxRecDepth 20000 in
theorem dL_law_459 : decode cL_law 459 = .ok (.aload_n 2, 1) := dc_44 (lxL_law 28 11 rfl)
set_option maxRecDepth 20000 in
theorem dL_law_460 : decode cL_law 460 = .ok (.aload_n 0, 1) := dc_42 (lxL_law 28 12 rfl)
set_option maxRecDepth 20000 in
theorem dL_law_461 : decode cL_law 461 = .ok (.iload 4, 2) := dc_21 4 (lxL_law 28 13 rfl) (lxL_law 28 14 rfl)
set_option maxRecDepth 20000 in
theorem dL_law_463 : decode cL_law 463 = .ok (.iconst 1, 1) := dc_4 (lxL_law 28 15 rfl)
set_option maxRecDepth 20000 in
theorem dL_law_464 : decode cL_law 464 = .ok (.iadd, 1) := dc_96 (lxL_law 29 0 rfl)
set_option maxRecDepth 20000 in
theorem dL_law_465 : decode cL_law 465 = .ok (.iaload, 1) := dc_46 (lxL_law 29 1 rfl)
set_option maxRecDepth 20000 in
theorem dL_law_466 : decode cL_law 466 = .ok (.aload_n 0, 1) := dc_42 (lxL_law 29 2 rfl)
set_option maxRecDepth 20000 in
theorem dL_law_467 : decode cL_law 467 = .ok (.iload 4, 2) := dc_21 4 (lxL_law 29 3 rfl) (lxL_law 29 4 rfl)
set_option maxRecDepth 20000 in
theorem dL_law_469 : decode cL_law 469 = .ok (.iconst 2, 1) := dc_5 (lxL_law 29 5 rfl)
set_option maxRecDepth 20000 in
theorem dL_law_470 : decode cL_law 470 = .ok (.iadd, 1) := dc_96 (lxL_law 29 6 rfl)
set_option maxRecDepth 20000 in
theorem dL_law_471 : decode cL_law 471 = .ok (.iaload, 1) := dc_46 (lxL_law 29 7 rfl)
set_option maxRecDepth 20000 in
theorem dL_law_472 : decode cL_law 472 = .ok (.invokevirtual 188, 3) := dc_182 0 188 (lxL_law 29 8 rfl) (lxL_law 29 9 rfl) (lxL_law 29 10 rfl)
set_option maxRecDepth 20000 in
theorem dL_law_475 : decode cL_law 475 = .ok (.istore 6, 2) := dc_54 6 (lxL_law 29 11 rfl) (lxL_law 29 12 rfl)
set_option maxRecDepth 20000 in
theorem dL_law_477 : decode cL_law 477 = .ok (.goto 1527, 3) := dc_167 5 247 (lxL_law 29 13 rfl) (lxL_law 29 14 rfl) (lxL_law 29 15 rfl)
set_option maxRecDepth 20000 in
theorem dL_law_480 : decode cL_law 480 = .ok (.aload_n 1, 1) := dc_43 (lxL_law 30 0 rfl)
set_option maxRecDepth 20000 in
theorem dL_law_481 : decode cL_law 481 = .ok (.aload_n 0, 1) := dc_42 (lxL_law 30 1 rfl)
set_option maxRecDepth 20000 in
theorem dL_law_482 : decode cL_law 482 = .ok (.iload 4, 2) := dc_21 4 (lxL_law 30 2 rfl) (lxL_law 30 3 rfl)
set_option maxRecDepth 20000 in
theorem dL_law_484 : decode cL_law 484 = .ok (.iconst 1, 1) := dc_4 (lxL_law 30 4 rfl)
set_option maxRecDepth 20000 in
theorem dL_law_485 : decode cL_law 485 = .ok (.iadd, 1) := dc_96 (lxL_law 30 5 rfl)
set_option maxRecDepth 20000 in
theorem dL_law_486 : decode cL_law 486 = .ok (.iaload, 1) := dc_46 (lxL_law 30 6 rfl)
set_option maxRecDepth 20000 in
theorem dL_law_487 : decode cL_law 487 = .ok (.aload_n 0, 1) := dc_42 (lxL_law 30 7 rfl)
set_option maxRecDepth 20000 in
theorem dL_law_488 : decode cL_law 488 = .ok (.iload 4, 2) := dc_21 4 (lxL_law 30 8 rfl) (lxL_law 30 9 rfl)
set_option maxRecDepth 20000 in
theorem dL_law_490 : decode cL_law 490 = .ok (.iconst 2, 1) := dc_5 (lxL_law 30 10 rfl)
set_option maxRecDepth 20000 in
theorem dL_law_491 : decode cL_law 491 = .ok (.iadd, 1) := dc_96 (lxL_law 30 11 rfl)
set_option maxRecDepth 20000 in
theorem dL_law_492 : decode cL_law 492 = .ok (.iaload, 1) := dc_46 (lxL_law 30 12 rfl)
set_option maxRecDepth 20000 in
theorem dL_law_493 : decode cL_law 493 = .ok (.aload_n 0, 1) := dc_42 (lxL_law 30 13 rfl)
set_option maxRecDepth 20000 in
theorem dL_law_494 : decode cL_law 494 = .ok (.iload 4, 2) := dc_21 4 (lxL_law 30 14 rfl) (lxL_law 30 15 rfl)
set_option maxRecDepth 20000 in
theorem dL_law_496 : decode cL_law 496 = .ok (.iconst 3, 1) := dc_6 (lxL_law 31 0 rfl)
set_option maxRecDepth 20000 in
theorem dL_law_497 : decode cL_law 497 = .ok (.iadd, 1) := dc_96 (lxL_law 31 1 rfl)
set_option maxRecDepth 20000 in
theorem dL_law_498 : decode cL_law 498 = .ok (.iaload, 1) := dc_46 (lxL_law 31 2 rfl)
set_option maxRecDepth 20000 in
theorem dL_law_499 : decode cL_law 499 = .ok (.aload_n 0, 1) := dc_42 (lxL_law 31 3 rfl)
set_option maxRecDepth 20000 in
theorem dL_law_500 : decode cL_law 500 = .ok (.iload 4, 2) := dc_21 4 (lxL_law 31 4 rfl) (lxL_law 31 5 rfl)
set_option maxRecDepth 20000 in
theorem dL_law_502 : decode cL_law 502 = .ok (.iconst 4, 1) := dc_7 (lxL_law 31 6 rfl)
set_option maxRecDepth 20000 in
theorem dL_law_503 : decode cL_law 503 = .ok (.iadd, 1) := dc_96 (lxL_law 31 7 rfl)
set_option maxRecDepth 20000 in
theorem dL_law_504 : decode cL_law 504 = .ok (.iaload, 1) := dc_46 (lxL_law 31 8 rfl)
set_option maxRecDepth 20000 in
theorem dL_law_505 : decode cL_law 505 = .ok (.aload_n 3, 1) := dc_45 (lxL_law 31 9 rfl)
set_option maxRecDepth 20000 in
theorem dL_law_506 : decode cL_law 506 = .ok (.invokestatic 189, 3) := dc_184 0 189 (lxL_law 31 10 rfl) (lxL_law 31 11 rfl) (lxL_law 31 12 rfl)
set_option maxRecDepth 20000 in
theorem dL_law_509 : decode cL_law 509 = .ok (.istore 5, 2) := dc_54 5 (lxL_law 31 13 rfl) (lxL_law 31 14 rfl)
set_option maxRecDepth 20000 in
theorem dL_law_511 : decode cL_law 511 = .ok (.aload_n 2, 1) := dc_44 (lxL_law 31 15 rfl)
set_option maxRecDepth 20000 in
theorem dL_law_512 : decode cL_law 512 = .ok (.aload_n 0, 1) := dc_42 (lxL_law 32 0 rfl)
set_option maxRecDepth 20000 in
theorem dL_law_513 : decode cL_law 513 = .ok (.iload 4, 2) := dc_21 4 (lxL_law 32 1 rfl) (lxL_law 32 2 rfl)
set_option maxRecDepth 20000 in
theorem dL_law_515 : decode cL_law 515 = .ok (.iconst 1, 1) := dc_4 (lxL_law 32 3 rfl)
set_option maxRecDepth 20000 in
theorem dL_law_516 : decode cL_law 516 = .ok (.iadd, 1) := dc_96 (lxL_law 32 4 rfl)
set_option maxRecDepth 20000 in
theorem dL_law_517 : decode cL_law 517 = .ok (.iaload, 1) := dc_46 (lxL_law 32 5 rfl)
set_option maxRecDepth 20000 in
theorem dL_law_518 : decode cL_law 518 = .ok (.aload_n 0, 1) := dc_42 (lxL_law 32 6 rfl)
set_option maxRecDepth 20000 in
theorem dL_law_519 : decode cL_law 519 = .ok (.iload 4, 2) := dc_21 4 (lxL_law 32 7 rfl) (lxL_law 32 8 rfl)
set_option maxRecDepth 20000 in
theorem dL_law_521 : decode cL_law 521 = .ok (.iconst 2, 1) := dc_5 (lxL_law 32 9 rfl)
set_option maxRecDepth 20000 in
theorem dL_law_522 : decode cL_law 522 = .ok (.iadd, 1) := dc_96 (lxL_law 32 10 rfl)
set_option maxRecDepth 20000 in
theorem dL_law_523 : decode cL_law 523 = .ok (.iaload, 1) := dc_46 (lxL_law 32 11 rfl)
set_option maxRecDepth 20000 in
theorem dL_law_524 : decode cL_law 524 = .ok (.aload_n 0, 1) := dc_42 (lxL_law 32 12 rfl)
set_option maxRecDepth 20000 in
theorem dL_law_525 : decode cL_law 525 = .ok (.iload 4, 2) := dc_21 4 (lxL_law 32 13 rfl) (lxL_law 32 14 rfl)
set_option maxRecDepth 20000 in
theorem dL_law_527 : decode cL_law 527 = .ok (.iconst 3, 1) := dc_6 (lxL_law 32 15 rfl)
set_option maxRecDepth 20000 in
theorem dL_law_528 : decode cL_law 528 = .ok (.iadd, 1) := dc_96 (lxL_law 33 0 rfl)
set_option maxRecDepth 20000 in
theorem dL_law_529 : decode cL_law 529 = .ok (.iaload, 1) := dc_46 (lxL_law 33 1 rfl)
set_option maxRecDepth 20000 in
theorem dL_law_530 : decode cL_law 530 = .ok (.aload_n 0, 1) := dc_42 (lxL_law 33 2 rfl)
set_option maxRecDepth 20000 in
theorem dL_law_531 : decode cL_law 531 = .ok (.iload 4, 2) := dc_21 4 (lxL_law 33 3 rfl) (lxL_law 33 4 rfl)
set_option maxRecDepth 20000 in
theorem dL_law_533 : decode cL_law 533 = .ok (.iconst 4, 1) := dc_7 (lxL_law 33 5 rfl)
set_option maxRecDepth 20000 in
theorem dL_law_534 : decode cL_law 534 = .ok (.iadd, 1) := dc_96 (lxL_law 33 6 rfl)
set_option maxRecDepth 20000 in
theorem dL_law_535 : decode cL_law 535 = .ok (.iaload, 1) := dc_46 (lxL_law 33 7 rfl)
set_option maxRecDepth 20000 in
theorem dL_law_536 : decode cL_law 536 = .ok (.invokevirtual 191, 3) := dc_182 0 191 (lxL_law 33 8 rfl) (lxL_law 33 9 rfl) (lxL_law 33 10 rfl)
set_option maxRecDepth 20000 in
theorem dL_law_539 : decode cL_law 539 = .ok (.istore 6, 2) := dc_54 6 (lxL_law 33 11 rfl) (lxL_law 33 12 rfl)
set_option maxRecDepth 20000 in
theorem dL_law_541 : decode cL_law 541 = .ok (.goto 1463, 3) := dc_167 5 183 (lxL_law 33 13 rfl) (lxL_law 33 14 rfl) (lxL_law 33 15 rfl)
set_option maxRecDepth 20000 in
theorem dL_law_544 : decode cL_law 544 = .ok (.aload_n 1, 1) := dc_43 (lxL_law 34 0 rfl)
set_option maxRecDepth 20000 in
theorem dL_law_545 : decode cL_law 545 = .ok (.aload_n 0, 1) := dc_42 (lxL_law 34 1 rfl)
set_option maxRecDepth 20000 in
theorem dL_law_546 : decode cL_law 546 = .ok (.iload 4, 2) := dc_21 4 (lxL_law 34 2 rfl) (lxL_law 34 3 rfl)
set_option maxRecDepth 20000 in
theorem dL_law_548 : decode cL_law 548 = .ok (.iconst 1, 1) := dc_4 (lxL_law 34 4 rfl)
set_option maxRecDepth 20000 in
theorem dL_law_549 : decode cL_law 549 = .ok (.iadd, 1) := dc_96 (lxL_law 34 5 rfl)
set_option maxRecDepth 20000 in
theorem dL_law_550 : decode cL_law 550 = .ok (.iaload, 1) := dc_46 (lxL_law 34 6 rfl)
set_option maxRecDepth 20000 in
theorem dL_law_551 : decode cL_law 551 = .ok (.aload_n 0, 1) := dc_42 (lxL_law 34 7 rfl)
set_option maxRecDepth 20000 in
theorem dL_law_552 : decode cL_law 552 = .ok (.iload 4, 2) := dc_21 4 (lxL_law 34 8 rfl) (lxL_law 34 9 rfl)
set_option maxRecDepth 20000 in
theorem dL_law_554 : decode cL_law 554 = .ok (.iconst 2, 1) := dc_5 (lxL_law 34 10 rfl)
set_option maxRecDepth 20000 in
theorem dL_law_555 : decode cL_law 555 = .ok (.iadd, 1) := dc_96 (lxL_law 34 11 rfl)
set_option maxRecDepth 20000 in
theorem dL_law_556 : decode cL_law 556 = .ok (.iaload, 1) := dc_46 (lxL_law 34 12 rfl)
set_option maxRecDepth 20000 in
theorem dL_law_557 : decode cL_law 557 = .ok (.aload_n 0, 1) := dc_42 (lxL_law 34 13 rfl)
set_option maxRecDepth 20000 in
theorem dL_law_558 : decode cL_law 558 = .ok (.iload 4, 2) := dc_21 4 (lxL_law 34 14 rfl) (lxL_law 34 15 rfl)
set_option maxRecDepth 20000 in
theorem dL_law_560 : decode cL_law 560 = .ok (.iconst 3, 1) := dc_6 (lxL_law 35 0 rfl)
set_option maxRecDepth 20000 in
theorem dL_law_561 : decode cL_law 561 = .ok (.iadd, 1) := dc_96 (lxL_law 35 1 rfl)
set_option maxRecDepth 20000 in
theorem dL_law_562 : decode cL_law 562 = .ok (.iaload, 1) := dc_46 (lxL_law 35 2 rfl)
set_option maxRecDepth 20000 in
theorem dL_law_563 : decode cL_law 563 = .ok (.aload_n 3, 1) := dc_45 (lxL_law 35 3 rfl)
set_option maxRecDepth 20000 in
theorem dL_law_564 : decode cL_law 564 = .ok (.invokestatic 192, 3) := dc_184 0 192 (lxL_law 35 4 rfl) (lxL_law 35 5 rfl) (lxL_law 35 6 rfl)
set_option maxRecDepth 20000 in
theorem dL_law_567 : decode cL_law 567 = .ok (.istore 5, 2) := dc_54 5 (lxL_law 35 7 rfl) (lxL_law 35 8 rfl)
set_option maxRecDepth 20000 in
theorem dL_law_569 : decode cL_law 569 = .ok (.aload_n 2, 1) := dc_44 (lxL_law 35 9 rfl)
set_option maxRecDepth 20000 in
theorem dL_law_570 : decode cL_law 570 = .ok (.aload_n 0, 1) := dc_42 (lxL_law 35 10 rfl)
set_option maxRecDepth 20000 in
theorem dL_law_571 : decode cL_law 571 = .ok (.iload 4, 2) := dc_21 4 (lxL_law 35 11 rfl) (lxL_law 35 12 rfl)
set_option maxRecDepth 20000 in
theorem dL_law_573 : decode cL_law 573 = .ok (.iconst 1, 1) := dc_4 (lxL_law 35 13 rfl)
set_option maxRecDepth 20000 in
theorem dL_law_574 : decode cL_law 574 = .ok (.iadd, 1) := dc_96 (lxL_law 35 14 rfl)
set_option maxRecDepth 20000 in
theorem dL_law_575 : decode cL_law 575 = .ok (.iaload, 1) := dc_46 (lxL_law 35 15 rfl)
set_option maxRecDepth 20000 in
theorem dL_law_576 : decode cL_law 576 = .ok (.aload_n 0, 1) := dc_42 (lxL_law 36 0 rfl)
set_option maxRecDepth 20000 in
theorem dL_law_577 : decode cL_law 577 = .ok (.iload 4, 2) := dc_21 4 (lxL_law 36 1 rfl) (lxL_law 36 2 rfl)
set_option maxRecDepth 20000 in
theorem dL_law_579 : decode cL_law 579 = .ok (.iconst 2, 1) := dc_5 (lxL_law 36 3 rfl)
set_option maxRecDepth 20000 in
theorem dL_law_580 : decode cL_law 580 = .ok (.iadd, 1) := dc_96 (lxL_law 36 4 rfl)
set_option maxRecDepth 20000 in
theorem dL_law_581 : decode cL_law 581 = .ok (.iaload, 1) := dc_46 (lxL_law 36 5 rfl)
set_option maxRecDepth 20000 in
theorem dL_law_582 : decode cL_law 582 = .ok (.aload_n 0, 1) := dc_42 (lxL_law 36 6 rfl)
set_option maxRecDepth 20000 in
theorem dL_law_583 : decode cL_law 583 = .ok (.iload 4, 2) := dc_21 4 (lxL_law 36 7 rfl) (lxL_law 36 8 rfl)
set_option maxRecDepth 20000 in
theorem dL_law_585 : decode cL_law 585 = .ok (.iconst 3, 1) := dc_6 (lxL_law 36 9 rfl)
set_option maxRecDepth 20000 in
theorem dL_law_586 : decode cL_law 586 = .ok (.iadd, 1) := dc_96 (lxL_law 36 10 rfl)
set_option maxRecDepth 20000 in
theorem dL_law_587 : decode cL_law 587 = .ok (.iaload, 1) := dc_46 (lxL_law 36 11 rfl)
set_option maxRecDepth 20000 in
theorem dL_law_588 : decode cL_law 588 = .ok (.invokevirtual 195, 3) := dc_182 0 195 (lxL_law 36 12 rfl) (lxL_law 36 13 rfl) (lxL_law 36 14 rfl)
set_option maxRecDepth 20000 in
theorem dL_law_591 : decode cL_law 591 = .ok (.istore 6, 2) := dc_54 6 (lxL_law 36 15 rfl) (lxL_law 37 0 rfl)
set_option maxRecDepth 20000 in
theorem dL_law_593 : decode cL_law 593 = .ok (.goto 1411, 3) := dc_167 5 131 (lxL_law 37 1 rfl) (lxL_law 37 2 rfl) (lxL_law 37 3 rfl)
set_option maxRecDepth 20000 in
theorem dL_law_596 : decode cL_law 596 = .ok (.aload_n 1, 1) := dc_43 (lxL_law 37 4 rfl)
set_option maxRecDepth 20000 in
theorem dL_law_597 : decode cL_law 597 = .ok (.aload_n 0, 1) := dc_42 (lxL_law 37 5 rfl)
set_option maxRecDepth 20000 in
theorem dL_law_598 : decode cL_law 598 = .ok (.iload 4, 2) := dc_21 4 (lxL_law 37 6 rfl) (lxL_law 37 7 rfl)
set_option maxRecDepth 20000 in
theorem dL_law_600 : decode cL_law 600 = .ok (.iconst 1, 1) := dc_4 (lxL_law 37 8 rfl)
set_option maxRecDepth 20000 in
theorem dL_law_601 : decode cL_law 601 = .ok (.iadd, 1) := dc_96 (lxL_law 37 9 rfl)
set_option maxRecDepth 20000 in
theorem dL_law_602 : decode cL_law 602 = .ok (.iaload, 1) := dc_46 (lxL_law 37 10 rfl)
set_option maxRecDepth 20000 in
theorem dL_law_603 : decode cL_law 603 = .ok (.aload_n 3, 1) := dc_45 (lxL_law 37 11 rfl)
set_option maxRecDepth 20000 in
theorem dL_law_604 : decode cL_law 604 = .ok (.invokestatic 196, 3) := dc_184 0 196 (lxL_law 37 12 rfl) (lxL_law 37 13 rfl) (lxL_law 37 14 rfl)
set_option maxRecDepth 20000 in
theorem dL_law_607 : decode cL_law 607 = .ok (.istore 5, 2) := dc_54 5 (lxL_law 37 15 rfl) (lxL_law 38 0 rfl)
set_option maxRecDepth 20000 in
theorem dL_law_609 : decode cL_law 609 = .ok (.aload_n 2, 1) := dc_44 (lxL_law 38 1 rfl)
set_option maxRecDepth 20000 in
theorem dL_law_610 : decode cL_law 610 = .ok (.aload_n 0, 1) := dc_42 (lxL_law 38 2 rfl)
set_option maxRecDepth 20000 in
theorem dL_law_611 : decode cL_law 611 = .ok (.iload 4, 2) := dc_21 4 (lxL_law 38 3 rfl) (lxL_law 38 4 rfl)
set_option maxRecDepth 20000 in
theorem dL_law_613 : decode cL_law 613 = .ok (.iconst 1, 1) := dc_4 (lxL_law 38 5 rfl)
set_option maxRecDepth 20000 in
theorem dL_law_614 : decode cL_law 614 = .ok (.iadd, 1) := dc_96 (lxL_law 38 6 rfl)
set_option maxRecDepth 20000 in
theorem dL_law_615 : decode cL_law 615 = .ok (.iaload, 1) := dc_46 (lxL_law 38 7 rfl)
set_option maxRecDepth 20000 in
theorem dL_law_616 : decode cL_law 616 = .ok (.invokevirtual 199, 3) := dc_182 0 199 (lxL_law 38 8 rfl) (lxL_law 38 9 rfl) (lxL_law 38 10 rfl)
set_option maxRecDepth 20000 in
theorem dL_law_619 : decode cL_law 619 = .ok (.istore 6, 2) := dc_54 6 (lxL_law 38 11 rfl) (lxL_law 38 12 rfl)
set_option maxRecDepth 20000 in
theorem dL_law_621 : decode cL_law 621 = .ok (.goto 1383, 3) := dc_167 5 103 (lxL_law 38 13 rfl) (lxL_law 38 14 rfl) (lxL_law 38 15 rfl)
set_option maxRecDepth 20000 in
theorem dL_law_624 : decode cL_law 624 = .ok (.aload_n 1, 1) := dc_43 (lxL_law 39 0 rfl)
set_option maxRecDepth 20000 in
theorem dL_law_625 : decode cL_law 625 = .ok (.aload_n 0, 1) := dc_42 (lxL_law 39 1 rfl)
set_option maxRecDepth 20000 in
theorem dL_law_626 : decode cL_law 626 = .ok (.iload 4, 2) := dc_21 4 (lxL_law 39 2 rfl) (lxL_law 39 3 rfl)
set_option maxRecDepth 20000 in
theorem dL_law_628 : decode cL_law 628 = .ok (.iconst 1, 1) := dc_4 (lxL_law 39 4 rfl)
set_option maxRecDepth 20000 in
theorem dL_law_629 : decode cL_law 629 = .ok (.iadd, 1) := dc_96 (lxL_law 39 5 rfl)
set_option maxRecDepth 20000 in
theorem dL_law_630 : decode cL_law 630 = .ok (.iaload, 1) := dc_46 (lxL_law 39 6 rfl)
set_option maxRecDepth 20000 in
theorem dL_law_631 : decode cL_law 631 = .ok (.aload_n 0, 1) := dc_42 (lxL_law 39 7 rfl)
set_option maxRecDepth 20000 in
theorem dL_law_632 : decode cL_law 632 = .ok (.iload 4, 2) := dc_21 4 (lxL_law 39 8 rfl) (lxL_law 39 9 rfl)
set_option maxRecDepth 20000 in
theorem dL_law_634 : decode cL_law 634 = .ok (.iconst 2, 1) := dc_5 (lxL_law 39 10 rfl)
set_option maxRecDepth 20000 in
theorem dL_law_635 : decode cL_law 635 = .ok (.iadd, 1) := dc_96 (lxL_law 39 11 rfl)
set_option maxRecDepth 20000 in
theorem dL_law_636 : decode cL_law 636 = .ok (.iaload, 1) := dc_46 (lxL_law 39 12 rfl)
set_option maxRecDepth 20000 in
theorem dL_law_637 : decode cL_law 637 = .ok (.aload_n 3, 1) := dc_45 (lxL_law 39 13 rfl)
set_option maxRecDepth 20000 in
theorem dL_law_638 : decode cL_law 638 = .ok (.invokestatic 200, 3) := dc_184 0 200 (lxL_law 39 14 rfl) (lxL_law 39 15 rfl) (lxL_law 40 0 rfl)
set_option maxRecDepth 20000 in
theorem dL_law_641 : decode cL_law 641 = .ok (.istore 5, 2) := dc_54 5 (lxL_law 40 1 rfl) (lxL_law 40 2 rfl)
set_option maxRecDepth 20000 in
theorem dL_law_643 : decode cL_law 643 = .ok (.aload_n 2, 1) := dc_44 (lxL_law 40 3 rfl)
set_option maxRecDepth 20000 in
theorem dL_law_644 : decode cL_law 644 = .ok (.aload_n 0, 1) := dc_42 (lxL_law 40 4 rfl)
set_option maxRecDepth 20000 in
theorem dL_law_645 : decode cL_law 645 = .ok (.iload 4, 2) := dc_21 4 (lxL_law 40 5 rfl) (lxL_law 40 6 rfl)
set_option maxRecDepth 20000 in
theorem dL_law_647 : decode cL_law 647 = .ok (.iconst 1, 1) := dc_4 (lxL_law 40 7 rfl)
set_option maxRecDepth 20000 in
theorem dL_law_648 : decode cL_law 648 = .ok (.iadd, 1) := dc_96 (lxL_law 40 8 rfl)
set_option maxRecDepth 20000 in
theorem dL_law_649 : decode cL_law 649 = .ok (.iaload, 1) := dc_46 (lxL_law 40 9 rfl)
set_option maxRecDepth 20000 in
theorem dL_law_650 : decode cL_law 650 = .ok (.aload_n 0, 1) := dc_42 (lxL_law 40 10 rfl)
set_option maxRecDepth 20000 in
theorem dL_law_651 : decode cL_law 651 = .ok (.iload 4, 2) := dc_21 4 (lxL_law 40 11 rfl) (lxL_law 40 12 rfl)
set_option maxRecDepth 20000 in
theorem dL_law_653 : decode cL_law 653 = .ok (.iconst 2, 1) := dc_5 (lxL_law 40 13 rfl)
set_option maxRecDepth 20000 in
theorem dL_law_654 : decode cL_law 654 = .ok (.iadd, 1) := dc_96 (lxL_law 40 14 rfl)
set_option maxRecDepth 20000 in
theorem dL_law_655 : decode cL_law 655 = .ok (.iaload, 1) := dc_46 (lxL_law 40 15 rfl)
set_option maxRecDepth 20000 in
theorem dL_law_656 : decode cL_law 656 = .ok (.invokevirtual 202, 3) := dc_182 0 202 (lxL_law 41 0 rfl) (lxL_law 41 1 rfl) (lxL_law 41 2 rfl)
set_option maxRecDepth 20000 in
theorem dL_law_659 : decode cL_law 659 = .ok (.astore 6, 2) := dc_58 6 (lxL_law 41 3 rfl) (lxL_law 41 4 rfl)
set_option maxRecDepth 20000 in
theorem dL_law_661 : decode cL_law 661 = .ok (.goto 1343, 3) := dc_167 5 63 (lxL_law 41 5 rfl) (lxL_law 41 6 rfl) (lxL_law 41 7 rfl)
set_option maxRecDepth 20000 in
theorem dL_law_664 : decode cL_law 664 = .ok (.aload_n 1, 1) := dc_43 (lxL_law 41 8 rfl)
set_option maxRecDepth 20000 in
theorem dL_law_665 : decode cL_law 665 = .ok (.aload_n 0, 1) := dc_42 (lxL_law 41 9 rfl)
set_option maxRecDepth 20000 in
theorem dL_law_666 : decode cL_law 666 = .ok (.iload 4, 2) := dc_21 4 (lxL_law 41 10 rfl) (lxL_law 41 11 rfl)
set_option maxRecDepth 20000 in
theorem dL_law_668 : decode cL_law 668 = .ok (.iconst 1, 1) := dc_4 (lxL_law 41 12 rfl)
set_option maxRecDepth 20000 in
theorem dL_law_669 : decode cL_law 669 = .ok (.iadd, 1) := dc_96 (lxL_law 41 13 rfl)
set_option maxRecDepth 20000 in
theorem dL_law_670 : decode cL_law 670 = .ok (.iaload, 1) := dc_46 (lxL_law 41 14 rfl)
set_option maxRecDepth 20000 in
theorem dL_law_671 : decode cL_law 671 = .ok (.aload_n 0, 1) := dc_42 (lxL_law 41 15 rfl)
set_option maxRecDepth 20000 in
theorem dL_law_672 : decode cL_law 672 = .ok (.iload 4, 2) := dc_21 4 (lxL_law 42 0 rfl) (lxL_law 42 1 rfl)
set_option maxRecDepth 20000 in
theorem dL_law_674 : decode cL_law 674 = .ok (.iconst 2, 1) := dc_5 (lxL_law 42 2 rfl)
set_option maxRecDepth 20000 in
theorem dL_law_675 : decode cL_law 675 = .ok (.iadd, 1) := dc_96 (lxL_law 42 3 rfl)
set_option maxRecDepth 20000 in
theorem dL_law_676 : decode cL_law 676 = .ok (.iaload, 1) := dc_46 (lxL_law 42 4 rfl)
set_option maxRecDepth 20000 in
theorem dL_law_677 : decode cL_law 677 = .ok (.aload_n 0, 1) := dc_42 (lxL_law 42 5 rfl)
set_option maxRecDepth 20000 in
theorem dL_law_678 : decode cL_law 678 = .ok (.iload 4, 2) := dc_21 4 (lxL_law 42 6 rfl) (lxL_law 42 7 rfl)
set_option maxRecDepth 20000 in
theorem dL_law_680 : decode cL_law 680 = .ok (.iconst 3, 1) := dc_6 (lxL_law 42 8 rfl)
set_option maxRecDepth 20000 in
theorem dL_law_681 : decode cL_law 681 = .ok (.iadd, 1) := dc_96 (lxL_law 42 9 rfl)
set_option maxRecDepth 20000 in
theorem dL_law_682 : decode cL_law 682 = .ok (.iaload, 1) := dc_46 (lxL_law 42 10 rfl)
set_option maxRecDepth 20000 in
theorem dL_law_683 : decode cL_law 683 = .ok (.aload_n 3, 1) := dc_45 (lxL_law 42 11 rfl)
set_option maxRecDepth 20000 in
theorem dL_law_684 : decode cL_law 684 = .ok (.invokestatic 203, 3) := dc_184 0 203 (lxL_law 42 12 rfl) (lxL_law 42 13 rfl) (lxL_law 42 14 rfl)
set_option maxRecDepth 20000 in
theorem dL_law_687 : decode cL_law 687 = .ok (.istore 5, 2) := dc_54 5 (lxL_law 42 15 rfl) (lxL_law 43 0 rfl)
set_option maxRecDepth 20000 in
theorem dL_law_689 : decode cL_law 689 = .ok (.aload_n 2, 1) := dc_44 (lxL_law 43 1 rfl)
set_option maxRecDepth 20000 in
theorem dL_law_690 : decode cL_law 690 = .ok (.aload_n 0, 1) := dc_42 (lxL_law 43 2 rfl)
set_option maxRecDepth 20000 in
theorem dL_law_691 : decode cL_law 691 = .ok (.iload 4, 2) := dc_21 4 (lxL_law 43 3 rfl) (lxL_law 43 4 rfl)
set_option maxRecDepth 20000 in
theorem dL_law_693 : decode cL_law 693 = .ok (.iconst 1, 1) := dc_4 (lxL_law 43 5 rfl)
set_option maxRecDepth 20000 in
theorem dL_law_694 : decode cL_law 694 = .ok (.iadd, 1) := dc_96 (lxL_law 43 6 rfl)
set_option maxRecDepth 20000 in
theorem dL_law_695 : decode cL_law 695 = .ok (.iaload, 1) := dc_46 (lxL_law 43 7 rfl)
set_option maxRecDepth 20000 in
theorem dL_law_696 : decode cL_law 696 = .ok (.aload_n 0, 1) := dc_42 (lxL_law 43 8 rfl)
set_option maxRecDepth 20000 in
theorem dL_law_697 : decode cL_law 697 = .ok (.iload 4, 2) := dc_21 4 (lxL_law 43 9 rfl) (lxL_law 43 10 rfl)
set_option maxRecDepth 20000 in
theorem dL_law_699 : decode cL_law 699 = .ok (.iconst 2, 1) := dc_5 (lxL_law 43 11 rfl)
set_option maxRecDepth 20000 in
theorem dL_law_700 : decode cL_law 700 = .ok (.iadd, 1) := dc_96 (lxL_law 43 12 rfl)
set_option maxRecDepth 20000 in
theorem dL_law_701 : decode cL_law 701 = .ok (.iaload, 1) := dc_46 (lxL_law 43 13 rfl)
set_option maxRecDepth 20000 in
theorem dL_law_702 : decode cL_law 702 = .ok (.aload_n 0, 1) := dc_42 (lxL_law 43 14 rfl)
set_option maxRecDepth 20000 in
theorem dL_law_703 : decode cL_law 703 = .ok (.iload 4, 2) := dc_21 4 (lxL_law 43 15 rfl) (lxL_law 44 0 rfl)
set_option maxRecDepth 20000 in
theorem dL_law_705 : decode cL_law 705 = .ok (.iconst 3, 1) := dc_6 (lxL_law 44 1 rfl)
set_option maxRecDepth 20000 in
theorem dL_law_706 : decode cL_law 706 = .ok (.iadd, 1) := dc_96 (lxL_law 44 2 rfl)
set_option maxRecDepth 20000 in
theorem dL_law_707 : decode cL_law 707 = .ok (.iaload, 1) := dc_46 (lxL_law 44 3 rfl)
set_option maxRecDepth 20000 in
theorem dL_law_708 : decode cL_law 708 = .ok (.invokevirtual 205, 3) := dc_182 0 205 (lxL_law 44 4 rfl) (lxL_law 44 5 rfl) (lxL_law 44 6 rfl)
set_option maxRecDepth 20000 in
theorem dL_law_711 : decode cL_law 711 = .ok (.istore 6, 2) := dc_54 6 (lxL_law 44 7 rfl) (lxL_law 44 8 rfl)
set_option maxRecDepth 20000 in
theorem dL_law_713 : decode cL_law 713 = .ok (.goto 1291, 3) := dc_167 5 11 (lxL_law 44 9 rfl) (lxL_law 44 10 rfl) (lxL_law 44 11 rfl)
set_option maxRecDepth 20000 in
theorem dL_law_716 : decode cL_law 716 = .ok (.aload_n 1, 1) := dc_43 (lxL_law 44 12 rfl)
set_option maxRecDepth 20000 in
theorem dL_law_717 : decode cL_law 717 = .ok (.aload_n 0, 1) := dc_42 (lxL_law 44 13 rfl)
set_option maxRecDepth 20000 in
theorem dL_law_718 : decode cL_law 718 = .ok (.iload 4, 2) := dc_21 4 (lxL_law 44 14 rfl) (lxL_law 44 15 rfl)
set_option maxRecDepth 20000 in
theorem dL_law_720 : decode cL_law 720 = .ok (.iconst 1, 1) := dc_4 (lxL_law 45 0 rfl)
set_option maxRecDepth 20000 in
theorem dL_law_721 : decode cL_law 721 = .ok (.iadd, 1) := dc_96 (lxL_law 45 1 rfl)
set_option maxRecDepth 20000 in
theorem dL_law_722 : decode cL_law 722 = .ok (.iaload, 1) := dc_46 (lxL_law 45 2 rfl)
set_option maxRecDepth 20000 in
theorem dL_law_723 : decode cL_law 723 = .ok (.aload_n 3, 1) := dc_45 (lxL_law 45 3 rfl)
set_option maxRecDepth 20000 in
theorem dL_law_724 : decode cL_law 724 = .ok (.invokestatic 206, 3) := dc_184 0 206 (lxL_law 45 4 rfl) (lxL_law 45 5 rfl) (lxL_law 45 6 rfl)
set_option maxRecDepth 20000 in
theorem dL_law_727 : decode cL_law 727 = .ok (.istore 5, 2) := dc_54 5 (lxL_law 45 7 rfl) (lxL_law 45 8 rfl)
set_option maxRecDepth 20000 in
theorem dL_law_729 : decode cL_law 729 = .ok (.aload_n 2, 1) := dc_44 (lxL_law 45 9 rfl)
set_option maxRecDepth 20000 in
theorem dL_law_730 : decode cL_law 730 = .ok (.aload_n 0, 1) := dc_42 (lxL_law 45 10 rfl)
set_option maxRecDepth 20000 in
theorem dL_law_731 : decode cL_law 731 = .ok (.iload 4, 2) := dc_21 4 (lxL_law 45 11 rfl) (lxL_law 45 12 rfl)
set_option maxRecDepth 20000 in
theorem dL_law_733 : decode cL_law 733 = .ok (.iconst 1, 1) := dc_4 (lxL_law 45 13 rfl)
set_option maxRecDepth 20000 in
theorem dL_law_734 : decode cL_law 734 = .ok (.iadd, 1) := dc_96 (lxL_law 45 14 rfl)
set_option maxRecDepth 20000 in
theorem dL_law_735 : decode cL_law 735 = .ok (.iaload, 1) := dc_46 (lxL_law 45 15 rfl)
set_option maxRecDepth 20000 in
theorem dL_law_736 : decode cL_law 736 = .ok (.invokevirtual 208, 3) := dc_182 0 208 (lxL_law 46 0 rfl) (lxL_law 46 1 rfl) (lxL_law 46 2 rfl)
set_option maxRecDepth 20000 in
theorem dL_law_739 : decode cL_law 739 = .ok (.istore 6, 2) := dc_54 6 (lxL_law 46 3 rfl) (lxL_law 46 4 rfl)
set_option maxRecDepth 20000 in
theorem dL_law_741 : decode cL_law 741 = .ok (.goto 1263, 3) := dc_167 4 239 (lxL_law 46 5 rfl) (lxL_law 46 6 rfl) (lxL_law 46 7 rfl)
set_option maxRecDepth 20000 in
theorem dL_law_744 : decode cL_law 744 = .ok (.aload_n 1, 1) := dc_43 (lxL_law 46 8 rfl)
set_option maxRecDepth 20000 in
theorem dL_law_745 : decode cL_law 745 = .ok (.aload_n 0, 1) := dc_42 (lxL_law 46 9 rfl)
set_option maxRecDepth 20000 in
theorem dL_law_746 : decode cL_law 746 = .ok (.iload 4, 2) := dc_21 4 (lxL_law 46 10 rfl) (lxL_law 46 11 rfl)
set_option maxRecDepth 20000 in
theorem dL_law_748 : decode cL_law 748 = .ok (.iconst 1, 1) := dc_4 (lxL_law 46 12 rfl)
set_option maxRecDepth 20000 in
theorem dL_law_749 : decode cL_law 749 = .ok (.iadd, 1) := dc_96 (lxL_law 46 13 rfl)
set_option maxRecDepth 20000 in
theorem dL_law_750 : decode cL_law 750 = .ok (.iaload, 1) := dc_46 (lxL_law 46 14 rfl)
set_option maxRecDepth 20000 in
theorem dL_law_751 : decode cL_law 751 = .ok (.aload_n 3, 1) := dc_45 (lxL_law 46 15 rfl)
set_option maxRecDepth 20000 in
theorem dL_law_752 : decode cL_law 752 = .ok (.invokestatic 209, 3) := dc_184 0 209 (lxL_law 47 0 rfl) (lxL_law 47 1 rfl) (lxL_law 47 2 rfl)
set_option maxRecDepth 20000 in
theorem dL_law_755 : decode cL_law 755 = .ok (.istore 5, 2) := dc_54 5 (lxL_law 47 3 rfl) (lxL_law 47 4 rfl)
set_option maxRecDepth 20000 in
theorem dL_law_757 : decode cL_law 757 = .ok (.aload_n 2, 1) := dc_44 (lxL_law 47 5 rfl)
set_option maxRecDepth 20000 in
theorem dL_law_758 : decode cL_law 758 = .ok (.aload_n 0, 1) := dc_42 (lxL_law 47 6 rfl)
set_option maxRecDepth 20000 in
theorem dL_law_759 : decode cL_law 759 = .ok (.iload 4, 2) := dc_21 4 (lxL_law 47 7 rfl) (lxL_law 47 8 rfl)
set_option maxRecDepth 20000 in
theorem dL_law_761 : decode cL_law 761 = .ok (.iconst 1, 1) := dc_4 (lxL_law 47 9 rfl)
set_option maxRecDepth 20000 in
theorem dL_law_762 : decode cL_law 762 = .ok (.iadd, 1) := dc_96 (lxL_law 47 10 rfl)
set_option maxRecDepth 20000 in
theorem dL_law_763 : decode cL_law 763 = .ok (.iaload, 1) := dc_46 (lxL_law 47 11 rfl)
set_option maxRecDepth 20000 in
theorem dL_law_764 : decode cL_law 764 = .ok (.invokevirtual 211, 3) := dc_182 0 211 (lxL_law 47 12 rfl) (lxL_law 47 13 rfl) (lxL_law 47 14 rfl)
set_option maxRecDepth 20000 in
theorem dL_law_767 : decode cL_law 767 = .ok (.istore 6, 2) := dc_54 6 (lxL_law 47 15 rfl) (lxL_law 48 0 rfl)
set_option maxRecDepth 20000 in
theorem dL_law_769 : decode cL_law 769 = .ok (.goto 1235, 3) := dc_167 4 211 (lxL_law 48 1 rfl) (lxL_law 48 2 rfl) (lxL_law 48 3 rfl)
set_option maxRecDepth 20000 in
theorem dL_law_772 : decode cL_law 772 = .ok (.aload_n 1, 1) := dc_43 (lxL_law 48 4 rfl)
set_option maxRecDepth 20000 in
theorem dL_law_773 : decode cL_law 773 = .ok (.aload_n 0, 1) := dc_42 (lxL_law 48 5 rfl)
set_option maxRecDepth 20000 in
theorem dL_law_774 : decode cL_law 774 = .ok (.iload 4, 2) := dc_21 4 (lxL_law 48 6 rfl) (lxL_law 48 7 rfl)
set_option maxRecDepth 20000 in
theorem dL_law_776 : decode cL_law 776 = .ok (.iconst 1, 1) := dc_4 (lxL_law 48 8 rfl)
set_option maxRecDepth 20000 in
theorem dL_law_777 : decode cL_law 777 = .ok (.iadd, 1) := dc_96 (lxL_law 48 9 rfl)
set_option maxRecDepth 20000 in
theorem dL_law_778 : decode cL_law 778 = .ok (.iaload, 1) := dc_46 (lxL_law 48 10 rfl)
set_option maxRecDepth 20000 in
theorem dL_law_779 : decode cL_law 779 = .ok (.aload_n 3, 1) := dc_45 (lxL_law 48 11 rfl)
set_option maxRecDepth 20000 in
theorem dL_law_780 : decode cL_law 780 = .ok (.invokestatic 212, 3) := dc_184 0 212 (lxL_law 48 12 rfl) (lxL_law 48 13 rfl) (lxL_law 48 14 rfl)
set_option maxRecDepth 20000 in
theorem dL_law_783 : decode cL_law 783 = .ok (.istore 5, 2) := dc_54 5 (lxL_law 48 15 rfl) (lxL_law 49 0 rfl)
set_option maxRecDepth 20000 in
theorem dL_law_785 : decode cL_law 785 = .ok (.aload_n 2, 1) := dc_44 (lxL_law 49 1 rfl)
set_option maxRecDepth 20000 in
theorem dL_law_786 : decode cL_law 786 = .ok (.aload_n 0, 1) := dc_42 (lxL_law 49 2 rfl)
set_option maxRecDepth 20000 in
theorem dL_law_787 : decode cL_law 787 = .ok (.iload 4, 2) := dc_21 4 (lxL_law 49 3 rfl) (lxL_law 49 4 rfl)
set_option maxRecDepth 20000 in
theorem dL_law_789 : decode cL_law 789 = .ok (.iconst 1, 1) := dc_4 (lxL_law 49 5 rfl)
set_option maxRecDepth 20000 in
theorem dL_law_790 : decode cL_law 790 = .ok (.iadd, 1) := dc_96 (lxL_law 49 6 rfl)
set_option maxRecDepth 20000 in
theorem dL_law_791 : decode cL_law 791 = .ok (.iaload, 1) := dc_46 (lxL_law 49 7 rfl)
set_option maxRecDepth 20000 in
theorem dL_law_792 : decode cL_law 792 = .ok (.invokevirtual 214, 3) := dc_182 0 214 (lxL_law 49 8 rfl) (lxL_law 49 9 rfl) (lxL_law 49 10 rfl)
set_option maxRecDepth 20000 in
theorem dL_law_795 : decode cL_law 795 = .ok (.istore 6, 2) := dc_54 6 (lxL_law 49 11 rfl) (lxL_law 49 12 rfl)
set_option maxRecDepth 20000 in
theorem dL_law_797 : decode cL_law 797 = .ok (.goto 1207, 3) := dc_167 4 183 (lxL_law 49 13 rfl) (lxL_law 49 14 rfl) (lxL_law 49 15 rfl)
set_option maxRecDepth 20000 in
theorem dL_law_800 : decode cL_law 800 = .ok (.aload_n 1, 1) := dc_43 (lxL_law 50 0 rfl)
set_option maxRecDepth 20000 in
theorem dL_law_801 : decode cL_law 801 = .ok (.aload_n 0, 1) := dc_42 (lxL_law 50 1 rfl)
set_option maxRecDepth 20000 in
theorem dL_law_802 : decode cL_law 802 = .ok (.iload 4, 2) := dc_21 4 (lxL_law 50 2 rfl) (lxL_law 50 3 rfl)
set_option maxRecDepth 20000 in
theorem dL_law_804 : decode cL_law 804 = .ok (.iconst 1, 1) := dc_4 (lxL_law 50 4 rfl)
set_option maxRecDepth 20000 in
theorem dL_law_805 : decode cL_law 805 = .ok (.iadd, 1) := dc_96 (lxL_law 50 5 rfl)
set_option maxRecDepth 20000 in
theorem dL_law_806 : decode cL_law 806 = .ok (.iaload, 1) := dc_46 (lxL_law 50 6 rfl)
set_option maxRecDepth 20000 in
theorem dL_law_807 : decode cL_law 807 = .ok (.aload_n 3, 1) := dc_45 (lxL_law 50 7 rfl)
set_option maxRecDepth 20000 in
theorem dL_law_808 : decode cL_law 808 = .ok (.invokestatic 215, 3) := dc_184 0 215 (lxL_law 50 8 rfl) (lxL_law 50 9 rfl) (lxL_law 50 10 rfl)
set_option maxRecDepth 20000 in
theorem dL_law_811 : decode cL_law 811 = .ok (.istore 5, 2) := dc_54 5 (lxL_law 50 11 rfl) (lxL_law 50 12 rfl)
set_option maxRecDepth 20000 in
theorem dL_law_813 : decode cL_law 813 = .ok (.aload_n 2, 1) := dc_44 (lxL_law 50 13 rfl)
set_option maxRecDepth 20000 in
theorem dL_law_814 : decode cL_law 814 = .ok (.aload_n 0, 1) := dc_42 (lxL_law 50 14 rfl)
set_option maxRecDepth 20000 in
theorem dL_law_815 : decode cL_law 815 = .ok (.iload 4, 2) := dc_21 4 (lxL_law 50 15 rfl) (lxL_law 51 0 rfl)
set_option maxRecDepth 20000 in
theorem dL_law_817 : decode cL_law 817 = .ok (.iconst 1, 1) := dc_4 (lxL_law 51 1 rfl)
set_option maxRecDepth 20000 in
theorem dL_law_818 : decode cL_law 818 = .ok (.iadd, 1) := dc_96 (lxL_law 51 2 rfl)
set_option maxRecDepth 20000 in
theorem dL_law_819 : decode cL_law 819 = .ok (.iaload, 1) := dc_46 (lxL_law 51 3 rfl)
set_option maxRecDepth 20000 in
theorem dL_law_820 : decode cL_law 820 = .ok (.invokevirtual 217, 3) := dc_182 0 217 (lxL_law 51 4 rfl) (lxL_law 51 5 rfl) (lxL_law 51 6 rfl)
set_option maxRecDepth 20000 in
theorem dL_law_823 : decode cL_law 823 = .ok (.istore 6, 2) := dc_54 6 (lxL_law 51 7 rfl) (lxL_law 51 8 rfl)
set_option maxRecDepth 20000 in
theorem dL_law_825 : decode cL_law 825 = .ok (.goto 1179, 3) := dc_167 4 155 (lxL_law 51 9 rfl) (lxL_law 51 10 rfl) (lxL_law 51 11 rfl)
set_option maxRecDepth 20000 in
theorem dL_law_828 : decode cL_law 828 = .ok (.aload_n 1, 1) := dc_43 (lxL_law 51 12 rfl)
set_option maxRecDepth 20000 in
theorem dL_law_829 : decode cL_law 829 = .ok (.aload_n 0, 1) := dc_42 (lxL_law 51 13 rfl)
set_option maxRecDepth 20000 in
theorem dL_law_830 : decode cL_law 830 = .ok (.iload 4, 2) := dc_21 4 (lxL_law 51 14 rfl) (lxL_law 51 15 rfl)
set_option maxRecDepth 20000 in
theorem dL_law_832 : decode cL_law 832 = .ok (.iconst 1, 1) := dc_4 (lxL_law 52 0 rfl)
set_option maxRecDepth 20000 in
theorem dL_law_833 : decode cL_law 833 = .ok (.iadd, 1) := dc_96 (lxL_law 52 1 rfl)
set_option maxRecDepth 20000 in
theorem dL_law_834 : decode cL_law 834 = .ok (.iaload, 1) := dc_46 (lxL_law 52 2 rfl)
set_option maxRecDepth 20000 in
theorem dL_law_835 : decode cL_law 835 = .ok (.aload_n 3, 1) := dc_45 (lxL_law 52 3 rfl)
set_option maxRecDepth 20000 in
theorem dL_law_836 : decode cL_law 836 = .ok (.invokestatic 218, 3) := dc_184 0 218 (lxL_law 52 4 rfl) (lxL_law 52 5 rfl) (lxL_law 52 6 rfl)
set_option maxRecDepth 20000 in
theorem dL_law_839 : decode cL_law 839 = .ok (.istore 5, 2) := dc_54 5 (lxL_law 52 7 rfl) (lxL_law 52 8 rfl)
set_option maxRecDepth 20000 in
theorem dL_law_841 : decode cL_law 841 = .ok (.aload_n 2, 1) := dc_44 (lxL_law 52 9 rfl)
set_option maxRecDepth 20000 in
theorem dL_law_842 : decode cL_law 842 = .ok (.aload_n 0, 1) := dc_42 (lxL_law 52 10 rfl)
set_option maxRecDepth 20000 in
theorem dL_law_843 : decode cL_law 843 = .ok (.iload 4, 2) := dc_21 4 (lxL_law 52 11 rfl) (lxL_law 52 12 rfl)
set_option maxRecDepth 20000 in
theorem dL_law_845 : decode cL_law 845 = .ok (.iconst 1, 1) := dc_4 (lxL_law 52 13 rfl)
set_option maxRecDepth 20000 in
theorem dL_law_846 : decode cL_law 846 = .ok (.iadd, 1) := dc_96 (lxL_law 52 14 rfl)
set_option maxRecDepth 20000 in
theorem dL_law_847 : decode cL_law 847 = .ok (.iaload, 1) := dc_46 (lxL_law 52 15 rfl)
set_option maxRecDepth 20000 in
theorem dL_law_848 : decode cL_law 848 = .ok (.invokevirtual 220, 3) := dc_182 0 220 (lxL_law 53 0 rfl) (lxL_law 53 1 rfl) (lxL_law 53 2 rfl)
set_option maxRecDepth 20000 in
theorem dL_law_851 : decode cL_law 851 = .ok (.istore 6, 2) := dc_54 6 (lxL_law 53 3 rfl) (lxL_law 53 4 rfl)
set_option maxRecDepth 20000 in
theorem dL_law_853 : decode cL_law 853 = .ok (.goto 1151, 3) := dc_167 4 127 (lxL_law 53 5 rfl) (lxL_law 53 6 rfl) (lxL_law 53 7 rfl)
set_option maxRecDepth 20000 in
theorem dL_law_856 : decode cL_law 856 = .ok (.aload_n 1, 1) := dc_43 (lxL_law 53 8 rfl)
set_option maxRecDepth 20000 in
theorem dL_law_857 : decode cL_law 857 = .ok (.aload_n 0, 1) := dc_42 (lxL_law 53 9 rfl)
set_option maxRecDepth 20000 in
theorem dL_law_858 : decode cL_law 858 = .ok (.iload 4, 2) := dc_21 4 (lxL_law 53 10 rfl) (lxL_law 53 11 rfl)
set_option maxRecDepth 20000 in
theorem dL_law_860 : decode cL_law 860 = .ok (.iconst 1, 1) := dc_4 (lxL_law 53 12 rfl)
set_option maxRecDepth 20000 in
theorem dL_law_861 : decode cL_law 861 = .ok (.iadd, 1) := dc_96 (lxL_law 53 13 rfl)
set_option maxRecDepth 20000 in
theorem dL_law_862 : decode cL_law 862 = .ok (.iaload, 1) := dc_46 (lxL_law 53 14 rfl)
set_option maxRecDepth 20000 in
theorem dL_law_863 : decode cL_law 863 = .ok (.aload_n 3, 1) := dc_45 (lxL_law 53 15 rfl)
set_option maxRecDepth 20000 in
theorem dL_law_864 : decode cL_law 864 = .ok (.invokestatic 221, 3) := dc_184 0 221 (lxL_law 54 0 rfl) (lxL_law 54 1 rfl) (lxL_law 54 2 rfl)
set_option maxRecDepth 20000 in
theorem dL_law_867 : decode cL_law 867 = .ok (.istore 5, 2) := dc_54 5 (lxL_law 54 3 rfl) (lxL_law 54 4 rfl)
set_option maxRecDepth 20000 in
theorem dL_law_869 : decode cL_law 869 = .ok (.aload_n 2, 1) := dc_44 (lxL_law 54 5 rfl)
set_option maxRecDepth 20000 in
theorem dL_law_870 : decode cL_law 870 = .ok (.aload_n 0, 1) := dc_42 (lxL_law 54 6 rfl)
set_option maxRecDepth 20000 in
theorem dL_law_871 : decode cL_law 871 = .ok (.iload 4, 2) := dc_21 4 (lxL_law 54 7 rfl) (lxL_law 54 8 rfl)
set_option maxRecDepth 20000 in
theorem dL_law_873 : decode cL_law 873 = .ok (.iconst 1, 1) := dc_4 (lxL_law 54 9 rfl)
set_option maxRecDepth 20000 in
theorem dL_law_874 : decode cL_law 874 = .ok (.iadd, 1) := dc_96 (lxL_law 54 10 rfl)
set_option maxRecDepth 20000 in
theorem dL_law_875 : decode cL_law 875 = .ok (.iaload, 1) := dc_46 (lxL_law 54 11 rfl)
set_option maxRecDepth 20000 in
theorem dL_law_876 : decode cL_law 876 = .ok (.invokevirtual 223, 3) := dc_182 0 223 (lxL_law 54 12 rfl) (lxL_law 54 13 rfl) (lxL_law 54 14 rfl)
set_option maxRecDepth 20000 in
theorem dL_law_879 : decode cL_law 879 = .ok (.istore 6, 2) := dc_54 6 (lxL_law 54 15 rfl) (lxL_law 55 0 rfl)
set_option maxRecDepth 20000 in
theorem dL_law_881 : decode cL_law 881 = .ok (.goto 1123, 3) := dc_167 4 99 (lxL_law 55 1 rfl) (lxL_law 55 2 rfl) (lxL_law 55 3 rfl)
set_option maxRecDepth 20000 in
theorem dL_law_884 : decode cL_law 884 = .ok (.aload_n 1, 1) := dc_43 (lxL_law 55 4 rfl)
set_option maxRecDepth 20000 in
theorem dL_law_885 : decode cL_law 885 = .ok (.aload_n 0, 1) := dc_42 (lxL_law 55 5 rfl)
set_option maxRecDepth 20000 in
theorem dL_law_886 : decode cL_law 886 = .ok (.iload 4, 2) := dc_21 4 (lxL_law 55 6 rfl) (lxL_law 55 7 rfl)
set_option maxRecDepth 20000 in
theorem dL_law_888 : decode cL_law 888 = .ok (.iconst 1, 1) := dc_4 (lxL_law 55 8 rfl)
set_option maxRecDepth 20000 in
theorem dL_law_889 : decode cL_law 889 = .ok (.iadd, 1) := dc_96 (lxL_law 55 9 rfl)
set_option maxRecDepth 20000 in
theorem dL_law_890 : decode cL_law 890 = .ok (.iaload, 1) := dc_46 (lxL_law 55 10 rfl)
set_option maxRecDepth 20000 in
theorem dL_law_891 : decode cL_law 891 = .ok (.aload_n 3, 1) := dc_45 (lxL_law 55 11 rfl)
set_option maxRecDepth 20000 in
theorem dL_law_892 : decode cL_law 892 = .ok (.invokestatic 224, 3) := dc_184 0 224 (lxL_law 55 12 rfl) (lxL_law 55 13 rfl) (lxL_law 55 14 rfl)
set_option maxRecDepth 20000 in
theorem dL_law_895 : decode cL_law 895 = .ok (.istore 5, 2) := dc_54 5 (lxL_law 55 15 rfl) (lxL_law 56 0 rfl)
set_option maxRecDepth 20000 in
theorem dL_law_897 : decode cL_law 897 = .ok (.aload_n 2, 1) := dc_44 (lxL_law 56 1 rfl)
set_option maxRecDepth 20000 in
theorem dL_law_898 : decode cL_law 898 = .ok (.aload_n 0, 1) := dc_42 (lxL_law 56 2 rfl)
set_option maxRecDepth 20000 in
theorem dL_law_899 : decode cL_law 899 = .ok (.iload 4, 2) := dc_21 4 (lxL_law 56 3 rfl) (lxL_law 56 4 rfl)
set_option maxRecDepth 20000 in
theorem dL_law_901 : decode cL_law 901 = .ok (.iconst 1, 1) := dc_4 (lxL_law 56 5 rfl)
set_option maxRecDepth 20000 in
theorem dL_law_902 : decode cL_law 902 = .ok (.iadd, 1) := dc_96 (lxL_law 56 6 rfl)
set_option maxRecDepth 20000 in
theorem dL_law_903 : decode cL_law 903 = .ok (.iaload, 1) := dc_46 (lxL_law 56 7 rfl)
set_option maxRecDepth 20000 in
theorem dL_law_904 : decode cL_law 904 = .ok (.invokevirtual 226, 3) := dc_182 0 226 (lxL_law 56 8 rfl) (lxL_law 56 9 rfl) (lxL_law 56 10 rfl)
set_option maxRecDepth 20000 in
theorem dL_law_907 : decode cL_law 907 = .ok (.istore 6, 2) := dc_54 6 (lxL_law 56 11 rfl) (lxL_law 56 12 rfl)
set_option maxRecDepth 20000 in
theorem dL_law_909 : decode cL_law 909 = .ok (.goto 1095, 3) := dc_167 4 71 (lxL_law 56 13 rfl) (lxL_law 56 14 rfl) (lxL_law 56 15 rfl)
set_option maxRecDepth 20000 in
theorem dL_law_912 : decode cL_law 912 = .ok (.aload_n 1, 1) := dc_43 (lxL_law 57 0 rfl)
set_option maxRecDepth 20000 in
theorem dL_law_913 : decode cL_law 913 = .ok (.aload_n 0, 1) := dc_42 (lxL_law 57 1 rfl)
set_option maxRecDepth 20000 in
theorem dL_law_914 : decode cL_law 914 = .ok (.iload 4, 2) := dc_21 4 (lxL_law 57 2 rfl) (lxL_law 57 3 rfl)
set_option maxRecDepth 20000 in
theorem dL_law_916 : decode cL_law 916 = .ok (.iconst 1, 1) := dc_4 (lxL_law 57 4 rfl)
set_option maxRecDepth 20000 in
theorem dL_law_917 : decode cL_law 917 = .ok (.iadd, 1) := dc_96 (lxL_law 57 5 rfl)
set_option maxRecDepth 20000 in
theorem dL_law_918 : decode cL_law 918 = .ok (.iaload, 1) := dc_46 (lxL_law 57 6 rfl)
set_option maxRecDepth 20000 in
theorem dL_law_919 : decode cL_law 919 = .ok (.aload_n 3, 1) := dc_45 (lxL_law 57 7 rfl)
set_option maxRecDepth 20000 in
theorem dL_law_920 : decode cL_law 920 = .ok (.invokestatic 227, 3) := dc_184 0 227 (lxL_law 57 8 rfl) (lxL_law 57 9 rfl) (lxL_law 57 10 rfl)
set_option maxRecDepth 20000 in
theorem dL_law_923 : decode cL_law 923 = .ok (.istore 5, 2) := dc_54 5 (lxL_law 57 11 rfl) (lxL_law 57 12 rfl)
set_option maxRecDepth 20000 in
theorem dL_law_925 : decode cL_law 925 = .ok (.aload_n 2, 1) := dc_44 (lxL_law 57 13 rfl)
set_option maxRecDepth 20000 in
theorem dL_law_926 : decode cL_law 926 = .ok (.aload_n 0, 1) := dc_42 (lxL_law 57 14 rfl)
set_option maxRecDepth 20000 in
theorem dL_law_927 : decode cL_law 927 = .ok (.iload 4, 2) := dc_21 4 (lxL_law 57 15 rfl) (lxL_law 58 0 rfl)
set_option maxRecDepth 20000 in
theorem dL_law_929 : decode cL_law 929 = .ok (.iconst 1, 1) := dc_4 (lxL_law 58 1 rfl)
set_option maxRecDepth 20000 in
theorem dL_law_930 : decode cL_law 930 = .ok (.iadd, 1) := dc_96 (lxL_law 58 2 rfl)
set_option maxRecDepth 20000 in
theorem dL_law_931 : decode cL_law 931 = .ok (.iaload, 1) := dc_46 (lxL_law 58 3 rfl)
set_option maxRecDepth 20000 in
theorem dL_law_932 : decode cL_law 932 = .ok (.invokevirtual 229, 3) := dc_182 0 229 (lxL_law 58 4 rfl) (lxL_law 58 5 rfl) (lxL_law 58 6 rfl)
set_option maxRecDepth 20000 in
theorem dL_law_935 : decode cL_law 935 = .ok (.istore 6, 2) := dc_54 6 (lxL_law 58 7 rfl) (lxL_law 58 8 rfl)
set_option maxRecDepth 20000 in
theorem dL_law_937 : decode cL_law 937 = .ok (.goto 1067, 3) := dc_167 4 43 (lxL_law 58 9 rfl) (lxL_law 58 10 rfl) (lxL_law 58 11 rfl)
set_option maxRecDepth 20000 in
theorem dL_law_940 : decode cL_law 940 = .ok (.aload_n 1, 1) := dc_43 (lxL_law 58 12 rfl)
set_option maxRecDepth 20000 in
theorem dL_law_941 : decode cL_law 941 = .ok (.aload_n 0, 1) := dc_42 (lxL_law 58 13 rfl)
set_option maxRecDepth 20000 in
theorem dL_law_942 : decode cL_law 942 = .ok (.iload 4, 2) := dc_21 4 (lxL_law 58 14 rfl) (lxL_law 58 15 rfl)
set_option maxRecDepth 20000 in
theorem dL_law_944 : decode cL_law 944 = .ok (.iconst 1, 1) := dc_4 (lxL_law 59 0 rfl)
set_option maxRecDepth 20000 in
theorem dL_law_945 : decode cL_law 945 = .ok (.iadd, 1) := dc_96 (lxL_law 59 1 rfl)
set_option maxRecDepth 20000 in
theorem dL_law_946 : decode cL_law 946 = .ok (.iaload, 1) := dc_46 (lxL_law 59 2 rfl)
set_option maxRecDepth 20000 in
theorem dL_law_947 : decode cL_law 947 = .ok (.aload_n 3, 1) := dc_45 (lxL_law 59 3 rfl)
set_option maxRecDepth 20000 in
theorem dL_law_948 : decode cL_law 948 = .ok (.invokestatic 230, 3) := dc_184 0 230 (lxL_law 59 4 rfl) (lxL_law 59 5 rfl) (lxL_law 59 6 rfl)
set_option maxRecDepth 20000 in
theorem dL_law_951 : decode cL_law 951 = .ok (.istore 5, 2) := dc_54 5 (lxL_law 59 7 rfl) (lxL_law 59 8 rfl)
set_option maxRecDepth 20000 in
theorem dL_law_953 : decode cL_law 953 = .ok (.aload_n 2, 1) := dc_44 (lxL_law 59 9 rfl)
set_option maxRecDepth 20000 in
theorem dL_law_954 : decode cL_law 954 = .ok (.aload_n 0, 1) := dc_42 (lxL_law 59 10 rfl)
set_option maxRecDepth 20000 in
theorem dL_law_955 : decode cL_law 955 = .ok (.iload 4, 2) := dc_21 4 (lxL_law 59 11 rfl) (lxL_law 59 12 rfl)
set_option maxRecDepth 20000 in
theorem dL_law_957 : decode cL_law 957 = .ok (.iconst 1, 1) := dc_4 (lxL_law 59 13 rfl)
set_option maxRecDepth 20000 in
theorem dL_law_958 : decode cL_law 958 = .ok (.iadd, 1) := dc_96 (lxL_law 59 14 rfl)
set_option maxRecDepth 20000 in
theorem dL_law_959 : decode cL_law 959 = .ok (.iaload, 1) := dc_46 (lxL_law 59 15 rfl)
set_option maxRecDepth 20000 in
theorem dL_law_960 : decode cL_law 960 = .ok (.invokevirtual 232, 3) := dc_182 0 232 (lxL_law 60 0 rfl) (lxL_law 60 1 rfl) (lxL_law 60 2 rfl)
set_option maxRecDepth 20000 in
theorem dL_law_963 : decode cL_law 963 = .ok (.istore 6, 2) := dc_54 6 (lxL_law 60 3 rfl) (lxL_law 60 4 rfl)
set_option maxRecDepth 20000 in
theorem dL_law_965 : decode cL_law 965 = .ok (.goto 1039, 3) := dc_167 4 15 (lxL_law 60 5 rfl) (lxL_law 60 6 rfl) (lxL_law 60 7 rfl)
set_option maxRecDepth 20000 in
theorem dL_law_968 : decode cL_law 968 = .ok (.aload_n 1, 1) := dc_43 (lxL_law 60 8 rfl)
set_option maxRecDepth 20000 in
theorem dL_law_969 : decode cL_law 969 = .ok (.invokevirtual 233, 3) := dc_182 0 233 (lxL_law 60 9 rfl) (lxL_law 60 10 rfl) (lxL_law 60 11 rfl)
set_option maxRecDepth 20000 in
theorem dL_law_972 : decode cL_law 972 = .ok (.pop, 1) := dc_87 (lxL_law 60 12 rfl)
set_option maxRecDepth 20000 in
theorem dL_law_973 : decode cL_law 973 = .ok (.aload_n 2, 1) := dc_44 (lxL_law 60 13 rfl)
set_option maxRecDepth 20000 in
theorem dL_law_974 : decode cL_law 974 = .ok (.invokevirtual 237, 3) := dc_182 0 237 (lxL_law 60 14 rfl) (lxL_law 60 15 rfl) (lxL_law 61 0 rfl)
set_option maxRecDepth 20000 in
theorem dL_law_977 : decode cL_law 977 = .ok (.pop, 1) := dc_87 (lxL_law 61 1 rfl)
set_option maxRecDepth 20000 in
theorem dL_law_978 : decode cL_law 978 = .ok (.goto 1026, 3) := dc_167 4 2 (lxL_law 61 2 rfl) (lxL_law 61 3 rfl) (lxL_law 61 4 rfl)
set_option maxRecDepth 20000 in
theorem dL_law_981 : decode cL_law 981 = .ok (.aload_n 1, 1) := dc_43 (lxL_law 61 5 rfl)
set_option maxRecDepth 20000 in
theorem dL_law_982 : decode cL_law 982 = .ok (.aload_n 0, 1) := dc_42 (lxL_law 61 6 rfl)
set_option maxRecDepth 20000 in
theorem dL_law_983 : decode cL_law 983 = .ok (.iload 4, 2) := dc_21 4 (lxL_law 61 7 rfl) (lxL_law 61 8 rfl)
set_option maxRecDepth 20000 in
theorem dL_law_985 : decode cL_law 985 = .ok (.iconst 1, 1) := dc_4 (lxL_law 61 9 rfl)
set_option maxRecDepth 20000 in
theorem dL_law_986 : decode cL_law 986 = .ok (.iadd, 1) := dc_96 (lxL_law 61 10 rfl)
set_option maxRecDepth 20000 in
theorem dL_law_987 : decode cL_law 987 = .ok (.iaload, 1) := dc_46 (lxL_law 61 11 rfl)
set_option maxRecDepth 20000 in
theorem dL_law_988 : decode cL_law 988 = .ok (.aload_n 0, 1) := dc_42 (lxL_law 61 12 rfl)
set_option maxRecDepth 20000 in
theorem dL_law_989 : decode cL_law 989 = .ok (.iload 4, 2) := dc_21 4 (lxL_law 61 13 rfl) (lxL_law 61 14 rfl)
set_option maxRecDepth 20000 in
theorem dL_law_991 : decode cL_law 991 = .ok (.iconst 2, 1) := dc_5 (lxL_law 61 15 rfl)
set_option maxRecDepth 20000 in
theorem dL_law_992 : decode cL_law 992 = .ok (.iadd, 1) := dc_96 (lxL_law 62 0 rfl)
set_option maxRecDepth 20000 in
theorem dL_law_993 : decode cL_law 993 = .ok (.iaload, 1) := dc_46 (lxL_law 62 1 rfl)
set_option maxRecDepth 20000 in
theorem dL_law_994 : decode cL_law 994 = .ok (.aload_n 3, 1) := dc_45 (lxL_law 62 2 rfl)
set_option maxRecDepth 20000 in
theorem dL_law_995 : decode cL_law 995 = .ok (.invokestatic 238, 3) := dc_184 0 238 (lxL_law 62 3 rfl) (lxL_law 62 4 rfl) (lxL_law 62 5 rfl)
set_option maxRecDepth 20000 in
theorem dL_law_998 : decode cL_law 998 = .ok (.istore 5, 2) := dc_54 5 (lxL_law 62 6 rfl) (lxL_law 62 7 rfl)
set_option maxRecDepth 20000 in
theorem dL_law_1000 : decode cL_law 1000 = .ok (.aload_n 2, 1) := dc_44 (lxL_law 62 8 rfl)
set_option maxRecDepth 20000 in
theorem dL_law_1001 : decode cL_law 1001 = .ok (.aload_n 0, 1) := dc_42 (lxL_law 62 9 rfl)
set_option maxRecDepth 20000 in
theorem dL_law_1002 : decode cL_law 1002 = .ok (.iload 4, 2) := dc_21 4 (lxL_law 62 10 rfl) (lxL_law 62 11 rfl)
set_option maxRecDepth 20000 in
theorem dL_law_1004 : decode cL_law 1004 = .ok (.iconst 1, 1) := dc_4 (lxL_law 62 12 rfl)
set_option maxRecDepth 20000 in
theorem dL_law_1005 : decode cL_law 1005 = .ok (.iadd, 1) := dc_96 (lxL_law 62 13 rfl)
set_option maxRecDepth 20000 in
theorem dL_law_1006 : decode cL_law 1006 = .ok (.iaload, 1) := dc_46 (lxL_law 62 14 rfl)
set_option maxRecDepth 20000 in
theorem dL_law_1007 : decode cL_law 1007 = .ok (.aload_n 0, 1) := dc_42 (lxL_law 62 15 rfl)
set_option maxRecDepth 20000 in
theorem dL_law_1008 : decode cL_law 1008 = .ok (.iload 4, 2) := dc_21 4 (lxL_law 63 0 rfl) (lxL_law 63 1 rfl)
set_option maxRecDepth 20000 in
theorem dL_law_1010 : decode cL_law 1010 = .ok (.iconst 2, 1) := dc_5 (lxL_law 63 2 rfl)
set_option maxRecDepth 20000 in
theorem dL_law_1011 : decode cL_law 1011 = .ok (.iadd, 1) := dc_96 (lxL_law 63 3 rfl)
set_option maxRecDepth 20000 in
theorem dL_law_1012 : decode cL_law 1012 = .ok (.iaload, 1) := dc_46 (lxL_law 63 4 rfl)
set_option maxRecDepth 20000 in
theorem dL_law_1013 : decode cL_law 1013 = .ok (.invokevirtual 240, 3) := dc_182 0 240 (lxL_law 63 5 rfl) (lxL_law 63 6 rfl) (lxL_law 63 7 rfl)
set_option maxRecDepth 20000 in
theorem dL_law_1016 : decode cL_law 1016 = .ok (.istore 6, 2) := dc_54 6 (lxL_law 63 8 rfl) (lxL_law 63 9 rfl)
set_option maxRecDepth 20000 in
theorem dL_law_1018 : decode cL_law 1018 = .ok (.goto 986, 3) := dc_167 3 218 (lxL_law 63 10 rfl) (lxL_law 63 11 rfl) (lxL_law 63 12 rfl)
set_option maxRecDepth 20000 in
theorem dL_law_1021 : decode cL_law 1021 = .ok (.aload_n 1, 1) := dc_43 (lxL_law 63 13 rfl)
set_option maxRecDepth 20000 in
theorem dL_law_1022 : decode cL_law 1022 = .ok (.aload_n 0, 1) := dc_42 (lxL_law 63 14 rfl)
set_option maxRecDepth 20000 in
theorem dL_law_1023 : decode cL_law 1023 = .ok (.iload 4, 2) := dc_21 4 (lxL_law 63 15 rfl) (lxL_law 64 0 rfl)
set_option maxRecDepth 20000 in
theorem dL_law_1025 : decode cL_law 1025 = .ok (.iconst 1, 1) := dc_4 (lxL_law 64 1 rfl)
set_option maxRecDepth 20000 in
theorem dL_law_1026 : decode cL_law 1026 = .ok (.iadd, 1) := dc_96 (lxL_law 64 2 rfl)
set_option maxRecDepth 20000 in
theorem dL_law_1027 : decode cL_law 1027 = .ok (.iaload, 1) := dc_46 (lxL_law 64 3 rfl)
set_option maxRecDepth 20000 in
theorem dL_law_1028 : decode cL_law 1028 = .ok (.aload_n 3, 1) := dc_45 (lxL_law 64 4 rfl)
set_option maxRecDepth 20000 in
theorem dL_law_1029 : decode cL_law 1029 = .ok (.invokestatic 241, 3) := dc_184 0 241 (lxL_law 64 5 rfl) (lxL_law 64 6 rfl) (lxL_law 64 7 rfl)
set_option maxRecDepth 20000 in
theorem dL_law_1032 : decode cL_law 1032 = .ok (.istore 5, 2) := dc_54 5 (lxL_law 64 8 rfl) (lxL_law 64 9 rfl)
set_option maxRecDepth 20000 in
theorem dL_law_1034 : decode cL_law 1034 = .ok (.aload_n 2, 1) := dc_44 (lxL_law 64 10 rfl)
set_option maxRecDepth 20000 in
theorem dL_law_1035 : decode cL_law 1035 = .ok (.aload_n 0, 1) := dc_42 (lxL_law 64 11 rfl)
set_option maxRecDepth 20000 in
theorem dL_law_1036 : decode cL_law 1036 = .ok (.iload 4, 2) := dc_21 4 (lxL_law 64 12 rfl) (lxL_law 64 13 rfl)
set_option maxRecDepth 20000 in
theorem dL_law_1038 : decode cL_law 1038 = .ok (.iconst 1, 1) := dc_4 (lxL_law 64 14 rfl)
set_option maxRecDepth 20000 in
theorem dL_law_1039 : decode cL_law 1039 = .ok (.iadd, 1) := dc_96 (lxL_law 64 15 rfl)
set_option maxRecDepth 20000 in
theorem dL_law_1040 : decode cL_law 1040 = .ok (.iaload, 1) := dc_46 (lxL_law 65 0 rfl)
set_option maxRecDepth 20000 in
theorem dL_law_1041 : decode cL_law 1041 = .ok (.invokevirtual 243, 3) := dc_182 0 243 (lxL_law 65 1 rfl) (lxL_law 65 2 rfl) (lxL_law 65 3 rfl)
set_option maxRecDepth 20000 in
theorem dL_law_1044 : decode cL_law 1044 = .ok (.istore 6, 2) := dc_54 6 (lxL_law 65 4 rfl) (lxL_law 65 5 rfl)
set_option maxRecDepth 20000 in
theorem dL_law_1046 : decode cL_law 1046 = .ok (.goto 958, 3) := dc_167 3 190 (lxL_law 65 6 rfl) (lxL_law 65 7 rfl) (lxL_law 65 8 rfl)
set_option maxRecDepth 20000 in
theorem dL_law_1049 : decode cL_law 1049 = .ok (.aload_n 1, 1) := dc_43 (lxL_law 65 9 rfl)
set_option maxRecDepth 20000 in
theorem dL_law_1050 : decode cL_law 1050 = .ok (.aload_n 0, 1) := dc_42 (lxL_law 65 10 rfl)
set_option maxRecDepth 20000 in
theorem dL_law_1051 : decode cL_law 1051 = .ok (.iload 4, 2) := dc_21 4 (lxL_law 65 11 rfl) (lxL_law 65 12 rfl)
set_option maxRecDepth 20000 in
theorem dL_law_1053 : decode cL_law 1053 = .ok (.iconst 1, 1) := dc_4 (lxL_law 65 13 rfl)
set_option maxRecDepth 20000 in
theorem dL_law_1054 : decode cL_law 1054 = .ok (.iadd, 1) := dc_96 (lxL_law 65 14 rfl)
set_option maxRecDepth 20000 in
theorem dL_law_1055 : decode cL_law 1055 = .ok (.iaload, 1) := dc_46 (lxL_law 65 15 rfl)
set_option maxRecDepth 20000 in
theorem dL_law_1056 : decode cL_law 1056 = .ok (.aload_n 0, 1) := dc_42 (lxL_law 66 0 rfl)
set_option maxRecDepth 20000 in
theorem dL_law_1057 : decode cL_law 1057 = .ok (.iload 4, 2) := dc_21 4 (lxL_law 66 1 rfl) (lxL_law 66 2 rfl)
set_option maxRecDepth 20000 in
theorem dL_law_1059 : decode cL_law 1059 = .ok (.iconst 2, 1) := dc_5 (lxL_law 66 3 rfl)
set_option maxRecDepth 20000 in
theorem dL_law_1060 : decode cL_law 1060 = .ok (.iadd, 1) := dc_96 (lxL_law 66 4 rfl)
set_option maxRecDepth 20000 in
theorem dL_law_1061 : decode cL_law 1061 = .ok (.iaload, 1) := dc_46 (lxL_law 66 5 rfl)
set_option maxRecDepth 20000 in
theorem dL_law_1062 : decode cL_law 1062 = .ok (.aload_n 3, 1) := dc_45 (lxL_law 66 6 rfl)
set_option maxRecDepth 20000 in
theorem dL_law_1063 : decode cL_law 1063 = .ok (.invokestatic 244, 3) := dc_184 0 244 (lxL_law 66 7 rfl) (lxL_law 66 8 rfl) (lxL_law 66 9 rfl)
set_option maxRecDepth 20000 in
theorem dL_law_1066 : decode cL_law 1066 = .ok (.istore 5, 2) := dc_54 5 (lxL_law 66 10 rfl) (lxL_law 66 11 rfl)
set_option maxRecDepth 20000 in
theorem dL_law_1068 : decode cL_law 1068 = .ok (.aload_n 2, 1) := dc_44 (lxL_law 66 12 rfl)
set_option maxRecDepth 20000 in
theorem dL_law_1069 : decode cL_law 1069 = .ok (.aload_n 0, 1) := dc_42 (lxL_law 66 13 rfl)
set_option maxRecDepth 20000 in
theorem dL_law_1070 : decode cL_law 1070 = .ok (.iload 4, 2) := dc_21 4 (lxL_law 66 14 rfl) (lxL_law 66 15 rfl)
set_option maxRecDepth 20000 in
theorem dL_law_1072 : decode cL_law 1072 = .ok (.iconst 1, 1) := dc_4 (lxL_law 67 0 rfl)
set_option maxRecDepth 20000 in
theorem dL_law_1073 : decode cL_law 1073 = .ok (.iadd, 1) := dc_96 (lxL_law 67 1 rfl)
set_option maxRecDepth 20000 in
theorem dL_law_1074 : decode cL_law 1074 = .ok (.iaload, 1) := dc_46 (lxL_law 67 2 rfl)
set_option maxRecDepth 20000 in
theorem dL_law_1075 : decode cL_law 1075 = .ok (.aload_n 0, 1) := dc_42 (lxL_law 67 3 rfl)
set_option maxRecDepth 20000 in
theorem dL_law_1076 : decode cL_law 1076 = .ok (.iload 4, 2) := dc_21 4 (lxL_law 67 4 rfl) (lxL_law 67 5 rfl)
set_option maxRecDepth 20000 in
theorem dL_law_1078 : decode cL_law 1078 = .ok (.iconst 2, 1) := dc_5 (lxL_law 67 6 rfl)
set_option maxRecDepth 20000 in
theorem dL_law_1079 : decode cL_law 1079 = .ok (.iadd, 1) := dc_96 (lxL_law 67 7 rfl)
set_option maxRecDepth 20000 in
theorem dL_law_1080 : decode cL_law 1080 = .ok (.iaload, 1) := dc_46 (lxL_law 67 8 rfl)
set_option maxRecDepth 20000 in
theorem dL_law_1081 : decode cL_law 1081 = .ok (.invokevirtual 246, 3) := dc_182 0 246 (lxL_law 67 9 rfl) (lxL_law 67 10 rfl) (lxL_law 67 11 rfl)
set_option maxRecDepth 20000 in
theorem dL_law_1084 : decode cL_law 1084 = .ok (.istore 6, 2) := dc_54 6 (lxL_law 67 12 rfl) (lxL_law 67 13 rfl)
set_option maxRecDepth 20000 in
theorem dL_law_1086 : decode cL_law 1086 = .ok (.goto 918, 3) := dc_167 3 150 (lxL_law 67 14 rfl) (lxL_law 67 15 rfl) (lxL_law 68 0 rfl)
set_option maxRecDepth 20000 in
theorem dL_law_1089 : decode cL_law 1089 = .ok (.aload_n 1, 1) := dc_43 (lxL_law 68 1 rfl)
set_option maxRecDepth 20000 in
theorem dL_law_1090 : decode cL_law 1090 = .ok (.aload_n 0, 1) := dc_42 (lxL_law 68 2 rfl)
set_option maxRecDepth 20000 in
theorem dL_law_1091 : decode cL_law 1091 = .ok (.iload 4, 2) := dc_21 4 (lxL_law 68 3 rfl) (lxL_law 68 4 rfl)
set_option maxRecDepth 20000 in
theorem dL_law_1093 : decode cL_law 1093 = .ok (.iconst 1, 1) := dc_4 (lxL_law 68 5 rfl)
set_option maxRecDepth 20000 in
theorem dL_law_1094 : decode cL_law 1094 = .ok (.iadd, 1) := dc_96 (lxL_law 68 6 rfl)
set_option maxRecDepth 20000 in
theorem dL_law_1095 : decode cL_law 1095 = .ok (.iaload, 1) := dc_46 (lxL_law 68 7 rfl)
set_option maxRecDepth 20000 in
theorem dL_law_1096 : decode cL_law 1096 = .ok (.aload_n 3, 1) := dc_45 (lxL_law 68 8 rfl)
set_option maxRecDepth 20000 in
theorem dL_law_1097 : decode cL_law 1097 = .ok (.invokestatic 247, 3) := dc_184 0 247 (lxL_law 68 9 rfl) (lxL_law 68 10 rfl) (lxL_law 68 11 rfl)
set_option maxRecDepth 20000 in
theorem dL_law_1100 : decode cL_law 1100 = .ok (.istore 5, 2) := dc_54 5 (lxL_law 68 12 rfl) (lxL_law 68 13 rfl)
set_option maxRecDepth 20000 in
theorem dL_law_1102 : decode cL_law 1102 = .ok (.aload_n 2, 1) := dc_44 (lxL_law 68 14 rfl)
set_option maxRecDepth 20000 in
theorem dL_law_1103 : decode cL_law 1103 = .ok (.aload_n 0, 1) := dc_42 (lxL_law 68 15 rfl)
set_option maxRecDepth 20000 in
theorem dL_law_1104 : decode cL_law 1104 = .ok (.iload 4, 2) := dc_21 4 (lxL_law 69 0 rfl) (lxL_law 69 1 rfl)
set_option maxRecDepth 20000 in
theorem dL_law_1106 : decode cL_law 1106 = .ok (.iconst 1, 1) := dc_4 (lxL_law 69 2 rfl)
set_option maxRecDepth 20000 in
theorem dL_law_1107 : decode cL_law 1107 = .ok (.iadd, 1) := dc_96 (lxL_law 69 3 rfl)
set_option maxRecDepth 20000 in
theorem dL_law_1108 : decode cL_law 1108 = .ok (.iaload, 1) := dc_46 (lxL_law 69 4 rfl)
set_option maxRecDepth 20000 in
theorem dL_law_1109 : decode cL_law 1109 = .ok (.invokevirtual 249, 3) := dc_182 0 249 (lxL_law 69 5 rfl) (lxL_law 69 6 rfl) (lxL_law 69 7 rfl)
set_option maxRecDepth 20000 in
theorem dL_law_1112 : decode cL_law 1112 = .ok (.astore 6, 2) := dc_58 6 (lxL_law 69 8 rfl) (lxL_law 69 9 rfl)
set_option maxRecDepth 20000 in
theorem dL_law_1114 : decode cL_law 1114 = .ok (.goto 890, 3) := dc_167 3 122 (lxL_law 69 10 rfl) (lxL_law 69 11 rfl) (lxL_law 69 12 rfl)
set_option maxRecDepth 20000 in
theorem dL_law_1117 : decode cL_law 1117 = .ok (.aload_n 1, 1) := dc_43 (lxL_law 69 13 rfl)
set_option maxRecDepth 20000 in
theorem dL_law_1118 : decode cL_law 1118 = .ok (.aload_n 0, 1) := dc_42 (lxL_law 69 14 rfl)
set_option maxRecDepth 20000 in
theorem dL_law_1119 : decode cL_law 1119 = .ok (.iload 4, 2) := dc_21 4 (lxL_law 69 15 rfl) (lxL_law 70 0 rfl)
set_option maxRecDepth 20000 in
theorem dL_law_1121 : decode cL_law 1121 = .ok (.iconst 1, 1) := dc_4 (lxL_law 70 1 rfl)
set_option maxRecDepth 20000 in
theorem dL_law_1122 : decode cL_law 1122 = .ok (.iadd, 1) := dc_96 (lxL_law 70 2 rfl)
set_option maxRecDepth 20000 in
theorem dL_law_1123 : decode cL_law 1123 = .ok (.iaload, 1) := dc_46 (lxL_law 70 3 rfl)
set_option maxRecDepth 20000 in
theorem dL_law_1124 : decode cL_law 1124 = .ok (.aload_n 0, 1) := dc_42 (lxL_law 70 4 rfl)
set_option maxRecDepth 20000 in
theorem dL_law_1125 : decode cL_law 1125 = .ok (.iload 4, 2) := dc_21 4 (lxL_law 70 5 rfl) (lxL_law 70 6 rfl)
set_option maxRecDepth 20000 in
theorem dL_law_1127 : decode cL_law 1127 = .ok (.iconst 2, 1) := dc_5 (lxL_law 70 7 rfl)
set_option maxRecDepth 20000 in
theorem dL_law_1128 : decode cL_law 1128 = .ok (.iadd, 1) := dc_96 (lxL_law 70 8 rfl)
set_option maxRecDepth 20000 in
theorem dL_law_1129 : decode cL_law 1129 = .ok (.iaload, 1) := dc_46 (lxL_law 70 9 rfl)
set_option maxRecDepth 20000 in
theorem dL_law_1130 : decode cL_law 1130 = .ok (.aload_n 0, 1) := dc_42 (lxL_law 70 10 rfl)
set_option maxRecDepth 20000 in
theorem dL_law_1131 : decode cL_law 1131 = .ok (.iload 4, 2) := dc_21 4 (lxL_law 70 11 rfl) (lxL_law 70 12 rfl)
set_option maxRecDepth 20000 in
theorem dL_law_1133 : decode cL_law 1133 = .ok (.iconst 3, 1) := dc_6 (lxL_law 70 13 rfl)
set_option maxRecDepth 20000 in
theorem dL_law_1134 : decode cL_law 1134 = .ok (.iadd, 1) := dc_96 (lxL_law 70 14 rfl)
set_option maxRecDepth 20000 in
theorem dL_law_1135 : decode cL_law 1135 = .ok (.iaload, 1) := dc_46 (lxL_law 70 15 rfl)
set_option maxRecDepth 20000 in
theorem dL_law_1136 : decode cL_law 1136 = .ok (.aload_n 3, 1) := dc_45 (lxL_law 71 0 rfl)
set_option maxRecDepth 20000 in
theorem dL_law_1137 : decode cL_law 1137 = .ok (.invokestatic 250, 3) := dc_184 0 250 (lxL_law 71 1 rfl) (lxL_law 71 2 rfl) (lxL_law 71 3 rfl)
set_option maxRecDepth 20000 in
theorem dL_law_1140 : decode cL_law 1140 = .ok (.istore 5, 2) := dc_54 5 (lxL_law 71 4 rfl) (lxL_law 71 5 rfl)
set_option maxRecDepth 20000 in
theorem dL_law_1142 : decode cL_law 1142 = .ok (.aload_n 2, 1) := dc_44 (lxL_law 71 6 rfl)
set_option maxRecDepth 20000 in
theorem dL_law_1143 : decode cL_law 1143 = .ok (.aload_n 0, 1) := dc_42 (lxL_law 71 7 rfl)
set_option maxRecDepth 20000 in
theorem dL_law_1144 : decode cL_law 1144 = .ok (.iload 4, 2) := dc_21 4 (lxL_law 71 8 rfl) (lxL_law 71 9 rfl)
set_option maxRecDepth 20000 in
theorem dL_law_1146 : decode cL_law 1146 = .ok (.iconst 1, 1) := dc_4 (lxL_law 71 10 rfl)
set_option maxRecDepth 20000 in
theorem dL_law_1147 : decode cL_law 1147 = .ok (.iadd, 1) := dc_96 (lxL_law 71 11 rfl)
set_option maxRecDepth 20000 in
theorem dL_law_1148 : decode cL_law 1148 = .ok (.iaload, 1) := dc_46 (lxL_law 71 12 rfl)
set_option maxRecDepth 20000 in
theorem dL_law_1149 : decode cL_law 1149 = .ok (.aload_n 0, 1) := dc_42 (lxL_law 71 13 rfl)
set_option maxRecDepth 20000 in
theorem dL_law_1150 : decode cL_law 1150 = .ok (.iload 4, 2) := dc_21 4 (lxL_law 71 14 rfl) (lxL_law 71 15 rfl)
set_option maxRecDepth 20000 in
theorem dL_law_1152 : decode cL_law 1152 = .ok (.iconst 2, 1) := dc_5 (lxL_law 72 0 rfl)
set_option maxRecDepth 20000 in
theorem dL_law_1153 : decode cL_law 1153 = .ok (.iadd, 1) := dc_96 (lxL_law 72 1 rfl)
set_option maxRecDepth 20000 in
theorem dL_law_1154 : decode cL_law 1154 = .ok (.iaload, 1) := dc_46 (lxL_law 72 2 rfl)
set_option maxRecDepth 20000 in
theorem dL_law_1155 : decode cL_law 1155 = .ok (.aload_n 0, 1) := dc_42 (lxL_law 72 3 rfl)
set_option maxRecDepth 20000 in
theorem dL_law_1156 : decode cL_law 1156 = .ok (.iload 4, 2) := dc_21 4 (lxL_law 72 4 rfl) (lxL_law 72 5 rfl)
set_option maxRecDepth 20000 in
theorem dL_law_1158 : decode cL_law 1158 = .ok (.iconst 3, 1) := dc_6 (lxL_law 72 6 rfl)
set_option maxRecDepth 20000 in
theorem dL_law_1159 : decode cL_law 1159 = .ok (.iadd, 1) := dc_96 (lxL_law 72 7 rfl)
set_option maxRecDepth 20000 in
theorem dL_law_1160 : decode cL_law 1160 = .ok (.iaload, 1) := dc_46 (lxL_law 72 8 rfl)
set_option maxRecDepth 20000 in
theorem dL_law_1161 : decode cL_law 1161 = .ok (.invokevirtual 252, 3) := dc_182 0 252 (lxL_law 72 9 rfl) (lxL_law 72 10 rfl) (lxL_law 72 11 rfl)
set_option maxRecDepth 20000 in
theorem dL_law_1164 : decode cL_law 1164 = .ok (.astore 6, 2) := dc_58 6 (lxL_law 72 12 rfl) (lxL_law 72 13 rfl)
set_option maxRecDepth 20000 in
theorem dL_law_1166 : decode cL_law 1166 = .ok (.goto 838, 3) := dc_167 3 70 (lxL_law 72 14 rfl) (lxL_law 72 15 rfl) (lxL_law 73 0 rfl)
set_option maxRecDepth 20000 in
theorem dL_law_1169 : decode cL_law 1169 = .ok (.aload_n 1, 1) := dc_43 (lxL_law 73 1 rfl)
set_option maxRecDepth 20000 in
theorem dL_law_1170 : decode cL_law 1170 = .ok (.aload_n 0, 1) := dc_42 (lxL_law 73 2 rfl)
set_option maxRecDepth 20000 in
theorem dL_law_1171 : decode cL_law 1171 = .ok (.iload 4, 2) := dc_21 4 (lxL_law 73 3 rfl) (lxL_law 73 4 rfl)
set_option maxRecDepth 20000 in
theorem dL_law_1173 : decode cL_law 1173 = .ok (.iconst 1, 1) := dc_4 (lxL_law 73 5 rfl)
set_option maxRecDepth 20000 in
theorem dL_law_1174 : decode cL_law 1174 = .ok (.iadd, 1) := dc_96 (lxL_law 73 6 rfl)
set_option maxRecDepth 20000 in
theorem dL_law_1175 : decode cL_law 1175 = .ok (.iaload, 1) := dc_46 (lxL_law 73 7 rfl)
set_option maxRecDepth 20000 in
theorem dL_law_1176 : decode cL_law 1176 = .ok (.aload_n 0, 1) := dc_42 (lxL_law 73 8 rfl)
set_option maxRecDepth 20000 in
theorem dL_law_1177 : decode cL_law 1177 = .ok (.iload 4, 2) := dc_21 4 (lxL_law 73 9 rfl) (lxL_law 73 10 rfl)
set_option maxRecDepth 20000 in
theorem dL_law_1179 : decode cL_law 1179 = .ok (.iconst 2, 1) := dc_5 (lxL_law 73 11 rfl)
set_option maxRecDepth 20000 in
theorem dL_law_1180 : decode cL_law 1180 = .ok (.iadd, 1) := dc_96 (lxL_law 73 12 rfl)
set_option maxRecDepth 20000 in
theorem dL_law_1181 : decode cL_law 1181 = .ok (.iaload, 1) := dc_46 (lxL_law 73 13 rfl)
set_option maxRecDepth 20000 in
theorem dL_law_1182 : decode cL_law 1182 = .ok (.aload_n 3, 1) := dc_45 (lxL_law 73 14 rfl)
set_option maxRecDepth 20000 in
theorem dL_law_1183 : decode cL_law 1183 = .ok (.invokestatic 253, 3) := dc_184 0 253 (lxL_law 73 15 rfl) (lxL_law 74 0 rfl) (lxL_law 74 1 rfl)
set_option maxRecDepth 20000 in
theorem dL_law_1186 : decode cL_law 1186 = .ok (.istore 5, 2) := dc_54 5 (lxL_law 74 2 rfl) (lxL_law 74 3 rfl)
set_option maxRecDepth 20000 in
theorem dL_law_1188 : decode cL_law 1188 = .ok (.aload_n 2, 1) := dc_44 (lxL_law 74 4 rfl)
set_option maxRecDepth 20000 in
theorem dL_law_1189 : decode cL_law 1189 = .ok (.aload_n 0, 1) := dc_42 (lxL_law 74 5 rfl)
set_option maxRecDepth 20000 in
theorem dL_law_1190 : decode cL_law 1190 = .ok (.iload 4, 2) := dc_21 4 (lxL_law 74 6 rfl) (lxL_law 74 7 rfl)
set_option maxRecDepth 20000 in
theorem dL_law_1192 : decode cL_law 1192 = .ok (.iconst 1, 1) := dc_4 (lxL_law 74 8 rfl)
set_option maxRecDepth 20000 in
theorem dL_law_1193 : decode cL_law 1193 = .ok (.iadd, 1) := dc_96 (lxL_law 74 9 rfl)
set_option maxRecDepth 20000 in
theorem dL_law_1194 : decode cL_law 1194 = .ok (.iaload, 1) := dc_46 (lxL_law 74 10 rfl)
set_option maxRecDepth 20000 in
theorem dL_law_1195 : decode cL_law 1195 = .ok (.aload_n 0, 1) := dc_42 (lxL_law 74 11 rfl)
set_option maxRecDepth 20000 in
theorem dL_law_1196 : decode cL_law 1196 = .ok (.iload 4, 2) := dc_21 4 (lxL_law 74 12 rfl) (lxL_law 74 13 rfl)
set_option maxRecDepth 20000 in
theorem dL_law_1198 : decode cL_law 1198 = .ok (.iconst 2, 1) := dc_5 (lxL_law 74 14 rfl)
set_option maxRecDepth 20000 in
theorem dL_law_1199 : decode cL_law 1199 = .ok (.iadd, 1) := dc_96 (lxL_law 74 15 rfl)
set_option maxRecDepth 20000 in
theorem dL_law_1200 : decode cL_law 1200 = .ok (.iaload, 1) := dc_46 (lxL_law 75 0 rfl)
set_option maxRecDepth 20000 in
theorem dL_law_1201 : decode cL_law 1201 = .ok (.invokevirtual 255, 3) := dc_182 0 255 (lxL_law 75 1 rfl) (lxL_law 75 2 rfl) (lxL_law 75 3 rfl)
set_option maxRecDepth 20000 in
theorem dL_law_1204 : decode cL_law 1204 = .ok (.istore 6, 2) := dc_54 6 (lxL_law 75 4 rfl) (lxL_law 75 5 rfl)
set_option maxRecDepth 20000 in
theorem dL_law_1206 : decode cL_law 1206 = .ok (.goto 798, 3) := dc_167 3 30 (lxL_law 75 6 rfl) (lxL_law 75 7 rfl) (lxL_law 75 8 rfl)
set_option maxRecDepth 20000 in
theorem dL_law_1209 : decode cL_law 1209 = .ok (.aload_n 1, 1) := dc_43 (lxL_law 75 9 rfl)
set_option maxRecDepth 20000 in
theorem dL_law_1210 : decode cL_law 1210 = .ok (.aload_n 0, 1) := dc_42 (lxL_law 75 10 rfl)
set_option maxRecDepth 20000 in
theorem dL_law_1211 : decode cL_law 1211 = .ok (.iload 4, 2) := dc_21 4 (lxL_law 75 11 rfl) (lxL_law 75 12 rfl)
set_option maxRecDepth 20000 in
theorem dL_law_1213 : decode cL_law 1213 = .ok (.iconst 1, 1) := dc_4 (lxL_law 75 13 rfl)
set_option maxRecDepth 20000 in
theorem dL_law_1214 : decode cL_law 1214 = .ok (.iadd, 1) := dc_96 (lxL_law 75 14 rfl)
set_option maxRecDepth 20000 in
theorem dL_law_1215 : decode cL_law 1215 = .ok (.iaload, 1) := dc_46 (lxL_law 75 15 rfl)
set_option maxRecDepth 20000 in
theorem dL_law_1216 : decode cL_law 1216 = .ok (.aload_n 3, 1) := dc_45 (lxL_law 76 0 rfl)
set_option maxRecDepth 20000 in
theorem dL_law_1217 : decode cL_law 1217 = .ok (.invokestatic 256, 3) := dc_184 1 0 (lxL_law 76 1 rfl) (lxL_law 76 2 rfl) (lxL_law 76 3 rfl)
set_option maxRecDepth 20000 in
theorem dL_law_1220 : decode cL_law 1220 = .ok (.istore 5, 2) := dc_54 5 (lxL_law 76 4 rfl) (lxL_law 76 5 rfl)
set_option maxRecDepth 20000 in
theorem dL_law_1222 : decode cL_law 1222 = .ok (.aload_n 2, 1) := dc_44 (lxL_law 76 6 rfl)
set_option maxRecDepth 20000 in
theorem dL_law_1223 : decode cL_law 1223 = .ok (.aload_n 0, 1) := dc_42 (lxL_law 76 7 rfl)
set_option maxRecDepth 20000 in
theorem dL_law_1224 : decode cL_law 1224 = .ok (.iload 4, 2) := dc_21 4 (lxL_law 76 8 rfl) (lxL_law 76 9 rfl)
set_option maxRecDepth 20000 in
theorem dL_law_1226 : decode cL_law 1226 = .ok (.iconst 1, 1) := dc_4 (lxL_law 76 10 rfl)
set_option maxRecDepth 20000 in
theorem dL_law_1227 : decode cL_law 1227 = .ok (.iadd, 1) := dc_96 (lxL_law 76 11 rfl)
set_option maxRecDepth 20000 in
theorem dL_law_1228 : decode cL_law 1228 = .ok (.iaload, 1) := dc_46 (lxL_law 76 12 rfl)
set_option maxRecDepth 20000 in
theorem dL_law_1229 : decode cL_law 1229 = .ok (.invokevirtual 258, 3) := dc_182 1 2 (lxL_law 76 13 rfl) (lxL_law 76 14 rfl) (lxL_law 76 15 rfl)
set_option maxRecDepth 20000 in
theorem dL_law_1232 : decode cL_law 1232 = .ok (.istore 6, 2) := dc_54 6 (lxL_law 77 0 rfl) (lxL_law 77 1 rfl)
set_option maxRecDepth 20000 in
theorem dL_law_1234 : decode cL_law 1234 = .ok (.goto 770, 3) := dc_167 3 2 (lxL_law 77 2 rfl) (lxL_law 77 3 rfl) (lxL_law 77 4 rfl)
set_option maxRecDepth 20000 in
theorem dL_law_1237 : decode cL_law 1237 = .ok (.aload_n 1, 1) := dc_43 (lxL_law 77 5 rfl)
set_option maxRecDepth 20000 in
theorem dL_law_1238 : decode cL_law 1238 = .ok (.aload_n 0, 1) := dc_42 (lxL_law 77 6 rfl)
set_option maxRecDepth 20000 in
theorem dL_law_1239 : decode cL_law 1239 = .ok (.iload 4, 2) := dc_21 4 (lxL_law 77 7 rfl) (lxL_law 77 8 rfl)
set_option maxRecDepth 20000 in
theorem dL_law_1241 : decode cL_law 1241 = .ok (.iconst 1, 1) := dc_4 (lxL_law 77 9 rfl)
set_option maxRecDepth 20000 in
theorem dL_law_1242 : decode cL_law 1242 = .ok (.iadd, 1) := dc_96 (lxL_law 77 10 rfl)
set_option maxRecDepth 20000 in
theorem dL_law_1243 : decode cL_law 1243 = .ok (.iaload, 1) := dc_46 (lxL_law 77 11 rfl)
set_option maxRecDepth 20000 in
theorem dL_law_1244 : decode cL_law 1244 = .ok (.aload_n 3, 1) := dc_45 (lxL_law 77 12 rfl)
set_option maxRecDepth 20000 in
theorem dL_law_1245 : decode cL_law 1245 = .ok (.invokestatic 259, 3) := dc_184 1 3 (lxL_law 77 13 rfl) (lxL_law 77 14 rfl) (lxL_law 77 15 rfl)
set_option maxRecDepth 20000 in
theorem dL_law_1248 : decode cL_law 1248 = .ok (.istore 5, 2) := dc_54 5 (lxL_law 78 0 rfl) (lxL_law 78 1 rfl)
set_option maxRecDepth 20000 in
theorem dL_law_1250 : decode cL_law 1250 = .ok (.aload_n 2, 1) := dc_44 (lxL_law 78 2 rfl)
set_option maxRecDepth 20000 in
theorem dL_law_1251 : decode cL_law 1251 = .ok (.aload_n 0, 1) := dc_42 (lxL_law 78 3 rfl)
set_option maxRecDepth 20000 in
theorem dL_law_1252 : decode cL_law 1252 = .ok (.iload 4, 2) := dc_21 4 (lxL_law 78 4 rfl) (lxL_law 78 5 rfl)
set_option maxRecDepth 20000 in
theorem dL_law_1254 : decode cL_law 1254 = .ok (.iconst 1, 1) := dc_4 (lxL_law 78 6 rfl)
set_option maxRecDepth 20000 in
theorem dL_law_1255 : decode cL_law 1255 = .ok (.iadd, 1) := dc_96 (lxL_law 78 7 rfl)
set_option maxRecDepth 20000 in
theorem dL_law_1256 : decode cL_law 1256 = .ok (.iaload, 1) := dc_46 (lxL_law 78 8 rfl)
set_option maxRecDepth 20000 in
theorem dL_law_1257 : decode cL_law 1257 = .ok (.invokevirtual 261, 3) := dc_182 1 5 (lxL_law 78 9 rfl) (lxL_law 78 10 rfl) (lxL_law 78 11 rfl)
set_option maxRecDepth 20000 in
theorem dL_law_1260 : decode cL_law 1260 = .ok (.istore 6, 2) := dc_54 6 (lxL_law 78 12 rfl) (lxL_law 78 13 rfl)
set_option maxRecDepth 20000 in
theorem dL_law_1262 : decode cL_law 1262 = .ok (.goto 742, 3) := dc_167 2 230 (lxL_law 78 14 rfl) (lxL_law 78 15 rfl) (lxL_law 79 0 rfl)
set_option maxRecDepth 20000 in
theorem dL_law_1265 : decode cL_law 1265 = .ok (.aload_n 1, 1) := dc_43 (lxL_law 79 1 rfl)
set_option maxRecDepth 20000 in
theorem dL_law_1266 : decode cL_law 1266 = .ok (.aload_n 0, 1) := dc_42 (lxL_law 79 2 rfl)
set_option maxRecDepth 20000 in
theorem dL_law_1267 : decode cL_law 1267 = .ok (.iload 4, 2) := dc_21 4 (lxL_law 79 3 rfl) (lxL_law 79 4 rfl)
set_option maxRecDepth 20000 in
theorem dL_law_1269 : decode cL_law 1269 = .ok (.iconst 1, 1) := dc_4 (lxL_law 79 5 rfl)
set_option maxRecDepth 20000 in
theorem dL_law_1270 : decode cL_law 1270 = .ok (.iadd, 1) := dc_96 (lxL_law 79 6 rfl)
set_option maxRecDepth 20000 in
theorem dL_law_1271 : decode cL_law 1271 = .ok (.iaload, 1) := dc_46 (lxL_law 79 7 rfl)
set_option maxRecDepth 20000 in
theorem dL_law_1272 : decode cL_law 1272 = .ok (.aload_n 3, 1) := dc_45 (lxL_law 79 8 rfl)
set_option maxRecDepth 20000 in
theorem dL_law_1273 : decode cL_law 1273 = .ok (.invokestatic 262, 3) := dc_184 1 6 (lxL_law 79 9 rfl) (lxL_law 79 10 rfl) (lxL_law 79 11 rfl)
set_option maxRecDepth 20000 in
theorem dL_law_1276 : decode cL_law 1276 = .ok (.istore 5, 2) := dc_54 5 (lxL_law 79 12 rfl) (lxL_law 79 13 rfl)
set_option maxRecDepth 20000 in
theorem dL_law_1278 : decode cL_law 1278 = .ok (.aload_n 2, 1) := dc_44 (lxL_law 79 14 rfl)
set_option maxRecDepth 20000 in
theorem dL_law_1279 : decode cL_law 1279 = .ok (.aload_n 0, 1) := dc_42 (lxL_law 79 15 rfl)
set_option maxRecDepth 20000 in
theorem dL_law_1280 : decode cL_law 1280 = .ok (.iload 4, 2) := dc_21 4 (lxL_law 80 0 rfl) (lxL_law 80 1 rfl)
set_option maxRecDepth 20000 in
theorem dL_law_1282 : decode cL_law 1282 = .ok (.iconst 1, 1) := dc_4 (lxL_law 80 2 rfl)
set_option maxRecDepth 20000 in
theorem dL_law_1283 : decode cL_law 1283 = .ok (.iadd, 1) := dc_96 (lxL_law 80 3 rfl)
set_option maxRecDepth 20000 in
theorem dL_law_1284 : decode cL_law 1284 = .ok (.iaload, 1) := dc_46 (lxL_law 80 4 rfl)
set_option maxRecDepth 20000 in
theorem dL_law_1285 : decode cL_law 1285 = .ok (.invokevirtual 264, 3) := dc_182 1 8 (lxL_law 80 5 rfl) (lxL_law 80 6 rfl) (lxL_law 80 7 rfl)
set_option maxRecDepth 20000 in
theorem dL_law_1288 : decode cL_law 1288 = .ok (.istore 6, 2) := dc_54 6 (lxL_law 80 8 rfl) (lxL_law 80 9 rfl)
set_option maxRecDepth 20000 in
theorem dL_law_1290 : decode cL_law 1290 = .ok (.goto 714, 3) := dc_167 2 202 (lxL_law 80 10 rfl) (lxL_law 80 11 rfl) (lxL_law 80 12 rfl)
set_option maxRecDepth 20000 in
theorem dL_law_1293 : decode cL_law 1293 = .ok (.aload_n 1, 1) := dc_43 (lxL_law 80 13 rfl)
set_option maxRecDepth 20000 in
theorem dL_law_1294 : decode cL_law 1294 = .ok (.aload_n 0, 1) := dc_42 (lxL_law 80 14 rfl)
set_option maxRecDepth 20000 in
theorem dL_law_1295 : decode cL_law 1295 = .ok (.iload 4, 2) := dc_21 4 (lxL_law 80 15 rfl) (lxL_law 81 0 rfl)
set_option maxRecDepth 20000 in
theorem dL_law_1297 : decode cL_law 1297 = .ok (.iconst 1, 1) := dc_4 (lxL_law 81 1 rfl)
set_option maxRecDepth 20000 in
theorem dL_law_1298 : decode cL_law 1298 = .ok (.iadd, 1) := dc_96 (lxL_law 81 2 rfl)
set_option maxRecDepth 20000 in
theorem dL_law_1299 : decode cL_law 1299 = .ok (.iaload, 1) := dc_46 (lxL_law 81 3 rfl)
set_option maxRecDepth 20000 in
theorem dL_law_1300 : decode cL_law 1300 = .ok (.aload_n 3, 1) := dc_45 (lxL_law 81 4 rfl)
set_option maxRecDepth 20000 in
theorem dL_law_1301 : decode cL_law 1301 = .ok (.invokestatic 265, 3) := dc_184 1 9 (lxL_law 81 5 rfl) (lxL_law 81 6 rfl) (lxL_law 81 7 rfl)
set_option maxRecDepth 20000 in
theorem dL_law_1304 : decode cL_law 1304 = .ok (.istore 5, 2) := dc_54 5 (lxL_law 81 8 rfl) (lxL_law 81 9 rfl)
set_option maxRecDepth 20000 in
theorem dL_law_1306 : decode cL_law 1306 = .ok (.aload_n 2, 1) := dc_44 (lxL_law 81 10 rfl)
set_option maxRecDepth 20000 in
theorem dL_law_1307 : decode cL_law 1307 = .ok (.aload_n 0, 1) := dc_42 (lxL_law 81 11 rfl)
set_option maxRecDepth 20000 in
theorem dL_law_1308 : decode cL_law 1308 = .ok (.iload 4, 2) := dc_21 4 (lxL_law 81 12 rfl) (lxL_law 81 13 rfl)
set_option maxRecDepth 20000 in
theorem dL_law_1310 : decode cL_law 1310 = .ok (.iconst 1, 1) := dc_4 (lxL_law 81 14 rfl)
set_option maxRecDepth 20000 in
theorem dL_law_1311 : decode cL_law 1311 = .ok (.iadd, 1) := dc_96 (lxL_law 81 15 rfl)
set_option maxRecDepth 20000 in
theorem dL_law_1312 : decode cL_law 1312 = .ok (.iaload, 1) := dc_46 (lxL_law 82 0 rfl)
set_option maxRecDepth 20000 in
theorem dL_law_1313 : decode cL_law 1313 = .ok (.invokevirtual 267, 3) := dc_182 1 11 (lxL_law 82 1 rfl) (lxL_law 82 2 rfl) (lxL_law 82 3 rfl)
set_option maxRecDepth 20000 in
theorem dL_law_1316 : decode cL_law 1316 = .ok (.istore 6, 2) := dc_54 6 (lxL_law 82 4 rfl) (lxL_law 82 5 rfl)
set_option maxRecDepth 20000 in
theorem dL_law_1318 : decode cL_law 1318 = .ok (.goto 686, 3) := dc_167 2 174 (lxL_law 82 6 rfl) (lxL_law 82 7 rfl) (lxL_law 82 8 rfl)
set_option maxRecDepth 20000 in
theorem dL_law_1321 : decode cL_law 1321 = .ok (.aload_n 1, 1) := dc_43 (lxL_law 82 9 rfl)
set_option maxRecDepth 20000 in
theorem dL_law_1322 : decode cL_law 1322 = .ok (.aload_n 0, 1) := dc_42 (lxL_law 82 10 rfl)
set_option maxRecDepth 20000 in
theorem dL_law_1323 : decode cL_law 1323 = .ok (.iload 4, 2) := dc_21 4 (lxL_law 82 11 rfl) (lxL_law 82 12 rfl)
set_option maxRecDepth 20000 in
theorem dL_law_1325 : decode cL_law 1325 = .ok (.iconst 1, 1) := dc_4 (lxL_law 82 13 rfl)
set_option maxRecDepth 20000 in
theorem dL_law_1326 : decode cL_law 1326 = .ok (.iadd, 1) := dc_96 (lxL_law 82 14 rfl)
set_option maxRecDepth 20000 in
theorem dL_law_1327 : decode cL_law 1327 = .ok (.iaload, 1) := dc_46 (lxL_law 82 15 rfl)
set_option maxRecDepth 20000 in
theorem dL_law_1328 : decode cL_law 1328 = .ok (.aload_n 0, 1) := dc_42 (lxL_law 83 0 rfl)
set_option maxRecDepth 20000 in
theorem dL_law_1329 : decode cL_law 1329 = .ok (.iload 4, 2) := dc_21 4 (lxL_law 83 1 rfl) (lxL_law 83 2 rfl)
set_option maxRecDepth 20000 in
theorem dL_law_1331 : decode cL_law 1331 = .ok (.iconst 2, 1) := dc_5 (lxL_law 83 3 rfl)
set_option maxRecDepth 20000 in
theorem dL_law_1332 : decode cL_law 1332 = .ok (.iadd, 1) := dc_96 (lxL_law 83 4 rfl)
set_option maxRecDepth 20000 in
theorem dL_law_1333 : decode cL_law 1333 = .ok (.iaload, 1) := dc_46 (lxL_law 83 5 rfl)
set_option maxRecDepth 20000 in
theorem dL_law_1334 : decode cL_law 1334 = .ok (.aload_n 3, 1) := dc_45 (lxL_law 83 6 rfl)
set_option maxRecDepth 20000 in
theorem dL_law_1335 : decode cL_law 1335 = .ok (.invokestatic 268, 3) := dc_184 1 12 (lxL_law 83 7 rfl) (lxL_law 83 8 rfl) (lxL_law 83 9 rfl)
set_option maxRecDepth 20000 in
theorem dL_law_1338 : decode cL_law 1338 = .ok (.istore 5, 2) := dc_54 5 (lxL_law 83 10 rfl) (lxL_law 83 11 rfl)
set_option maxRecDepth 20000 in
theorem dL_law_1340 : decode cL_law 1340 = .ok (.aload_n 2, 1) := dc_44 (lxL_law 83 12 rfl)
set_option maxRecDepth 20000 in
theorem dL_law_1341 : decode cL_law 1341 = .ok (.aload_n 0, 1) := dc_42 (lxL_law 83 13 rfl)
set_option maxRecDepth 20000 in
theorem dL_law_1342 : decode cL_law 1342 = .ok (.iload 4, 2) := dc_21 4 (lxL_law 83 14 rfl) (lxL_law 83 15 rfl)
set_option maxRecDepth 20000 in
theorem dL_law_1344 : decode cL_law 1344 = .ok (.iconst 1, 1) := dc_4 (lxL_law 84 0 rfl)
set_option maxRecDepth 20000 in
theorem dL_law_1345 : decode cL_law 1345 = .ok (.iadd, 1) := dc_96 (lxL_law 84 1 rfl)
set_option maxRecDepth 20000 in
theorem dL_law_1346 : decode cL_law 1346 = .ok (.iaload, 1) := dc_46 (lxL_law 84 2 rfl)
set_option maxRecDepth 20000 in
theorem dL_law_1347 : decode cL_law 1347 = .ok (.aload_n 0, 1) := dc_42 (lxL_law 84 3 rfl)
set_option maxRecDepth 20000 in
theorem dL_law_1348 : decode cL_law 1348 = .ok (.iload 4, 2) := dc_21 4 (lxL_law 84 4 rfl) (lxL_law 84 5 rfl)
set_option maxRecDepth 20000 in
theorem dL_law_1350 : decode cL_law 1350 = .ok (.iconst 2, 1) := dc_5 (lxL_law 84 6 rfl)
set_option maxRecDepth 20000 in
theorem dL_law_1351 : decode cL_law 1351 = .ok (.iadd, 1) := dc_96 (lxL_law 84 7 rfl)
set_option maxRecDepth 20000 in
theorem dL_law_1352 : decode cL_law 1352 = .ok (.iaload, 1) := dc_46 (lxL_law 84 8 rfl)
set_option maxRecDepth 20000 in
theorem dL_law_1353 : decode cL_law 1353 = .ok (.invokevirtual 270, 3) := dc_182 1 14 (lxL_law 84 9 rfl) (lxL_law 84 10 rfl) (lxL_law 84 11 rfl)
set_option maxRecDepth 20000 in
theorem dL_law_1356 : decode cL_law 1356 = .ok (.istore 6, 2) := dc_54 6 (lxL_law 84 12 rfl) (lxL_law 84 13 rfl)
set_option maxRecDepth 20000 in
theorem dL_law_1358 : decode cL_law 1358 = .ok (.goto 646, 3) := dc_167 2 134 (lxL_law 84 14 rfl) (lxL_law 84 15 rfl) (lxL_law 85 0 rfl)
set_option maxRecDepth 20000 in
theorem dL_law_1361 : decode cL_law 1361 = .ok (.aload_n 1, 1) := dc_43 (lxL_law 85 1 rfl)
set_option maxRecDepth 20000 in
theorem dL_law_1362 : decode cL_law 1362 = .ok (.aload_n 0, 1) := dc_42 (lxL_law 85 2 rfl)
set_option maxRecDepth 20000 in
theorem dL_law_1363 : decode cL_law 1363 = .ok (.iload 4, 2) := dc_21 4 (lxL_law 85 3 rfl) (lxL_law 85 4 rfl)
set_option maxRecDepth 20000 in
theorem dL_law_1365 : decode cL_law 1365 = .ok (.iconst 1, 1) := dc_4 (lxL_law 85 5 rfl)
set_option maxRecDepth 20000 in
theorem dL_law_1366 : decode cL_law 1366 = .ok (.iadd, 1) := dc_96 (lxL_law 85 6 rfl)
set_option maxRecDepth 20000 in
theorem dL_law_1367 : decode cL_law 1367 = .ok (.iaload, 1) := dc_46 (lxL_law 85 7 rfl)
set_option maxRecDepth 20000 in
theorem dL_law_1368 : decode cL_law 1368 = .ok (.aload_n 0, 1) := dc_42 (lxL_law 85 8 rfl)
set_option maxRecDepth 20000 in
theorem dL_law_1369 : decode cL_law 1369 = .ok (.iload 4, 2) := dc_21 4 (lxL_law 85 9 rfl) (lxL_law 85 10 rfl)
set_option maxRecDepth 20000 in
theorem dL_law_1371 : decode cL_law 1371 = .ok (.iconst 2, 1) := dc_5 (lxL_law 85 11 rfl)
set_option maxRecDepth 20000 in
theorem dL_law_1372 : decode cL_law 1372 = .ok (.iadd, 1) := dc_96 (lxL_law 85 12 rfl)
set_option maxRecDepth 20000 in
theorem dL_law_1373 : decode cL_law 1373 = .ok (.iaload, 1) := dc_46 (lxL_law 85 13 rfl)
set_option maxRecDepth 20000 in
theorem dL_law_1374 : decode cL_law 1374 = .ok (.aload_n 3, 1) := dc_45 (lxL_law 85 14 rfl)
set_option maxRecDepth 20000 in
theorem dL_law_1375 : decode cL_law 1375 = .ok (.invokestatic 271, 3) := dc_184 1 15 (lxL_law 85 15 rfl) (lxL_law 86 0 rfl) (lxL_law 86 1 rfl)
set_option maxRecDepth 20000 in
theorem dL_law_1378 : decode cL_law 1378 = .ok (.istore 5, 2) := dc_54 5 (lxL_law 86 2 rfl) (lxL_law 86 3 rfl)
set_option maxRecDepth 20000 in
theorem dL_law_1380 : decode cL_law 1380 = .ok (.aload_n 2, 1) := dc_44 (lxL_law 86 4 rfl)
set_option maxRecDepth 20000 in
theorem dL_law_1381 : decode cL_law 1381 = .ok (.aload_n 0, 1) := dc_42 (lxL_law 86 5 rfl)
set_option maxRecDepth 20000 in
theorem dL_law_1382 : decode cL_law 1382 = .ok (.iload 4, 2) := dc_21 4 (lxL_law 86 6 rfl) (lxL_law 86 7 rfl)
set_option maxRecDepth 20000 in
theorem dL_law_1384 : decode cL_law 1384 = .ok (.iconst 1, 1) := dc_4 (lxL_law 86 8 rfl)
set_option maxRecDepth 20000 in
theorem dL_law_1385 : decode cL_law 1385 = .ok (.iadd, 1) := dc_96 (lxL_law 86 9 rfl)
set_option maxRecDepth 20000 in
theorem dL_law_1386 : decode cL_law 1386 = .ok (.iaload, 1) := dc_46 (lxL_law 86 10 rfl)
set_option maxRecDepth 20000 in
theorem dL_law_1387 : decode cL_law 1387 = .ok (.aload_n 0, 1) := dc_42 (lxL_law 86 11 rfl)
set_option maxRecDepth 20000 in
theorem dL_law_1388 : decode cL_law 1388 = .ok (.iload 4, 2) := dc_21 4 (lxL_law 86 12 rfl) (lxL_law 86 13 rfl)
set_option maxRecDepth 20000 in
theorem dL_law_1390 : decode cL_law 1390 = .ok (.iconst 2, 1) := dc_5 (lxL_law 86 14 rfl)
set_option maxRecDepth 20000 in
theorem dL_law_1391 : decode cL_law 1391 = .ok (.iadd, 1) := dc_96 (lxL_law 86 15 rfl)
set_option maxRecDepth 20000 in
theorem dL_law_1392 : decode cL_law 1392 = .ok (.iaload, 1) := dc_46 (lxL_law 87 0 rfl)
set_option maxRecDepth 20000 in
theorem dL_law_1393 : decode cL_law 1393 = .ok (.invokevirtual 273, 3) := dc_182 1 17 (lxL_law 87 1 rfl) (lxL_law 87 2 rfl) (lxL_law 87 3 rfl)
set_option maxRecDepth 20000 in
theorem dL_law_1396 : decode cL_law 1396 = .ok (.istore 6, 2) := dc_54 6 (lxL_law 87 4 rfl) (lxL_law 87 5 rfl)
set_option maxRecDepth 20000 in
theorem dL_law_1398 : decode cL_law 1398 = .ok (.goto 606, 3) := dc_167 2 94 (lxL_law 87 6 rfl) (lxL_law 87 7 rfl) (lxL_law 87 8 rfl)
set_option maxRecDepth 20000 in
theorem dL_law_1401 : decode cL_law 1401 = .ok (.aload_n 1, 1) := dc_43 (lxL_law 87 9 rfl)
set_option maxRecDepth 20000 in
theorem dL_law_1402 : decode cL_law 1402 = .ok (.aload_n 0, 1) := dc_42 (lxL_law 87 10 rfl)
set_option maxRecDepth 20000 in
theorem dL_law_1403 : decode cL_law 1403 = .ok (.iload 4, 2) := dc_21 4 (lxL_law 87 11 rfl) (lxL_law 87 12 rfl)
set_option maxRecDepth 20000 in
theorem dL_law_1405 : decode cL_law 1405 = .ok (.iconst 1, 1) := dc_4 (lxL_law 87 13 rfl)
set_option maxRecDepth 20000 in
theorem dL_law_1406 : decode cL_law 1406 = .ok (.iadd, 1) := dc_96 (lxL_law 87 14 rfl)
set_option maxRecDepth 20000 in
theorem dL_law_1407 : decode cL_law 1407 = .ok (.iaload, 1) := dc_46 (lxL_law 87 15 rfl)
set_option maxRecDepth 20000 in
theorem dL_law_1408 : decode cL_law 1408 = .ok (.aload_n 0, 1) := dc_42 (lxL_law 88 0 rfl)
set_option maxRecDepth 20000 in
theorem dL_law_1409 : decode cL_law 1409 = .ok (.iload 4, 2) := dc_21 4 (lxL_law 88 1 rfl) (lxL_law 88 2 rfl)
set_option maxRecDepth 20000 in
theorem dL_law_1411 : decode cL_law 1411 = .ok (.iconst 2, 1) := dc_5 (lxL_law 88 3 rfl)
set_option maxRecDepth 20000 in
theorem dL_law_1412 : decode cL_law 1412 = .ok (.iadd, 1) := dc_96 (lxL_law 88 4 rfl)
set_option maxRecDepth 20000 in
theorem dL_law_1413 : decode cL_law 1413 = .ok (.iaload, 1) := dc_46 (lxL_law 88 5 rfl)
set_option maxRecDepth 20000 in
theorem dL_law_1414 : decode cL_law 1414 = .ok (.aload_n 3, 1) := dc_45 (lxL_law 88 6 rfl)
set_option maxRecDepth 20000 in
theorem dL_law_1415 : decode cL_law 1415 = .ok (.invokestatic 274, 3) := dc_184 1 18 (lxL_law 88 7 rfl) (lxL_law 88 8 rfl) (lxL_law 88 9 rfl)
set_option maxRecDepth 20000 in
theorem dL_law_1418 : decode cL_law 1418 = .ok (.istore 5, 2) := dc_54 5 (lxL_law 88 10 rfl) (lxL_law 88 11 rfl)
set_option maxRecDepth 20000 in
theorem dL_law_1420 : decode cL_law 1420 = .ok (.aload_n 2, 1) := dc_44 (lxL_law 88 12 rfl)
set_option maxRecDepth 20000 in
theorem dL_law_1421 : decode cL_law 1421 = .ok (.aload_n 0, 1) := dc_42 (lxL_law 88 13 rfl)
set_option maxRecDepth 20000 in
theorem dL_law_1422 : decode cL_law 1422 = .ok (.iload 4, 2) := dc_21 4 (lxL_law 88 14 rfl) (lxL_law 88 15 rfl)
set_option maxRecDepth 20000 in
theorem dL_law_1424 : decode cL_law 1424 = .ok (.iconst 1, 1) := dc_4 (lxL_law 89 0 rfl)
set_option maxRecDepth 20000 in
theorem dL_law_1425 : decode cL_law 1425 = .ok (.iadd, 1) := dc_96 (lxL_law 89 1 rfl)
set_option maxRecDepth 20000 in
theorem dL_law_1426 : decode cL_law 1426 = .ok (.iaload, 1) := dc_46 (lxL_law 89 2 rfl)
set_option maxRecDepth 20000 in
theorem dL_law_1427 : decode cL_law 1427 = .ok (.aload_n 0, 1) := dc_42 (lxL_law 89 3 rfl)
set_option maxRecDepth 20000 in
theorem dL_law_1428 : decode cL_law 1428 = .ok (.iload 4, 2) := dc_21 4 (lxL_law 89 4 rfl) (lxL_law 89 5 rfl)
set_option maxRecDepth 20000 in
theorem dL_law_1430 : decode cL_law 1430 = .ok (.iconst 2, 1) := dc_5 (lxL_law 89 6 rfl)
set_option maxRecDepth 20000 in
theorem dL_law_1431 : decode cL_law 1431 = .ok (.iadd, 1) := dc_96 (lxL_law 89 7 rfl)
set_option maxRecDepth 20000 in
theorem dL_law_1432 : decode cL_law 1432 = .ok (.iaload, 1) := dc_46 (lxL_law 89 8 rfl)
set_option maxRecDepth 20000 in
theorem dL_law_1433 : decode cL_law 1433 = .ok (.invokevirtual 276, 3) := dc_182 1 20 (lxL_law 89 9 rfl) (lxL_law 89 10 rfl) (lxL_law 89 11 rfl)
set_option maxRecDepth 20000 in
theorem dL_law_1436 : decode cL_law 1436 = .ok (.astore 6, 2) := dc_58 6 (lxL_law 89 12 rfl) (lxL_law 89 13 rfl)
set_option maxRecDepth 20000 in
theorem dL_law_1438 : decode cL_law 1438 = .ok (.goto 566, 3) := dc_167 2 54 (lxL_law 89 14 rfl) (lxL_law 89 15 rfl) (lxL_law 90 0 rfl)
set_option maxRecDepth 20000 in
theorem dL_law_1441 : decode cL_law 1441 = .ok (.aload_n 1, 1) := dc_43 (lxL_law 90 1 rfl)
set_option maxRecDepth 20000 in
theorem dL_law_1442 : decode cL_law 1442 = .ok (.aload_n 0, 1) := dc_42 (lxL_law 90 2 rfl)
set_option maxRecDepth 20000 in
theorem dL_law_1443 : decode cL_law 1443 = .ok (.iload 4, 2) := dc_21 4 (lxL_law 90 3 rfl) (lxL_law 90 4 rfl)
set_option maxRecDepth 20000 in
theorem dL_law_1445 : decode cL_law 1445 = .ok (.iconst 1, 1) := dc_4 (lxL_law 90 5 rfl)
set_option maxRecDepth 20000 in
theorem dL_law_1446 : decode cL_law 1446 = .ok (.iadd, 1) := dc_96 (lxL_law 90 6 rfl)
set_option maxRecDepth 20000 in
theorem dL_law_1447 : decode cL_law 1447 = .ok (.iaload, 1) := dc_46 (lxL_law 90 7 rfl)
set_option maxRecDepth 20000 in
theorem dL_law_1448 : decode cL_law 1448 = .ok (.aload_n 0, 1) := dc_42 (lxL_law 90 8 rfl)
set_option maxRecDepth 20000 in
theorem dL_law_1449 : decode cL_law 1449 = .ok (.iload 4, 2) := dc_21 4 (lxL_law 90 9 rfl) (lxL_law 90 10 rfl)
set_option maxRecDepth 20000 in
theorem dL_law_1451 : decode cL_law 1451 = .ok (.iconst 2, 1) := dc_5 (lxL_law 90 11 rfl)
set_option maxRecDepth 20000 in
theorem dL_law_1452 : decode cL_law 1452 = .ok (.iadd, 1) := dc_96 (lxL_law 90 12 rfl)
set_option maxRecDepth 20000 in
theorem dL_law_1453 : decode cL_law 1453 = .ok (.iaload, 1) := dc_46 (lxL_law 90 13 rfl)
set_option maxRecDepth 20000 in
theorem dL_law_1454 : decode cL_law 1454 = .ok (.aload_n 0, 1) := dc_42 (lxL_law 90 14 rfl)
set_option maxRecDepth 20000 in
theorem dL_law_1455 : decode cL_law 1455 = .ok (.iload 4, 2) := dc_21 4 (lxL_law 90 15 rfl) (lxL_law 91 0 rfl)
set_option maxRecDepth 20000 in
theorem dL_law_1457 : decode cL_law 1457 = .ok (.iconst 3, 1) := dc_6 (lxL_law 91 1 rfl)
set_option maxRecDepth 20000 in
theorem dL_law_1458 : decode cL_law 1458 = .ok (.iadd, 1) := dc_96 (lxL_law 91 2 rfl)
set_option maxRecDepth 20000 in
theorem dL_law_1459 : decode cL_law 1459 = .ok (.iaload, 1) := dc_46 (lxL_law 91 3 rfl)
set_option maxRecDepth 20000 in
theorem dL_law_1460 : decode cL_law 1460 = .ok (.aload_n 0, 1) := dc_42 (lxL_law 91 4 rfl)
set_option maxRecDepth 20000 in
theorem dL_law_1461 : decode cL_law 1461 = .ok (.iload 4, 2) := dc_21 4 (lxL_law 91 5 rfl) (lxL_law 91 6 rfl)
set_option maxRecDepth 20000 in
theorem dL_law_1463 : decode cL_law 1463 = .ok (.iconst 4, 1) := dc_7 (lxL_law 91 7 rfl)
set_option maxRecDepth 20000 in
theorem dL_law_1464 : decode cL_law 1464 = .ok (.iadd, 1) := dc_96 (lxL_law 91 8 rfl)
set_option maxRecDepth 20000 in
theorem dL_law_1465 : decode cL_law 1465 = .ok (.iaload, 1) := dc_46 (lxL_law 91 9 rfl)
set_option maxRecDepth 20000 in
theorem dL_law_1466 : decode cL_law 1466 = .ok (.aload_n 0, 1) := dc_42 (lxL_law 91 10 rfl)
set_option maxRecDepth 20000 in
theorem dL_law_1467 : decode cL_law 1467 = .ok (.iload 4, 2) := dc_21 4 (lxL_law 91 11 rfl) (lxL_law 91 12 rfl)
set_option maxRecDepth 20000 in
theorem dL_law_1469 : decode cL_law 1469 = .ok (.iconst 5, 1) := dc_8 (lxL_law 91 13 rfl)
set_option maxRecDepth 20000 in
theorem dL_law_1470 : decode cL_law 1470 = .ok (.iadd, 1) := dc_96 (lxL_law 91 14 rfl)
set_option maxRecDepth 20000 in
theorem dL_law_1471 : decode cL_law 1471 = .ok (.iaload, 1) := dc_46 (lxL_law 91 15 rfl)
set_option maxRecDepth 20000 in
theorem dL_law_1472 : decode cL_law 1472 = .ok (.aload_n 0, 1) := dc_42 (lxL_law 92 0 rfl)
set_option maxRecDepth 20000 in
theorem dL_law_1473 : decode cL_law 1473 = .ok (.iload 4, 2) := dc_21 4 (lxL_law 92 1 rfl) (lxL_law 92 2 rfl)
set_option maxRecDepth 20000 in
theorem dL_law_1475 : decode cL_law 1475 = .ok (.bipush 6, 2) := dc_16 6 (lxL_law 92 3 rfl) (lxL_law 92 4 rfl)
set_option maxRecDepth 20000 in
theorem dL_law_1477 : decode cL_law 1477 = .ok (.iadd, 1) := dc_96 (lxL_law 92 5 rfl)
set_option maxRecDepth 20000 in
theorem dL_law_1478 : decode cL_law 1478 = .ok (.iaload, 1) := dc_46 (lxL_law 92 6 rfl)
set_option maxRecDepth 20000 in
theorem dL_law_1479 : decode cL_law 1479 = .ok (.aload_n 3, 1) := dc_45 (lxL_law 92 7 rfl)
set_option maxRecDepth 20000 in
theorem dL_law_1480 : decode cL_law 1480 = .ok (.invokestatic 277, 3) := dc_184 1 21 (lxL_law 92 8 rfl) (lxL_law 92 9 rfl) (lxL_law 92 10 rfl)
set_option maxRecDepth 20000 in
theorem dL_law_1483 : decode cL_law 1483 = .ok (.istore 5, 2) := dc_54 5 (lxL_law 92 11 rfl) (lxL_law 92 12 rfl)
set_option maxRecDepth 20000 in
theorem dL_law_1485 : decode cL_law 1485 = .ok (.aload_n 2, 1) := dc_44 (lxL_law 92 13 rfl)
set_option maxRecDepth 20000 in
theorem dL_law_1486 : decode cL_law 1486 = .ok (.aload_n 0, 1) := dc_42 (lxL_law 92 14 rfl)
set_option maxRecDepth 20000 in
theorem dL_law_1487 : decode cL_law 1487 = .ok (.iload 4, 2) := dc_21 4 (lxL_law 92 15 rfl) (lxL_law 93 0 rfl)
set_option maxRecDepth 20000 in
theorem dL_law_1489 : decode cL_law 1489 = .ok (.iconst 1, 1) := dc_4 (lxL_law 93 1 rfl)
set_option maxRecDepth 20000 in
theorem dL_law_1490 : decode cL_law 1490 = .ok (.iadd, 1) := dc_96 (lxL_law 93 2 rfl)
set_option maxRecDepth 20000 in
theorem dL_law_1491 : decode cL_law 1491 = .ok (.iaload, 1) := dc_46 (lxL_law 93 3 rfl)
set_option maxRecDepth 20000 in
theorem dL_law_1492 : decode cL_law 1492 = .ok (.aload_n 0, 1) := dc_42 (lxL_law 93 4 rfl)
set_option maxRecDepth 20000 in
theorem dL_law_1493 : decode cL_law 1493 = .ok (.iload 4, 2) := dc_21 4 (lxL_law 93 5 rfl) (lxL_law 93 6 rfl)
set_option maxRecDepth 20000 in
theorem dL_law_1495 : decode cL_law 1495 = .ok (.iconst 2, 1) := dc_5 (lxL_law 93 7 rfl)
set_option maxRecDepth 20000 in
theorem dL_law_1496 : decode cL_law 1496 = .ok (.iadd, 1) := dc_96 (lxL_law 93 8 rfl)
set_option maxRecDepth 20000 in
theorem dL_law_1497 : decode cL_law 1497 = .ok (.iaload, 1) := dc_46 (lxL_law 93 9 rfl)
set_option maxRecDepth 20000 in
theorem dL_law_1498 : decode cL_law 1498 = .ok (.aload_n 0, 1) := dc_42 (lxL_law 93 10 rfl)
set_option maxRecDepth 20000 in
theorem dL_law_1499 : decode cL_law 1499 = .ok (.iload 4, 2) := dc_21 4 (lxL_law 93 11 rfl) (lxL_law 93 12 rfl)
set_option maxRecDepth 20000 in
theorem dL_law_1501 : decode cL_law 1501 = .ok (.iconst 3, 1) := dc_6 (lxL_law 93 13 rfl)
set_option maxRecDepth 20000 in
theorem dL_law_1502 : decode cL_law 1502 = .ok (.iadd, 1) := dc_96 (lxL_law 93 14 rfl)
set_option maxRecDepth 20000 in
theorem dL_law_1503 : decode cL_law 1503 = .ok (.iaload, 1) := dc_46 (lxL_law 93 15 rfl)
set_option maxRecDepth 20000 in
theorem dL_law_1504 : decode cL_law 1504 = .ok (.aload_n 0, 1) := dc_42 (lxL_law 94 0 rfl)
set_option maxRecDepth 20000 in
theorem dL_law_1505 : decode cL_law 1505 = .ok (.iload 4, 2) := dc_21 4 (lxL_law 94 1 rfl) (lxL_law 94 2 rfl)
set_option maxRecDepth 20000 in
theorem dL_law_1507 : decode cL_law 1507 = .ok (.iconst 4, 1) := dc_7 (lxL_law 94 3 rfl)
set_option maxRecDepth 20000 in
theorem dL_law_1508 : decode cL_law 1508 = .ok (.iadd, 1) := dc_96 (lxL_law 94 4 rfl)
set_option maxRecDepth 20000 in
theorem dL_law_1509 : decode cL_law 1509 = .ok (.iaload, 1) := dc_46 (lxL_law 94 5 rfl)
set_option maxRecDepth 20000 in
theorem dL_law_1510 : decode cL_law 1510 = .ok (.aload_n 0, 1) := dc_42 (lxL_law 94 6 rfl)
set_option maxRecDepth 20000 in
theorem dL_law_1511 : decode cL_law 1511 = .ok (.iload 4, 2) := dc_21 4 (lxL_law 94 7 rfl) (lxL_law 94 8 rfl)
set_option maxRecDepth 20000 in
theorem dL_law_1513 : decode cL_law 1513 = .ok (.iconst 5, 1) := dc_8 (lxL_law 94 9 rfl)
set_option maxRecDepth 20000 in
theorem dL_law_1514 : decode cL_law 1514 = .ok (.iadd, 1) := dc_96 (lxL_law 94 10 rfl)
set_option maxRecDepth 20000 in
theorem dL_law_1515 : decode cL_law 1515 = .ok (.iaload, 1) := dc_46 (lxL_law 94 11 rfl)
set_option maxRecDepth 20000 in
theorem dL_law_1516 : decode cL_law 1516 = .ok (.aload_n 0, 1) := dc_42 (lxL_law 94 12 rfl)
set_option maxRecDepth 20000 in
theorem dL_law_1517 : decode cL_law 1517 = .ok (.iload 4, 2) := dc_21 4 (lxL_law 94 13 rfl) (lxL_law 94 14 rfl)
set_option maxRecDepth 20000 in
theorem dL_law_1519 : decode cL_law 1519 = .ok (.bipush 6, 2) := dc_16 6 (lxL_law 94 15 rfl) (lxL_law 95 0 rfl)
set_option maxRecDepth 20000 in
theorem dL_law_1521 : decode cL_law 1521 = .ok (.iadd, 1) := dc_96 (lxL_law 95 1 rfl)
set_option maxRecDepth 20000 in
theorem dL_law_1522 : decode cL_law 1522 = .ok (.iaload, 1) := dc_46 (lxL_law 95 2 rfl)
set_option maxRecDepth 20000 in
theorem dL_law_1523 : decode cL_law 1523 = .ok (.invokevirtual 280, 3) := dc_182 1 24 (lxL_law 95 3 rfl) (lxL_law 95 4 rfl) (lxL_law 95 5 rfl)
set_option maxRecDepth 20000 in
theorem dL_law_1526 : decode cL_law 1526 = .ok (.astore 6, 2) := dc_58 6 (lxL_law 95 6 rfl) (lxL_law 95 7 rfl)
set_option maxRecDepth 20000 in
theorem dL_law_1528 : decode cL_law 1528 = .ok (.goto 476, 3) := dc_167 1 220 (lxL_law 95 8 rfl) (lxL_law 95 9 rfl) (lxL_law 95 10 rfl)
set_option maxRecDepth 20000 in
theorem dL_law_1531 : decode cL_law 1531 = .ok (.aload_n 1, 1) := dc_43 (lxL_law 95 11 rfl)
set_option maxRecDepth 20000 in
theorem dL_law_1532 : decode cL_law 1532 = .ok (.aload_n 0, 1) := dc_42 (lxL_law 95 12 rfl)
set_option maxRecDepth 20000 in
theorem dL_law_1533 : decode cL_law 1533 = .ok (.iload 4, 2) := dc_21 4 (lxL_law 95 13 rfl) (lxL_law 95 14 rfl)
set_option maxRecDepth 20000 in
theorem dL_law_1535 : decode cL_law 1535 = .ok (.iconst 1, 1) := dc_4 (lxL_law 95 15 rfl)
set_option maxRecDepth 20000 in
theorem dL_law_1536 : decode cL_law 1536 = .ok (.iadd, 1) := dc_96 (lxL_law 96 0 rfl)
set_option maxRecDepth 20000 in
theorem dL_law_1537 : decode cL_law 1537 = .ok (.iaload, 1) := dc_46 (lxL_law 96 1 rfl)
set_option maxRecDepth 20000 in
theorem dL_law_1538 : decode cL_law 1538 = .ok (.aload_n 0, 1) := dc_42 (lxL_law 96 2 rfl)
set_option maxRecDepth 20000 in
theorem dL_law_1539 : decode cL_law 1539 = .ok (.iload 4, 2) := dc_21 4 (lxL_law 96 3 rfl) (lxL_law 96 4 rfl)
set_option maxRecDepth 20000 in
theorem dL_law_1541 : decode cL_law 1541 = .ok (.iconst 2, 1) := dc_5 (lxL_law 96 5 rfl)
set_option maxRecDepth 20000 in
theorem dL_law_1542 : decode cL_law 1542 = .ok (.iadd, 1) := dc_96 (lxL_law 96 6 rfl)
set_option maxRecDepth 20000 in
theorem dL_law_1543 : decode cL_law 1543 = .ok (.iaload, 1) := dc_46 (lxL_law 96 7 rfl)
set_option maxRecDepth 20000 in
theorem dL_law_1544 : decode cL_law 1544 = .ok (.aload_n 3, 1) := dc_45 (lxL_law 96 8 rfl)
set_option maxRecDepth 20000 in
theorem dL_law_1545 : decode cL_law 1545 = .ok (.invokestatic 281, 3) := dc_184 1 25 (lxL_law 96 9 rfl) (lxL_law 96 10 rfl) (lxL_law 96 11 rfl)
set_option maxRecDepth 20000 in
theorem dL_law_1548 : decode cL_law 1548 = .ok (.istore 5, 2) := dc_54 5 (lxL_law 96 12 rfl) (lxL_law 96 13 rfl)
set_option maxRecDepth 20000 in
theorem dL_law_1550 : decode cL_law 1550 = .ok (.aload_n 2, 1) := dc_44 (lxL_law 96 14 rfl)
set_option maxRecDepth 20000 in
theorem dL_law_1551 : decode cL_law 1551 = .ok (.aload_n 0, 1) := dc_42 (lxL_law 96 15 rfl)
set_option maxRecDepth 20000 in
theorem dL_law_1552 : decode cL_law 1552 = .ok (.iload 4, 2) := dc_21 4 (lxL_law 97 0 rfl) (lxL_law 97 1 rfl)
set_option maxRecDepth 20000 in
theorem dL_law_1554 : decode cL_law 1554 = .ok (.iconst 1, 1) := dc_4 (lxL_law 97 2 rfl)
set_option maxRecDepth 20000 in
theorem dL_law_1555 : decode cL_law 1555 = .ok (.iadd, 1) := dc_96 (lxL_law 97 3 rfl)
set_option maxRecDepth 20000 in
theorem dL_law_1556 : decode cL_law 1556 = .ok (.iaload, 1) := dc_46 (lxL_law 97 4 rfl)
set_option maxRecDepth 20000 in
theorem dL_law_1557 : decode cL_law 1557 = .ok (.aload_n 0, 1) := dc_42 (lxL_law 97 5 rfl)
set_option maxRecDepth 20000 in
theorem dL_law_1558 : decode cL_law 1558 = .ok (.iload 4, 2) := dc_21 4 (lxL_law 97 6 rfl) (lxL_law 97 7 rfl)
set_option maxRecDepth 20000 in
theorem dL_law_1560 : decode cL_law 1560 = .ok (.iconst 2, 1) := dc_5 (lxL_law 97 8 rfl)
set_option maxRecDepth 20000 in
theorem dL_law_1561 : decode cL_law 1561 = .ok (.iadd, 1) := dc_96 (lxL_law 97 9 rfl)
set_option maxRecDepth 20000 in
theorem dL_law_1562 : decode cL_law 1562 = .ok (.iaload, 1) := dc_46 (lxL_law 97 10 rfl)
set_option maxRecDepth 20000 in
theorem dL_law_1563 : decode cL_law 1563 = .ok (.invokevirtual 283, 3) := dc_182 1 27 (lxL_law 97 11 rfl) (lxL_law 97 12 rfl) (lxL_law 97 13 rfl)
set_option maxRecDepth 20000 in
theorem dL_law_1566 : decode cL_law 1566 = .ok (.istore 6, 2) := dc_54 6 (lxL_law 97 14 rfl) (lxL_law 97 15 rfl)
set_option maxRecDepth 20000 in
theorem dL_law_1568 : decode cL_law 1568 = .ok (.goto 436, 3) := dc_167 1 180 (lxL_law 98 0 rfl) (lxL_law 98 1 rfl) (lxL_law 98 2 rfl)
set_option maxRecDepth 20000 in
theorem dL_law_1571 : decode cL_law 1571 = .ok (.aload_n 1, 1) := dc_43 (lxL_law 98 3 rfl)
set_option maxRecDepth 20000 in
theorem dL_law_1572 : decode cL_law 1572 = .ok (.aload_n 0, 1) := dc_42 (lxL_law 98 4 rfl)
set_option maxRecDepth 20000 in
theorem dL_law_1573 : decode cL_law 1573 = .ok (.iload 4, 2) := dc_21 4 (lxL_law 98 5 rfl) (lxL_law 98 6 rfl)
set_option maxRecDepth 20000 in
theorem dL_law_1575 : decode cL_law 1575 = .ok (.iconst 1, 1) := dc_4 (lxL_law 98 7 rfl)
set_option maxRecDepth 20000 in
theorem dL_law_1576 : decode cL_law 1576 = .ok (.iadd, 1) := dc_96 (lxL_law 98 8 rfl)
set_option maxRecDepth 20000 in
theorem dL_law_1577 : decode cL_law 1577 = .ok (.iaload, 1) := dc_46 (lxL_law 98 9 rfl)
set_option maxRecDepth 20000 in
theorem dL_law_1578 : decode cL_law 1578 = .ok (.aload_n 0, 1) := dc_42 (lxL_law 98 10 rfl)
set_option maxRecDepth 20000 in
theorem dL_law_1579 : decode cL_law 1579 = .ok (.iload 4, 2) := dc_21 4 (lxL_law 98 11 rfl) (lxL_law 98 12 rfl)
set_option maxRecDepth 20000 in
theorem dL_law_1581 : decode cL_law 1581 = .ok (.iconst 2, 1) := dc_5 (lxL_law 98 13 rfl)
set_option maxRecDepth 20000 in
theorem dL_law_1582 : decode cL_law 1582 = .ok (.iadd, 1) := dc_96 (lxL_law 98 14 rfl)
set_option maxRecDepth 20000 in
theorem dL_law_1583 : decode cL_law 1583 = .ok (.iaload, 1) := dc_46 (lxL_law 98 15 rfl)
set_option maxRecDepth 20000 in
theorem dL_law_1584 : decode cL_law 1584 = .ok (.aload_n 3, 1) := dc_45 (lxL_law 99 0 rfl)
set_option maxRecDepth 20000 in
theorem dL_law_1585 : decode cL_law 1585 = .ok (.invokestatic 284, 3) := dc_184 1 28 (lxL_law 99 1 rfl) (lxL_law 99 2 rfl) (lxL_law 99 3 rfl)
set_option maxRecDepth 20000 in
theorem dL_law_1588 : decode cL_law 1588 = .ok (.istore 5, 2) := dc_54 5 (lxL_law 99 4 rfl) (lxL_law 99 5 rfl)
set_option maxRecDepth 20000 in
theorem dL_law_1590 : decode cL_law 1590 = .ok (.aload_n 2, 1) := dc_44 (lxL_law 99 6 rfl)
set_option maxRecDepth 20000 in
theorem dL_law_1591 : decode cL_law 1591 = .ok (.aload_n 0, 1) := dc_42 (lxL_law 99 7 rfl)
set_option maxRecDepth 20000 in
theorem dL_law_1592 : decode cL_law 1592 = .ok (.iload 4, 2) := dc_21 4 (lxL_law 99 8 rfl) (lxL_law 99 9 rfl)
set_option maxRecDepth 20000 in
theorem dL_law_1594 : decode cL_law 1594 = .ok (.iconst 1, 1) := dc_4 (lxL_law 99 10 rfl)
set_option maxRecDepth 20000 in
theorem dL_law_1595 : decode cL_law 1595 = .ok (.iadd, 1) := dc_96 (lxL_law 99 11 rfl)
set_option maxRecDepth 20000 in
theorem dL_law_1596 : decode cL_law 1596 = .ok (.iaload, 1) := dc_46 (lxL_law 99 12 rfl)
set_option maxRecDepth 20000 in
theorem dL_law_1597 : decode cL_law 1597 = .ok (.aload_n 0, 1) := dc_42 (lxL_law 99 13 rfl)
set_option maxRecDepth 20000 in
theorem dL_law_1598 : decode cL_law 1598 = .ok (.iload 4, 2) := dc_21 4 (lxL_law 99 14 rfl) (lxL_law 99 15 rfl)
set_option maxRecDepth 20000 in
theorem dL_law_1600 : decode cL_law 1600 = .ok (.iconst 2, 1) := dc_5 (lxL_law 100 0 rfl)
set_option maxRecDepth 20000 in
theorem dL_law_1601 : decode cL_law 1601 = .ok (.iadd, 1) := dc_96 (lxL_law 100 1 rfl)
set_option maxRecDepth 20000 in
theorem dL_law_1602 : decode cL_law 1602 = .ok (.iaload, 1) := dc_46 (lxL_law 100 2 rfl)
set_option maxRecDepth 20000 in
theorem dL_law_1603 : decode cL_law 1603 = .ok (.invokevirtual 286, 3) := dc_182 1 30 (lxL_law 100 3 rfl) (lxL_law 100 4 rfl) (lxL_law 100 5 rfl)
set_option maxRecDepth 20000 in
theorem dL_law_1606 : decode cL_law 1606 = .ok (.istore 6, 2) := dc_54 6 (lxL_law 100 6 rfl) (lxL_law 100 7 rfl)
set_option maxRecDepth 20000 in
theorem dL_law_1608 : decode cL_law 1608 = .ok (.goto 396, 3) := dc_167 1 140 (lxL_law 100 8 rfl) (lxL_law 100 9 rfl) (lxL_law 100 10 rfl)
set_option maxRecDepth 20000 in
theorem dL_law_1611 : decode cL_law 1611 = .ok (.aload_n 1, 1) := dc_43 (lxL_law 100 11 rfl)
set_option maxRecDepth 20000 in
theorem dL_law_1612 : decode cL_law 1612 = .ok (.aload_n 0, 1) := dc_42 (lxL_law 100 12 rfl)
set_option maxRecDepth 20000 in
theorem dL_law_1613 : decode cL_law 1613 = .ok (.iload 4, 2) := dc_21 4 (lxL_law 100 13 rfl) (lxL_law 100 14 rfl)
set_option maxRecDepth 20000 in
theorem dL_law_1615 : decode cL_law 1615 = .ok (.iconst 1, 1) := dc_4 (lxL_law 100 15 rfl)
set_option maxRecDepth 20000 in
theorem dL_law_1616 : decode cL_law 1616 = .ok (.iadd, 1) := dc_96 (lxL_law 101 0 rfl)
set_option maxRecDepth 20000 in
theorem dL_law_1617 : decode cL_law 1617 = .ok (.iaload, 1) := dc_46 (lxL_law 101 1 rfl)
set_option maxRecDepth 20000 in
theorem dL_law_1618 : decode cL_law 1618 = .ok (.aload_n 0, 1) := dc_42 (lxL_law 101 2 rfl)
set_option maxRecDepth 20000 in
theorem dL_law_1619 : decode cL_law 1619 = .ok (.iload 4, 2) := dc_21 4 (lxL_law 101 3 rfl) (lxL_law 101 4 rfl)
set_option maxRecDepth 20000 in
theorem dL_law_1621 : decode cL_law 1621 = .ok (.iconst 2, 1) := dc_5 (lxL_law 101 5 rfl)
set_option maxRecDepth 20000 in
theorem dL_law_1622 : decode cL_law 1622 = .ok (.iadd, 1) := dc_96 (lxL_law 101 6 rfl)
set_option maxRecDepth 20000 in
theorem dL_law_1623 : decode cL_law 1623 = .ok (.iaload, 1) := dc_46 (lxL_law 101 7 rfl)
set_option maxRecDepth 20000 in
theorem dL_law_1624 : decode cL_law 1624 = .ok (.aload_n 3, 1) := dc_45 (lxL_law 101 8 rfl)
set_option maxRecDepth 20000 in
theorem dL_law_1625 : decode cL_law 1625 = .ok (.invokestatic 287, 3) := dc_184 1 31 (lxL_law 101 9 rfl) (lxL_law 101 10 rfl) (lxL_law 101 11 rfl)
set_option maxRecDepth 20000 in
theorem dL_law_1628 : decode cL_law 1628 = .ok (.istore 5, 2) := dc_54 5 (lxL_law 101 12 rfl) (lxL_law 101 13 rfl)
set_option maxRecDepth 20000 in
theorem dL_law_1630 : decode cL_law 1630 = .ok (.aload_n 2, 1) := dc_44 (lxL_law 101 14 rfl)
set_option maxRecDepth 20000 in
theorem dL_law_1631 : decode cL_law 1631 = .ok (.aload_n 0, 1) := dc_42 (lxL_law 101 15 rfl)
set_option maxRecDepth 20000 in
theorem dL_law_1632 : decode cL_law 1632 = .ok (.iload 4, 2) := dc_21 4 (lxL_law 102 0 rfl) (lxL_law 102 1 rfl)
set_option maxRecDepth 20000 in
theorem dL_law_1634 : decode cL_law 1634 = .ok (.iconst 1, 1) := dc_4 (lxL_law 102 2 rfl)
set_option maxRecDepth 20000 in
theorem dL_law_1635 : decode cL_law 1635 = .ok (.iadd, 1) := dc_96 (lxL_law 102 3 rfl)
set_option maxRecDepth 20000 in
theorem dL_law_1636 : decode cL_law 1636 = .ok (.iaload, 1) := dc_46 (lxL_law 102 4 rfl)
set_option maxRecDepth 20000 in
theorem dL_law_1637 : decode cL_law 1637 = .ok (.aload_n 0, 1) := dc_42 (lxL_law 102 5 rfl)
set_option maxRecDepth 20000 in
theorem dL_law_1638 : decode cL_law 1638 = .ok (.iload 4, 2) := dc_21 4 (lxL_law 102 6 rfl) (lxL_law 102 7 rfl)
set_option maxRecDepth 20000 in
theorem dL_law_1640 : decode cL_law 1640 = .ok (.iconst 2, 1) := dc_5 (lxL_law 102 8 rfl)
set_option maxRecDepth 20000 in
theorem dL_law_1641 : decode cL_law 1641 = .ok (.iadd, 1) := dc_96 (lxL_law 102 9 rfl)
set_option maxRecDepth 20000 in
theorem dL_law_1642 : decode cL_law 1642 = .ok (.iaload, 1) := dc_46 (lxL_law 102 10 rfl)
set_option maxRecDepth 20000 in
theorem dL_law_1643 : decode cL_law 1643 = .ok (.invokevirtual 289, 3) := dc_182 1 33 (lxL_law 102 11 rfl) (lxL_law 102 12 rfl) (lxL_law 102 13 rfl)
set_option maxRecDepth 20000 in
theorem dL_law_1646 : decode cL_law 1646 = .ok (.istore 6, 2) := dc_54 6 (lxL_law 102 14 rfl) (lxL_law 102 15 rfl)
set_option maxRecDepth 20000 in
theorem dL_law_1648 : decode cL_law 1648 = .ok (.goto 356, 3) := dc_167 1 100 (lxL_law 103 0 rfl) (lxL_law 103 1 rfl) (lxL_law 103 2 rfl)
set_option maxRecDepth 20000 in
theorem dL_law_1651 : decode cL_law 1651 = .ok (.aload_n 1, 1) := dc_43 (lxL_law 103 3 rfl)
set_option maxRecDepth 20000 in
theorem dL_law_1652 : decode cL_law 1652 = .ok (.aload_n 0, 1) := dc_42 (lxL_law 103 4 rfl)
set_option maxRecDepth 20000 in
theorem dL_law_1653 : decode cL_law 1653 = .ok (.iload 4, 2) := dc_21 4 (lxL_law 103 5 rfl) (lxL_law 103 6 rfl)
set_option maxRecDepth 20000 in
theorem dL_law_1655 : decode cL_law 1655 = .ok (.iconst 1, 1) := dc_4 (lxL_law 103 7 rfl)
set_option maxRecDepth 20000 in
theorem dL_law_1656 : decode cL_law 1656 = .ok (.iadd, 1) := dc_96 (lxL_law 103 8 rfl)
set_option maxRecDepth 20000 in
theorem dL_law_1657 : decode cL_law 1657 = .ok (.iaload, 1) := dc_46 (lxL_law 103 9 rfl)
set_option maxRecDepth 20000 in
theorem dL_law_1658 : decode cL_law 1658 = .ok (.aload_n 0, 1) := dc_42 (lxL_law 103 10 rfl)
set_option maxRecDepth 20000 in
theorem dL_law_1659 : decode cL_law 1659 = .ok (.iload 4, 2) := dc_21 4 (lxL_law 103 11 rfl) (lxL_law 103 12 rfl)
set_option maxRecDepth 20000 in
theorem dL_law_1661 : decode cL_law 1661 = .ok (.iconst 2, 1) := dc_5 (lxL_law 103 13 rfl)
set_option maxRecDepth 20000 in
theorem dL_law_1662 : decode cL_law 1662 = .ok (.iadd, 1) := dc_96 (lxL_law 103 14 rfl)
set_option maxRecDepth 20000 in
theorem dL_law_1663 : decode cL_law 1663 = .ok (.iaload, 1) := dc_46 (lxL_law 103 15 rfl)
set_option maxRecDepth 20000 in
theorem dL_law_1664 : decode cL_law 1664 = .ok (.aload_n 0, 1) := dc_42 (lxL_law 104 0 rfl)
set_option maxRecDepth 20000 in
theorem dL_law_1665 : decode cL_law 1665 = .ok (.iload 4, 2) := dc_21 4 (lxL_law 104 1 rfl) (lxL_law 104 2 rfl)
set_option maxRecDepth 20000 in
theorem dL_law_1667 : decode cL_law 1667 = .ok (.iconst 3, 1) := dc_6 (lxL_law 104 3 rfl)
set_option maxRecDepth 20000 in
theorem dL_law_1668 : decode cL_law 1668 = .ok (.iadd, 1) := dc_96 (lxL_law 104 4 rfl)
set_option maxRecDepth 20000 in
theorem dL_law_1669 : decode cL_law 1669 = .ok (.iaload, 1) := dc_46 (lxL_law 104 5 rfl)
set_option maxRecDepth 20000 in
theorem dL_law_1670 : decode cL_law 1670 = .ok (.aload_n 3, 1) := dc_45 (lxL_law 104 6 rfl)
set_option maxRecDepth 20000 in
theorem dL_law_1671 : decode cL_law 1671 = .ok (.invokestatic 290, 3) := dc_184 1 34 (lxL_law 104 7 rfl) (lxL_law 104 8 rfl) (lxL_law 104 9 rfl)
set_option maxRecDepth 20000 in
theorem dL_law_1674 : decode cL_law 1674 = .ok (.istore 5, 2) := dc_54 5 (lxL_law 104 10 rfl) (lxL_law 104 11 rfl)
set_option maxRecDepth 20000 in
theorem dL_law_1676 : decode cL_law 1676 = .ok (.aload_n 2, 1) := dc_44 (lxL_law 104 12 rfl)
set_option maxRecDepth 20000 in
theorem dL_law_1677 : decode cL_law 1677 = .ok (.aload_n 0, 1) := dc_42 (lxL_law 104 13 rfl)
set_option maxRecDepth 20000 in
theorem dL_law_1678 : decode cL_law 1678 = .ok (.iload 4, 2) := dc_21 4 (lxL_law 104 14 rfl) (lxL_law 104 15 rfl)
set_option maxRecDepth 20000 in
theorem dL_law_1680 : decode cL_law 1680 = .ok (.iconst 1, 1) := dc_4 (lxL_law 105 0 rfl)
set_option maxRecDepth 20000 in
theorem dL_law_1681 : decode cL_law 1681 = .ok (.iadd, 1) := dc_96 (lxL_law 105 1 rfl)
set_option maxRecDepth 20000 in
theorem dL_law_1682 : decode cL_law 1682 = .ok (.iaload, 1) := dc_46 (lxL_law 105 2 rfl)
set_option maxRecDepth 20000 in
theorem dL_law_1683 : decode cL_law 1683 = .ok (.aload_n 0, 1) := dc_42 (lxL_law 105 3 rfl)
set_option maxRecDepth 20000 in
theorem dL_law_1684 : decode cL_law 1684 = .ok (.iload 4, 2) := dc_21 4 (lxL_law 105 4 rfl) (lxL_law 105 5 rfl)
set_option maxRecDepth 20000 in
theorem dL_law_1686 : decode cL_law 1686 = .ok (.iconst 2, 1) := dc_5 (lxL_law 105 6 rfl)
set_option maxRecDepth 20000 in
theorem dL_law_1687 : decode cL_law 1687 = .ok (.iadd, 1) := dc_96 (lxL_law 105 7 rfl)
set_option maxRecDepth 20000 in
theorem dL_law_1688 : decode cL_law 1688 = .ok (.iaload, 1) := dc_46 (lxL_law 105 8 rfl)
set_option maxRecDepth 20000 in
theorem dL_law_1689 : decode cL_law 1689 = .ok (.aload_n 0, 1) := dc_42 (lxL_law 105 9 rfl)
set_option maxRecDepth 20000 in
theorem dL_law_1690 : decode cL_law 1690 = .ok (.iload 4, 2) := dc_21 4 (lxL_law 105 10 rfl) (lxL_law 105 11 rfl)
set_option maxRecDepth 20000 in
theorem dL_law_1692 : decode cL_law 1692 = .ok (.iconst 3, 1) := dc_6 (lxL_law 105 12 rfl)
set_option maxRecDepth 20000 in
theorem dL_law_1693 : decode cL_law 1693 = .ok (.iadd, 1) := dc_96 (lxL_law 105 13 rfl)
set_option maxRecDepth 20000 in
theorem dL_law_1694 : decode cL_law 1694 = .ok (.iaload, 1) := dc_46 (lxL_law 105 14 rfl)
set_option maxRecDepth 20000 in
theorem dL_law_1695 : decode cL_law 1695 = .ok (.invokevirtual 292, 3) := dc_182 1 36 (lxL_law 105 15 rfl) (lxL_law 106 0 rfl) (lxL_law 106 1 rfl)
set_option maxRecDepth 20000 in
theorem dL_law_1698 : decode cL_law 1698 = .ok (.istore 6, 2) := dc_54 6 (lxL_law 106 2 rfl) (lxL_law 106 3 rfl)
set_option maxRecDepth 20000 in
theorem dL_law_1700 : decode cL_law 1700 = .ok (.goto 304, 3) := dc_167 1 48 (lxL_law 106 4 rfl) (lxL_law 106 5 rfl) (lxL_law 106 6 rfl)
set_option maxRecDepth 20000 in
theorem dL_law_1703 : decode cL_law 1703 = .ok (.aload_n 1, 1) := dc_43 (lxL_law 106 7 rfl)
set_option maxRecDepth 20000 in
theorem dL_law_1704 : decode cL_law 1704 = .ok (.aload_n 0, 1) := dc_42 (lxL_law 106 8 rfl)
set_option maxRecDepth 20000 in
theorem dL_law_1705 : decode cL_law 1705 = .ok (.iload 4, 2) := dc_21 4 (lxL_law 106 9 rfl) (lxL_law 106 10 rfl)
set_option maxRecDepth 20000 in
theorem dL_law_1707 : decode cL_law 1707 = .ok (.iconst 1, 1) := dc_4 (lxL_law 106 11 rfl)
set_option maxRecDepth 20000 in
theorem dL_law_1708 : decode cL_law 1708 = .ok (.iadd, 1) := dc_96 (lxL_law 106 12 rfl)
set_option maxRecDepth 20000 in
theorem dL_law_1709 : decode cL_law 1709 = .ok (.iaload, 1) := dc_46 (lxL_law 106 13 rfl)
set_option maxRecDepth 20000 in
theorem dL_law_1710 : decode cL_law 1710 = .ok (.aload_n 3, 1) := dc_45 (lxL_law 106 14 rfl)
set_option maxRecDepth 20000 in
theorem dL_law_1711 : decode cL_law 1711 = .ok (.invokestatic 293, 3) := dc_184 1 37 (lxL_law 106 15 rfl) (lxL_law 107 0 rfl) (lxL_law 107 1 rfl)
set_option maxRecDepth 20000 in
theorem dL_law_1714 : decode cL_law 1714 = .ok (.istore 5, 2) := dc_54 5 (lxL_law 107 2 rfl) (lxL_law 107 3 rfl)
set_option maxRecDepth 20000 in
theorem dL_law_1716 : decode cL_law 1716 = .ok (.aload_n 2, 1) := dc_44 (lxL_law 107 4 rfl)
set_option maxRecDepth 20000 in
theorem dL_law_1717 : decode cL_law 1717 = .ok (.aload_n 0, 1) := dc_42 (lxL_law 107 5 rfl)
set_option maxRecDepth 20000 in
theorem dL_law_1718 : decode cL_law 1718 = .ok (.iload 4, 2) := dc_21 4 (lxL_law 107 6 rfl) (lxL_law 107 7 rfl)
set_option maxRecDepth 20000 in
theorem dL_law_1720 : decode cL_law 1720 = .ok (.iconst 1, 1) := dc_4 (lxL_law 107 8 rfl)
set_option maxRecDepth 20000 in
theorem dL_law_1721 : decode cL_law 1721 = .ok (.iadd, 1) := dc_96 (lxL_law 107 9 rfl)
set_option maxRecDepth 20000 in
theorem dL_law_1722 : decode cL_law 1722 = .ok (.iaload, 1) := dc_46 (lxL_law 107 10 rfl)
set_option maxRecDepth 20000 in
theorem dL_law_1723 : decode cL_law 1723 = .ok (.invokevirtual 295, 3) := dc_182 1 39 (lxL_law 107 11 rfl) (lxL_law 107 12 rfl) (lxL_law 107 13 rfl)
set_option maxRecDepth 20000 in
theorem dL_law_1726 : decode cL_law 1726 = .ok (.istore 6, 2) := dc_54 6 (lxL_law 107 14 rfl) (lxL_law 107 15 rfl)
set_option maxRecDepth 20000 in
theorem dL_law_1728 : decode cL_law 1728 = .ok (.goto 276, 3) := dc_167 1 20 (lxL_law 108 0 rfl) (lxL_law 108 1 rfl) (lxL_law 108 2 rfl)
set_option maxRecDepth 20000 in
theorem dL_law_1731 : decode cL_law 1731 = .ok (.aload_n 1, 1) := dc_43 (lxL_law 108 3 rfl)
set_option maxRecDepth 20000 in
theorem dL_law_1732 : decode cL_law 1732 = .ok (.aload_n 0, 1) := dc_42 (lxL_law 108 4 rfl)
set_option maxRecDepth 20000 in
theorem dL_law_1733 : decode cL_law 1733 = .ok (.iload 4, 2) := dc_21 4 (lxL_law 108 5 rfl) (lxL_law 108 6 rfl)
set_option maxRecDepth 20000 in
theorem dL_law_1735 : decode cL_law 1735 = .ok (.iconst 1, 1) := dc_4 (lxL_law 108 7 rfl)
set_option maxRecDepth 20000 in
theorem dL_law_1736 : decode cL_law 1736 = .ok (.iadd, 1) := dc_96 (lxL_law 108 8 rfl)
set_option maxRecDepth 20000 in
theorem dL_law_1737 : decode cL_law 1737 = .ok (.iaload, 1) := dc_46 (lxL_law 108 9 rfl)
set_option maxRecDepth 20000 in
theorem dL_law_1738 : decode cL_law 1738 = .ok (.aload_n 3, 1) := dc_45 (lxL_law 108 10 rfl)
set_option maxRecDepth 20000 in
theorem dL_law_1739 : decode cL_law 1739 = .ok (.invokestatic 296, 3) := dc_184 1 40 (lxL_law 108 11 rfl) (lxL_law 108 12 rfl) (lxL_law 108 13 rfl)
set_option maxRecDepth 20000 in
theorem dL_law_1742 : decode cL_law 1742 = .ok (.istore 5, 2) := dc_54 5 (lxL_law 108 14 rfl) (lxL_law 108 15 rfl)
set_option maxRecDepth 20000 in
theorem dL_law_1744 : decode cL_law 1744 = .ok (.aload_n 2, 1) := dc_44 (lxL_law 109 0 rfl)
set_option maxRecDepth 20000 in
theorem dL_law_1745 : decode cL_law 1745 = .ok (.aload_n 0, 1) := dc_42 (lxL_law 109 1 rfl)
set_option maxRecDepth 20000 in
theorem dL_law_1746 : decode cL_law 1746 = .ok (.iload 4, 2) := dc_21 4 (lxL_law 109 2 rfl) (lxL_law 109 3 rfl)
set_option maxRecDepth 20000 in
theorem dL_law_1748 : decode cL_law 1748 = .ok (.iconst 1, 1) := dc_4 (lxL_law 109 4 rfl)
set_option maxRecDepth 20000 in
theorem dL_law_1749 : decode cL_law 1749 = .ok (.iadd, 1) := dc_96 (lxL_law 109 5 rfl)
set_option maxRecDepth 20000 in
theorem dL_law_1750 : decode cL_law 1750 = .ok (.iaload, 1) := dc_46 (lxL_law 109 6 rfl)
set_option maxRecDepth 20000 in
theorem dL_law_1751 : decode cL_law 1751 = .ok (.invokevirtual 298, 3) := dc_182 1 42 (lxL_law 109 7 rfl) (lxL_law 109 8 rfl) (lxL_law 109 9 rfl)
set_option maxRecDepth 20000 in
theorem dL_law_1754 : decode cL_law 1754 = .ok (.astore 6, 2) := dc_58 6 (lxL_law 109 10 rfl) (lxL_law 109 11 rfl)
set_option maxRecDepth 20000 in
theorem dL_law_1756 : decode cL_law 1756 = .ok (.goto 248, 3) := dc_167 0 248 (lxL_law 109 12 rfl) (lxL_law 109 13 rfl) (lxL_law 109 14 rfl)
set_option maxRecDepth 20000 in
theorem dL_law_1759 : decode cL_law 1759 = .ok (.aload_n 1, 1) := dc_43 (lxL_law 109 15 rfl)
set_option maxRecDepth 20000 in
theorem dL_law_1760 : decode cL_law 1760 = .ok (.aload_n 0, 1) := dc_42 (lxL_law 110 0 rfl)
set_option maxRecDepth 20000 in
theorem dL_law_1761 : decode cL_law 1761 = .ok (.iload 4, 2) := dc_21 4 (lxL_law 110 1 rfl) (lxL_law 110 2 rfl)
set_option maxRecDepth 20000 in
theorem dL_law_1763 : decode cL_law 1763 = .ok (.iconst 1, 1) := dc_4 (lxL_law 110 3 rfl)
set_option maxRecDepth 20000 in
theorem dL_law_1764 : decode cL_law 1764 = .ok (.iadd, 1) := dc_96 (lxL_law 110 4 rfl)
set_option maxRecDepth 20000 in
theorem dL_law_1765 : decode cL_law 1765 = .ok (.iaload, 1) := dc_46 (lxL_law 110 5 rfl)
set_option maxRecDepth 20000 in
theorem dL_law_1766 : decode cL_law 1766 = .ok (.aload_n 3, 1) := dc_45 (lxL_law 110 6 rfl)
set_option maxRecDepth 20000 in
theorem dL_law_1767 : decode cL_law 1767 = .ok (.invokestatic 299, 3) := dc_184 1 43 (lxL_law 110 7 rfl) (lxL_law 110 8 rfl) (lxL_law 110 9 rfl)
set_option maxRecDepth 20000 in
theorem dL_law_1770 : decode cL_law 1770 = .ok (.istore 5, 2) := dc_54 5 (lxL_law 110 10 rfl) (lxL_law 110 11 rfl)
set_option maxRecDepth 20000 in
theorem dL_law_1772 : decode cL_law 1772 = .ok (.aload_n 2, 1) := dc_44 (lxL_law 110 12 rfl)
set_option maxRecDepth 20000 in
theorem dL_law_1773 : decode cL_law 1773 = .ok (.aload_n 0, 1) := dc_42 (lxL_law 110 13 rfl)
set_option maxRecDepth 20000 in
theorem dL_law_1774 : decode cL_law 1774 = .ok (.iload 4, 2) := dc_21 4 (lxL_law 110 14 rfl) (lxL_law 110 15 rfl)
set_option maxRecDepth 20000 in
theorem dL_law_1776 : decode cL_law 1776 = .ok (.iconst 1, 1) := dc_4 (lxL_law 111 0 rfl)
set_option maxRecDepth 20000 in
theorem dL_law_1777 : decode cL_law 1777 = .ok (.iadd, 1) := dc_96 (lxL_law 111 1 rfl)
set_option maxRecDepth 20000 in
theorem dL_law_1778 : decode cL_law 1778 = .ok (.iaload, 1) := dc_46 (lxL_law 111 2 rfl)
set_option maxRecDepth 20000 in
theorem dL_law_1779 : decode cL_law 1779 = .ok (.invokevirtual 301, 3) := dc_182 1 45 (lxL_law 111 3 rfl) (lxL_law 111 4 rfl) (lxL_law 111 5 rfl)
set_option maxRecDepth 20000 in
theorem dL_law_1782 : decode cL_law 1782 = .ok (.astore 6, 2) := dc_58 6 (lxL_law 111 6 rfl) (lxL_law 111 7 rfl)
set_option maxRecDepth 20000 in
theorem dL_law_1784 : decode cL_law 1784 = .ok (.goto 220, 3) := dc_167 0 220 (lxL_law 111 8 rfl) (lxL_law 111 9 rfl) (lxL_law 111 10 rfl)
set_option maxRecDepth 20000 in
theorem dL_law_1787 : decode cL_law 1787 = .ok (.aload_n 1, 1) := dc_43 (lxL_law 111 11 rfl)
set_option maxRecDepth 20000 in
theorem dL_law_1788 : decode cL_law 1788 = .ok (.aload_n 0, 1) := dc_42 (lxL_law 111 12 rfl)
set_option maxRecDepth 20000 in
theorem dL_law_1789 : decode cL_law 1789 = .ok (.iload 4, 2) := dc_21 4 (lxL_law 111 13 rfl) (lxL_law 111 14 rfl)
set_option maxRecDepth 20000 in
theorem dL_law_1791 : decode cL_law 1791 = .ok (.iconst 1, 1) := dc_4 (lxL_law 111 15 rfl)
set_option maxRecDepth 20000 in
theorem dL_law_1792 : decode cL_law 1792 = .ok (.iadd, 1) := dc_96 (lxL_law 112 0 rfl)
set_option maxRecDepth 20000 in
theorem dL_law_1793 : decode cL_law 1793 = .ok (.iaload, 1) := dc_46 (lxL_law 112 1 rfl)
set_option maxRecDepth 20000 in
theorem dL_law_1794 : decode cL_law 1794 = .ok (.aload_n 0, 1) := dc_42 (lxL_law 112 2 rfl)
set_option maxRecDepth 20000 in
theorem dL_law_1795 : decode cL_law 1795 = .ok (.iload 4, 2) := dc_21 4 (lxL_law 112 3 rfl) (lxL_law 112 4 rfl)
set_option maxRecDepth 20000 in
theorem dL_law_1797 : decode cL_law 1797 = .ok (.iconst 2, 1) := dc_5 (lxL_law 112 5 rfl)
set_option maxRecDepth 20000 in
theorem dL_law_1798 : decode cL_law 1798 = .ok (.iadd, 1) := dc_96 (lxL_law 112 6 rfl)
set_option maxRecDepth 20000 in
theorem dL_law_1799 : decode cL_law 1799 = .ok (.iaload, 1) := dc_46 (lxL_law 112 7 rfl)
set_option maxRecDepth 20000 in
theorem dL_law_1800 : decode cL_law 1800 = .ok (.aload_n 3, 1) := dc_45 (lxL_law 112 8 rfl)
set_option maxRecDepth 20000 in
theorem dL_law_1801 : decode cL_law 1801 = .ok (.invokestatic 302, 3) := dc_184 1 46 (lxL_law 112 9 rfl) (lxL_law 112 10 rfl) (lxL_law 112 11 rfl)
set_option maxRecDepth 20000 in
theorem dL_law_1804 : decode cL_law 1804 = .ok (.istore 5, 2) := dc_54 5 (lxL_law 112 12 rfl) (lxL_law 112 13 rfl)
set_option maxRecDepth 20000 in
theorem dL_law_1806 : decode cL_law 1806 = .ok (.aload_n 2, 1) := dc_44 (lxL_law 112 14 rfl)
set_option maxRecDepth 20000 in
theorem dL_law_1807 : decode cL_law 1807 = .ok (.aload_n 0, 1) := dc_42 (lxL_law 112 15 rfl)
set_option maxRecDepth 20000 in
theorem dL_law_1808 : decode cL_law 1808 = .ok (.iload 4, 2) := dc_21 4 (lxL_law 113 0 rfl) (lxL_law 113 1 rfl)
set_option maxRecDepth 20000 in
theorem dL_law_1810 : decode cL_law 1810 = .ok (.iconst 1, 1) := dc_4 (lxL_law 113 2 rfl)
set_option maxRecDepth 20000 in
theorem dL_law_1811 : decode cL_law 1811 = .ok (.iadd, 1) := dc_96 (lxL_law 113 3 rfl)
set_option maxRecDepth 20000 in
theorem dL_law_1812 : decode cL_law 1812 = .ok (.iaload, 1) := dc_46 (lxL_law 113 4 rfl)
set_option maxRecDepth 20000 in
theorem dL_law_1813 : decode cL_law 1813 = .ok (.aload_n 0, 1) := dc_42 (lxL_law 113 5 rfl)
set_option maxRecDepth 20000 in
theorem dL_law_1814 : decode cL_law 1814 = .ok (.iload 4, 2) := dc_21 4 (lxL_law 113 6 rfl) (lxL_law 113 7 rfl)
set_option maxRecDepth 20000 in
theorem dL_law_1816 : decode cL_law 1816 = .ok (.iconst 2, 1) := dc_5 (lxL_law 113 8 rfl)
set_option maxRecDepth 20000 in
theorem dL_law_1817 : decode cL_law 1817 = .ok (.iadd, 1) := dc_96 (lxL_law 113 9 rfl)
set_option maxRecDepth 20000 in
theorem dL_law_1818 : decode cL_law 1818 = .ok (.iaload, 1) := dc_46 (lxL_law 113 10 rfl)
set_option maxRecDepth 20000 in
theorem dL_law_1819 : decode cL_law 1819 = .ok (.invokevirtual 304, 3) := dc_182 1 48 (lxL_law 113 11 rfl) (lxL_law 113 12 rfl) (lxL_law 113 13 rfl)
set_option maxRecDepth 20000 in
theorem dL_law_1822 : decode cL_law 1822 = .ok (.istore 6, 2) := dc_54 6 (lxL_law 113 14 rfl) (lxL_law 113 15 rfl)
set_option maxRecDepth 20000 in
theorem dL_law_1824 : decode cL_law 1824 = .ok (.goto 180, 3) := dc_167 0 180 (lxL_law 114 0 rfl) (lxL_law 114 1 rfl) (lxL_law 114 2 rfl)
set_option maxRecDepth 20000 in
theorem dL_law_1827 : decode cL_law 1827 = .ok (.aload_n 1, 1) := dc_43 (lxL_law 114 3 rfl)
set_option maxRecDepth 20000 in
theorem dL_law_1828 : decode cL_law 1828 = .ok (.aload_n 0, 1) := dc_42 (lxL_law 114 4 rfl)
set_option maxRecDepth 20000 in
theorem dL_law_1829 : decode cL_law 1829 = .ok (.iload 4, 2) := dc_21 4 (lxL_law 114 5 rfl) (lxL_law 114 6 rfl)
set_option maxRecDepth 20000 in
theorem dL_law_1831 : decode cL_law 1831 = .ok (.iconst 1, 1) := dc_4 (lxL_law 114 7 rfl)
set_option maxRecDepth 20000 in
theorem dL_law_1832 : decode cL_law 1832 = .ok (.iadd, 1) := dc_96 (lxL_law 114 8 rfl)
set_option maxRecDepth 20000 in
theorem dL_law_1833 : decode cL_law 1833 = .ok (.iaload, 1) := dc_46 (lxL_law 114 9 rfl)
set_option maxRecDepth 20000 in
theorem dL_law_1834 : decode cL_law 1834 = .ok (.aload_n 0, 1) := dc_42 (lxL_law 114 10 rfl)
set_option maxRecDepth 20000 in
theorem dL_law_1835 : decode cL_law 1835 = .ok (.iload 4, 2) := dc_21 4 (lxL_law 114 11 rfl) (lxL_law 114 12 rfl)
set_option maxRecDepth 20000 in
theorem dL_law_1837 : decode cL_law 1837 = .ok (.iconst 2, 1) := dc_5 (lxL_law 114 13 rfl)
set_option maxRecDepth 20000 in
theorem dL_law_1838 : decode cL_law 1838 = .ok (.iadd, 1) := dc_96 (lxL_law 114 14 rfl)
set_option maxRecDepth 20000 in
theorem dL_law_1839 : decode cL_law 1839 = .ok (.iaload, 1) := dc_46 (lxL_law 114 15 rfl)
set_option maxRecDepth 20000 in
theorem dL_law_1840 : decode cL_law 1840 = .ok (.aload_n 3, 1) := dc_45 (lxL_law 115 0 rfl)
set_option maxRecDepth 20000 in
theorem dL_law_1841 : decode cL_law 1841 = .ok (.invokestatic 305, 3) := dc_184 1 49 (lxL_law 115 1 rfl) (lxL_law 115 2 rfl) (lxL_law 115 3 rfl)
set_option maxRecDepth 20000 in
theorem dL_law_1844 : decode cL_law 1844 = .ok (.istore 5, 2) := dc_54 5 (lxL_law 115 4 rfl) (lxL_law 115 5 rfl)
set_option maxRecDepth 20000 in
theorem dL_law_1846 : decode cL_law 1846 = .ok (.aload_n 2, 1) := dc_44 (lxL_law 115 6 rfl)
set_option maxRecDepth 20000 in
theorem dL_law_1847 : decode cL_law 1847 = .ok (.aload_n 0, 1) := dc_42 (lxL_law 115 7 rfl)
set_option maxRecDepth 20000 in
theorem dL_law_1848 : decode cL_law 1848 = .ok (.iload 4, 2) := dc_21 4 (lxL_law 115 8 rfl) (lxL_law 115 9 rfl)
set_option maxRecDepth 20000 in
theorem dL_law_1850 : decode cL_law 1850 = .ok (.iconst 1, 1) := dc_4 (lxL_law 115 10 rfl)
set_option maxRecDepth 20000 in
theorem dL_law_1851 : decode cL_law 1851 = .ok (.iadd, 1) := dc_96 (lxL_law 115 11 rfl)
set_option maxRecDepth 20000 in
theorem dL_law_1852 : decode cL_law 1852 = .ok (.iaload, 1) := dc_46 (lxL_law 115 12 rfl)
set_option maxRecDepth 20000 in
theorem dL_law_1853 : decode cL_law 1853 = .ok (.aload_n 0, 1) := dc_42 (lxL_law 115 13 rfl)
set_option maxRecDepth 20000 in
theorem dL_law_1854 : decode cL_law 1854 = .ok (.iload 4, 2) := dc_21 4 (lxL_law 115 14 rfl) (lxL_law 115 15 rfl)
set_option maxRecDepth 20000 in
theorem dL_law_1856 : decode cL_law 1856 = .ok (.iconst 2, 1) := dc_5 (lxL_law 116 0 rfl)
set_option maxRecDepth 20000 in
theorem dL_law_1857 : decode cL_law 1857 = .ok (.iadd, 1) := dc_96 (lxL_law 116 1 rfl)
set_option maxRecDepth 20000 in
theorem dL_law_1858 : decode cL_law 1858 = .ok (.iaload, 1) := dc_46 (lxL_law 116 2 rfl)
set_option maxRecDepth 20000 in
theorem dL_law_1859 : decode cL_law 1859 = .ok (.invokevirtual 307, 3) := dc_182 1 51 (lxL_law 116 3 rfl) (lxL_law 116 4 rfl) (lxL_law 116 5 rfl)
set_option maxRecDepth 20000 in
theorem dL_law_1862 : decode cL_law 1862 = .ok (.istore 6, 2) := dc_54 6 (lxL_law 116 6 rfl) (lxL_law 116 7 rfl)
set_option maxRecDepth 20000 in
theorem dL_law_1864 : decode cL_law 1864 = .ok (.aload_n 2, 1) := dc_44 (lxL_law 116 8 rfl)
set_option maxRecDepth 20000 in
theorem dL_law_1865 : decode cL_law 1865 = .ok (.invokevirtual 308, 3) := dc_182 1 52 (lxL_law 116 9 rfl) (lxL_law 116 10 rfl) (lxL_law 116 11 rfl)
set_option maxRecDepth 20000 in
theorem dL_law_1868 : decode cL_law 1868 = .ok (.iload 5, 2) := dc_21 5 (lxL_law 116 12 rfl) (lxL_law 116 13 rfl)
set_option maxRecDepth 20000 in
theorem dL_law_1870 : decode cL_law 1870 = .ok (.if_icmp .eq 5, 3) := dc_159 0 5 (lxL_law 116 14 rfl) (lxL_law 116 15 rfl) (lxL_law 117 0 rfl)
set_option maxRecDepth 20000 in
theorem dL_law_1873 : decode cL_law 1873 = .ok (.iconst 0, 1) := dc_3 (lxL_law 117 1 rfl)
set_option maxRecDepth 20000 in
theorem dL_law_1874 : decode cL_law 1874 = .ok (.ireturn, 1) := dc_172 (lxL_law 117 2 rfl)
set_option maxRecDepth 20000 in
theorem dL_law_1875 : decode cL_law 1875 = .ok (.iload 5, 2) := dc_21 5 (lxL_law 117 3 rfl) (lxL_law 117 4 rfl)
set_option maxRecDepth 20000 in
theorem dL_law_1877 : decode cL_law 1877 = .ok (.ifCond .ne 16, 3) := dc_154 0 16 (lxL_law 117 5 rfl) (lxL_law 117 6 rfl) (lxL_law 117 7 rfl)
set_option maxRecDepth 20000 in
theorem dL_law_1880 : decode cL_law 1880 = .ok (.aload_n 3, 1) := dc_45 (lxL_law 117 8 rfl)
set_option maxRecDepth 20000 in
theorem dL_law_1881 : decode cL_law 1881 = .ok (.getfield 13, 3) := dc_180 0 13 (lxL_law 117 9 rfl) (lxL_law 117 10 rfl) (lxL_law 117 11 rfl)
set_option maxRecDepth 20000 in
theorem dL_law_1884 : decode cL_law 1884 = .ok (.iload 6, 2) := dc_21 6 (lxL_law 117 12 rfl) (lxL_law 117 13 rfl)
set_option maxRecDepth 20000 in
theorem dL_law_1886 : decode cL_law 1886 = .ok (.i2l, 1) := dc_133 (lxL_law 117 14 rfl)
set_option maxRecDepth 20000 in
theorem dL_law_1887 : decode cL_law 1887 = .ok (.lcmp, 1) := dc_148 (lxL_law 117 15 rfl)
set_option maxRecDepth 20000 in
theorem dL_law_1888 : decode cL_law 1888 = .ok (.ifCond .eq 5, 3) := dc_153 0 5 (lxL_law 118 0 rfl) (lxL_law 118 1 rfl) (lxL_law 118 2 rfl)
set_option maxRecDepth 20000 in
theorem dL_law_1891 : decode cL_law 1891 = .ok (.iconst 0, 1) := dc_3 (lxL_law 118 3 rfl)
set_option maxRecDepth 20000 in
theorem dL_law_1892 : decode cL_law 1892 = .ok (.ireturn, 1) := dc_172 (lxL_law 118 4 rfl)
set_option maxRecDepth 20000 in
theorem dL_law_1893 : decode cL_law 1893 = .ok (.goto 111, 3) := dc_167 0 111 (lxL_law 118 5 rfl) (lxL_law 118 6 rfl) (lxL_law 118 7 rfl)
set_option maxRecDepth 20000 in
theorem dL_law_1896 : decode cL_law 1896 = .ok (.aload_n 1, 1) := dc_43 (lxL_law 118 8 rfl)
set_option maxRecDepth 20000 in
theorem dL_law_1897 : decode cL_law 1897 = .ok (.invokevirtual 311, 3) := dc_182 1 55 (lxL_law 118 9 rfl) (lxL_law 118 10 rfl) (lxL_law 118 11 rfl)
set_option maxRecDepth 20000 in
theorem dL_law_1900 : decode cL_law 1900 = .ok (.pop, 1) := dc_87 (lxL_law 118 12 rfl)
set_option maxRecDepth 20000 in
theorem dL_law_1901 : decode cL_law 1901 = .ok (.aload_n 2, 1) := dc_44 (lxL_law 118 13 rfl)
set_option maxRecDepth 20000 in
theorem dL_law_1902 : decode cL_law 1902 = .ok (.invokevirtual 315, 3) := dc_182 1 59 (lxL_law 118 14 rfl) (lxL_law 118 15 rfl) (lxL_law 119 0 rfl)
set_option maxRecDepth 20000 in
theorem dL_law_1905 : decode cL_law 1905 = .ok (.pop, 1) := dc_87 (lxL_law 119 1 rfl)
set_option maxRecDepth 20000 in
theorem dL_law_1906 : decode cL_law 1906 = .ok (.goto 98, 3) := dc_167 0 98 (lxL_law 119 2 rfl) (lxL_law 119 3 rfl) (lxL_law 119 4 rfl)
set_option maxRecDepth 20000 in
theorem dL_law_1909 : decode cL_law 1909 = .ok (.aload_n 1, 1) := dc_43 (lxL_law 119 5 rfl)
set_option maxRecDepth 20000 in
theorem dL_law_1910 : decode cL_law 1910 = .ok (.aload_n 0, 1) := dc_42 (lxL_law 119 6 rfl)
set_option maxRecDepth 20000 in
theorem dL_law_1911 : decode cL_law 1911 = .ok (.iload 4, 2) := dc_21 4 (lxL_law 119 7 rfl) (lxL_law 119 8 rfl)
set_option maxRecDepth 20000 in
theorem dL_law_1913 : decode cL_law 1913 = .ok (.iconst 1, 1) := dc_4 (lxL_law 119 9 rfl)
set_option maxRecDepth 20000 in
theorem dL_law_1914 : decode cL_law 1914 = .ok (.iadd, 1) := dc_96 (lxL_law 119 10 rfl)
set_option maxRecDepth 20000 in
theorem dL_law_1915 : decode cL_law 1915 = .ok (.iaload, 1) := dc_46 (lxL_law 119 11 rfl)
set_option maxRecDepth 20000 in
theorem dL_law_1916 : decode cL_law 1916 = .ok (.aload_n 3, 1) := dc_45 (lxL_law 119 12 rfl)
set_option maxRecDepth 20000 in
theorem dL_law_1917 : decode cL_law 1917 = .ok (.invokestatic 316, 3) := dc_184 1 60 (lxL_law 119 13 rfl) (lxL_law 119 14 rfl) (lxL_law 119 15 rfl)
set_option maxRecDepth 20000 in
theorem dL_law_1920 : decode cL_law 1920 = .ok (.istore 5, 2) := dc_54 5 (lxL_law 120 0 rfl) (lxL_law 120 1 rfl)
set_option maxRecDepth 20000 in
theorem dL_law_1922 : decode cL_law 1922 = .ok (.aload_n 2, 1) := dc_44 (lxL_law 120 2 rfl)
set_option maxRecDepth 20000 in
theorem dL_law_1923 : decode cL_law 1923 = .ok (.aload_n 0, 1) := dc_42 (lxL_law 120 3 rfl)
set_option maxRecDepth 20000 in
theorem dL_law_1924 : decode cL_law 1924 = .ok (.iload 4, 2) := dc_21 4 (lxL_law 120 4 rfl) (lxL_law 120 5 rfl)
set_option maxRecDepth 20000 in
theorem dL_law_1926 : decode cL_law 1926 = .ok (.iconst 1, 1) := dc_4 (lxL_law 120 6 rfl)
set_option maxRecDepth 20000 in
theorem dL_law_1927 : decode cL_law 1927 = .ok (.iadd, 1) := dc_96 (lxL_law 120 7 rfl)
set_option maxRecDepth 20000 in
theorem dL_law_1928 : decode cL_law 1928 = .ok (.iaload, 1) := dc_46 (lxL_law 120 8 rfl)
set_option maxRecDepth 20000 in
theorem dL_law_1929 : decode cL_law 1929 = .ok (.invokevirtual 318, 3) := dc_182 1 62 (lxL_law 120 9 rfl) (lxL_law 120 10 rfl) (lxL_law 120 11 rfl)
set_option maxRecDepth 20000 in
theorem dL_law_1932 : decode cL_law 1932 = .ok (.astore 6, 2) := dc_58 6 (lxL_law 120 12 rfl) (lxL_law 120 13 rfl)
set_option maxRecDepth 20000 in
theorem dL_law_1934 : decode cL_law 1934 = .ok (.goto 70, 3) := dc_167 0 70 (lxL_law 120 14 rfl) (lxL_law 120 15 rfl) (lxL_law 121 0 rfl)
set_option maxRecDepth 20000 in
theorem dL_law_1937 : decode cL_law 1937 = .ok (.aload_n 1, 1) := dc_43 (lxL_law 121 1 rfl)
set_option maxRecDepth 20000 in
theorem dL_law_1938 : decode cL_law 1938 = .ok (.aload_n 0, 1) := dc_42 (lxL_law 121 2 rfl)
set_option maxRecDepth 20000 in
theorem dL_law_1939 : decode cL_law 1939 = .ok (.iload 4, 2) := dc_21 4 (lxL_law 121 3 rfl) (lxL_law 121 4 rfl)
set_option maxRecDepth 20000 in
theorem dL_law_1941 : decode cL_law 1941 = .ok (.iconst 1, 1) := dc_4 (lxL_law 121 5 rfl)
set_option maxRecDepth 20000 in
theorem dL_law_1942 : decode cL_law 1942 = .ok (.iadd, 1) := dc_96 (lxL_law 121 6 rfl)
set_option maxRecDepth 20000 in
theorem dL_law_1943 : decode cL_law 1943 = .ok (.iaload, 1) := dc_46 (lxL_law 121 7 rfl)
set_option maxRecDepth 20000 in
theorem dL_law_1944 : decode cL_law 1944 = .ok (.aload_n 3, 1) := dc_45 (lxL_law 121 8 rfl)
set_option maxRecDepth 20000 in
theorem dL_law_1945 : decode cL_law 1945 = .ok (.invokestatic 319, 3) := dc_184 1 63 (lxL_law 121 9 rfl) (lxL_law 121 10 rfl) (lxL_law 121 11 rfl)
set_option maxRecDepth 20000 in
theorem dL_law_1948 : decode cL_law 1948 = .ok (.istore 5, 2) := dc_54 5 (lxL_law 121 12 rfl) (lxL_law 121 13 rfl)
set_option maxRecDepth 20000 in
theorem dL_law_1950 : decode cL_law 1950 = .ok (.aload_n 2, 1) := dc_44 (lxL_law 121 14 rfl)
set_option maxRecDepth 20000 in
theorem dL_law_1951 : decode cL_law 1951 = .ok (.aload_n 0, 1) := dc_42 (lxL_law 121 15 rfl)
set_option maxRecDepth 20000 in
theorem dL_law_1952 : decode cL_law 1952 = .ok (.iload 4, 2) := dc_21 4 (lxL_law 122 0 rfl) (lxL_law 122 1 rfl)
set_option maxRecDepth 20000 in
theorem dL_law_1954 : decode cL_law 1954 = .ok (.iconst 1, 1) := dc_4 (lxL_law 122 2 rfl)
set_option maxRecDepth 20000 in
theorem dL_law_1955 : decode cL_law 1955 = .ok (.iadd, 1) := dc_96 (lxL_law 122 3 rfl)
set_option maxRecDepth 20000 in
theorem dL_law_1956 : decode cL_law 1956 = .ok (.iaload, 1) := dc_46 (lxL_law 122 4 rfl)
set_option maxRecDepth 20000 in
theorem dL_law_1957 : decode cL_law 1957 = .ok (.invokevirtual 321, 3) := dc_182 1 65 (lxL_law 122 5 rfl) (lxL_law 122 6 rfl) (lxL_law 122 7 rfl)
set_option maxRecDepth 20000 in
theorem dL_law_1960 : decode cL_law 1960 = .ok (.istore 6, 2) := dc_54 6 (lxL_law 122 8 rfl) (lxL_law 122 9 rfl)
set_option maxRecDepth 20000 in
theorem dL_law_1962 : decode cL_law 1962 = .ok (.goto 42, 3) := dc_167 0 42 (lxL_law 122 10 rfl) (lxL_law 122 11 rfl) (lxL_law 122 12 rfl)
set_option maxRecDepth 20000 in
theorem dL_law_1965 : decode cL_law 1965 = .ok (.aload_n 1, 1) := dc_43 (lxL_law 122 13 rfl)
set_option maxRecDepth 20000 in
theorem dL_law_1966 : decode cL_law 1966 = .ok (.invokevirtual 322, 3) := dc_182 1 66 (lxL_law 122 14 rfl) (lxL_law 122 15 rfl) (lxL_law 123 0 rfl)
set_option maxRecDepth 20000 in
theorem dL_law_1969 : decode cL_law 1969 = .ok (.pop, 1) := dc_87 (lxL_law 123 1 rfl)
set_option maxRecDepth 20000 in
theorem dL_law_1970 : decode cL_law 1970 = .ok (.aload_n 2, 1) := dc_44 (lxL_law 123 2 rfl)
set_option maxRecDepth 20000 in
theorem dL_law_1971 : decode cL_law 1971 = .ok (.invokevirtual 325, 3) := dc_182 1 69 (lxL_law 123 3 rfl) (lxL_law 123 4 rfl) (lxL_law 123 5 rfl)
set_option maxRecDepth 20000 in
theorem dL_law_1974 : decode cL_law 1974 = .ok (.pop, 1) := dc_87 (lxL_law 123 6 rfl)
set_option maxRecDepth 20000 in
theorem dL_law_1975 : decode cL_law 1975 = .ok (.goto 29, 3) := dc_167 0 29 (lxL_law 123 7 rfl) (lxL_law 123 8 rfl) (lxL_law 123 9 rfl)
set_option maxRecDepth 20000 in
theorem dL_law_1978 : decode cL_law 1978 = .ok (.aload_n 1, 1) := dc_43 (lxL_law 123 10 rfl)
set_option maxRecDepth 20000 in
theorem dL_law_1979 : decode cL_law 1979 = .ok (.invokevirtual 326, 3) := dc_182 1 70 (lxL_law 123 11 rfl) (lxL_law 123 12 rfl) (lxL_law 123 13 rfl)
set_option maxRecDepth 20000 in
theorem dL_law_1982 : decode cL_law 1982 = .ok (.pop, 1) := dc_87 (lxL_law 123 14 rfl)
set_option maxRecDepth 20000 in
theorem dL_law_1983 : decode cL_law 1983 = .ok (.aload_n 2, 1) := dc_44 (lxL_law 123 15 rfl)
set_option maxRecDepth 20000 in
theorem dL_law_1984 : decode cL_law 1984 = .ok (.invokevirtual 330, 3) := dc_182 1 74 (lxL_law 124 0 rfl) (lxL_law 124 1 rfl) (lxL_law 124 2 rfl)
set_option maxRecDepth 20000 in
theorem dL_law_1987 : decode cL_law 1987 = .ok (.pop, 1) := dc_87 (lxL_law 124 3 rfl)
set_option maxRecDepth 20000 in
theorem dL_law_1988 : decode cL_law 1988 = .ok (.goto 16, 3) := dc_167 0 16 (lxL_law 124 4 rfl) (lxL_law 124 5 rfl) (lxL_law 124 6 rfl)
set_option maxRecDepth 20000 in
theorem dL_law_1991 : decode cL_law 1991 = .ok (.aload_n 1, 1) := dc_43 (lxL_law 124 7 rfl)
set_option maxRecDepth 20000 in
theorem dL_law_1992 : decode cL_law 1992 = .ok (.invokevirtual 331, 3) := dc_182 1 75 (lxL_law 124 8 rfl) (lxL_law 124 9 rfl) (lxL_law 124 10 rfl)
set_option maxRecDepth 20000 in
theorem dL_law_1995 : decode cL_law 1995 = .ok (.pop2, 1) := dc_88 (lxL_law 124 11 rfl)
set_option maxRecDepth 20000 in
theorem dL_law_1996 : decode cL_law 1996 = .ok (.aload_n 2, 1) := dc_44 (lxL_law 124 12 rfl)
set_option maxRecDepth 20000 in
theorem dL_law_1997 : decode cL_law 1997 = .ok (.invokevirtual 335, 3) := dc_182 1 79 (lxL_law 124 13 rfl) (lxL_law 124 14 rfl) (lxL_law 124 15 rfl)
set_option maxRecDepth 20000 in
theorem dL_law_2000 : decode cL_law 2000 = .ok (.pop2, 1) := dc_88 (lxL_law 125 0 rfl)
set_option maxRecDepth 20000 in
theorem dL_law_2001 : decode cL_law 2001 = .ok (.goto 3, 3) := dc_167 0 3 (lxL_law 125 1 rfl) (lxL_law 125 2 rfl) (lxL_law 125 3 rfl)
set_option maxRecDepth 20000 in
theorem dL_law_2004 : decode cL_law 2004 = .ok (.iinc 4 7, 3) := dc_132 4 7 (lxL_law 125 4 rfl) (lxL_law 125 5 rfl) (lxL_law 125 6 rfl)
set_option maxRecDepth 20000 in
theorem dL_law_2007 : decode cL_law 2007 = .ok (.goto (-1980), 3) := dc_167 248 68 (lxL_law 125 7 rfl) (lxL_law 125 8 rfl) (lxL_law 125 9 rfl)
set_option maxRecDepth 20000 in
theorem dL_law_2010 : decode cL_law 2010 = .ok (.iconst 1, 1) := dc_4 (lxL_law 125 10 rfl)
set_option maxRecDepth 20000 in
theorem dL_law_2011 : decode cL_law 2011 = .ok (.ireturn, 1) := dc_172 (lxL_law 125 11 rfl)
